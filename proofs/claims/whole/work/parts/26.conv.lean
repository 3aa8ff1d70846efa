/-- f below k, g behind -/
def cmb (f g : Nat → Int) (k : Nat) : Nat → Int := fun j => if j < k then f j else g (j - k)
theorem cmb_lo (f g : Nat → Int) {k j : Nat} (h : j < k) : cmb f g k j = f j := if_pos h
theorem cmb_hi (f g : Nat → Int) (k j : Nat) : cmb f g k (k + j) = g j := by
  unfold cmb
  rw [if_neg (by omega), Nat.add_sub_cancel_left]
theorem cmb_P {f g : Nat → Int} {P : Int → Prop} (k : Nat) (hf : ∀ j, P (f j)) (hg : ∀ j, P (g j)) (j : Nat) : P (cmb f g k j) := by
  unfold cmb
  split
  · exact hf j
  · exact hg _
theorem cmb_uh (f g : Nat → Int) (k j : Nat) (v : Int) : iu (cmb f g k) (k + j) v = cmb f (iu g j v) k := by
  funext t
  by_cases e : t = k + j
  · subst e
    rw [iu_s, cmb_hi, iu_s]
  · rw [iu_n _ _ e]
    unfold cmb
    by_cases q : t < k
    · rw [if_pos q, if_pos q]
    · rw [if_neg q, if_neg q, iu_n _ _ (by omega)]
theorem cmb_ul (f g : Nat → Int) {k j : Nat} (h : j < k) (v : Int) : iu (cmb f g k) j v = cmb (iu f j v) g k := by
  funext t
  by_cases e : t = j
  · subst e
    rw [iu_s, cmb_lo _ _ h, iu_s]
  · rw [iu_n _ _ e]
    unfold cmb
    by_cases q : t < k
    · rw [if_pos q, if_pos q, iu_n _ _ e]
    · rw [if_neg q, if_neg q]
theorem edr_eq2 {wt : Nat → Int} {a : Int} {v v' pr pr' : Nat → Int} {m : Nat} (hv : ∀ j, j < m → v j = v' j) (h : ∀ j, j ≤ m → pr j = pr' j) : ∀ j, j ≤ m → edr wt a v pr j = edr wt a v' pr' j
  | 0, _ => by rw [edr, edr, h 0 (by omega)]
  | j + 1, hj => by rw [edr, edr, h j (by omega), h (j + 1) hj, edr_eq2 hv h j (by omega), hv j (by omega)]
theorem ed_eq2 {wt x x' v v' : Nat → Int} {n m : Nat} (hx : ∀ j, j < n → x j = x' j) (hv : ∀ j, j < m → v j = v' j) : ∀ i, i ≤ n → ∀ j, j ≤ m → ed wt x v i j = ed wt x' v' i j
  | 0, _, j, _ => rfl
  | i + 1, hi, j, hj => by
    show edr wt (x i) v (ed wt x v i) j = edr wt (x' i) v' (ed wt x' v' i) j
    rw [hx i (by omega)]
    exact edr_eq2 hv (fun t ht => ed_eq2 hx hv i (by omega) t ht) j hj
theorem cnt_eq2 {x x' : Nat → Int} : ∀ {n : Nat}, (∀ j, j < n → x j = x' j) → ∀ c, cnt x n c = cnt x' n c
  | 0, _, _ => rfl
  | n + 1, h, c => by rw [cnt, cnt, cnt_eq2 (fun j hj => h j (by omega)) c, h n (by omega)]
theorem lb_eq2 {wt x x' v v' : Nat → Int} {n m : Nat} (hx : ∀ j, j < n → x j = x' j) (hv : ∀ j, j < m → v j = v' j) : lb wt x n v m = lb wt x' n v' m := by
  have e1 := cnt_eq2 hx
  have e2 := cnt_eq2 hv
  unfold lb bey
  simp only [e1, e2]
theorem pkw_lt {la lt lt' wt cs : Nat → Int} (h : ∀ j, j < 3 → lt j = lt' j) (al : Int) : ∀ n, pkw la lt wt cs al n = pkw la lt' wt cs al n
  | 0 => rfl
  | n + 1 => by
    rw [pkw, pkw, pkw_lt h al n]
    have d0 := dgt_rg n 0
    have d1 := dgt_rg n 1
    have d2 := dgt_rg n 2
    have e : ∀ (w : Nat) (d : Int), -1 ≤ d ∧ d ≤ 2 → (may la lt w d ↔ may la lt' w d) := fun w d hd => by
      unfold may
      by_cases q : d < 0
      · simp [q]
      · rw [h d.toNat (by omega)]
    have e3 : okp la lt (dgt n 0) (dgt n 1) (dgt n 2) ↔ okp la lt' (dgt n 0) (dgt n 1) (dgt n 2) := by
      unfold okp
      rw [e 0 _ d0, e 1 _ d1, e 2 _ d2]
    by_cases q : okp la lt (dgt n 0) (dgt n 1) (dgt n 2)
    · by_cases r : (pkw la lt' wt cs al n).1 < 0 ∨ top wt cs al (dgt n 0) (dgt n 1) (dgt n 2) < (pkw la lt' wt cs al n).1
      · rw [if_pos ⟨q, r⟩, if_pos ⟨e3.mp q, r⟩]
      · rw [if_neg (fun z => r z.2), if_neg (fun z => r z.2)]
    · rw [if_neg (fun z => q z.1), if_neg (fun z => q (e3.mpr z.1))]
theorem shf_cmb (f g : Nat → Int) (k : Nat) : shf (cmb f g k) k = g := by
  funext j
  exact cmb_hi f g k j
theorem shf_e {lt la : Nat → Int} {en : Nat} (he : en < 40) : ∀ j, j < 3 → shf (cmb lt la 120) (3 * en) j = shf lt (en * 3) j := fun j hj => by
  show cmb lt la 120 (3 * en + j) = lt (en * 3 + j)
  rw [cmb_lo _ _ (by omega), show 3 * en + j = en * 3 + j by omega]
theorem nw_e {lt la : Nat → Int} {en : Nat} (he : en < 40) : nw (shf (cmb lt la 120) (3 * en)) = nw (shf lt (en * 3)) := by
  unfold nw
  rw [shf_e he 0 (by omega), shf_e he 1 (by omega), shf_e he 2 (by omega)]
theorem cmc_e {wt ga la gb lt : Nat → Int} {en : Nat} (he : en < 40) (hla : ∀ k, 0 ≤ la k ∧ la k ≤ 10) (hlt : ∀ k, 0 ≤ lt k ∧ lt k ≤ 10) : cmc wt (cmb lt la 120) (cmb gb ga 1200) en = csc wt ga la gb lt en := by
  funext j
  unfold cmc csc
  have a1 := hlt (en * 3 + j % 3)
  rw [cmb_hi, cmb_lo _ _ (show 3 * en + j % 3 < 120 by omega), show 3 * en + j % 3 = en * 3 + j % 3 by omega]
  refine ed_eq2 (fun t _ => ?_) (fun t ht => ?_) _ (Nat.le_refl _) _ (Nat.le_refl _)
  · show cmb gb ga 1200 (10 * (120 + j / 3) + t) = ga (j / 3 * 10 + t)
    rw [show 10 * (120 + j / 3) + t = 1200 + (j / 3 * 10 + t) by omega, cmb_hi]
  · show cmb gb ga 1200 (10 * (en * 3 + j % 3) + t) = gb ((en * 3 + j % 3) * 10 + t)
    rw [cmb_lo _ _ (by omega), show 10 * (en * 3 + j % 3) + t = (en * 3 + j % 3) * 10 + t by omega]
theorem cmn_e {wt ga la gb lt : Nat → Int} {en : Nat} (he : en < 40) (hla : ∀ k, 0 ≤ la k ∧ la k ≤ 10) (hlt : ∀ k, 0 ≤ lt k ∧ lt k ≤ 10) : cmn wt (cmb lt la 120) (cmb gb ga 1200) en = csn wt ga la gb lt en := by
  funext j
  unfold cmn csn
  have a1 := hlt (en * 3 + j % 3)
  rw [cmb_hi, cmb_lo _ _ (show 3 * en + j % 3 < 120 by omega), show 3 * en + j % 3 = en * 3 + j % 3 by omega]
  refine lb_eq2 (fun t _ => ?_) (fun t ht => ?_)
  · show cmb gb ga 1200 (10 * (120 + j / 3) + t) = ga (j / 3 * 10 + t)
    rw [show 10 * (120 + j / 3) + t = 1200 + (j / 3 * 10 + t) by omega, cmb_hi]
  · show cmb gb ga 1200 (10 * (en * 3 + j % 3) + t) = gb ((en * 3 + j % 3) * 10 + t)
    rw [cmb_lo _ _ (by omega), show 10 * (en * 3 + j % 3) + t = (en * 3 + j % 3) * 10 + t by omega]
theorem pk_ce {wt ga la gb lt : Nat → Int} {en : Nat} (he : en < 40) (hla : ∀ k, 0 ≤ la k ∧ la k ≤ 10) (hlt : ∀ k, 0 ≤ lt k ∧ lt k ≤ 10) : pkw (shf (cmb lt la 120) 120) (shf (cmb lt la 120) (3 * en)) wt (cmc wt (cmb lt la 120) (cmb gb ga 1200) en) (nw (shf (cmb lt la 120) 120) + nw (shf (cmb lt la 120) (3 * en))) 64 = pkw la (shf lt (en * 3)) wt (csc wt ga la gb lt en) (nw la + nw (shf lt (en * 3))) 64 := by
  rw [shf_cmb, nw_e he, cmc_e he hla hlt, pkw_lt (shf_e he)]
theorem pk_ne {wt ga la gb lt : Nat → Int} {en : Nat} (he : en < 40) (hla : ∀ k, 0 ≤ la k ∧ la k ≤ 10) (hlt : ∀ k, 0 ≤ lt k ∧ lt k ≤ 10) : pkw (shf (cmb lt la 120) 120) (shf (cmb lt la 120) (3 * en)) wt (cmn wt (cmb lt la 120) (cmb gb ga 1200) en) (nw (shf (cmb lt la 120) 120) + nw (shf (cmb lt la 120) (3 * en))) 64 = pkw la (shf lt (en * 3)) wt (csn wt ga la gb lt en) (nw la + nw (shf lt (en * 3))) 64 := by
  rw [shf_cmb, nw_e he, cmn_e he hla hlt, pkw_lt (shf_e he)]
