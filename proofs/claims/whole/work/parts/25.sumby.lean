theorem w_dge {p : Program} {l : Launch} {e : Env} {R : Room} {s : State} {m : MethodId} {args : Array Value} {below : List Frame} {meth : Method} {c : Code} {H : Heap} {locs : List Loc} {cells slots : Nat} {Q : State → Prop} {cc : ByteArray} {pc : Nat} {ls : Array Slot} {rest : List Value} {x : Int} {off off2 : Int} {tgt X : Nat} (hexec : p.tables.exec = Jvm.exec) (hb : c.code = cc) (h1 : decode cc pc = .ok (.ifCond .ge off, 3)) (ht : (pc : Int) + off = (tgt : Int)) (hr : rg x) (h2 : decode cc (pc + 3) = .ok (.iconst 0, 1)) (h3 : decode cc (pc + 4) = .ok (.goto off2, 3)) (hX : ((pc + 4 : Nat) : Int) + off2 = (X : Int)) (h4 : decode cc tgt = .ok (.iconst 1, 1)) (h5 : tgt + 1 = X)
    (k : W p l e R s m args below meth c H locs cells slots Q (F0 m X ls (.int (J (one x)) :: rest))) : W p l e R s m args below meth c H locs cells slots Q (F0 m pc ls (.int (J x) :: rest)) := by
  refine w_if_ge hexec hb h1 ht hr (fun h => ?_) (fun h => ?_)
  · refine lv_iconst (v := J 1) hexec hb h4 rfl ?_
    rw [one_p h] at k
    subst h5
    exact k
  · refine lv_iconst (v := J 0) hexec hb h2 rfl ?_
    refine lv_goto (tgt := X) hexec hb h3 hX ?_
    rw [one_n h] at k
    exact k
def cmc (wt ln gl : Nat → Int) (en : Nat) : Nat → Int := fun j => ed wt (fun t => gl (10 * (120 + j / 3) + t)) (fun t => gl (10 * (3 * en + j % 3) + t)) (ln (120 + j / 3)).toNat (ln (3 * en + j % 3)).toNat
def cmn (wt ln gl : Nat → Int) (en : Nat) : Nat → Int := fun j => lb wt (fun t => gl (10 * (120 + j / 3) + t)) (ln (120 + j / 3)).toNat (fun t => gl (10 * (3 * en + j % 3) + t)) (ln (3 * en + j % 3)).toNat
theorem cmc_rg {wt ln gl : Nat → Int} (hw : ∀ k, 0 ≤ wt k ∧ wt k ≤ 1000) (hln : ∀ k, 0 ≤ ln k ∧ ln k ≤ 10) (en j : Nat) : 0 ≤ cmc wt ln gl en j ∧ cmc wt ln gl en j ≤ 20000 := by
  have h1 := ed_rg hw (fun t => gl (10 * (120 + j / 3) + t)) (fun t => gl (10 * (3 * en + j % 3) + t)) (ln (120 + j / 3)).toNat (ln (3 * en + j % 3)).toNat
  have h2 := hln (120 + j / 3)
  have h3 := hln (3 * en + j % 3)
  unfold cmc
  omega
theorem cmn_rg {wt ln gl : Nat → Int} (hw : ∀ k, 0 ≤ wt k ∧ wt k ≤ 1000) (hln : ∀ k, 0 ≤ ln k ∧ ln k ≤ 10) (hgl : ∀ k, 0 ≤ gl k ∧ gl k < 26) (en j : Nat) : 0 ≤ cmn wt ln gl en j ∧ cmn wt ln gl en j ≤ 20000 := by
  have h2 := hln (120 + j / 3)
  have h3 := hln (3 * en + j % 3)
  have w0 := hw 0
  have w1 := hw 1
  have w2 := hw 2
  have w3 := hw 3
  have m1 := bey_m (x := fun t => gl (10 * (120 + j / 3) + t)) (v := fun t => gl (10 * (3 * en + j % 3) + t)) (n := (ln (120 + j / 3)).toNat) (k := (ln (3 * en + j % 3)).toNat) (fun t => hgl _) (by omega) (z := min (wt 1) (min (wt 2) (wt 3))) (by omega)
  have m2 := bey_m (x := fun t => gl (10 * (3 * en + j % 3) + t)) (v := fun t => gl (10 * (120 + j / 3) + t)) (n := (ln (3 * en + j % 3)).toNat) (k := (ln (120 + j / 3)).toNat) (fun t => hgl _) (by omega) (z := min (wt 0) (min (wt 2) (wt 3))) (by omega)
  unfold cmn lb
  omega
/-- the reference's costs: 0 where one of the two words is none -/
def cmf (la lt cs cm : Nat → Int) (n : Nat) : Prop := ∀ j, j < n → cm j = if 0 < la (j / 3) ∧ 0 < lt (j % 3) then cs j else 0
theorem cmf_s {la lt cs cm : Nat → Int} {n : Nat} (h : cmf la lt cs cm n) {z : Int} (hz : z = if 0 < la (n / 3) ∧ 0 < lt (n % 3) then cs n else 0) : cmf la lt cs (iu cm n z) (n + 1) := by
  intro j hj
  by_cases e : j = n
  · subst e
    rw [iu_s, hz]
  · rw [iu_n _ _ e]
    exact h j (by omega)
theorem csv_cm {la lt cs cm : Nat → Int} (h : cmf la lt cs cm 9) {w : Nat} (hw : w < 3) {x : Int} (hx : -1 ≤ x ∧ x ≤ 2) (hm : may la lt w x) : csv cm w x = csv cs w x := by
  by_cases e : x < 0
  · rw [csv_n e, csv_n e]
  · rw [csv_p (by omega), csv_p (by omega), h _ (by omega), show (3 * w + x.toNat) / 3 = w by omega, show (3 * w + x.toNat) % 3 = x.toNat by omega, if_pos (hm.resolve_left e)]
theorem top_cm {la lt cs cm : Nat → Int} (h : cmf la lt cs cm 9) (wt : Nat → Int) (al : Int) {x y z : Int} (hx : -1 ≤ x ∧ x ≤ 2) (hy : -1 ≤ y ∧ y ≤ 2) (hz : -1 ≤ z ∧ z ≤ 2) (hm : okp la lt x y z) : top wt cm al x y z = top wt cs al x y z := by
  unfold top
  rw [csv_cm h (by omega) hx hm.2.1, csv_cm h (by omega) hy hm.2.2.1, csv_cm h (by omega) hz hm.2.2.2]
theorem pkw_cm {la lt cs cm : Nat → Int} (h : cmf la lt cs cm 9) (wt : Nat → Int) (al : Int) : ∀ n, pkw la lt wt cm al n = pkw la lt wt cs al n
  | 0 => rfl
  | n + 1 => by
    rw [pkw, pkw, pkw_cm h wt al n]
    by_cases q : okp la lt (dgt n 0) (dgt n 1) (dgt n 2)
    · rw [top_cm h wt al (dgt_rg n 0) (dgt_rg n 1) (dgt_rg n 2) q]
    · rw [if_neg (fun z => q z.1), if_neg (fun z => q z.1)]
theorem dg0 {i : Nat} (h : i < 64) : ((i / 16 : Nat) : Int) - 1 = dgt i 0 := by
  show ((i / 16 : Nat) : Int) - 1 = ((i / 16 % 4 : Nat) : Int) - 1
  omega
theorem dg1 (i : Nat) : ((i / 4 % 4 : Nat) : Int) - 1 = dgt i 1 := rfl
theorem dg2 (i : Nat) : ((i % 4 : Nat) : Int) - 1 = dgt i 2 := by
  show ((i % 4 : Nat) : Int) - 1 = ((i / 1 % 4 : Nat) : Int) - 1
  omega
theorem pkb {la lt wt cs : Nat → Int} (hw : ∀ k, 0 ≤ wt k ∧ wt k ≤ 1000) (hc : ∀ j, 0 ≤ cs j ∧ cs j ≤ 20000) (i : Nat) {b : Int} (hb : b = (pkw la lt wt cs (nw la + nw lt) i).1) : -1 ≤ b ∧ b ≤ 69000 ∧ (0 < i → 0 ≤ b) := by
  cases i with
  | zero =>
    have : b = -1 := hb
    omega
  | succ k =>
    have := pkw_rg (la := la) (lt := lt) hw hc k
    rw [← hb] at this
    omega
def sbi (la lt wt xm : Nat → Int) (i : Nat) (b : Int) (xw : Nat → Int) : Prop := b = (pkw la lt wt xm (nw la + nw lt) i).1 ∧ ∀ w, w < 3 → 0 < i → xw w = dgt (pkw la lt wt xm (nw la + nw lt) i).2 w
theorem wy3 (xw : Nat → Int) (i w : Nat) (h : w < 3) : iu (iu (iu xw 0 (dgt i 0)) 1 (dgt i 1)) 2 (dgt i 2) w = dgt i w := by
  match w, h with
  | 0, _ => rw [iu_n _ _ (by omega), iu_n _ _ (by omega), iu_s]
  | 1, _ => rw [iu_n _ _ (by omega), iu_s]
  | 2, _ => rw [iu_s]
  | w + 3, h => exact absurd h (by omega)
theorem sbi_0 (la lt wt xm xw : Nat → Int) : sbi la lt wt xm 0 (-1) xw := ⟨rfl, fun w _ h => absurd h (Nat.lt_irrefl 0)⟩
theorem sbi_take {la lt wt xm : Nat → Int} {i : Nat} {b : Int} {xw : Nat → Int} (h : sbi la lt wt xm i b xw) (hok : okp la lt (dgt i 0) (dgt i 1) (dgt i 2)) (hl : b < 0 ∨ top wt xm (nw la + nw lt) (dgt i 0) (dgt i 1) (dgt i 2) < b) : sbi la lt wt xm (i + 1) (top wt xm (nw la + nw lt) (dgt i 0) (dgt i 1) (dgt i 2)) (iu (iu (iu xw 0 (dgt i 0)) 1 (dgt i 1)) 2 (dgt i 2)) := by
  have e : pkw la lt wt xm (nw la + nw lt) (i + 1) = (top wt xm (nw la + nw lt) (dgt i 0) (dgt i 1) (dgt i 2), i) := by
    rw [pkw, if_pos ⟨hok, by rw [← h.1]; exact hl⟩]
  unfold sbi
  rw [e]
  exact ⟨rfl, fun w hw _ => wy3 xw i w hw⟩
theorem sbi_keep {la lt wt xm : Nat → Int} {i : Nat} {b : Int} {xw : Nat → Int} (h : sbi la lt wt xm i b xw) (hp : 0 < i) (hn : ¬ (okp la lt (dgt i 0) (dgt i 1) (dgt i 2) ∧ (b < 0 ∨ top wt xm (nw la + nw lt) (dgt i 0) (dgt i 1) (dgt i 2) < b))) : sbi la lt wt xm (i + 1) b xw := by
  have e : pkw la lt wt xm (nw la + nw lt) (i + 1) = pkw la lt wt xm (nw la + nw lt) i := by
    rw [pkw, if_neg (fun z => hn ⟨z.1, by rw [h.1]; exact z.2⟩)]
  unfold sbi
  rw [e]
  exact ⟨h.1, fun w hw _ => h.2 w hw hp⟩
theorem sbi_no {la lt wt xm : Nat → Int} {i : Nat} {b : Int} {xw : Nat → Int} (h : sbi la lt wt xm i b xw) (hn : ¬ okp la lt (dgt i 0) (dgt i 1) (dgt i 2)) : sbi la lt wt xm (i + 1) b xw :=
  sbi_keep h (Nat.pos_of_ne_zero (fun e => hn (by subst e; exact ok0 la lt))) (fun z => hn z.1)
theorem sbi_ge {la lt wt xm : Nat → Int} {i : Nat} {b : Int} {xw : Nat → Int} (h : sbi la lt wt xm i b xw) (hn : 0 ≤ b ∧ b ≤ top wt xm (nw la + nw lt) (dgt i 0) (dgt i 1) (dgt i 2)) : sbi la lt wt xm (i + 1) b xw :=
  sbi_keep h (Nat.pos_of_ne_zero (fun e => by subst e; have : b = -1 := h.1; omega)) (fun z => by have := z.2; omega)
theorem sbi_rg {la lt wt xm : Nat → Int} {i : Nat} {b : Int} {xw : Nat → Int} (hw : ∀ k, 0 ≤ wt k ∧ wt k ≤ 1000) (hc : ∀ j, 0 ≤ xm j ∧ xm j ≤ 20000) (h : sbi la lt wt xm i b xw) : -1 ≤ b ∧ b ≤ 69000 := by
  have := pkb hw hc i h.1
  omega
theorem sbi_e {la lt wt xm cs : Nat → Int} {b : Int} {xw : Nat → Int} (h : sbi la lt wt xm 64 b xw) (hm : cmf la lt cs xm 9) : b = (pkw la lt wt cs (nw la + nw lt) 64).1 ∧ ∀ w, w < 3 → xw w = dgt (pkw la lt wt cs (nw la + nw lt) 64).2 w := by
  rw [← pkw_cm hm]
  exact ⟨h.1, fun w hw => h.2 w hw (by decide)⟩
set_option maxHeartbeats 4000000 in
set_option maxRecDepth 100000 in
theorem c_Mo_sumBy_c (l : Launch) (D : va_G) (cI cZ cJ : ClassId) (sz : Nat) (o : Nat) (p1 : Nat) (p2 : Nat) (p3 : Nat) (p4 : Nat) (p5 : Nat) (p6 : Nat) (p7 : Nat) (p8 : Nat) (p9 : Nat) (pA : Nat) (pB : Nat) (pC : Nat) (th : Int) (n : Nat) (ap : Int) (fn : Nat) (wk : Int) (ln : Nat → Int) (gl : Nat → Int) (wt : Nat → Int) (sp : Nat → Int) (cm : Nat → Int) (wy : Nat → Int) (en : Nat) (hw : ∀ k, 0 ≤ wt k ∧ wt k ≤ 1000) (hln : ∀ k, 0 ≤ ln k ∧ ln k ≤ 10) (hgl : ∀ k, 0 ≤ gl k ∧ gl k < 26) (hcm : ∀ j, 0 ≤ cm j ∧ cm j ≤ 20000) (hen : en < 40) : Mi l y_Mo_sumBy w_Mo_sumBy ({ frames := 3, cells := 0, slots := 0, locals := 68 }) false D classes [(cI, .int), (cZ, .boolean), (cJ, .long)] sz [.ref o, .int (J ((en : Nat) : Int)), .int (J 0)] [(o, .inr (8, [.int (J th), .int (J ((n : Nat) : Int)), .ref p1, .ref p2, .ref p3, .ref p4, .ref p5, .ref p6, .int (J ap), .ref p7, .int (J ((fn : Nat) : Int)), .ref p8, .ref p9, .int (J wk), .ref pA, .ref pB, .ref pC])), (p5, ca cI 123 ln), (p6, ca cI 1230 gl), (p7, ca cI 6 wt), (pA, ca cI 121 sp), (pB, ca cI 9 cm), (pC, ca cI 3 wy)] ((pkw (shf ln 120) (shf ln (3 * en)) wt (cmc wt ln gl en) (nw (shf ln 120) + nw (shf ln (3 * en))) 64).1) (S := (Nat → Int) × (Nat → Int) × (Nat → Int)) (fun f => (∀ j, 0 ≤ f.1 j ∧ f.1 j ≤ 20000) ∧ ∀ w, w < 3 → f.2.1 w = dgt (pkw (shf ln 120) (shf ln (3 * en)) wt (cmc wt ln gl en) (nw (shf ln 120) + nw (shf ln (3 * en))) 64).2 w) (fun u : (Nat → Int) × (Nat → Int) × (Nat → Int) => [(o, .inr (8, [.int (J th), .int (J ((n : Nat) : Int)), .ref p1, .ref p2, .ref p3, .ref p4, .ref p5, .ref p6, .int (J ap), .ref p7, .int (J ((fn : Nat) : Int)), .ref p8, .ref p9, .int (J wk), .ref pA, .ref pB, .ref pC])), (p5, ca cI 123 ln), (p6, ca cI 1230 gl), (p7, ca cI 6 wt), (pA, ca cI 121 (u.2.2)), (pB, ca cI 9 (u.1)), (pC, ca cI 3 (u.2.1))]) 0 0 := by
  refine Mi_of (cc := b_Mo_sumBy) (maxL := 12) (by decide) rfl (Nat.le_of_ble_eq_true rfl) ?_
  intro p e s m args below meth c hx hb hr hml hts hown hlocks A hA hP hK hD hT hS Q hQ H hH ls hl
  subst hH
  have hl : lv_has ls 12 [(0, .ref o), (1, .int (J ((en : Nat) : Int))), (2, .int (J 0))] := hl
  refine lv_iconst (v := J (0)) hx hb d_Mo_sumBy_0 rfl ?_
  refine lv_istore_n (lv' := [(3, .int (J 0)), (0, .ref o), (1, .int (J ((en : Nat) : Int))), (2, .int (J 0))]) hx hb d_Mo_sumBy_1 rfl hl (by decide) rfl (fun ls hl => ?_)
  have lp_2 : ∀ (fu : Nat) (i : Nat) (xm : Nat → Int) (xp : Nat → Int), (i ≤ 9) → (cmf (shf ln 120) (shf ln (3 * en)) (cmc wt ln gl en) xm i) → (∀ j, 0 ≤ xm j ∧ xm j ≤ 20000) → (9 - i) < fu → ∀ (H : Heap) (locs : List Loc), va_P D classes [(o, .inr (8, [.int (J th), .int (J ((n : Nat) : Int)), .ref p1, .ref p2, .ref p3, .ref p4, .ref p5, .ref p6, .int (J ap), .ref p7, .int (J ((fn : Nat) : Int)), .ref p8, .ref p9, .int (J wk), .ref pA, .ref pB, .ref pC])), (p5, ca cI 123 ln), (p6, ca cI 1230 gl), (p7, ca cI 6 wt), (pA, ca cI 121 xp), (pB, ca cI 9 xm), (pC, ca cI 3 wy)] H → va_D A [(o, .inr (8, [.int (J th), .int (J ((n : Nat) : Int)), .ref p1, .ref p2, .ref p3, .ref p4, .ref p5, .ref p6, .int (J ap), .ref p7, .int (J ((fn : Nat) : Int)), .ref p8, .ref p9, .int (J wk), .ref pA, .ref pB, .ref pC])), (p5, ca cI 123 ln), (p6, ca cI 1230 gl), (p7, ca cI 6 wt), (pA, ca cI 121 xp), (pB, ca cI 9 xm), (pC, ca cI 3 wy)] → va_S A s.heap H locs → ∀ ls : Array Slot, lv_has ls 12 [(0, .ref o), (1, .int (J ((en : Nat) : Int))), (2, .int (J 0)), (3, .int (J ((i : Nat) : Int)))] → W p l e ({ frames := 3, cells := 0, slots := 0, locals := 68 }) s m args below meth c H locs 0 0 Q (F0 m 2 ls []) := by
    intro fu
    induction fu with
    | zero => intro i xm xp hi hm hmb hfu; exact absurd hfu (Nat.not_lt_zero _)
    | succ fu ih_2 =>
      intro i xm xp hi hm hmb hfu H locs hP hD hS ls hl
      have f1 := hln (120 + i / 3)
      have f2 := hln (3 * en + i % 3)
      refine lv_iload_n hx hb d_Mo_sumBy_2 rfl (lv_at hl 3 rfl) ?_
      refine lv_bipush (v := J (9)) hx hb d_Mo_sumBy_3 (by decide) ?_
      refine w_icmp_ge (tgt := 106) hx hb d_Mo_sumBy_5 (by decide) (by omega) (by omega) (fun c_5 => ?_) (fun c_5 => ?_)
      · obtain rfl : i = 9 := by omega
        refine lv_aload_n hx hb d_Mo_sumBy_106 rfl (lv_at hl 0 rfl) ?_
        refine lv_bipush (v := J (120)) hx hb d_Mo_sumBy_107 (by decide) ?_
        refine Ri_call (va_runV (As := [.int (J 120)]) (rest := []) ⟨hx, hb, hml, hown, hts⟩ (c_Mo_words l D cI cZ cJ o p1 p2 p3 p4 p5 p6 p7 p8 p9 pA pB pC th n ap fn wk ln 120 (by first | with_reducible assumption | omega) (by first | with_reducible assumption | omega)) (cwV 1 hts (g_V mw_646 mw_648 mw_13 mw_33 mw_649) rfl rfl rfl (by decide +kernel) ⟨Nat.le_of_ble_eq_true rfl, Nat.le_of_ble_eq_true rfl⟩) (pre_RV hP hK [0, 1] rfl 8 0 rfl rfl) rfl rfl hl.1 rfl (lv_room (Nat.le_of_ble_eq_true rfl)) d_Mo_sumBy_109 ⟨Nat.le_of_ble_eq_true rfl, Nat.le_of_ble_eq_true rfl⟩) ?_
        refine lv_aload_n hx hb d_Mo_sumBy_112 rfl (lv_at hl 0 rfl) ?_
        refine lv_iconst (v := J (3)) hx hb d_Mo_sumBy_113 rfl ?_
        refine lv_iload_n hx hb d_Mo_sumBy_114 rfl (lv_at hl 1 rfl) ?_
        refine w_imul hx hb d_Mo_sumBy_115 ((3 * en : Nat) : Int) (by omega) ?_
        refine Ri_call (va_runV (As := [.int (J ((3 * en : Nat) : Int))]) (rest := [.int (J (nw (shf ln 120)))]) ⟨hx, hb, hml, hown, hts⟩ (c_Mo_words l D cI cZ cJ o p1 p2 p3 p4 p5 p6 p7 p8 p9 pA pB pC th n ap fn wk ln (3 * en) (by first | with_reducible assumption | omega) (by first | with_reducible assumption | omega)) (cwV 1 hts (g_V mw_646 mw_648 mw_13 mw_33 mw_649) rfl rfl rfl (by decide +kernel) ⟨Nat.le_of_ble_eq_true rfl, Nat.le_of_ble_eq_true rfl⟩) (pre_RV hP hK [0, 1] rfl 8 0 rfl rfl) rfl rfl hl.1 rfl (lv_room (Nat.le_of_ble_eq_true rfl)) d_Mo_sumBy_116 ⟨Nat.le_of_ble_eq_true rfl, Nat.le_of_ble_eq_true rfl⟩) ?_
        refine w_iadd hx hb d_Mo_sumBy_119 (nw (shf ln 120) + nw (shf ln (3 * en))) (rfl) ?_
        refine lv_istore_n (lv' := [(3, .int (J (nw (shf ln 120) + nw (shf ln (3 * en))))), (0, .ref o), (1, .int (J ((en : Nat) : Int))), (2, .int (J 0))]) hx hb d_Mo_sumBy_120 rfl hl (by decide) rfl (fun ls hl => ?_)
        refine lv_iconst (v := J (-1)) hx hb d_Mo_sumBy_121 rfl ?_
        refine lv_istore (lv' := [(4, .int (J (-1))), (3, .int (J (nw (shf ln 120) + nw (shf ln (3 * en))))), (0, .ref o), (1, .int (J ((en : Nat) : Int))), (2, .int (J 0))]) hx hb d_Mo_sumBy_122 hl (by decide) rfl (fun ls hl => ?_)
        refine lv_iconst (v := J (0)) hx hb d_Mo_sumBy_124 rfl ?_
        refine lv_istore (lv' := [(5, .int (J 0)), (4, .int (J (-1))), (3, .int (J (nw (shf ln 120) + nw (shf ln (3 * en))))), (0, .ref o), (1, .int (J ((en : Nat) : Int))), (2, .int (J 0))]) hx hb d_Mo_sumBy_125 hl (by decide) rfl (fun ls hl => ?_)
        have lp_127 : ∀ (fu : Nat) (i : Nat) (b : Int) (xw : Nat → Int), (i ≤ 64) → (sbi (shf ln 120) (shf ln (3 * en)) wt xm i b xw) → (64 - i) < fu → ∀ (H : Heap) (locs : List Loc), va_P D classes [(o, .inr (8, [.int (J th), .int (J ((n : Nat) : Int)), .ref p1, .ref p2, .ref p3, .ref p4, .ref p5, .ref p6, .int (J ap), .ref p7, .int (J ((fn : Nat) : Int)), .ref p8, .ref p9, .int (J wk), .ref pA, .ref pB, .ref pC])), (p5, ca cI 123 ln), (p6, ca cI 1230 gl), (p7, ca cI 6 wt), (pA, ca cI 121 xp), (pB, ca cI 9 xm), (pC, ca cI 3 xw)] H → va_D A [(o, .inr (8, [.int (J th), .int (J ((n : Nat) : Int)), .ref p1, .ref p2, .ref p3, .ref p4, .ref p5, .ref p6, .int (J ap), .ref p7, .int (J ((fn : Nat) : Int)), .ref p8, .ref p9, .int (J wk), .ref pA, .ref pB, .ref pC])), (p5, ca cI 123 ln), (p6, ca cI 1230 gl), (p7, ca cI 6 wt), (pA, ca cI 121 xp), (pB, ca cI 9 xm), (pC, ca cI 3 xw)] → va_S A s.heap H locs → ∀ ls : Array Slot, lv_has ls 12 [(0, .ref o), (1, .int (J ((en : Nat) : Int))), (2, .int (J 0)), (3, .int (J (nw (shf ln 120) + nw (shf ln (3 * en))))), (4, .int (J b)), (5, .int (J ((i : Nat) : Int)))] → W p l e ({ frames := 3, cells := 0, slots := 0, locals := 68 }) s m args below meth c H locs 0 0 Q (F0 m 127 ls []) := by
          intro fu
          induction fu with
          | zero => intro i b xw hi hsb hfu; exact absurd hfu (Nat.not_lt_zero _)
          | succ fu ih_127 =>
            intro i b xw hi hsb hfu H locs hP hD hS ls hl
            have d0 := dgt_rg i 0
            have d1 := dgt_rg i 1
            have d2 := dgt_rg i 2
            have br := sbi_rg hw hmb hsb
            refine lv_iload hx hb d_Mo_sumBy_127 (lv_at hl 5 rfl) ?_
            refine lv_bipush (v := J (64)) hx hb d_Mo_sumBy_129 (by decide) ?_
            refine w_icmp_ge (tgt := 387) hx hb d_Mo_sumBy_131 (by decide) (by omega) (by omega) (fun c_131 => ?_) (fun c_131 => ?_)
            · obtain rfl : i = 64 := by omega
              refine lv_iload hx hb d_Mo_sumBy_387 (lv_at hl 4 rfl) ?_
              exact Mi_ret hx hb hr hlocks hQ d_Mo_sumBy_389 hP hK hD hS nb_i ((sbi_e hsb hm).1) (xm, xw, xp) (⟨hmb, (sbi_e hsb hm).2⟩) [0, 1, 2, 3, 4, 5, 6] rfl (by decide)
            · refine lv_iload hx hb d_Mo_sumBy_134 (lv_at hl 5 rfl) ?_
              refine lv_bipush (v := J (16)) hx hb d_Mo_sumBy_136 (by decide) ?_
              refine w_idiv hx hb d_Mo_sumBy_138 (by omega) (by omega) (by omega) (by omega) ((i / 16 : Nat) : Int) (by omega) ?_
              refine lv_iconst (v := J (1)) hx hb d_Mo_sumBy_139 rfl ?_
              refine w_isub hx hb d_Mo_sumBy_140 (dgt i 0) (dg0 (by omega)) ?_
              refine lv_istore (lv' := [(6, .int (J (dgt i 0))), (0, .ref o), (1, .int (J ((en : Nat) : Int))), (2, .int (J 0)), (3, .int (J (nw (shf ln 120) + nw (shf ln (3 * en))))), (4, .int (J b)), (5, .int (J ((i : Nat) : Int)))]) hx hb d_Mo_sumBy_141 hl (by decide) rfl (fun ls hl => ?_)
              refine lv_iload hx hb d_Mo_sumBy_143 (lv_at hl 6 rfl) ?_
              refine lv_iconst (v := J (4)) hx hb d_Mo_sumBy_145 rfl ?_
              refine w_idiv hx hb d_Mo_sumBy_146 (by omega) (by omega) (by omega) (by omega) ((i / 4 : Nat) : Int) (by omega) ?_
              refine lv_iconst (v := J (4)) hx hb d_Mo_sumBy_147 rfl ?_
              refine w_irem hx hb d_Mo_sumBy_148 (by omega) (by omega) (by omega) (by omega) (((i / 4) % 4 : Nat) : Int) (by omega) ?_
              refine lv_iconst (v := J (1)) hx hb d_Mo_sumBy_149 rfl ?_
              refine w_isub hx hb d_Mo_sumBy_150 (dgt i 1) (dg1 i) ?_
              refine lv_istore (lv' := [(7, .int (J (dgt i 1))), (6, .int (J (dgt i 0))), (0, .ref o), (1, .int (J ((en : Nat) : Int))), (2, .int (J 0)), (3, .int (J (nw (shf ln 120) + nw (shf ln (3 * en))))), (4, .int (J b)), (5, .int (J ((i : Nat) : Int)))]) hx hb d_Mo_sumBy_151 hl (by decide) rfl (fun ls hl => ?_)
              refine lv_iload hx hb d_Mo_sumBy_153 (lv_at hl 7 rfl) ?_
              refine lv_iconst (v := J (4)) hx hb d_Mo_sumBy_155 rfl ?_
              refine w_irem hx hb d_Mo_sumBy_156 (by omega) (by omega) (by omega) (by omega) ((i % 4 : Nat) : Int) (by omega) ?_
              refine lv_iconst (v := J (1)) hx hb d_Mo_sumBy_157 rfl ?_
              refine w_isub hx hb d_Mo_sumBy_158 (dgt i 2) (dg2 i) ?_
              refine lv_istore (lv' := [(8, .int (J (dgt i 2))), (7, .int (J (dgt i 1))), (6, .int (J (dgt i 0))), (0, .ref o), (1, .int (J ((en : Nat) : Int))), (2, .int (J 0)), (3, .int (J (nw (shf ln 120) + nw (shf ln (3 * en))))), (4, .int (J b)), (5, .int (J ((i : Nat) : Int)))]) hx hb d_Mo_sumBy_159 hl (by decide) rfl (fun ls hl => ?_)
              have j_197 : ∀ ls : Array Slot, lv_has ls 12 [(0, .ref o), (1, .int (J ((en : Nat) : Int))), (2, .int (J 0)), (3, .int (J (nw (shf ln 120) + nw (shf ln (3 * en))))), (4, .int (J b)), (5, .int (J ((i : Nat) : Int))), (6, .int (J (dgt i 0))), (7, .int (J (dgt i 1))), (8, .int (J (dgt i 2)))] → W p l e ({ frames := 3, cells := 0, slots := 0, locals := 68 }) s m args below meth c H locs 0 0 Q (F0 m 197 ls [.int (J (b2 ((dgt i 0 < 0 ∨ (dgt i 0 ≠ dgt i 1 ∧ dgt i 0 ≠ dgt i 2)) ∧ (dgt i 1 < 0 ∨ dgt i 1 ≠ dgt i 2))))]) := by
                intro ls hl
                refine lv_istore (lv' := [(9, .int (J (b2 ((dgt i 0 < 0 ∨ (dgt i 0 ≠ dgt i 1 ∧ dgt i 0 ≠ dgt i 2)) ∧ (dgt i 1 < 0 ∨ dgt i 1 ≠ dgt i 2))))), (0, .ref o), (1, .int (J ((en : Nat) : Int))), (2, .int (J 0)), (3, .int (J (nw (shf ln 120) + nw (shf ln (3 * en))))), (4, .int (J b)), (5, .int (J ((i : Nat) : Int))), (6, .int (J (dgt i 0))), (7, .int (J (dgt i 1))), (8, .int (J (dgt i 2)))]) hx hb d_Mo_sumBy_197 hl (by decide) rfl (fun ls hl => ?_)
                refine lv_iload hx hb d_Mo_sumBy_199 (lv_at hl 0 rfl) ?_
                refine w_if_eq (tgt := 381) hx hb d_Mo_sumBy_201 (by decide) (rg_b2) (fun c_201 => ?_) (fun c_201 => ?_)
                · have c_201 := b2_0.mp c_201
                  refine w_iinc (k := 6) (lv' := [(5, .int (J ((i + 1 : Nat) : Int))), (9, .int (J (b2 ((dgt i 0 < 0 ∨ (dgt i 0 ≠ dgt i 1 ∧ dgt i 0 ≠ dgt i 2)) ∧ (dgt i 1 < 0 ∨ dgt i 1 ≠ dgt i 2))))), (0, .ref o), (1, .int (J ((en : Nat) : Int))), (2, .int (J 0)), (3, .int (J (nw (shf ln 120) + nw (shf ln (3 * en))))), (4, .int (J b)), (6, .int (J (dgt i 0))), (7, .int (J (dgt i 1))), (8, .int (J (dgt i 2)))]) hx hb d_Mo_sumBy_381 hl rfl ((i + 1 : Nat) : Int) (by omega) (by decide) rfl (fun ls hl => ?_)
                  refine lv_goto (tgt := 127) hx hb d_Mo_sumBy_384 (by decide) ?_
                  exact ih_127 (i + 1) b xw (by omega) (sbi_no hsb (fun z => c_201 z.1)) (by omega) _ _ (P_map hP [0, 1, 2, 3, 4, 5, 6] rfl) (hD.sub [0, 1, 2, 3, 4, 5, 6] (by decide) rfl) hS ls (lv_sub hl [2, 3, 4, 5, 6, 0] rfl)
                · have c_201 := b2_n0.mp c_201
                  refine lv_aload_n hx hb d_Mo_sumBy_204 rfl (lv_at hl 1 rfl) ?_
                  refine lv_iload_n hx hb d_Mo_sumBy_205 rfl (lv_at hl 2 rfl) ?_
                  refine lv_iconst (v := J (0)) hx hb d_Mo_sumBy_206 rfl ?_
                  refine lv_iload hx hb d_Mo_sumBy_207 (lv_at hl 7 rfl) ?_
                  refine Ri_call (va_runV (As := [.int (J ((en : Nat) : Int)), .int (J 0), .int (J (dgt i 0))]) (rest := []) ⟨hx, hb, hml, hown, hts⟩ (c_Mo_may l D cI cZ cJ o p1 p2 p3 p4 p5 p6 p7 p8 p9 pA pB pC th n ap fn wk ln en 0 (dgt i 0) (by first | with_reducible assumption | omega) (by first | with_reducible assumption | omega)) (cwV 3 hts (g_V mw_681 mw_683 mw_20 mw_33 mw_684) rfl rfl rfl (by decide +kernel) ⟨Nat.le_of_ble_eq_true rfl, Nat.le_of_ble_eq_true rfl⟩) (pre_RV hP hK [0, 1] rfl 8 0 rfl rfl) rfl rfl hl.1 rfl (lv_room (Nat.le_of_ble_eq_true rfl)) d_Mo_sumBy_209 ⟨Nat.le_of_ble_eq_true rfl, Nat.le_of_ble_eq_true rfl⟩) ?_
                  refine w_if_eq (tgt := 381) hx hb d_Mo_sumBy_212 (by decide) (rg_b2) (fun c_212 => ?_) (fun c_212 => ?_)
                  · have c_212 := b2_0.mp c_212
                    refine w_iinc (k := 6) (lv' := [(5, .int (J ((i + 1 : Nat) : Int))), (9, .int (J (b2 ((dgt i 0 < 0 ∨ (dgt i 0 ≠ dgt i 1 ∧ dgt i 0 ≠ dgt i 2)) ∧ (dgt i 1 < 0 ∨ dgt i 1 ≠ dgt i 2))))), (0, .ref o), (1, .int (J ((en : Nat) : Int))), (2, .int (J 0)), (3, .int (J (nw (shf ln 120) + nw (shf ln (3 * en))))), (4, .int (J b)), (6, .int (J (dgt i 0))), (7, .int (J (dgt i 1))), (8, .int (J (dgt i 2)))]) hx hb d_Mo_sumBy_381 hl rfl ((i + 1 : Nat) : Int) (by omega) (by decide) rfl (fun ls hl => ?_)
                    refine lv_goto (tgt := 127) hx hb d_Mo_sumBy_384 (by decide) ?_
                    exact ih_127 (i + 1) b xw (by omega) (sbi_no hsb (fun z => c_212 z.2.1)) (by omega) _ _ (P_map hP [0, 1, 2, 3, 4, 5, 6] rfl) (hD.sub [0, 1, 2, 3, 4, 5, 6] (by decide) rfl) hS ls (lv_sub hl [2, 3, 4, 5, 6, 0] rfl)
                  · have c_212 := b2_n0.mp c_212
                    refine lv_aload_n hx hb d_Mo_sumBy_215 rfl (lv_at hl 1 rfl) ?_
                    refine lv_iload_n hx hb d_Mo_sumBy_216 rfl (lv_at hl 2 rfl) ?_
                    refine lv_iconst (v := J (1)) hx hb d_Mo_sumBy_217 rfl ?_
                    refine lv_iload hx hb d_Mo_sumBy_218 (lv_at hl 8 rfl) ?_
                    refine Ri_call (va_runV (As := [.int (J ((en : Nat) : Int)), .int (J 1), .int (J (dgt i 1))]) (rest := []) ⟨hx, hb, hml, hown, hts⟩ (c_Mo_may l D cI cZ cJ o p1 p2 p3 p4 p5 p6 p7 p8 p9 pA pB pC th n ap fn wk ln en 1 (dgt i 1) (by first | with_reducible assumption | omega) (by first | with_reducible assumption | omega)) (cwV 3 hts (g_V mw_681 mw_683 mw_20 mw_33 mw_684) rfl rfl rfl (by decide +kernel) ⟨Nat.le_of_ble_eq_true rfl, Nat.le_of_ble_eq_true rfl⟩) (pre_RV hP hK [0, 1] rfl 8 0 rfl rfl) rfl rfl hl.1 rfl (lv_room (Nat.le_of_ble_eq_true rfl)) d_Mo_sumBy_220 ⟨Nat.le_of_ble_eq_true rfl, Nat.le_of_ble_eq_true rfl⟩) ?_
                    refine w_if_eq (tgt := 381) hx hb d_Mo_sumBy_223 (by decide) (rg_b2) (fun c_223 => ?_) (fun c_223 => ?_)
                    · have c_223 := b2_0.mp c_223
                      refine w_iinc (k := 6) (lv' := [(5, .int (J ((i + 1 : Nat) : Int))), (9, .int (J (b2 ((dgt i 0 < 0 ∨ (dgt i 0 ≠ dgt i 1 ∧ dgt i 0 ≠ dgt i 2)) ∧ (dgt i 1 < 0 ∨ dgt i 1 ≠ dgt i 2))))), (0, .ref o), (1, .int (J ((en : Nat) : Int))), (2, .int (J 0)), (3, .int (J (nw (shf ln 120) + nw (shf ln (3 * en))))), (4, .int (J b)), (6, .int (J (dgt i 0))), (7, .int (J (dgt i 1))), (8, .int (J (dgt i 2)))]) hx hb d_Mo_sumBy_381 hl rfl ((i + 1 : Nat) : Int) (by omega) (by decide) rfl (fun ls hl => ?_)
                      refine lv_goto (tgt := 127) hx hb d_Mo_sumBy_384 (by decide) ?_
                      exact ih_127 (i + 1) b xw (by omega) (sbi_no hsb (fun z => c_223 z.2.2.1)) (by omega) _ _ (P_map hP [0, 1, 2, 3, 4, 5, 6] rfl) (hD.sub [0, 1, 2, 3, 4, 5, 6] (by decide) rfl) hS ls (lv_sub hl [2, 3, 4, 5, 6, 0] rfl)
                    · have c_223 := b2_n0.mp c_223
                      refine lv_aload_n hx hb d_Mo_sumBy_226 rfl (lv_at hl 1 rfl) ?_
                      refine lv_iload_n hx hb d_Mo_sumBy_227 rfl (lv_at hl 2 rfl) ?_
                      refine lv_iconst (v := J (2)) hx hb d_Mo_sumBy_228 rfl ?_
                      refine lv_iload hx hb d_Mo_sumBy_229 (lv_at hl 9 rfl) ?_
                      refine Ri_call (va_runV (As := [.int (J ((en : Nat) : Int)), .int (J 2), .int (J (dgt i 2))]) (rest := []) ⟨hx, hb, hml, hown, hts⟩ (c_Mo_may l D cI cZ cJ o p1 p2 p3 p4 p5 p6 p7 p8 p9 pA pB pC th n ap fn wk ln en 2 (dgt i 2) (by first | with_reducible assumption | omega) (by first | with_reducible assumption | omega)) (cwV 3 hts (g_V mw_681 mw_683 mw_20 mw_33 mw_684) rfl rfl rfl (by decide +kernel) ⟨Nat.le_of_ble_eq_true rfl, Nat.le_of_ble_eq_true rfl⟩) (pre_RV hP hK [0, 1] rfl 8 0 rfl rfl) rfl rfl hl.1 rfl (lv_room (Nat.le_of_ble_eq_true rfl)) d_Mo_sumBy_231 ⟨Nat.le_of_ble_eq_true rfl, Nat.le_of_ble_eq_true rfl⟩) ?_
                      refine w_if_eq (tgt := 381) hx hb d_Mo_sumBy_234 (by decide) (rg_b2) (fun c_234 => ?_) (fun c_234 => ?_)
                      · have c_234 := b2_0.mp c_234
                        refine w_iinc (k := 6) (lv' := [(5, .int (J ((i + 1 : Nat) : Int))), (9, .int (J (b2 ((dgt i 0 < 0 ∨ (dgt i 0 ≠ dgt i 1 ∧ dgt i 0 ≠ dgt i 2)) ∧ (dgt i 1 < 0 ∨ dgt i 1 ≠ dgt i 2))))), (0, .ref o), (1, .int (J ((en : Nat) : Int))), (2, .int (J 0)), (3, .int (J (nw (shf ln 120) + nw (shf ln (3 * en))))), (4, .int (J b)), (6, .int (J (dgt i 0))), (7, .int (J (dgt i 1))), (8, .int (J (dgt i 2)))]) hx hb d_Mo_sumBy_381 hl rfl ((i + 1 : Nat) : Int) (by omega) (by decide) rfl (fun ls hl => ?_)
                        refine lv_goto (tgt := 127) hx hb d_Mo_sumBy_384 (by decide) ?_
                        exact ih_127 (i + 1) b xw (by omega) (sbi_no hsb (fun z => c_234 z.2.2.2)) (by omega) _ _ (P_map hP [0, 1, 2, 3, 4, 5, 6] rfl) (hD.sub [0, 1, 2, 3, 4, 5, 6] (by decide) rfl) hS ls (lv_sub hl [2, 3, 4, 5, 6, 0] rfl)
                      · have c_234 := b2_n0.mp c_234
                        refine lv_iload hx hb d_Mo_sumBy_237 (lv_at hl 7 rfl) ?_
                        refine w_dge (tgt := 246) (X := 247) hx hb d_Mo_sumBy_239 (by decide) (by omega) d_Mo_sumBy_242 d_Mo_sumBy_243 (by decide) d_Mo_sumBy_246 rfl ?_
                        refine lv_iload hx hb d_Mo_sumBy_247 (lv_at hl 8 rfl) ?_
                        refine w_dge (tgt := 256) (X := 257) hx hb d_Mo_sumBy_249 (by decide) (by omega) d_Mo_sumBy_252 d_Mo_sumBy_253 (by decide) d_Mo_sumBy_256 rfl ?_
                        refine w_iadd hx hb d_Mo_sumBy_257 ((one (dgt i 0)) + (one (dgt i 1))) (rfl) ?_
                        refine lv_iload hx hb d_Mo_sumBy_258 (lv_at hl 9 rfl) ?_
                        refine w_dge (tgt := 267) (X := 268) hx hb d_Mo_sumBy_260 (by decide) (by omega) d_Mo_sumBy_263 d_Mo_sumBy_264 (by decide) d_Mo_sumBy_267 rfl ?_
                        refine w_iadd hx hb d_Mo_sumBy_268 (((one (dgt i 0)) + (one (dgt i 1))) + (one (dgt i 2))) (rfl) ?_
                        refine lv_istore (lv' := [(10, .int (J (((one (dgt i 0)) + (one (dgt i 1))) + (one (dgt i 2))))), (9, .int (J (b2 ((dgt i 0 < 0 ∨ (dgt i 0 ≠ dgt i 1 ∧ dgt i 0 ≠ dgt i 2)) ∧ (dgt i 1 < 0 ∨ dgt i 1 ≠ dgt i 2))))), (0, .ref o), (1, .int (J ((en : Nat) : Int))), (2, .int (J 0)), (3, .int (J (nw (shf ln 120) + nw (shf ln (3 * en))))), (4, .int (J b)), (5, .int (J ((i : Nat) : Int))), (6, .int (J (dgt i 0))), (7, .int (J (dgt i 1))), (8, .int (J (dgt i 2)))]) hx hb d_Mo_sumBy_269 hl (by decide) rfl (fun ls hl => ?_)
                        refine lv_aload_n hx hb d_Mo_sumBy_271 rfl (lv_at hl 2 rfl) ?_
                        refine lv_iconst (v := J (0)) hx hb d_Mo_sumBy_272 rfl ?_
                        refine lv_iload hx hb d_Mo_sumBy_273 (lv_at hl 8 rfl) ?_
                        refine Ri_call (va_runV (As := [.int (J 0), .int (J (dgt i 0))]) (rest := []) ⟨hx, hb, hml, hown, hts⟩ (c_Mo_cost l D cI cZ cJ o p1 p2 p3 p4 p5 p6 p7 p8 p9 pA pB pC th n ap fn wk xm 0 (dgt i 0) (by first | with_reducible assumption | omega)) (cwV 2 hts (g_V mw_685 mw_687 mw_21 mw_33 mw_688) rfl rfl rfl (by decide +kernel) ⟨Nat.le_of_ble_eq_true rfl, Nat.le_of_ble_eq_true rfl⟩) (pre_RV hP hK [0, 5] rfl 8 0 rfl rfl) rfl rfl hl.1 rfl (lv_room (Nat.le_of_ble_eq_true rfl)) d_Mo_sumBy_275 ⟨Nat.le_of_ble_eq_true rfl, Nat.le_of_ble_eq_true rfl⟩) ?_
                        refine lv_aload_n hx hb d_Mo_sumBy_278 rfl (lv_at hl 2 rfl) ?_
                        refine lv_iconst (v := J (1)) hx hb d_Mo_sumBy_279 rfl ?_
                        refine lv_iload hx hb d_Mo_sumBy_280 (lv_at hl 9 rfl) ?_
                        refine Ri_call (va_runV (As := [.int (J 1), .int (J (dgt i 1))]) (rest := [.int (J (csv xm 0 (dgt i 0)))]) ⟨hx, hb, hml, hown, hts⟩ (c_Mo_cost l D cI cZ cJ o p1 p2 p3 p4 p5 p6 p7 p8 p9 pA pB pC th n ap fn wk xm 1 (dgt i 1) (by first | with_reducible assumption | omega)) (cwV 2 hts (g_V mw_685 mw_687 mw_21 mw_33 mw_688) rfl rfl rfl (by decide +kernel) ⟨Nat.le_of_ble_eq_true rfl, Nat.le_of_ble_eq_true rfl⟩) (pre_RV hP hK [0, 5] rfl 8 0 rfl rfl) rfl rfl hl.1 rfl (lv_room (Nat.le_of_ble_eq_true rfl)) d_Mo_sumBy_282 ⟨Nat.le_of_ble_eq_true rfl, Nat.le_of_ble_eq_true rfl⟩) ?_
                        refine w_iadd hx hb d_Mo_sumBy_285 ((csv xm 0 (dgt i 0)) + (csv xm 1 (dgt i 1))) (rfl) ?_
                        refine lv_aload_n hx hb d_Mo_sumBy_286 rfl (lv_at hl 2 rfl) ?_
                        refine lv_iconst (v := J (2)) hx hb d_Mo_sumBy_287 rfl ?_
                        refine lv_iload hx hb d_Mo_sumBy_288 (lv_at hl 10 rfl) ?_
                        refine Ri_call (va_runV (As := [.int (J 2), .int (J (dgt i 2))]) (rest := [.int (J ((csv xm 0 (dgt i 0)) + (csv xm 1 (dgt i 1))))]) ⟨hx, hb, hml, hown, hts⟩ (c_Mo_cost l D cI cZ cJ o p1 p2 p3 p4 p5 p6 p7 p8 p9 pA pB pC th n ap fn wk xm 2 (dgt i 2) (by first | with_reducible assumption | omega)) (cwV 2 hts (g_V mw_685 mw_687 mw_21 mw_33 mw_688) rfl rfl rfl (by decide +kernel) ⟨Nat.le_of_ble_eq_true rfl, Nat.le_of_ble_eq_true rfl⟩) (pre_RV hP hK [0, 5] rfl 8 0 rfl rfl) rfl rfl hl.1 rfl (lv_room (Nat.le_of_ble_eq_true rfl)) d_Mo_sumBy_290 ⟨Nat.le_of_ble_eq_true rfl, Nat.le_of_ble_eq_true rfl⟩) ?_
                        refine w_iadd hx hb d_Mo_sumBy_293 (((csv xm 0 (dgt i 0)) + (csv xm 1 (dgt i 1))) + (csv xm 2 (dgt i 2))) (rfl) ?_
                        refine lv_aload_n hx hb d_Mo_sumBy_294 rfl (lv_at hl 2 rfl) ?_
                        refine va_get (D := D) (ci := 8) (v := .ref p7) (C := R_Mo) (T := T_Mo) (N := 17) hx hb hts i_Mo hown hK hP 0 rfl rfl 9 (by decide) (hts _ mw_560) (fun _ h9 => h9) rfl d_Mo_sumBy_295 ?_
                        refine lv_iconst (v := J (4)) hx hb d_Mo_sumBy_298 rfl ?_
                        refine w_iald hx hb hK hP 3 0 rfl rfl 4 (by omega) (by omega) (by omega) d_Mo_sumBy_299 ?_
                        refine lv_iload_n hx hb d_Mo_sumBy_300 rfl (lv_at hl 5 rfl) ?_
                        refine lv_iconst (v := J (2)) hx hb d_Mo_sumBy_301 rfl ?_
                        refine lv_iload hx hb d_Mo_sumBy_302 (lv_at hl 0 rfl) ?_
                        refine w_imul hx hb d_Mo_sumBy_304 (2 * (((one (dgt i 0)) + (one (dgt i 1))) + (one (dgt i 2)))) (rfl) ?_
                        refine w_isub hx hb d_Mo_sumBy_305 ((nw (shf ln 120) + nw (shf ln (3 * en))) - (2 * (((one (dgt i 0)) + (one (dgt i 1))) + (one (dgt i 2))))) (rfl) ?_
                        refine w_imul hx hb d_Mo_sumBy_306 ((wt 4) * ((nw (shf ln 120) + nw (shf ln (3 * en))) - (2 * (((one (dgt i 0)) + (one (dgt i 1))) + (one (dgt i 2)))))) (rfl) ?_
                        refine w_iadd hx hb d_Mo_sumBy_307 ((((csv xm 0 (dgt i 0)) + (csv xm 1 (dgt i 1))) + (csv xm 2 (dgt i 2))) + ((wt 4) * ((nw (shf ln 120) + nw (shf ln (3 * en))) - (2 * (((one (dgt i 0)) + (one (dgt i 1))) + (one (dgt i 2))))))) (rfl) ?_
                        refine lv_aload_n hx hb d_Mo_sumBy_308 rfl (lv_at hl 2 rfl) ?_
                        refine va_get (D := D) (ci := 8) (v := .ref p7) (C := R_Mo) (T := T_Mo) (N := 17) hx hb hts i_Mo hown hK hP 0 rfl rfl 9 (by decide) (hts _ mw_560) (fun _ h9 => h9) rfl d_Mo_sumBy_309 ?_
                        refine lv_iconst (v := J (5)) hx hb d_Mo_sumBy_312 rfl ?_
                        refine w_iald hx hb hK hP 3 0 rfl rfl 5 (by omega) (by omega) (by omega) d_Mo_sumBy_313 ?_
                        refine lv_iload hx hb d_Mo_sumBy_314 (lv_at hl 8 rfl) ?_
                        refine lv_iload hx hb d_Mo_sumBy_316 (lv_at hl 9 rfl) ?_
                        refine Ri_call (va_runS (As := [.int (J (dgt i 0)), .int (J (dgt i 1))]) (rest := [.int (J (wt 5)), .int (J ((((csv xm 0 (dgt i 0)) + (csv xm 1 (dgt i 1))) + (csv xm 2 (dgt i 2))) + ((wt 4) * ((nw (shf ln 120) + nw (shf ln (3 * en))) - (2 * (((one (dgt i 0)) + (one (dgt i 1))) + (one (dgt i 2))))))))]) ⟨hx, hb, hml, hown, hts⟩ (c_Mo_turned l D cI cZ cJ (dgt i 0) (dgt i 1) (by first | with_reducible assumption | omega) (by first | with_reducible assumption | omega)) (va_cwS 2 hts (g_S mw_689 mw_690 mw_33 mw_691) rfl rfl rfl (by decide +kernel) ⟨Nat.le_of_ble_eq_true rfl, Nat.le_of_ble_eq_true rfl⟩) (pre_RS hP hK [] rfl) rfl rfl hl.1 rfl (lv_room (Nat.le_of_ble_eq_true rfl)) d_Mo_sumBy_318 ⟨Nat.le_of_ble_eq_true rfl, Nat.le_of_ble_eq_true rfl⟩) ?_
                        refine lv_iload hx hb d_Mo_sumBy_321 (lv_at hl 8 rfl) ?_
                        refine lv_iload hx hb d_Mo_sumBy_323 (lv_at hl 10 rfl) ?_
                        refine Ri_call (va_runS (As := [.int (J (dgt i 0)), .int (J (dgt i 2))]) (rest := [.int (J (trn (dgt i 0) (dgt i 1))), .int (J (wt 5)), .int (J ((((csv xm 0 (dgt i 0)) + (csv xm 1 (dgt i 1))) + (csv xm 2 (dgt i 2))) + ((wt 4) * ((nw (shf ln 120) + nw (shf ln (3 * en))) - (2 * (((one (dgt i 0)) + (one (dgt i 1))) + (one (dgt i 2))))))))]) ⟨hx, hb, hml, hown, hts⟩ (c_Mo_turned l D cI cZ cJ (dgt i 0) (dgt i 2) (by first | with_reducible assumption | omega) (by first | with_reducible assumption | omega)) (va_cwS 2 hts (g_S mw_689 mw_690 mw_33 mw_691) rfl rfl rfl (by decide +kernel) ⟨Nat.le_of_ble_eq_true rfl, Nat.le_of_ble_eq_true rfl⟩) (pre_RS hP hK [] rfl) rfl rfl hl.1 rfl (lv_room (Nat.le_of_ble_eq_true rfl)) d_Mo_sumBy_325 ⟨Nat.le_of_ble_eq_true rfl, Nat.le_of_ble_eq_true rfl⟩) ?_
                        refine w_iadd hx hb d_Mo_sumBy_328 ((trn (dgt i 0) (dgt i 1)) + (trn (dgt i 0) (dgt i 2))) (rfl) ?_
                        refine lv_iload hx hb d_Mo_sumBy_329 (lv_at hl 9 rfl) ?_
                        refine lv_iload hx hb d_Mo_sumBy_331 (lv_at hl 10 rfl) ?_
                        refine Ri_call (va_runS (As := [.int (J (dgt i 1)), .int (J (dgt i 2))]) (rest := [.int (J ((trn (dgt i 0) (dgt i 1)) + (trn (dgt i 0) (dgt i 2)))), .int (J (wt 5)), .int (J ((((csv xm 0 (dgt i 0)) + (csv xm 1 (dgt i 1))) + (csv xm 2 (dgt i 2))) + ((wt 4) * ((nw (shf ln 120) + nw (shf ln (3 * en))) - (2 * (((one (dgt i 0)) + (one (dgt i 1))) + (one (dgt i 2))))))))]) ⟨hx, hb, hml, hown, hts⟩ (c_Mo_turned l D cI cZ cJ (dgt i 1) (dgt i 2) (by first | with_reducible assumption | omega) (by first | with_reducible assumption | omega)) (va_cwS 2 hts (g_S mw_689 mw_690 mw_33 mw_691) rfl rfl rfl (by decide +kernel) ⟨Nat.le_of_ble_eq_true rfl, Nat.le_of_ble_eq_true rfl⟩) (pre_RS hP hK [] rfl) rfl rfl hl.1 rfl (lv_room (Nat.le_of_ble_eq_true rfl)) d_Mo_sumBy_333 ⟨Nat.le_of_ble_eq_true rfl, Nat.le_of_ble_eq_true rfl⟩) ?_
                        refine w_iadd hx hb d_Mo_sumBy_336 (((trn (dgt i 0) (dgt i 1)) + (trn (dgt i 0) (dgt i 2))) + (trn (dgt i 1) (dgt i 2))) (rfl) ?_
                        refine w_imul hx hb d_Mo_sumBy_337 ((wt 5) * (((trn (dgt i 0) (dgt i 1)) + (trn (dgt i 0) (dgt i 2))) + (trn (dgt i 1) (dgt i 2)))) (rfl) ?_
                        refine w_iadd hx hb d_Mo_sumBy_338 (top wt xm (nw (shf ln 120) + nw (shf ln (3 * en))) (dgt i 0) (dgt i 1) (dgt i 2)) (rfl) ?_
                        refine lv_istore (lv' := [(11, .int (J (top wt xm (nw (shf ln 120) + nw (shf ln (3 * en))) (dgt i 0) (dgt i 1) (dgt i 2)))), (10, .int (J (((one (dgt i 0)) + (one (dgt i 1))) + (one (dgt i 2))))), (9, .int (J (b2 ((dgt i 0 < 0 ∨ (dgt i 0 ≠ dgt i 1 ∧ dgt i 0 ≠ dgt i 2)) ∧ (dgt i 1 < 0 ∨ dgt i 1 ≠ dgt i 2))))), (0, .ref o), (1, .int (J ((en : Nat) : Int))), (2, .int (J 0)), (3, .int (J (nw (shf ln 120) + nw (shf ln (3 * en))))), (4, .int (J b)), (5, .int (J ((i : Nat) : Int))), (6, .int (J (dgt i 0))), (7, .int (J (dgt i 1))), (8, .int (J (dgt i 2)))]) hx hb d_Mo_sumBy_339 hl (by decide) rfl (fun ls hl => ?_)
                        have tr := top_rg hw hmb d0 d1 d2 (show okp (shf ln 120) (shf ln (3 * en)) (dgt i 0) (dgt i 1) (dgt i 2) from ⟨c_201, c_212, c_223, c_234⟩)
                        refine lv_iload hx hb d_Mo_sumBy_341 (lv_at hl 7 rfl) ?_
                        refine w_if_lt (tgt := 353) hx hb d_Mo_sumBy_343 (by decide) (by omega) (fun c_343 => ?_) (fun c_343 => ?_)
                        · refine lv_iload hx hb d_Mo_sumBy_353 (lv_at hl 0 rfl) ?_
                          refine lv_istore (lv' := [(4, .int (J (top wt xm (nw (shf ln 120) + nw (shf ln (3 * en))) (dgt i 0) (dgt i 1) (dgt i 2)))), (11, .int (J (top wt xm (nw (shf ln 120) + nw (shf ln (3 * en))) (dgt i 0) (dgt i 1) (dgt i 2)))), (10, .int (J (((one (dgt i 0)) + (one (dgt i 1))) + (one (dgt i 2))))), (9, .int (J (b2 ((dgt i 0 < 0 ∨ (dgt i 0 ≠ dgt i 1 ∧ dgt i 0 ≠ dgt i 2)) ∧ (dgt i 1 < 0 ∨ dgt i 1 ≠ dgt i 2))))), (0, .ref o), (1, .int (J ((en : Nat) : Int))), (2, .int (J 0)), (3, .int (J (nw (shf ln 120) + nw (shf ln (3 * en))))), (5, .int (J ((i : Nat) : Int))), (6, .int (J (dgt i 0))), (7, .int (J (dgt i 1))), (8, .int (J (dgt i 2)))]) hx hb d_Mo_sumBy_355 hl (by decide) rfl (fun ls hl => ?_)
                          refine lv_aload_n hx hb d_Mo_sumBy_357 rfl (lv_at hl 4 rfl) ?_
                          refine va_get (D := D) (ci := 8) (v := .ref pC) (C := R_Mo) (T := T_Mo) (N := 17) hx hb hts i_Mo hown hK hP 0 rfl rfl 16 (by decide) (hts _ mw_567) (fun _ h9 => h9) rfl d_Mo_sumBy_358 ?_
                          refine lv_iconst (v := J (0)) hx hb d_Mo_sumBy_361 rfl ?_
                          refine lv_iload hx hb d_Mo_sumBy_362 (lv_at hl 9 rfl) ?_
                          refine w_iast hx hb hK hP hD hS 6 0 rfl rfl 0 (by omega) (by omega) (by omega) d_Mo_sumBy_364 (fun H locs hP hD hS => ?_)
                          have hP : va_P D classes [(o, .inr (8, [.int (J th), .int (J ((n : Nat) : Int)), .ref p1, .ref p2, .ref p3, .ref p4, .ref p5, .ref p6, .int (J ap), .ref p7, .int (J ((fn : Nat) : Int)), .ref p8, .ref p9, .int (J wk), .ref pA, .ref pB, .ref pC])), (p5, ca cI 123 ln), (p6, ca cI 1230 gl), (p7, ca cI 6 wt), (pA, ca cI 121 xp), (pB, ca cI 9 xm), (pC, ca cI 3 (iu xw 0 (dgt i 0)))] H := hP
                          have hD : va_D A [(o, .inr (8, [.int (J th), .int (J ((n : Nat) : Int)), .ref p1, .ref p2, .ref p3, .ref p4, .ref p5, .ref p6, .int (J ap), .ref p7, .int (J ((fn : Nat) : Int)), .ref p8, .ref p9, .int (J wk), .ref pA, .ref pB, .ref pC])), (p5, ca cI 123 ln), (p6, ca cI 1230 gl), (p7, ca cI 6 wt), (pA, ca cI 121 xp), (pB, ca cI 9 xm), (pC, ca cI 3 (iu xw 0 (dgt i 0)))] := hD
                          refine lv_aload_n hx hb d_Mo_sumBy_365 rfl (lv_at hl 4 rfl) ?_
                          refine va_get (D := D) (ci := 8) (v := .ref pC) (C := R_Mo) (T := T_Mo) (N := 17) hx hb hts i_Mo hown hK hP 0 rfl rfl 16 (by decide) (hts _ mw_567) (fun _ h9 => h9) rfl d_Mo_sumBy_366 ?_
                          refine lv_iconst (v := J (1)) hx hb d_Mo_sumBy_369 rfl ?_
                          refine lv_iload hx hb d_Mo_sumBy_370 (lv_at hl 10 rfl) ?_
                          refine w_iast hx hb hK hP hD hS 6 0 rfl rfl 1 (by omega) (by omega) (by omega) d_Mo_sumBy_372 (fun H locs hP hD hS => ?_)
                          have hP : va_P D classes [(o, .inr (8, [.int (J th), .int (J ((n : Nat) : Int)), .ref p1, .ref p2, .ref p3, .ref p4, .ref p5, .ref p6, .int (J ap), .ref p7, .int (J ((fn : Nat) : Int)), .ref p8, .ref p9, .int (J wk), .ref pA, .ref pB, .ref pC])), (p5, ca cI 123 ln), (p6, ca cI 1230 gl), (p7, ca cI 6 wt), (pA, ca cI 121 xp), (pB, ca cI 9 xm), (pC, ca cI 3 (iu (iu xw 0 (dgt i 0)) 1 (dgt i 1)))] H := hP
                          have hD : va_D A [(o, .inr (8, [.int (J th), .int (J ((n : Nat) : Int)), .ref p1, .ref p2, .ref p3, .ref p4, .ref p5, .ref p6, .int (J ap), .ref p7, .int (J ((fn : Nat) : Int)), .ref p8, .ref p9, .int (J wk), .ref pA, .ref pB, .ref pC])), (p5, ca cI 123 ln), (p6, ca cI 1230 gl), (p7, ca cI 6 wt), (pA, ca cI 121 xp), (pB, ca cI 9 xm), (pC, ca cI 3 (iu (iu xw 0 (dgt i 0)) 1 (dgt i 1)))] := hD
                          refine lv_aload_n hx hb d_Mo_sumBy_373 rfl (lv_at hl 4 rfl) ?_
                          refine va_get (D := D) (ci := 8) (v := .ref pC) (C := R_Mo) (T := T_Mo) (N := 17) hx hb hts i_Mo hown hK hP 0 rfl rfl 16 (by decide) (hts _ mw_567) (fun _ h9 => h9) rfl d_Mo_sumBy_374 ?_
                          refine lv_iconst (v := J (2)) hx hb d_Mo_sumBy_377 rfl ?_
                          refine lv_iload hx hb d_Mo_sumBy_378 (lv_at hl 11 rfl) ?_
                          refine w_iast hx hb hK hP hD hS 6 0 rfl rfl 2 (by omega) (by omega) (by omega) d_Mo_sumBy_380 (fun H locs hP hD hS => ?_)
                          have hP : va_P D classes [(o, .inr (8, [.int (J th), .int (J ((n : Nat) : Int)), .ref p1, .ref p2, .ref p3, .ref p4, .ref p5, .ref p6, .int (J ap), .ref p7, .int (J ((fn : Nat) : Int)), .ref p8, .ref p9, .int (J wk), .ref pA, .ref pB, .ref pC])), (p5, ca cI 123 ln), (p6, ca cI 1230 gl), (p7, ca cI 6 wt), (pA, ca cI 121 xp), (pB, ca cI 9 xm), (pC, ca cI 3 (iu (iu (iu xw 0 (dgt i 0)) 1 (dgt i 1)) 2 (dgt i 2)))] H := hP
                          have hD : va_D A [(o, .inr (8, [.int (J th), .int (J ((n : Nat) : Int)), .ref p1, .ref p2, .ref p3, .ref p4, .ref p5, .ref p6, .int (J ap), .ref p7, .int (J ((fn : Nat) : Int)), .ref p8, .ref p9, .int (J wk), .ref pA, .ref pB, .ref pC])), (p5, ca cI 123 ln), (p6, ca cI 1230 gl), (p7, ca cI 6 wt), (pA, ca cI 121 xp), (pB, ca cI 9 xm), (pC, ca cI 3 (iu (iu (iu xw 0 (dgt i 0)) 1 (dgt i 1)) 2 (dgt i 2)))] := hD
                          refine w_iinc (k := 8) (lv' := [(5, .int (J ((i + 1 : Nat) : Int))), (4, .int (J (top wt xm (nw (shf ln 120) + nw (shf ln (3 * en))) (dgt i 0) (dgt i 1) (dgt i 2)))), (11, .int (J (top wt xm (nw (shf ln 120) + nw (shf ln (3 * en))) (dgt i 0) (dgt i 1) (dgt i 2)))), (10, .int (J (((one (dgt i 0)) + (one (dgt i 1))) + (one (dgt i 2))))), (9, .int (J (b2 ((dgt i 0 < 0 ∨ (dgt i 0 ≠ dgt i 1 ∧ dgt i 0 ≠ dgt i 2)) ∧ (dgt i 1 < 0 ∨ dgt i 1 ≠ dgt i 2))))), (0, .ref o), (1, .int (J ((en : Nat) : Int))), (2, .int (J 0)), (3, .int (J (nw (shf ln 120) + nw (shf ln (3 * en))))), (6, .int (J (dgt i 0))), (7, .int (J (dgt i 1))), (8, .int (J (dgt i 2)))]) hx hb d_Mo_sumBy_381 hl rfl ((i + 1 : Nat) : Int) (by omega) (by decide) rfl (fun ls hl => ?_)
                          refine lv_goto (tgt := 127) hx hb d_Mo_sumBy_384 (by decide) ?_
                          exact ih_127 (i + 1) (top wt xm (nw (shf ln 120) + nw (shf ln (3 * en))) (dgt i 0) (dgt i 1) (dgt i 2)) (iu (iu (iu xw 0 (dgt i 0)) 1 (dgt i 1)) 2 (dgt i 2)) (by omega) (sbi_take hsb ⟨c_201, c_212, c_223, c_234⟩ (by omega)) (by omega) _ _ (P_map hP [0, 1, 2, 3, 4, 5, 6] rfl) (hD.sub [0, 1, 2, 3, 4, 5, 6] (by decide) rfl) hS ls (lv_sub hl [5, 6, 7, 8, 1, 0] rfl)
                        · refine lv_iload hx hb d_Mo_sumBy_346 (lv_at hl 0 rfl) ?_
                          refine lv_iload hx hb d_Mo_sumBy_348 (lv_at hl 7 rfl) ?_
                          refine w_icmp_ge (tgt := 381) hx hb d_Mo_sumBy_350 (by decide) (by omega) (by omega) (fun c_350 => ?_) (fun c_350 => ?_)
                          · refine w_iinc (k := 8) (lv' := [(5, .int (J ((i + 1 : Nat) : Int))), (11, .int (J (top wt xm (nw (shf ln 120) + nw (shf ln (3 * en))) (dgt i 0) (dgt i 1) (dgt i 2)))), (10, .int (J (((one (dgt i 0)) + (one (dgt i 1))) + (one (dgt i 2))))), (9, .int (J (b2 ((dgt i 0 < 0 ∨ (dgt i 0 ≠ dgt i 1 ∧ dgt i 0 ≠ dgt i 2)) ∧ (dgt i 1 < 0 ∨ dgt i 1 ≠ dgt i 2))))), (0, .ref o), (1, .int (J ((en : Nat) : Int))), (2, .int (J 0)), (3, .int (J (nw (shf ln 120) + nw (shf ln (3 * en))))), (4, .int (J b)), (6, .int (J (dgt i 0))), (7, .int (J (dgt i 1))), (8, .int (J (dgt i 2)))]) hx hb d_Mo_sumBy_381 hl rfl ((i + 1 : Nat) : Int) (by omega) (by decide) rfl (fun ls hl => ?_)
                            refine lv_goto (tgt := 127) hx hb d_Mo_sumBy_384 (by decide) ?_
                            exact ih_127 (i + 1) b xw (by omega) (sbi_ge hsb ⟨by omega, by omega⟩) (by omega) _ _ (P_map hP [0, 1, 2, 3, 4, 5, 6] rfl) (hD.sub [0, 1, 2, 3, 4, 5, 6] (by decide) rfl) hS ls (lv_sub hl [4, 5, 6, 7, 8, 0] rfl)
                          · refine lv_iload hx hb d_Mo_sumBy_353 (lv_at hl 0 rfl) ?_
                            refine lv_istore (lv' := [(4, .int (J (top wt xm (nw (shf ln 120) + nw (shf ln (3 * en))) (dgt i 0) (dgt i 1) (dgt i 2)))), (11, .int (J (top wt xm (nw (shf ln 120) + nw (shf ln (3 * en))) (dgt i 0) (dgt i 1) (dgt i 2)))), (10, .int (J (((one (dgt i 0)) + (one (dgt i 1))) + (one (dgt i 2))))), (9, .int (J (b2 ((dgt i 0 < 0 ∨ (dgt i 0 ≠ dgt i 1 ∧ dgt i 0 ≠ dgt i 2)) ∧ (dgt i 1 < 0 ∨ dgt i 1 ≠ dgt i 2))))), (0, .ref o), (1, .int (J ((en : Nat) : Int))), (2, .int (J 0)), (3, .int (J (nw (shf ln 120) + nw (shf ln (3 * en))))), (5, .int (J ((i : Nat) : Int))), (6, .int (J (dgt i 0))), (7, .int (J (dgt i 1))), (8, .int (J (dgt i 2)))]) hx hb d_Mo_sumBy_355 hl (by decide) rfl (fun ls hl => ?_)
                            refine lv_aload_n hx hb d_Mo_sumBy_357 rfl (lv_at hl 4 rfl) ?_
                            refine va_get (D := D) (ci := 8) (v := .ref pC) (C := R_Mo) (T := T_Mo) (N := 17) hx hb hts i_Mo hown hK hP 0 rfl rfl 16 (by decide) (hts _ mw_567) (fun _ h9 => h9) rfl d_Mo_sumBy_358 ?_
                            refine lv_iconst (v := J (0)) hx hb d_Mo_sumBy_361 rfl ?_
                            refine lv_iload hx hb d_Mo_sumBy_362 (lv_at hl 9 rfl) ?_
                            refine w_iast hx hb hK hP hD hS 6 0 rfl rfl 0 (by omega) (by omega) (by omega) d_Mo_sumBy_364 (fun H locs hP hD hS => ?_)
                            have hP : va_P D classes [(o, .inr (8, [.int (J th), .int (J ((n : Nat) : Int)), .ref p1, .ref p2, .ref p3, .ref p4, .ref p5, .ref p6, .int (J ap), .ref p7, .int (J ((fn : Nat) : Int)), .ref p8, .ref p9, .int (J wk), .ref pA, .ref pB, .ref pC])), (p5, ca cI 123 ln), (p6, ca cI 1230 gl), (p7, ca cI 6 wt), (pA, ca cI 121 xp), (pB, ca cI 9 xm), (pC, ca cI 3 (iu xw 0 (dgt i 0)))] H := hP
                            have hD : va_D A [(o, .inr (8, [.int (J th), .int (J ((n : Nat) : Int)), .ref p1, .ref p2, .ref p3, .ref p4, .ref p5, .ref p6, .int (J ap), .ref p7, .int (J ((fn : Nat) : Int)), .ref p8, .ref p9, .int (J wk), .ref pA, .ref pB, .ref pC])), (p5, ca cI 123 ln), (p6, ca cI 1230 gl), (p7, ca cI 6 wt), (pA, ca cI 121 xp), (pB, ca cI 9 xm), (pC, ca cI 3 (iu xw 0 (dgt i 0)))] := hD
                            refine lv_aload_n hx hb d_Mo_sumBy_365 rfl (lv_at hl 4 rfl) ?_
                            refine va_get (D := D) (ci := 8) (v := .ref pC) (C := R_Mo) (T := T_Mo) (N := 17) hx hb hts i_Mo hown hK hP 0 rfl rfl 16 (by decide) (hts _ mw_567) (fun _ h9 => h9) rfl d_Mo_sumBy_366 ?_
                            refine lv_iconst (v := J (1)) hx hb d_Mo_sumBy_369 rfl ?_
                            refine lv_iload hx hb d_Mo_sumBy_370 (lv_at hl 10 rfl) ?_
                            refine w_iast hx hb hK hP hD hS 6 0 rfl rfl 1 (by omega) (by omega) (by omega) d_Mo_sumBy_372 (fun H locs hP hD hS => ?_)
                            have hP : va_P D classes [(o, .inr (8, [.int (J th), .int (J ((n : Nat) : Int)), .ref p1, .ref p2, .ref p3, .ref p4, .ref p5, .ref p6, .int (J ap), .ref p7, .int (J ((fn : Nat) : Int)), .ref p8, .ref p9, .int (J wk), .ref pA, .ref pB, .ref pC])), (p5, ca cI 123 ln), (p6, ca cI 1230 gl), (p7, ca cI 6 wt), (pA, ca cI 121 xp), (pB, ca cI 9 xm), (pC, ca cI 3 (iu (iu xw 0 (dgt i 0)) 1 (dgt i 1)))] H := hP
                            have hD : va_D A [(o, .inr (8, [.int (J th), .int (J ((n : Nat) : Int)), .ref p1, .ref p2, .ref p3, .ref p4, .ref p5, .ref p6, .int (J ap), .ref p7, .int (J ((fn : Nat) : Int)), .ref p8, .ref p9, .int (J wk), .ref pA, .ref pB, .ref pC])), (p5, ca cI 123 ln), (p6, ca cI 1230 gl), (p7, ca cI 6 wt), (pA, ca cI 121 xp), (pB, ca cI 9 xm), (pC, ca cI 3 (iu (iu xw 0 (dgt i 0)) 1 (dgt i 1)))] := hD
                            refine lv_aload_n hx hb d_Mo_sumBy_373 rfl (lv_at hl 4 rfl) ?_
                            refine va_get (D := D) (ci := 8) (v := .ref pC) (C := R_Mo) (T := T_Mo) (N := 17) hx hb hts i_Mo hown hK hP 0 rfl rfl 16 (by decide) (hts _ mw_567) (fun _ h9 => h9) rfl d_Mo_sumBy_374 ?_
                            refine lv_iconst (v := J (2)) hx hb d_Mo_sumBy_377 rfl ?_
                            refine lv_iload hx hb d_Mo_sumBy_378 (lv_at hl 11 rfl) ?_
                            refine w_iast hx hb hK hP hD hS 6 0 rfl rfl 2 (by omega) (by omega) (by omega) d_Mo_sumBy_380 (fun H locs hP hD hS => ?_)
                            have hP : va_P D classes [(o, .inr (8, [.int (J th), .int (J ((n : Nat) : Int)), .ref p1, .ref p2, .ref p3, .ref p4, .ref p5, .ref p6, .int (J ap), .ref p7, .int (J ((fn : Nat) : Int)), .ref p8, .ref p9, .int (J wk), .ref pA, .ref pB, .ref pC])), (p5, ca cI 123 ln), (p6, ca cI 1230 gl), (p7, ca cI 6 wt), (pA, ca cI 121 xp), (pB, ca cI 9 xm), (pC, ca cI 3 (iu (iu (iu xw 0 (dgt i 0)) 1 (dgt i 1)) 2 (dgt i 2)))] H := hP
                            have hD : va_D A [(o, .inr (8, [.int (J th), .int (J ((n : Nat) : Int)), .ref p1, .ref p2, .ref p3, .ref p4, .ref p5, .ref p6, .int (J ap), .ref p7, .int (J ((fn : Nat) : Int)), .ref p8, .ref p9, .int (J wk), .ref pA, .ref pB, .ref pC])), (p5, ca cI 123 ln), (p6, ca cI 1230 gl), (p7, ca cI 6 wt), (pA, ca cI 121 xp), (pB, ca cI 9 xm), (pC, ca cI 3 (iu (iu (iu xw 0 (dgt i 0)) 1 (dgt i 1)) 2 (dgt i 2)))] := hD
                            refine w_iinc (k := 8) (lv' := [(5, .int (J ((i + 1 : Nat) : Int))), (4, .int (J (top wt xm (nw (shf ln 120) + nw (shf ln (3 * en))) (dgt i 0) (dgt i 1) (dgt i 2)))), (11, .int (J (top wt xm (nw (shf ln 120) + nw (shf ln (3 * en))) (dgt i 0) (dgt i 1) (dgt i 2)))), (10, .int (J (((one (dgt i 0)) + (one (dgt i 1))) + (one (dgt i 2))))), (9, .int (J (b2 ((dgt i 0 < 0 ∨ (dgt i 0 ≠ dgt i 1 ∧ dgt i 0 ≠ dgt i 2)) ∧ (dgt i 1 < 0 ∨ dgt i 1 ≠ dgt i 2))))), (0, .ref o), (1, .int (J ((en : Nat) : Int))), (2, .int (J 0)), (3, .int (J (nw (shf ln 120) + nw (shf ln (3 * en))))), (6, .int (J (dgt i 0))), (7, .int (J (dgt i 1))), (8, .int (J (dgt i 2)))]) hx hb d_Mo_sumBy_381 hl rfl ((i + 1 : Nat) : Int) (by omega) (by decide) rfl (fun ls hl => ?_)
                            refine lv_goto (tgt := 127) hx hb d_Mo_sumBy_384 (by decide) ?_
                            exact ih_127 (i + 1) (top wt xm (nw (shf ln 120) + nw (shf ln (3 * en))) (dgt i 0) (dgt i 1) (dgt i 2)) (iu (iu (iu xw 0 (dgt i 0)) 1 (dgt i 1)) 2 (dgt i 2)) (by omega) (sbi_take hsb ⟨c_201, c_212, c_223, c_234⟩ (by omega)) (by omega) _ _ (P_map hP [0, 1, 2, 3, 4, 5, 6] rfl) (hD.sub [0, 1, 2, 3, 4, 5, 6] (by decide) rfl) hS ls (lv_sub hl [5, 6, 7, 8, 1, 0] rfl)
              refine lv_iload hx hb d_Mo_sumBy_161 (lv_at hl 2 rfl) ?_
              refine w_if_lt (tgt := 180) hx hb d_Mo_sumBy_163 (by decide) (by omega) (fun c_163 => ?_) (fun c_163 => ?_)
              · refine lv_iload hx hb d_Mo_sumBy_180 (lv_at hl 1 rfl) ?_
                refine w_if_lt (tgt := 192) hx hb d_Mo_sumBy_182 (by decide) (by omega) (fun c_182 => ?_) (fun c_182 => ?_)
                · refine lv_iconst (v := J (1)) hx hb d_Mo_sumBy_192 rfl ?_
                  refine lv_goto (tgt := 197) hx hb d_Mo_sumBy_193 (by decide) ?_
                  refine tp_J (y := b2 ((dgt i 0 < 0 ∨ (dgt i 0 ≠ dgt i 1 ∧ dgt i 0 ≠ dgt i 2)) ∧ (dgt i 1 < 0 ∨ dgt i 1 ≠ dgt i 2))) (by unfold b2; split <;> omega) ?_
                  exact j_197 ls (lv_sub hl [3, 4, 5, 6, 7, 8, 2, 1, 0] rfl)
                · refine lv_iload hx hb d_Mo_sumBy_185 (lv_at hl 1 rfl) ?_
                  refine lv_iload hx hb d_Mo_sumBy_187 (lv_at hl 0 rfl) ?_
                  refine w_icmp_eq (tgt := 196) hx hb d_Mo_sumBy_189 (by decide) (by omega) (by omega) (fun c_189 => ?_) (fun c_189 => ?_)
                  · refine lv_iconst (v := J (0)) hx hb d_Mo_sumBy_196 rfl ?_
                    refine tp_J (y := b2 ((dgt i 0 < 0 ∨ (dgt i 0 ≠ dgt i 1 ∧ dgt i 0 ≠ dgt i 2)) ∧ (dgt i 1 < 0 ∨ dgt i 1 ≠ dgt i 2))) (by unfold b2; split <;> omega) ?_
                    exact j_197 ls (lv_sub hl [3, 4, 5, 6, 7, 8, 2, 1, 0] rfl)
                  · refine lv_iconst (v := J (1)) hx hb d_Mo_sumBy_192 rfl ?_
                    refine lv_goto (tgt := 197) hx hb d_Mo_sumBy_193 (by decide) ?_
                    refine tp_J (y := b2 ((dgt i 0 < 0 ∨ (dgt i 0 ≠ dgt i 1 ∧ dgt i 0 ≠ dgt i 2)) ∧ (dgt i 1 < 0 ∨ dgt i 1 ≠ dgt i 2))) (by unfold b2; split <;> omega) ?_
                    exact j_197 ls (lv_sub hl [3, 4, 5, 6, 7, 8, 2, 1, 0] rfl)
              · refine lv_iload hx hb d_Mo_sumBy_166 (lv_at hl 2 rfl) ?_
                refine lv_iload hx hb d_Mo_sumBy_168 (lv_at hl 1 rfl) ?_
                refine w_icmp_eq (tgt := 196) hx hb d_Mo_sumBy_170 (by decide) (by omega) (by omega) (fun c_170 => ?_) (fun c_170 => ?_)
                · refine lv_iconst (v := J (0)) hx hb d_Mo_sumBy_196 rfl ?_
                  refine tp_J (y := b2 ((dgt i 0 < 0 ∨ (dgt i 0 ≠ dgt i 1 ∧ dgt i 0 ≠ dgt i 2)) ∧ (dgt i 1 < 0 ∨ dgt i 1 ≠ dgt i 2))) (by unfold b2; split <;> omega) ?_
                  exact j_197 ls (lv_sub hl [3, 4, 5, 6, 7, 8, 2, 1, 0] rfl)
                · refine lv_iload hx hb d_Mo_sumBy_173 (lv_at hl 2 rfl) ?_
                  refine lv_iload hx hb d_Mo_sumBy_175 (lv_at hl 0 rfl) ?_
                  refine w_icmp_eq (tgt := 196) hx hb d_Mo_sumBy_177 (by decide) (by omega) (by omega) (fun c_177 => ?_) (fun c_177 => ?_)
                  · refine lv_iconst (v := J (0)) hx hb d_Mo_sumBy_196 rfl ?_
                    refine tp_J (y := b2 ((dgt i 0 < 0 ∨ (dgt i 0 ≠ dgt i 1 ∧ dgt i 0 ≠ dgt i 2)) ∧ (dgt i 1 < 0 ∨ dgt i 1 ≠ dgt i 2))) (by unfold b2; split <;> omega) ?_
                    exact j_197 ls (lv_sub hl [3, 4, 5, 6, 7, 8, 2, 1, 0] rfl)
                  · refine lv_iload hx hb d_Mo_sumBy_180 (lv_at hl 1 rfl) ?_
                    refine w_if_lt (tgt := 192) hx hb d_Mo_sumBy_182 (by decide) (by omega) (fun c_182 => ?_) (fun c_182 => ?_)
                    · refine lv_iconst (v := J (1)) hx hb d_Mo_sumBy_192 rfl ?_
                      refine lv_goto (tgt := 197) hx hb d_Mo_sumBy_193 (by decide) ?_
                      refine tp_J (y := b2 ((dgt i 0 < 0 ∨ (dgt i 0 ≠ dgt i 1 ∧ dgt i 0 ≠ dgt i 2)) ∧ (dgt i 1 < 0 ∨ dgt i 1 ≠ dgt i 2))) (by unfold b2; split <;> omega) ?_
                      exact j_197 ls (lv_sub hl [3, 4, 5, 6, 7, 8, 2, 1, 0] rfl)
                    · refine lv_iload hx hb d_Mo_sumBy_185 (lv_at hl 1 rfl) ?_
                      refine lv_iload hx hb d_Mo_sumBy_187 (lv_at hl 0 rfl) ?_
                      refine w_icmp_eq (tgt := 196) hx hb d_Mo_sumBy_189 (by decide) (by omega) (by omega) (fun c_189 => ?_) (fun c_189 => ?_)
                      · refine lv_iconst (v := J (0)) hx hb d_Mo_sumBy_196 rfl ?_
                        refine tp_J (y := b2 ((dgt i 0 < 0 ∨ (dgt i 0 ≠ dgt i 1 ∧ dgt i 0 ≠ dgt i 2)) ∧ (dgt i 1 < 0 ∨ dgt i 1 ≠ dgt i 2))) (by unfold b2; split <;> omega) ?_
                        exact j_197 ls (lv_sub hl [3, 4, 5, 6, 7, 8, 2, 1, 0] rfl)
                      · refine lv_iconst (v := J (1)) hx hb d_Mo_sumBy_192 rfl ?_
                        refine lv_goto (tgt := 197) hx hb d_Mo_sumBy_193 (by decide) ?_
                        refine tp_J (y := b2 ((dgt i 0 < 0 ∨ (dgt i 0 ≠ dgt i 1 ∧ dgt i 0 ≠ dgt i 2)) ∧ (dgt i 1 < 0 ∨ dgt i 1 ≠ dgt i 2))) (by unfold b2; split <;> omega) ?_
                        exact j_197 ls (lv_sub hl [3, 4, 5, 6, 7, 8, 2, 1, 0] rfl)
        exact lp_127 ((64 - 0) + 1) 0 (-1) wy (by omega) (sbi_0 _ _ _ _ _) (Nat.lt_succ_self _) _ _ (P_map hP [0, 1, 2, 3, 4, 5, 6] rfl) (hD.sub [0, 1, 2, 3, 4, 5, 6] (by decide) rfl) hS ls (lv_sub hl [3, 4, 5, 2, 1, 0] rfl)
      · refine lv_aload_n hx hb d_Mo_sumBy_8 rfl (lv_at hl 0 rfl) ?_
        refine va_get (D := D) (ci := 8) (v := .ref p5) (C := R_Mo) (T := T_Mo) (N := 17) hx hb hts i_Mo hown hK hP 0 rfl rfl 6 (by decide) (hts _ mw_557) (fun _ h9 => h9) rfl d_Mo_sumBy_9 ?_
        refine lv_bipush (v := J (120)) hx hb d_Mo_sumBy_12 (by decide) ?_
        refine lv_iload_n hx hb d_Mo_sumBy_14 rfl (lv_at hl 3 rfl) ?_
        refine lv_iconst (v := J (3)) hx hb d_Mo_sumBy_15 rfl ?_
        refine w_idiv hx hb d_Mo_sumBy_16 (by omega) (by omega) (by omega) (by omega) ((i / 3 : Nat) : Int) (by omega) ?_
        refine w_iadd hx hb d_Mo_sumBy_17 ((120 + i / 3 : Nat) : Int) (by omega) ?_
        refine w_iald hx hb hK hP 1 0 rfl rfl (120 + i / 3) (by omega) (by omega) (by omega) d_Mo_sumBy_18 ?_
        refine w_if_le (tgt := 41) hx hb d_Mo_sumBy_19 (by decide) (by omega) (fun c_19 => ?_) (fun c_19 => ?_)
        · refine lv_iconst (v := J (0)) hx hb d_Mo_sumBy_41 rfl ?_
          refine lv_istore (lv' := [(4, .int (J 0)), (0, .ref o), (1, .int (J ((en : Nat) : Int))), (2, .int (J 0)), (3, .int (J ((i : Nat) : Int)))]) hx hb d_Mo_sumBy_42 hl (by decide) rfl (fun ls hl => ?_)
          refine lv_aload_n hx hb d_Mo_sumBy_44 rfl (lv_at hl 1 rfl) ?_
          refine va_get (D := D) (ci := 8) (v := .ref pB) (C := R_Mo) (T := T_Mo) (N := 17) hx hb hts i_Mo hown hK hP 0 rfl rfl 15 (by decide) (hts _ mw_566) (fun _ h9 => h9) rfl d_Mo_sumBy_45 ?_
          refine lv_iload_n hx hb d_Mo_sumBy_48 rfl (lv_at hl 4 rfl) ?_
          refine lv_iload hx hb d_Mo_sumBy_49 (lv_at hl 0 rfl) ?_
          refine w_if_ne (tgt := 58) hx hb d_Mo_sumBy_51 (by decide) (by omega) (fun c_51 => ?_) (fun c_51 => ?_)
          · exfalso; omega
          · refine lv_iconst (v := J (0)) hx hb d_Mo_sumBy_54 rfl ?_
            refine lv_goto (tgt := 99) hx hb d_Mo_sumBy_55 (by decide) ?_
            refine w_iast hx hb hK hP hD hS 5 0 rfl rfl i (by omega) (by omega) (by omega) d_Mo_sumBy_99 (fun H locs hP hD hS => ?_)
            have hP : va_P D classes [(o, .inr (8, [.int (J th), .int (J ((n : Nat) : Int)), .ref p1, .ref p2, .ref p3, .ref p4, .ref p5, .ref p6, .int (J ap), .ref p7, .int (J ((fn : Nat) : Int)), .ref p8, .ref p9, .int (J wk), .ref pA, .ref pB, .ref pC])), (p5, ca cI 123 ln), (p6, ca cI 1230 gl), (p7, ca cI 6 wt), (pA, ca cI 121 xp), (pB, ca cI 9 (iu xm i 0)), (pC, ca cI 3 wy)] H := hP
            have hD : va_D A [(o, .inr (8, [.int (J th), .int (J ((n : Nat) : Int)), .ref p1, .ref p2, .ref p3, .ref p4, .ref p5, .ref p6, .int (J ap), .ref p7, .int (J ((fn : Nat) : Int)), .ref p8, .ref p9, .int (J wk), .ref pA, .ref pB, .ref pC])), (p5, ca cI 123 ln), (p6, ca cI 1230 gl), (p7, ca cI 6 wt), (pA, ca cI 121 xp), (pB, ca cI 9 (iu xm i 0)), (pC, ca cI 3 wy)] := hD
            refine w_iinc (k := 4) (lv' := [(3, .int (J ((i + 1 : Nat) : Int))), (4, .int (J 0)), (0, .ref o), (1, .int (J ((en : Nat) : Int))), (2, .int (J 0))]) hx hb d_Mo_sumBy_100 hl rfl ((i + 1 : Nat) : Int) (by omega) (by decide) rfl (fun ls hl => ?_)
            refine lv_goto (tgt := 2) hx hb d_Mo_sumBy_103 (by decide) ?_
            have hbz := cmc_rg (gl := gl) hw hln en i
            exact ih_2 (i + 1) (iu xm i 0) xp (by omega) (cmf_s hm ((if_neg (by show ¬ (0 < ln (120 + i / 3) ∧ 0 < ln (3 * en + i % 3)); omega)).symm)) (fun j => by unfold iu; split; (first | exact hbz | omega); exact hmb j) (by omega) _ _ (P_map hP [0, 1, 2, 3, 4, 5, 6] rfl) (hD.sub [0, 1, 2, 3, 4, 5, 6] (by decide) rfl) hS ls (lv_sub hl [2, 3, 4, 0] rfl)
        · refine lv_aload_n hx hb d_Mo_sumBy_22 rfl (lv_at hl 0 rfl) ?_
          refine va_get (D := D) (ci := 8) (v := .ref p5) (C := R_Mo) (T := T_Mo) (N := 17) hx hb hts i_Mo hown hK hP 0 rfl rfl 6 (by decide) (hts _ mw_557) (fun _ h9 => h9) rfl d_Mo_sumBy_23 ?_
          refine lv_iconst (v := J (3)) hx hb d_Mo_sumBy_26 rfl ?_
          refine lv_iload_n hx hb d_Mo_sumBy_27 rfl (lv_at hl 1 rfl) ?_
          refine w_imul hx hb d_Mo_sumBy_28 ((3 * en : Nat) : Int) (by omega) ?_
          refine lv_iload_n hx hb d_Mo_sumBy_29 rfl (lv_at hl 3 rfl) ?_
          refine lv_iconst (v := J (3)) hx hb d_Mo_sumBy_30 rfl ?_
          refine w_irem hx hb d_Mo_sumBy_31 (by omega) (by omega) (by omega) (by omega) ((i % 3 : Nat) : Int) (by omega) ?_
          refine w_iadd hx hb d_Mo_sumBy_32 ((3 * en + i % 3 : Nat) : Int) (by omega) ?_
          refine w_iald hx hb hK hP 1 0 rfl rfl (3 * en + i % 3) (by omega) (by omega) (by omega) d_Mo_sumBy_33 ?_
          refine w_if_le (tgt := 41) hx hb d_Mo_sumBy_34 (by decide) (by omega) (fun c_34 => ?_) (fun c_34 => ?_)
          · refine lv_iconst (v := J (0)) hx hb d_Mo_sumBy_41 rfl ?_
            refine lv_istore (lv' := [(4, .int (J 0)), (0, .ref o), (1, .int (J ((en : Nat) : Int))), (2, .int (J 0)), (3, .int (J ((i : Nat) : Int)))]) hx hb d_Mo_sumBy_42 hl (by decide) rfl (fun ls hl => ?_)
            refine lv_aload_n hx hb d_Mo_sumBy_44 rfl (lv_at hl 1 rfl) ?_
            refine va_get (D := D) (ci := 8) (v := .ref pB) (C := R_Mo) (T := T_Mo) (N := 17) hx hb hts i_Mo hown hK hP 0 rfl rfl 15 (by decide) (hts _ mw_566) (fun _ h9 => h9) rfl d_Mo_sumBy_45 ?_
            refine lv_iload_n hx hb d_Mo_sumBy_48 rfl (lv_at hl 4 rfl) ?_
            refine lv_iload hx hb d_Mo_sumBy_49 (lv_at hl 0 rfl) ?_
            refine w_if_ne (tgt := 58) hx hb d_Mo_sumBy_51 (by decide) (by omega) (fun c_51 => ?_) (fun c_51 => ?_)
            · exfalso; omega
            · refine lv_iconst (v := J (0)) hx hb d_Mo_sumBy_54 rfl ?_
              refine lv_goto (tgt := 99) hx hb d_Mo_sumBy_55 (by decide) ?_
              refine w_iast hx hb hK hP hD hS 5 0 rfl rfl i (by omega) (by omega) (by omega) d_Mo_sumBy_99 (fun H locs hP hD hS => ?_)
              have hP : va_P D classes [(o, .inr (8, [.int (J th), .int (J ((n : Nat) : Int)), .ref p1, .ref p2, .ref p3, .ref p4, .ref p5, .ref p6, .int (J ap), .ref p7, .int (J ((fn : Nat) : Int)), .ref p8, .ref p9, .int (J wk), .ref pA, .ref pB, .ref pC])), (p5, ca cI 123 ln), (p6, ca cI 1230 gl), (p7, ca cI 6 wt), (pA, ca cI 121 xp), (pB, ca cI 9 (iu xm i 0)), (pC, ca cI 3 wy)] H := hP
              have hD : va_D A [(o, .inr (8, [.int (J th), .int (J ((n : Nat) : Int)), .ref p1, .ref p2, .ref p3, .ref p4, .ref p5, .ref p6, .int (J ap), .ref p7, .int (J ((fn : Nat) : Int)), .ref p8, .ref p9, .int (J wk), .ref pA, .ref pB, .ref pC])), (p5, ca cI 123 ln), (p6, ca cI 1230 gl), (p7, ca cI 6 wt), (pA, ca cI 121 xp), (pB, ca cI 9 (iu xm i 0)), (pC, ca cI 3 wy)] := hD
              refine w_iinc (k := 4) (lv' := [(3, .int (J ((i + 1 : Nat) : Int))), (4, .int (J 0)), (0, .ref o), (1, .int (J ((en : Nat) : Int))), (2, .int (J 0))]) hx hb d_Mo_sumBy_100 hl rfl ((i + 1 : Nat) : Int) (by omega) (by decide) rfl (fun ls hl => ?_)
              refine lv_goto (tgt := 2) hx hb d_Mo_sumBy_103 (by decide) ?_
              have hbz := cmc_rg (gl := gl) hw hln en i
              exact ih_2 (i + 1) (iu xm i 0) xp (by omega) (cmf_s hm ((if_neg (by show ¬ (0 < ln (120 + i / 3) ∧ 0 < ln (3 * en + i % 3)); omega)).symm)) (fun j => by unfold iu; split; (first | exact hbz | omega); exact hmb j) (by omega) _ _ (P_map hP [0, 1, 2, 3, 4, 5, 6] rfl) (hD.sub [0, 1, 2, 3, 4, 5, 6] (by decide) rfl) hS ls (lv_sub hl [2, 3, 4, 0] rfl)
          · refine lv_iconst (v := J (1)) hx hb d_Mo_sumBy_37 rfl ?_
            refine lv_goto (tgt := 42) hx hb d_Mo_sumBy_38 (by decide) ?_
            refine lv_istore (lv' := [(4, .int (J 1)), (0, .ref o), (1, .int (J ((en : Nat) : Int))), (2, .int (J 0)), (3, .int (J ((i : Nat) : Int)))]) hx hb d_Mo_sumBy_42 hl (by decide) rfl (fun ls hl => ?_)
            refine lv_aload_n hx hb d_Mo_sumBy_44 rfl (lv_at hl 1 rfl) ?_
            refine va_get (D := D) (ci := 8) (v := .ref pB) (C := R_Mo) (T := T_Mo) (N := 17) hx hb hts i_Mo hown hK hP 0 rfl rfl 15 (by decide) (hts _ mw_566) (fun _ h9 => h9) rfl d_Mo_sumBy_45 ?_
            refine lv_iload_n hx hb d_Mo_sumBy_48 rfl (lv_at hl 4 rfl) ?_
            refine lv_iload hx hb d_Mo_sumBy_49 (lv_at hl 0 rfl) ?_
            refine w_if_ne (tgt := 58) hx hb d_Mo_sumBy_51 (by decide) (by omega) (fun c_51 => ?_) (fun c_51 => ?_)
            · refine lv_iload_n hx hb d_Mo_sumBy_58 rfl (lv_at hl 3 rfl) ?_
              refine w_if_eq (tgt := 82) hx hb d_Mo_sumBy_59 (by decide) (by omega) (fun c_59 => ?_) (fun c_59 => ?_)
              · refine lv_aload_n hx hb d_Mo_sumBy_82 rfl (lv_at hl 1 rfl) ?_
                refine lv_bipush (v := J (120)) hx hb d_Mo_sumBy_83 (by decide) ?_
                refine lv_iload_n hx hb d_Mo_sumBy_85 rfl (lv_at hl 4 rfl) ?_
                refine lv_iconst (v := J (3)) hx hb d_Mo_sumBy_86 rfl ?_
                refine w_idiv hx hb d_Mo_sumBy_87 (by omega) (by omega) (by omega) (by omega) ((i / 3 : Nat) : Int) (by omega) ?_
                refine w_iadd hx hb d_Mo_sumBy_88 ((120 + i / 3 : Nat) : Int) (by omega) ?_
                refine lv_iconst (v := J (3)) hx hb d_Mo_sumBy_89 rfl ?_
                refine lv_iload_n hx hb d_Mo_sumBy_90 rfl (lv_at hl 2 rfl) ?_
                refine w_imul hx hb d_Mo_sumBy_91 ((3 * en : Nat) : Int) (by omega) ?_
                refine lv_iload_n hx hb d_Mo_sumBy_92 rfl (lv_at hl 4 rfl) ?_
                refine lv_iconst (v := J (3)) hx hb d_Mo_sumBy_93 rfl ?_
                refine w_irem hx hb d_Mo_sumBy_94 (by omega) (by omega) (by omega) (by omega) ((i % 3 : Nat) : Int) (by omega) ?_
                refine w_iadd hx hb d_Mo_sumBy_95 ((3 * en + i % 3 : Nat) : Int) (by omega) ?_
                refine Mi_call (wr := [(pB, ca cI 9 xm), (pC, ca cI 3 wy)]) (va_runV (As := [.int (J ((120 + i / 3 : Nat) : Int)), .int (J ((3 * en + i % 3 : Nat) : Int))]) (rest := [.int (J ((i : Nat) : Int)), .ref pB]) ⟨hx, hb, hml, hown, hts⟩ (c_Mo_change l D cI cZ cJ H.size o p1 p2 p3 p4 p5 p6 p7 p8 p9 pA pB pC th n ap fn wk ln gl wt xp (120 + i / 3) (3 * en + i % 3) (by first | with_reducible assumption | omega) (by first | with_reducible assumption | omega) (by first | with_reducible assumption | omega) (by first | with_reducible assumption | omega)) (cwV 2 hts (g_V mw_669 mw_671 mw_18 mw_33 mw_672) rfl rfl rfl (by decide +kernel) ⟨Nat.le_of_ble_eq_true rfl, Nat.le_of_ble_eq_true rfl⟩) (pre_WV hP hK hD [0, 1, 2, 3, 4] rfl (by decide) 8 0 rfl rfl (fun h => Bool.noConfusion h)) rfl rfl hl.1 rfl (lv_room (Nat.le_of_ble_eq_true rfl)) d_Mo_sumBy_96 ⟨Nat.le_of_ble_eq_true rfl, Nat.le_of_ble_eq_true rfl⟩) hP hD hS hA [0, 1, 2, 3, 4] [5, 6] rfl rfl (by decide) (by decide) (fun u_96 H locs hu_96 hP hD hS => ?_)
                have hP : va_P D classes [(pB, ca cI 9 xm), (pC, ca cI 3 wy), (o, .inr (8, [.int (J th), .int (J ((n : Nat) : Int)), .ref p1, .ref p2, .ref p3, .ref p4, .ref p5, .ref p6, .int (J ap), .ref p7, .int (J ((fn : Nat) : Int)), .ref p8, .ref p9, .int (J wk), .ref pA, .ref pB, .ref pC])), (p5, ca cI 123 ln), (p6, ca cI 1230 gl), (p7, ca cI 6 wt), (pA, ca cI 121 u_96)] H := hP
                have hD : va_D A [(pB, ca cI 9 xm), (pC, ca cI 3 wy), (o, .inr (8, [.int (J th), .int (J ((n : Nat) : Int)), .ref p1, .ref p2, .ref p3, .ref p4, .ref p5, .ref p6, .int (J ap), .ref p7, .int (J ((fn : Nat) : Int)), .ref p8, .ref p9, .int (J wk), .ref pA, .ref pB, .ref pC])), (p5, ca cI 123 ln), (p6, ca cI 1230 gl), (p7, ca cI 6 wt), (pA, ca cI 121 u_96)] := hD
                refine tp_J (y := (cmc wt ln gl en) i) (rfl) ?_
                refine w_iast hx hb hK hP hD hS 0 0 rfl rfl i (by omega) (by omega) (by omega) d_Mo_sumBy_99 (fun H locs hP hD hS => ?_)
                have hP : va_P D classes [(pB, ca cI 9 (iu xm i ((cmc wt ln gl en) i))), (pC, ca cI 3 wy), (o, .inr (8, [.int (J th), .int (J ((n : Nat) : Int)), .ref p1, .ref p2, .ref p3, .ref p4, .ref p5, .ref p6, .int (J ap), .ref p7, .int (J ((fn : Nat) : Int)), .ref p8, .ref p9, .int (J wk), .ref pA, .ref pB, .ref pC])), (p5, ca cI 123 ln), (p6, ca cI 1230 gl), (p7, ca cI 6 wt), (pA, ca cI 121 u_96)] H := hP
                have hD : va_D A [(pB, ca cI 9 (iu xm i ((cmc wt ln gl en) i))), (pC, ca cI 3 wy), (o, .inr (8, [.int (J th), .int (J ((n : Nat) : Int)), .ref p1, .ref p2, .ref p3, .ref p4, .ref p5, .ref p6, .int (J ap), .ref p7, .int (J ((fn : Nat) : Int)), .ref p8, .ref p9, .int (J wk), .ref pA, .ref pB, .ref pC])), (p5, ca cI 123 ln), (p6, ca cI 1230 gl), (p7, ca cI 6 wt), (pA, ca cI 121 u_96)] := hD
                refine w_iinc (k := 4) (lv' := [(3, .int (J ((i + 1 : Nat) : Int))), (4, .int (J 1)), (0, .ref o), (1, .int (J ((en : Nat) : Int))), (2, .int (J 0))]) hx hb d_Mo_sumBy_100 hl rfl ((i + 1 : Nat) : Int) (by omega) (by decide) rfl (fun ls hl => ?_)
                refine lv_goto (tgt := 2) hx hb d_Mo_sumBy_103 (by decide) ?_
                have hbz := cmc_rg (gl := gl) hw hln en i
                exact ih_2 (i + 1) (iu xm i ((cmc wt ln gl en) i)) u_96 (by omega) (cmf_s hm ((if_pos (show 0 < ln (120 + i / 3) ∧ 0 < ln (3 * en + i % 3) from ⟨by omega, by omega⟩)).symm)) (fun j => by unfold iu; split; (first | exact hbz | omega); exact hmb j) (by omega) _ _ (P_map hP [2, 3, 4, 5, 6, 0, 1] rfl) (hD.sub [2, 3, 4, 5, 6, 0, 1] (by decide) rfl) hS ls (lv_sub hl [2, 3, 4, 0] rfl)
              · exfalso; omega
            · exfalso; omega
  exact lp_2 ((9 - 0) + 1) 0 cm sp (by omega) (fun j hj => absurd hj (Nat.not_lt_zero _)) (hcm) (Nat.lt_succ_self _) _ _ (P_map hP [0, 1, 2, 3, 4, 5, 6] rfl) (hD.sub [0, 1, 2, 3, 4, 5, 6] (by decide) rfl) hS ls (lv_sub hl [1, 2, 3, 0] rfl)
set_option maxHeartbeats 4000000 in
set_option maxRecDepth 100000 in
theorem c_Mo_sumBy_n (l : Launch) (D : va_G) (cI cZ cJ : ClassId) (sz : Nat) (o : Nat) (p1 : Nat) (p2 : Nat) (p3 : Nat) (p4 : Nat) (p5 : Nat) (p6 : Nat) (p7 : Nat) (p8 : Nat) (p9 : Nat) (pA : Nat) (pB : Nat) (pC : Nat) (th : Int) (n : Nat) (ap : Int) (fn : Nat) (wk : Int) (ln : Nat → Int) (gl : Nat → Int) (wt : Nat → Int) (cm : Nat → Int) (wy : Nat → Int) (en : Nat) (hw : ∀ k, 0 ≤ wt k ∧ wt k ≤ 1000) (hln : ∀ k, 0 ≤ ln k ∧ ln k ≤ 10) (hgl : ∀ k, 0 ≤ gl k ∧ gl k < 26) (hcm : ∀ j, 0 ≤ cm j ∧ cm j ≤ 20000) (hen : en < 40) : Mi l y_Mo_sumBy w_Mo_sumBy ({ frames := 2, cells := 0, slots := 0, locals := 51 }) false D classes [(cI, .int), (cZ, .boolean), (cJ, .long)] sz [.ref o, .int (J ((en : Nat) : Int)), .int (J 1)] [(o, .inr (8, [.int (J th), .int (J ((n : Nat) : Int)), .ref p1, .ref p2, .ref p3, .ref p4, .ref p5, .ref p6, .int (J ap), .ref p7, .int (J ((fn : Nat) : Int)), .ref p8, .ref p9, .int (J wk), .ref pA, .ref pB, .ref pC])), (p5, ca cI 123 ln), (p6, ca cI 1230 gl), (p7, ca cI 6 wt), (pB, ca cI 9 cm), (pC, ca cI 3 wy)] ((pkw (shf ln 120) (shf ln (3 * en)) wt (cmn wt ln gl en) (nw (shf ln 120) + nw (shf ln (3 * en))) 64).1) (S := (Nat → Int) × (Nat → Int)) (fun f => (∀ j, 0 ≤ f.1 j ∧ f.1 j ≤ 20000) ∧ ∀ w, w < 3 → f.2 w = dgt (pkw (shf ln 120) (shf ln (3 * en)) wt (cmn wt ln gl en) (nw (shf ln 120) + nw (shf ln (3 * en))) 64).2 w) (fun u : (Nat → Int) × (Nat → Int) => [(o, .inr (8, [.int (J th), .int (J ((n : Nat) : Int)), .ref p1, .ref p2, .ref p3, .ref p4, .ref p5, .ref p6, .int (J ap), .ref p7, .int (J ((fn : Nat) : Int)), .ref p8, .ref p9, .int (J wk), .ref pA, .ref pB, .ref pC])), (p5, ca cI 123 ln), (p6, ca cI 1230 gl), (p7, ca cI 6 wt), (pB, ca cI 9 (u.1)), (pC, ca cI 3 (u.2))]) 0 0 := by
  refine Mi_of (cc := b_Mo_sumBy) (maxL := 12) (by decide) rfl (Nat.le_of_ble_eq_true rfl) ?_
  intro p e s m args below meth c hx hb hr hml hts hown hlocks A hA hP hK hD hT hS Q hQ H hH ls hl
  subst hH
  have hl : lv_has ls 12 [(0, .ref o), (1, .int (J ((en : Nat) : Int))), (2, .int (J 1))] := hl
  refine lv_iconst (v := J (0)) hx hb d_Mo_sumBy_0 rfl ?_
  refine lv_istore_n (lv' := [(3, .int (J 0)), (0, .ref o), (1, .int (J ((en : Nat) : Int))), (2, .int (J 1))]) hx hb d_Mo_sumBy_1 rfl hl (by decide) rfl (fun ls hl => ?_)
  have lp_2 : ∀ (fu : Nat) (i : Nat) (xm : Nat → Int), (i ≤ 9) → (cmf (shf ln 120) (shf ln (3 * en)) (cmn wt ln gl en) xm i) → (∀ j, 0 ≤ xm j ∧ xm j ≤ 20000) → (9 - i) < fu → ∀ (H : Heap) (locs : List Loc), va_P D classes [(o, .inr (8, [.int (J th), .int (J ((n : Nat) : Int)), .ref p1, .ref p2, .ref p3, .ref p4, .ref p5, .ref p6, .int (J ap), .ref p7, .int (J ((fn : Nat) : Int)), .ref p8, .ref p9, .int (J wk), .ref pA, .ref pB, .ref pC])), (p5, ca cI 123 ln), (p6, ca cI 1230 gl), (p7, ca cI 6 wt), (pB, ca cI 9 xm), (pC, ca cI 3 wy)] H → va_D A [(o, .inr (8, [.int (J th), .int (J ((n : Nat) : Int)), .ref p1, .ref p2, .ref p3, .ref p4, .ref p5, .ref p6, .int (J ap), .ref p7, .int (J ((fn : Nat) : Int)), .ref p8, .ref p9, .int (J wk), .ref pA, .ref pB, .ref pC])), (p5, ca cI 123 ln), (p6, ca cI 1230 gl), (p7, ca cI 6 wt), (pB, ca cI 9 xm), (pC, ca cI 3 wy)] → va_S A s.heap H locs → ∀ ls : Array Slot, lv_has ls 12 [(0, .ref o), (1, .int (J ((en : Nat) : Int))), (2, .int (J 1)), (3, .int (J ((i : Nat) : Int)))] → W p l e ({ frames := 2, cells := 0, slots := 0, locals := 51 }) s m args below meth c H locs 0 0 Q (F0 m 2 ls []) := by
    intro fu
    induction fu with
    | zero => intro i xm hi hm hmb hfu; exact absurd hfu (Nat.not_lt_zero _)
    | succ fu ih_2 =>
      intro i xm hi hm hmb hfu H locs hP hD hS ls hl
      have f1 := hln (120 + i / 3)
      have f2 := hln (3 * en + i % 3)
      refine lv_iload_n hx hb d_Mo_sumBy_2 rfl (lv_at hl 3 rfl) ?_
      refine lv_bipush (v := J (9)) hx hb d_Mo_sumBy_3 (by decide) ?_
      refine w_icmp_ge (tgt := 106) hx hb d_Mo_sumBy_5 (by decide) (by omega) (by omega) (fun c_5 => ?_) (fun c_5 => ?_)
      · obtain rfl : i = 9 := by omega
        refine lv_aload_n hx hb d_Mo_sumBy_106 rfl (lv_at hl 0 rfl) ?_
        refine lv_bipush (v := J (120)) hx hb d_Mo_sumBy_107 (by decide) ?_
        refine Ri_call (va_runV (As := [.int (J 120)]) (rest := []) ⟨hx, hb, hml, hown, hts⟩ (c_Mo_words l D cI cZ cJ o p1 p2 p3 p4 p5 p6 p7 p8 p9 pA pB pC th n ap fn wk ln 120 (by first | with_reducible assumption | omega) (by first | with_reducible assumption | omega)) (cwV 1 hts (g_V mw_646 mw_648 mw_13 mw_33 mw_649) rfl rfl rfl (by decide +kernel) ⟨Nat.le_of_ble_eq_true rfl, Nat.le_of_ble_eq_true rfl⟩) (pre_RV hP hK [0, 1] rfl 8 0 rfl rfl) rfl rfl hl.1 rfl (lv_room (Nat.le_of_ble_eq_true rfl)) d_Mo_sumBy_109 ⟨Nat.le_of_ble_eq_true rfl, Nat.le_of_ble_eq_true rfl⟩) ?_
        refine lv_aload_n hx hb d_Mo_sumBy_112 rfl (lv_at hl 0 rfl) ?_
        refine lv_iconst (v := J (3)) hx hb d_Mo_sumBy_113 rfl ?_
        refine lv_iload_n hx hb d_Mo_sumBy_114 rfl (lv_at hl 1 rfl) ?_
        refine w_imul hx hb d_Mo_sumBy_115 ((3 * en : Nat) : Int) (by omega) ?_
        refine Ri_call (va_runV (As := [.int (J ((3 * en : Nat) : Int))]) (rest := [.int (J (nw (shf ln 120)))]) ⟨hx, hb, hml, hown, hts⟩ (c_Mo_words l D cI cZ cJ o p1 p2 p3 p4 p5 p6 p7 p8 p9 pA pB pC th n ap fn wk ln (3 * en) (by first | with_reducible assumption | omega) (by first | with_reducible assumption | omega)) (cwV 1 hts (g_V mw_646 mw_648 mw_13 mw_33 mw_649) rfl rfl rfl (by decide +kernel) ⟨Nat.le_of_ble_eq_true rfl, Nat.le_of_ble_eq_true rfl⟩) (pre_RV hP hK [0, 1] rfl 8 0 rfl rfl) rfl rfl hl.1 rfl (lv_room (Nat.le_of_ble_eq_true rfl)) d_Mo_sumBy_116 ⟨Nat.le_of_ble_eq_true rfl, Nat.le_of_ble_eq_true rfl⟩) ?_
        refine w_iadd hx hb d_Mo_sumBy_119 (nw (shf ln 120) + nw (shf ln (3 * en))) (rfl) ?_
        refine lv_istore_n (lv' := [(3, .int (J (nw (shf ln 120) + nw (shf ln (3 * en))))), (0, .ref o), (1, .int (J ((en : Nat) : Int))), (2, .int (J 1))]) hx hb d_Mo_sumBy_120 rfl hl (by decide) rfl (fun ls hl => ?_)
        refine lv_iconst (v := J (-1)) hx hb d_Mo_sumBy_121 rfl ?_
        refine lv_istore (lv' := [(4, .int (J (-1))), (3, .int (J (nw (shf ln 120) + nw (shf ln (3 * en))))), (0, .ref o), (1, .int (J ((en : Nat) : Int))), (2, .int (J 1))]) hx hb d_Mo_sumBy_122 hl (by decide) rfl (fun ls hl => ?_)
        refine lv_iconst (v := J (0)) hx hb d_Mo_sumBy_124 rfl ?_
        refine lv_istore (lv' := [(5, .int (J 0)), (4, .int (J (-1))), (3, .int (J (nw (shf ln 120) + nw (shf ln (3 * en))))), (0, .ref o), (1, .int (J ((en : Nat) : Int))), (2, .int (J 1))]) hx hb d_Mo_sumBy_125 hl (by decide) rfl (fun ls hl => ?_)
        have lp_127 : ∀ (fu : Nat) (i : Nat) (b : Int) (xw : Nat → Int), (i ≤ 64) → (sbi (shf ln 120) (shf ln (3 * en)) wt xm i b xw) → (64 - i) < fu → ∀ (H : Heap) (locs : List Loc), va_P D classes [(o, .inr (8, [.int (J th), .int (J ((n : Nat) : Int)), .ref p1, .ref p2, .ref p3, .ref p4, .ref p5, .ref p6, .int (J ap), .ref p7, .int (J ((fn : Nat) : Int)), .ref p8, .ref p9, .int (J wk), .ref pA, .ref pB, .ref pC])), (p5, ca cI 123 ln), (p6, ca cI 1230 gl), (p7, ca cI 6 wt), (pB, ca cI 9 xm), (pC, ca cI 3 xw)] H → va_D A [(o, .inr (8, [.int (J th), .int (J ((n : Nat) : Int)), .ref p1, .ref p2, .ref p3, .ref p4, .ref p5, .ref p6, .int (J ap), .ref p7, .int (J ((fn : Nat) : Int)), .ref p8, .ref p9, .int (J wk), .ref pA, .ref pB, .ref pC])), (p5, ca cI 123 ln), (p6, ca cI 1230 gl), (p7, ca cI 6 wt), (pB, ca cI 9 xm), (pC, ca cI 3 xw)] → va_S A s.heap H locs → ∀ ls : Array Slot, lv_has ls 12 [(0, .ref o), (1, .int (J ((en : Nat) : Int))), (2, .int (J 1)), (3, .int (J (nw (shf ln 120) + nw (shf ln (3 * en))))), (4, .int (J b)), (5, .int (J ((i : Nat) : Int)))] → W p l e ({ frames := 2, cells := 0, slots := 0, locals := 51 }) s m args below meth c H locs 0 0 Q (F0 m 127 ls []) := by
          intro fu
          induction fu with
          | zero => intro i b xw hi hsb hfu; exact absurd hfu (Nat.not_lt_zero _)
          | succ fu ih_127 =>
            intro i b xw hi hsb hfu H locs hP hD hS ls hl
            have d0 := dgt_rg i 0
            have d1 := dgt_rg i 1
            have d2 := dgt_rg i 2
            have br := sbi_rg hw hmb hsb
            refine lv_iload hx hb d_Mo_sumBy_127 (lv_at hl 5 rfl) ?_
            refine lv_bipush (v := J (64)) hx hb d_Mo_sumBy_129 (by decide) ?_
            refine w_icmp_ge (tgt := 387) hx hb d_Mo_sumBy_131 (by decide) (by omega) (by omega) (fun c_131 => ?_) (fun c_131 => ?_)
            · obtain rfl : i = 64 := by omega
              refine lv_iload hx hb d_Mo_sumBy_387 (lv_at hl 4 rfl) ?_
              exact Mi_ret hx hb hr hlocks hQ d_Mo_sumBy_389 hP hK hD hS nb_i ((sbi_e hsb hm).1) (xm, xw) (⟨hmb, (sbi_e hsb hm).2⟩) [0, 1, 2, 3, 4, 5] rfl (by decide)
            · refine lv_iload hx hb d_Mo_sumBy_134 (lv_at hl 5 rfl) ?_
              refine lv_bipush (v := J (16)) hx hb d_Mo_sumBy_136 (by decide) ?_
              refine w_idiv hx hb d_Mo_sumBy_138 (by omega) (by omega) (by omega) (by omega) ((i / 16 : Nat) : Int) (by omega) ?_
              refine lv_iconst (v := J (1)) hx hb d_Mo_sumBy_139 rfl ?_
              refine w_isub hx hb d_Mo_sumBy_140 (dgt i 0) (dg0 (by omega)) ?_
              refine lv_istore (lv' := [(6, .int (J (dgt i 0))), (0, .ref o), (1, .int (J ((en : Nat) : Int))), (2, .int (J 1)), (3, .int (J (nw (shf ln 120) + nw (shf ln (3 * en))))), (4, .int (J b)), (5, .int (J ((i : Nat) : Int)))]) hx hb d_Mo_sumBy_141 hl (by decide) rfl (fun ls hl => ?_)
              refine lv_iload hx hb d_Mo_sumBy_143 (lv_at hl 6 rfl) ?_
              refine lv_iconst (v := J (4)) hx hb d_Mo_sumBy_145 rfl ?_
              refine w_idiv hx hb d_Mo_sumBy_146 (by omega) (by omega) (by omega) (by omega) ((i / 4 : Nat) : Int) (by omega) ?_
              refine lv_iconst (v := J (4)) hx hb d_Mo_sumBy_147 rfl ?_
              refine w_irem hx hb d_Mo_sumBy_148 (by omega) (by omega) (by omega) (by omega) (((i / 4) % 4 : Nat) : Int) (by omega) ?_
              refine lv_iconst (v := J (1)) hx hb d_Mo_sumBy_149 rfl ?_
              refine w_isub hx hb d_Mo_sumBy_150 (dgt i 1) (dg1 i) ?_
              refine lv_istore (lv' := [(7, .int (J (dgt i 1))), (6, .int (J (dgt i 0))), (0, .ref o), (1, .int (J ((en : Nat) : Int))), (2, .int (J 1)), (3, .int (J (nw (shf ln 120) + nw (shf ln (3 * en))))), (4, .int (J b)), (5, .int (J ((i : Nat) : Int)))]) hx hb d_Mo_sumBy_151 hl (by decide) rfl (fun ls hl => ?_)
              refine lv_iload hx hb d_Mo_sumBy_153 (lv_at hl 7 rfl) ?_
              refine lv_iconst (v := J (4)) hx hb d_Mo_sumBy_155 rfl ?_
              refine w_irem hx hb d_Mo_sumBy_156 (by omega) (by omega) (by omega) (by omega) ((i % 4 : Nat) : Int) (by omega) ?_
              refine lv_iconst (v := J (1)) hx hb d_Mo_sumBy_157 rfl ?_
              refine w_isub hx hb d_Mo_sumBy_158 (dgt i 2) (dg2 i) ?_
              refine lv_istore (lv' := [(8, .int (J (dgt i 2))), (7, .int (J (dgt i 1))), (6, .int (J (dgt i 0))), (0, .ref o), (1, .int (J ((en : Nat) : Int))), (2, .int (J 1)), (3, .int (J (nw (shf ln 120) + nw (shf ln (3 * en))))), (4, .int (J b)), (5, .int (J ((i : Nat) : Int)))]) hx hb d_Mo_sumBy_159 hl (by decide) rfl (fun ls hl => ?_)
              have j_197 : ∀ ls : Array Slot, lv_has ls 12 [(0, .ref o), (1, .int (J ((en : Nat) : Int))), (2, .int (J 1)), (3, .int (J (nw (shf ln 120) + nw (shf ln (3 * en))))), (4, .int (J b)), (5, .int (J ((i : Nat) : Int))), (6, .int (J (dgt i 0))), (7, .int (J (dgt i 1))), (8, .int (J (dgt i 2)))] → W p l e ({ frames := 2, cells := 0, slots := 0, locals := 51 }) s m args below meth c H locs 0 0 Q (F0 m 197 ls [.int (J (b2 ((dgt i 0 < 0 ∨ (dgt i 0 ≠ dgt i 1 ∧ dgt i 0 ≠ dgt i 2)) ∧ (dgt i 1 < 0 ∨ dgt i 1 ≠ dgt i 2))))]) := by
                intro ls hl
                refine lv_istore (lv' := [(9, .int (J (b2 ((dgt i 0 < 0 ∨ (dgt i 0 ≠ dgt i 1 ∧ dgt i 0 ≠ dgt i 2)) ∧ (dgt i 1 < 0 ∨ dgt i 1 ≠ dgt i 2))))), (0, .ref o), (1, .int (J ((en : Nat) : Int))), (2, .int (J 1)), (3, .int (J (nw (shf ln 120) + nw (shf ln (3 * en))))), (4, .int (J b)), (5, .int (J ((i : Nat) : Int))), (6, .int (J (dgt i 0))), (7, .int (J (dgt i 1))), (8, .int (J (dgt i 2)))]) hx hb d_Mo_sumBy_197 hl (by decide) rfl (fun ls hl => ?_)
                refine lv_iload hx hb d_Mo_sumBy_199 (lv_at hl 0 rfl) ?_
                refine w_if_eq (tgt := 381) hx hb d_Mo_sumBy_201 (by decide) (rg_b2) (fun c_201 => ?_) (fun c_201 => ?_)
                · have c_201 := b2_0.mp c_201
                  refine w_iinc (k := 6) (lv' := [(5, .int (J ((i + 1 : Nat) : Int))), (9, .int (J (b2 ((dgt i 0 < 0 ∨ (dgt i 0 ≠ dgt i 1 ∧ dgt i 0 ≠ dgt i 2)) ∧ (dgt i 1 < 0 ∨ dgt i 1 ≠ dgt i 2))))), (0, .ref o), (1, .int (J ((en : Nat) : Int))), (2, .int (J 1)), (3, .int (J (nw (shf ln 120) + nw (shf ln (3 * en))))), (4, .int (J b)), (6, .int (J (dgt i 0))), (7, .int (J (dgt i 1))), (8, .int (J (dgt i 2)))]) hx hb d_Mo_sumBy_381 hl rfl ((i + 1 : Nat) : Int) (by omega) (by decide) rfl (fun ls hl => ?_)
                  refine lv_goto (tgt := 127) hx hb d_Mo_sumBy_384 (by decide) ?_
                  exact ih_127 (i + 1) b xw (by omega) (sbi_no hsb (fun z => c_201 z.1)) (by omega) _ _ (P_map hP [0, 1, 2, 3, 4, 5] rfl) (hD.sub [0, 1, 2, 3, 4, 5] (by decide) rfl) hS ls (lv_sub hl [2, 3, 4, 5, 6, 0] rfl)
                · have c_201 := b2_n0.mp c_201
                  refine lv_aload_n hx hb d_Mo_sumBy_204 rfl (lv_at hl 1 rfl) ?_
                  refine lv_iload_n hx hb d_Mo_sumBy_205 rfl (lv_at hl 2 rfl) ?_
                  refine lv_iconst (v := J (0)) hx hb d_Mo_sumBy_206 rfl ?_
                  refine lv_iload hx hb d_Mo_sumBy_207 (lv_at hl 7 rfl) ?_
                  refine Ri_call (va_runV (As := [.int (J ((en : Nat) : Int)), .int (J 0), .int (J (dgt i 0))]) (rest := []) ⟨hx, hb, hml, hown, hts⟩ (c_Mo_may l D cI cZ cJ o p1 p2 p3 p4 p5 p6 p7 p8 p9 pA pB pC th n ap fn wk ln en 0 (dgt i 0) (by first | with_reducible assumption | omega) (by first | with_reducible assumption | omega)) (cwV 3 hts (g_V mw_681 mw_683 mw_20 mw_33 mw_684) rfl rfl rfl (by decide +kernel) ⟨Nat.le_of_ble_eq_true rfl, Nat.le_of_ble_eq_true rfl⟩) (pre_RV hP hK [0, 1] rfl 8 0 rfl rfl) rfl rfl hl.1 rfl (lv_room (Nat.le_of_ble_eq_true rfl)) d_Mo_sumBy_209 ⟨Nat.le_of_ble_eq_true rfl, Nat.le_of_ble_eq_true rfl⟩) ?_
                  refine w_if_eq (tgt := 381) hx hb d_Mo_sumBy_212 (by decide) (rg_b2) (fun c_212 => ?_) (fun c_212 => ?_)
                  · have c_212 := b2_0.mp c_212
                    refine w_iinc (k := 6) (lv' := [(5, .int (J ((i + 1 : Nat) : Int))), (9, .int (J (b2 ((dgt i 0 < 0 ∨ (dgt i 0 ≠ dgt i 1 ∧ dgt i 0 ≠ dgt i 2)) ∧ (dgt i 1 < 0 ∨ dgt i 1 ≠ dgt i 2))))), (0, .ref o), (1, .int (J ((en : Nat) : Int))), (2, .int (J 1)), (3, .int (J (nw (shf ln 120) + nw (shf ln (3 * en))))), (4, .int (J b)), (6, .int (J (dgt i 0))), (7, .int (J (dgt i 1))), (8, .int (J (dgt i 2)))]) hx hb d_Mo_sumBy_381 hl rfl ((i + 1 : Nat) : Int) (by omega) (by decide) rfl (fun ls hl => ?_)
                    refine lv_goto (tgt := 127) hx hb d_Mo_sumBy_384 (by decide) ?_
                    exact ih_127 (i + 1) b xw (by omega) (sbi_no hsb (fun z => c_212 z.2.1)) (by omega) _ _ (P_map hP [0, 1, 2, 3, 4, 5] rfl) (hD.sub [0, 1, 2, 3, 4, 5] (by decide) rfl) hS ls (lv_sub hl [2, 3, 4, 5, 6, 0] rfl)
                  · have c_212 := b2_n0.mp c_212
                    refine lv_aload_n hx hb d_Mo_sumBy_215 rfl (lv_at hl 1 rfl) ?_
                    refine lv_iload_n hx hb d_Mo_sumBy_216 rfl (lv_at hl 2 rfl) ?_
                    refine lv_iconst (v := J (1)) hx hb d_Mo_sumBy_217 rfl ?_
                    refine lv_iload hx hb d_Mo_sumBy_218 (lv_at hl 8 rfl) ?_
                    refine Ri_call (va_runV (As := [.int (J ((en : Nat) : Int)), .int (J 1), .int (J (dgt i 1))]) (rest := []) ⟨hx, hb, hml, hown, hts⟩ (c_Mo_may l D cI cZ cJ o p1 p2 p3 p4 p5 p6 p7 p8 p9 pA pB pC th n ap fn wk ln en 1 (dgt i 1) (by first | with_reducible assumption | omega) (by first | with_reducible assumption | omega)) (cwV 3 hts (g_V mw_681 mw_683 mw_20 mw_33 mw_684) rfl rfl rfl (by decide +kernel) ⟨Nat.le_of_ble_eq_true rfl, Nat.le_of_ble_eq_true rfl⟩) (pre_RV hP hK [0, 1] rfl 8 0 rfl rfl) rfl rfl hl.1 rfl (lv_room (Nat.le_of_ble_eq_true rfl)) d_Mo_sumBy_220 ⟨Nat.le_of_ble_eq_true rfl, Nat.le_of_ble_eq_true rfl⟩) ?_
                    refine w_if_eq (tgt := 381) hx hb d_Mo_sumBy_223 (by decide) (rg_b2) (fun c_223 => ?_) (fun c_223 => ?_)
                    · have c_223 := b2_0.mp c_223
                      refine w_iinc (k := 6) (lv' := [(5, .int (J ((i + 1 : Nat) : Int))), (9, .int (J (b2 ((dgt i 0 < 0 ∨ (dgt i 0 ≠ dgt i 1 ∧ dgt i 0 ≠ dgt i 2)) ∧ (dgt i 1 < 0 ∨ dgt i 1 ≠ dgt i 2))))), (0, .ref o), (1, .int (J ((en : Nat) : Int))), (2, .int (J 1)), (3, .int (J (nw (shf ln 120) + nw (shf ln (3 * en))))), (4, .int (J b)), (6, .int (J (dgt i 0))), (7, .int (J (dgt i 1))), (8, .int (J (dgt i 2)))]) hx hb d_Mo_sumBy_381 hl rfl ((i + 1 : Nat) : Int) (by omega) (by decide) rfl (fun ls hl => ?_)
                      refine lv_goto (tgt := 127) hx hb d_Mo_sumBy_384 (by decide) ?_
                      exact ih_127 (i + 1) b xw (by omega) (sbi_no hsb (fun z => c_223 z.2.2.1)) (by omega) _ _ (P_map hP [0, 1, 2, 3, 4, 5] rfl) (hD.sub [0, 1, 2, 3, 4, 5] (by decide) rfl) hS ls (lv_sub hl [2, 3, 4, 5, 6, 0] rfl)
                    · have c_223 := b2_n0.mp c_223
                      refine lv_aload_n hx hb d_Mo_sumBy_226 rfl (lv_at hl 1 rfl) ?_
                      refine lv_iload_n hx hb d_Mo_sumBy_227 rfl (lv_at hl 2 rfl) ?_
                      refine lv_iconst (v := J (2)) hx hb d_Mo_sumBy_228 rfl ?_
                      refine lv_iload hx hb d_Mo_sumBy_229 (lv_at hl 9 rfl) ?_
                      refine Ri_call (va_runV (As := [.int (J ((en : Nat) : Int)), .int (J 2), .int (J (dgt i 2))]) (rest := []) ⟨hx, hb, hml, hown, hts⟩ (c_Mo_may l D cI cZ cJ o p1 p2 p3 p4 p5 p6 p7 p8 p9 pA pB pC th n ap fn wk ln en 2 (dgt i 2) (by first | with_reducible assumption | omega) (by first | with_reducible assumption | omega)) (cwV 3 hts (g_V mw_681 mw_683 mw_20 mw_33 mw_684) rfl rfl rfl (by decide +kernel) ⟨Nat.le_of_ble_eq_true rfl, Nat.le_of_ble_eq_true rfl⟩) (pre_RV hP hK [0, 1] rfl 8 0 rfl rfl) rfl rfl hl.1 rfl (lv_room (Nat.le_of_ble_eq_true rfl)) d_Mo_sumBy_231 ⟨Nat.le_of_ble_eq_true rfl, Nat.le_of_ble_eq_true rfl⟩) ?_
                      refine w_if_eq (tgt := 381) hx hb d_Mo_sumBy_234 (by decide) (rg_b2) (fun c_234 => ?_) (fun c_234 => ?_)
                      · have c_234 := b2_0.mp c_234
                        refine w_iinc (k := 6) (lv' := [(5, .int (J ((i + 1 : Nat) : Int))), (9, .int (J (b2 ((dgt i 0 < 0 ∨ (dgt i 0 ≠ dgt i 1 ∧ dgt i 0 ≠ dgt i 2)) ∧ (dgt i 1 < 0 ∨ dgt i 1 ≠ dgt i 2))))), (0, .ref o), (1, .int (J ((en : Nat) : Int))), (2, .int (J 1)), (3, .int (J (nw (shf ln 120) + nw (shf ln (3 * en))))), (4, .int (J b)), (6, .int (J (dgt i 0))), (7, .int (J (dgt i 1))), (8, .int (J (dgt i 2)))]) hx hb d_Mo_sumBy_381 hl rfl ((i + 1 : Nat) : Int) (by omega) (by decide) rfl (fun ls hl => ?_)
                        refine lv_goto (tgt := 127) hx hb d_Mo_sumBy_384 (by decide) ?_
                        exact ih_127 (i + 1) b xw (by omega) (sbi_no hsb (fun z => c_234 z.2.2.2)) (by omega) _ _ (P_map hP [0, 1, 2, 3, 4, 5] rfl) (hD.sub [0, 1, 2, 3, 4, 5] (by decide) rfl) hS ls (lv_sub hl [2, 3, 4, 5, 6, 0] rfl)
                      · have c_234 := b2_n0.mp c_234
                        refine lv_iload hx hb d_Mo_sumBy_237 (lv_at hl 7 rfl) ?_
                        refine w_dge (tgt := 246) (X := 247) hx hb d_Mo_sumBy_239 (by decide) (by omega) d_Mo_sumBy_242 d_Mo_sumBy_243 (by decide) d_Mo_sumBy_246 rfl ?_
                        refine lv_iload hx hb d_Mo_sumBy_247 (lv_at hl 8 rfl) ?_
                        refine w_dge (tgt := 256) (X := 257) hx hb d_Mo_sumBy_249 (by decide) (by omega) d_Mo_sumBy_252 d_Mo_sumBy_253 (by decide) d_Mo_sumBy_256 rfl ?_
                        refine w_iadd hx hb d_Mo_sumBy_257 ((one (dgt i 0)) + (one (dgt i 1))) (rfl) ?_
                        refine lv_iload hx hb d_Mo_sumBy_258 (lv_at hl 9 rfl) ?_
                        refine w_dge (tgt := 267) (X := 268) hx hb d_Mo_sumBy_260 (by decide) (by omega) d_Mo_sumBy_263 d_Mo_sumBy_264 (by decide) d_Mo_sumBy_267 rfl ?_
                        refine w_iadd hx hb d_Mo_sumBy_268 (((one (dgt i 0)) + (one (dgt i 1))) + (one (dgt i 2))) (rfl) ?_
                        refine lv_istore (lv' := [(10, .int (J (((one (dgt i 0)) + (one (dgt i 1))) + (one (dgt i 2))))), (9, .int (J (b2 ((dgt i 0 < 0 ∨ (dgt i 0 ≠ dgt i 1 ∧ dgt i 0 ≠ dgt i 2)) ∧ (dgt i 1 < 0 ∨ dgt i 1 ≠ dgt i 2))))), (0, .ref o), (1, .int (J ((en : Nat) : Int))), (2, .int (J 1)), (3, .int (J (nw (shf ln 120) + nw (shf ln (3 * en))))), (4, .int (J b)), (5, .int (J ((i : Nat) : Int))), (6, .int (J (dgt i 0))), (7, .int (J (dgt i 1))), (8, .int (J (dgt i 2)))]) hx hb d_Mo_sumBy_269 hl (by decide) rfl (fun ls hl => ?_)
                        refine lv_aload_n hx hb d_Mo_sumBy_271 rfl (lv_at hl 2 rfl) ?_
                        refine lv_iconst (v := J (0)) hx hb d_Mo_sumBy_272 rfl ?_
                        refine lv_iload hx hb d_Mo_sumBy_273 (lv_at hl 8 rfl) ?_
                        refine Ri_call (va_runV (As := [.int (J 0), .int (J (dgt i 0))]) (rest := []) ⟨hx, hb, hml, hown, hts⟩ (c_Mo_cost l D cI cZ cJ o p1 p2 p3 p4 p5 p6 p7 p8 p9 pA pB pC th n ap fn wk xm 0 (dgt i 0) (by first | with_reducible assumption | omega)) (cwV 2 hts (g_V mw_685 mw_687 mw_21 mw_33 mw_688) rfl rfl rfl (by decide +kernel) ⟨Nat.le_of_ble_eq_true rfl, Nat.le_of_ble_eq_true rfl⟩) (pre_RV hP hK [0, 4] rfl 8 0 rfl rfl) rfl rfl hl.1 rfl (lv_room (Nat.le_of_ble_eq_true rfl)) d_Mo_sumBy_275 ⟨Nat.le_of_ble_eq_true rfl, Nat.le_of_ble_eq_true rfl⟩) ?_
                        refine lv_aload_n hx hb d_Mo_sumBy_278 rfl (lv_at hl 2 rfl) ?_
                        refine lv_iconst (v := J (1)) hx hb d_Mo_sumBy_279 rfl ?_
                        refine lv_iload hx hb d_Mo_sumBy_280 (lv_at hl 9 rfl) ?_
                        refine Ri_call (va_runV (As := [.int (J 1), .int (J (dgt i 1))]) (rest := [.int (J (csv xm 0 (dgt i 0)))]) ⟨hx, hb, hml, hown, hts⟩ (c_Mo_cost l D cI cZ cJ o p1 p2 p3 p4 p5 p6 p7 p8 p9 pA pB pC th n ap fn wk xm 1 (dgt i 1) (by first | with_reducible assumption | omega)) (cwV 2 hts (g_V mw_685 mw_687 mw_21 mw_33 mw_688) rfl rfl rfl (by decide +kernel) ⟨Nat.le_of_ble_eq_true rfl, Nat.le_of_ble_eq_true rfl⟩) (pre_RV hP hK [0, 4] rfl 8 0 rfl rfl) rfl rfl hl.1 rfl (lv_room (Nat.le_of_ble_eq_true rfl)) d_Mo_sumBy_282 ⟨Nat.le_of_ble_eq_true rfl, Nat.le_of_ble_eq_true rfl⟩) ?_
                        refine w_iadd hx hb d_Mo_sumBy_285 ((csv xm 0 (dgt i 0)) + (csv xm 1 (dgt i 1))) (rfl) ?_
                        refine lv_aload_n hx hb d_Mo_sumBy_286 rfl (lv_at hl 2 rfl) ?_
                        refine lv_iconst (v := J (2)) hx hb d_Mo_sumBy_287 rfl ?_
                        refine lv_iload hx hb d_Mo_sumBy_288 (lv_at hl 10 rfl) ?_
                        refine Ri_call (va_runV (As := [.int (J 2), .int (J (dgt i 2))]) (rest := [.int (J ((csv xm 0 (dgt i 0)) + (csv xm 1 (dgt i 1))))]) ⟨hx, hb, hml, hown, hts⟩ (c_Mo_cost l D cI cZ cJ o p1 p2 p3 p4 p5 p6 p7 p8 p9 pA pB pC th n ap fn wk xm 2 (dgt i 2) (by first | with_reducible assumption | omega)) (cwV 2 hts (g_V mw_685 mw_687 mw_21 mw_33 mw_688) rfl rfl rfl (by decide +kernel) ⟨Nat.le_of_ble_eq_true rfl, Nat.le_of_ble_eq_true rfl⟩) (pre_RV hP hK [0, 4] rfl 8 0 rfl rfl) rfl rfl hl.1 rfl (lv_room (Nat.le_of_ble_eq_true rfl)) d_Mo_sumBy_290 ⟨Nat.le_of_ble_eq_true rfl, Nat.le_of_ble_eq_true rfl⟩) ?_
                        refine w_iadd hx hb d_Mo_sumBy_293 (((csv xm 0 (dgt i 0)) + (csv xm 1 (dgt i 1))) + (csv xm 2 (dgt i 2))) (rfl) ?_
                        refine lv_aload_n hx hb d_Mo_sumBy_294 rfl (lv_at hl 2 rfl) ?_
                        refine va_get (D := D) (ci := 8) (v := .ref p7) (C := R_Mo) (T := T_Mo) (N := 17) hx hb hts i_Mo hown hK hP 0 rfl rfl 9 (by decide) (hts _ mw_560) (fun _ h9 => h9) rfl d_Mo_sumBy_295 ?_
                        refine lv_iconst (v := J (4)) hx hb d_Mo_sumBy_298 rfl ?_
                        refine w_iald hx hb hK hP 3 0 rfl rfl 4 (by omega) (by omega) (by omega) d_Mo_sumBy_299 ?_
                        refine lv_iload_n hx hb d_Mo_sumBy_300 rfl (lv_at hl 5 rfl) ?_
                        refine lv_iconst (v := J (2)) hx hb d_Mo_sumBy_301 rfl ?_
                        refine lv_iload hx hb d_Mo_sumBy_302 (lv_at hl 0 rfl) ?_
                        refine w_imul hx hb d_Mo_sumBy_304 (2 * (((one (dgt i 0)) + (one (dgt i 1))) + (one (dgt i 2)))) (rfl) ?_
                        refine w_isub hx hb d_Mo_sumBy_305 ((nw (shf ln 120) + nw (shf ln (3 * en))) - (2 * (((one (dgt i 0)) + (one (dgt i 1))) + (one (dgt i 2))))) (rfl) ?_
                        refine w_imul hx hb d_Mo_sumBy_306 ((wt 4) * ((nw (shf ln 120) + nw (shf ln (3 * en))) - (2 * (((one (dgt i 0)) + (one (dgt i 1))) + (one (dgt i 2)))))) (rfl) ?_
                        refine w_iadd hx hb d_Mo_sumBy_307 ((((csv xm 0 (dgt i 0)) + (csv xm 1 (dgt i 1))) + (csv xm 2 (dgt i 2))) + ((wt 4) * ((nw (shf ln 120) + nw (shf ln (3 * en))) - (2 * (((one (dgt i 0)) + (one (dgt i 1))) + (one (dgt i 2))))))) (rfl) ?_
                        refine lv_aload_n hx hb d_Mo_sumBy_308 rfl (lv_at hl 2 rfl) ?_
                        refine va_get (D := D) (ci := 8) (v := .ref p7) (C := R_Mo) (T := T_Mo) (N := 17) hx hb hts i_Mo hown hK hP 0 rfl rfl 9 (by decide) (hts _ mw_560) (fun _ h9 => h9) rfl d_Mo_sumBy_309 ?_
                        refine lv_iconst (v := J (5)) hx hb d_Mo_sumBy_312 rfl ?_
                        refine w_iald hx hb hK hP 3 0 rfl rfl 5 (by omega) (by omega) (by omega) d_Mo_sumBy_313 ?_
                        refine lv_iload hx hb d_Mo_sumBy_314 (lv_at hl 8 rfl) ?_
                        refine lv_iload hx hb d_Mo_sumBy_316 (lv_at hl 9 rfl) ?_
                        refine Ri_call (va_runS (As := [.int (J (dgt i 0)), .int (J (dgt i 1))]) (rest := [.int (J (wt 5)), .int (J ((((csv xm 0 (dgt i 0)) + (csv xm 1 (dgt i 1))) + (csv xm 2 (dgt i 2))) + ((wt 4) * ((nw (shf ln 120) + nw (shf ln (3 * en))) - (2 * (((one (dgt i 0)) + (one (dgt i 1))) + (one (dgt i 2))))))))]) ⟨hx, hb, hml, hown, hts⟩ (c_Mo_turned l D cI cZ cJ (dgt i 0) (dgt i 1) (by first | with_reducible assumption | omega) (by first | with_reducible assumption | omega)) (va_cwS 2 hts (g_S mw_689 mw_690 mw_33 mw_691) rfl rfl rfl (by decide +kernel) ⟨Nat.le_of_ble_eq_true rfl, Nat.le_of_ble_eq_true rfl⟩) (pre_RS hP hK [] rfl) rfl rfl hl.1 rfl (lv_room (Nat.le_of_ble_eq_true rfl)) d_Mo_sumBy_318 ⟨Nat.le_of_ble_eq_true rfl, Nat.le_of_ble_eq_true rfl⟩) ?_
                        refine lv_iload hx hb d_Mo_sumBy_321 (lv_at hl 8 rfl) ?_
                        refine lv_iload hx hb d_Mo_sumBy_323 (lv_at hl 10 rfl) ?_
                        refine Ri_call (va_runS (As := [.int (J (dgt i 0)), .int (J (dgt i 2))]) (rest := [.int (J (trn (dgt i 0) (dgt i 1))), .int (J (wt 5)), .int (J ((((csv xm 0 (dgt i 0)) + (csv xm 1 (dgt i 1))) + (csv xm 2 (dgt i 2))) + ((wt 4) * ((nw (shf ln 120) + nw (shf ln (3 * en))) - (2 * (((one (dgt i 0)) + (one (dgt i 1))) + (one (dgt i 2))))))))]) ⟨hx, hb, hml, hown, hts⟩ (c_Mo_turned l D cI cZ cJ (dgt i 0) (dgt i 2) (by first | with_reducible assumption | omega) (by first | with_reducible assumption | omega)) (va_cwS 2 hts (g_S mw_689 mw_690 mw_33 mw_691) rfl rfl rfl (by decide +kernel) ⟨Nat.le_of_ble_eq_true rfl, Nat.le_of_ble_eq_true rfl⟩) (pre_RS hP hK [] rfl) rfl rfl hl.1 rfl (lv_room (Nat.le_of_ble_eq_true rfl)) d_Mo_sumBy_325 ⟨Nat.le_of_ble_eq_true rfl, Nat.le_of_ble_eq_true rfl⟩) ?_
                        refine w_iadd hx hb d_Mo_sumBy_328 ((trn (dgt i 0) (dgt i 1)) + (trn (dgt i 0) (dgt i 2))) (rfl) ?_
                        refine lv_iload hx hb d_Mo_sumBy_329 (lv_at hl 9 rfl) ?_
                        refine lv_iload hx hb d_Mo_sumBy_331 (lv_at hl 10 rfl) ?_
                        refine Ri_call (va_runS (As := [.int (J (dgt i 1)), .int (J (dgt i 2))]) (rest := [.int (J ((trn (dgt i 0) (dgt i 1)) + (trn (dgt i 0) (dgt i 2)))), .int (J (wt 5)), .int (J ((((csv xm 0 (dgt i 0)) + (csv xm 1 (dgt i 1))) + (csv xm 2 (dgt i 2))) + ((wt 4) * ((nw (shf ln 120) + nw (shf ln (3 * en))) - (2 * (((one (dgt i 0)) + (one (dgt i 1))) + (one (dgt i 2))))))))]) ⟨hx, hb, hml, hown, hts⟩ (c_Mo_turned l D cI cZ cJ (dgt i 1) (dgt i 2) (by first | with_reducible assumption | omega) (by first | with_reducible assumption | omega)) (va_cwS 2 hts (g_S mw_689 mw_690 mw_33 mw_691) rfl rfl rfl (by decide +kernel) ⟨Nat.le_of_ble_eq_true rfl, Nat.le_of_ble_eq_true rfl⟩) (pre_RS hP hK [] rfl) rfl rfl hl.1 rfl (lv_room (Nat.le_of_ble_eq_true rfl)) d_Mo_sumBy_333 ⟨Nat.le_of_ble_eq_true rfl, Nat.le_of_ble_eq_true rfl⟩) ?_
                        refine w_iadd hx hb d_Mo_sumBy_336 (((trn (dgt i 0) (dgt i 1)) + (trn (dgt i 0) (dgt i 2))) + (trn (dgt i 1) (dgt i 2))) (rfl) ?_
                        refine w_imul hx hb d_Mo_sumBy_337 ((wt 5) * (((trn (dgt i 0) (dgt i 1)) + (trn (dgt i 0) (dgt i 2))) + (trn (dgt i 1) (dgt i 2)))) (rfl) ?_
                        refine w_iadd hx hb d_Mo_sumBy_338 (top wt xm (nw (shf ln 120) + nw (shf ln (3 * en))) (dgt i 0) (dgt i 1) (dgt i 2)) (rfl) ?_
                        refine lv_istore (lv' := [(11, .int (J (top wt xm (nw (shf ln 120) + nw (shf ln (3 * en))) (dgt i 0) (dgt i 1) (dgt i 2)))), (10, .int (J (((one (dgt i 0)) + (one (dgt i 1))) + (one (dgt i 2))))), (9, .int (J (b2 ((dgt i 0 < 0 ∨ (dgt i 0 ≠ dgt i 1 ∧ dgt i 0 ≠ dgt i 2)) ∧ (dgt i 1 < 0 ∨ dgt i 1 ≠ dgt i 2))))), (0, .ref o), (1, .int (J ((en : Nat) : Int))), (2, .int (J 1)), (3, .int (J (nw (shf ln 120) + nw (shf ln (3 * en))))), (4, .int (J b)), (5, .int (J ((i : Nat) : Int))), (6, .int (J (dgt i 0))), (7, .int (J (dgt i 1))), (8, .int (J (dgt i 2)))]) hx hb d_Mo_sumBy_339 hl (by decide) rfl (fun ls hl => ?_)
                        have tr := top_rg hw hmb d0 d1 d2 (show okp (shf ln 120) (shf ln (3 * en)) (dgt i 0) (dgt i 1) (dgt i 2) from ⟨c_201, c_212, c_223, c_234⟩)
                        refine lv_iload hx hb d_Mo_sumBy_341 (lv_at hl 7 rfl) ?_
                        refine w_if_lt (tgt := 353) hx hb d_Mo_sumBy_343 (by decide) (by omega) (fun c_343 => ?_) (fun c_343 => ?_)
                        · refine lv_iload hx hb d_Mo_sumBy_353 (lv_at hl 0 rfl) ?_
                          refine lv_istore (lv' := [(4, .int (J (top wt xm (nw (shf ln 120) + nw (shf ln (3 * en))) (dgt i 0) (dgt i 1) (dgt i 2)))), (11, .int (J (top wt xm (nw (shf ln 120) + nw (shf ln (3 * en))) (dgt i 0) (dgt i 1) (dgt i 2)))), (10, .int (J (((one (dgt i 0)) + (one (dgt i 1))) + (one (dgt i 2))))), (9, .int (J (b2 ((dgt i 0 < 0 ∨ (dgt i 0 ≠ dgt i 1 ∧ dgt i 0 ≠ dgt i 2)) ∧ (dgt i 1 < 0 ∨ dgt i 1 ≠ dgt i 2))))), (0, .ref o), (1, .int (J ((en : Nat) : Int))), (2, .int (J 1)), (3, .int (J (nw (shf ln 120) + nw (shf ln (3 * en))))), (5, .int (J ((i : Nat) : Int))), (6, .int (J (dgt i 0))), (7, .int (J (dgt i 1))), (8, .int (J (dgt i 2)))]) hx hb d_Mo_sumBy_355 hl (by decide) rfl (fun ls hl => ?_)
                          refine lv_aload_n hx hb d_Mo_sumBy_357 rfl (lv_at hl 4 rfl) ?_
                          refine va_get (D := D) (ci := 8) (v := .ref pC) (C := R_Mo) (T := T_Mo) (N := 17) hx hb hts i_Mo hown hK hP 0 rfl rfl 16 (by decide) (hts _ mw_567) (fun _ h9 => h9) rfl d_Mo_sumBy_358 ?_
                          refine lv_iconst (v := J (0)) hx hb d_Mo_sumBy_361 rfl ?_
                          refine lv_iload hx hb d_Mo_sumBy_362 (lv_at hl 9 rfl) ?_
                          refine w_iast hx hb hK hP hD hS 5 0 rfl rfl 0 (by omega) (by omega) (by omega) d_Mo_sumBy_364 (fun H locs hP hD hS => ?_)
                          have hP : va_P D classes [(o, .inr (8, [.int (J th), .int (J ((n : Nat) : Int)), .ref p1, .ref p2, .ref p3, .ref p4, .ref p5, .ref p6, .int (J ap), .ref p7, .int (J ((fn : Nat) : Int)), .ref p8, .ref p9, .int (J wk), .ref pA, .ref pB, .ref pC])), (p5, ca cI 123 ln), (p6, ca cI 1230 gl), (p7, ca cI 6 wt), (pB, ca cI 9 xm), (pC, ca cI 3 (iu xw 0 (dgt i 0)))] H := hP
                          have hD : va_D A [(o, .inr (8, [.int (J th), .int (J ((n : Nat) : Int)), .ref p1, .ref p2, .ref p3, .ref p4, .ref p5, .ref p6, .int (J ap), .ref p7, .int (J ((fn : Nat) : Int)), .ref p8, .ref p9, .int (J wk), .ref pA, .ref pB, .ref pC])), (p5, ca cI 123 ln), (p6, ca cI 1230 gl), (p7, ca cI 6 wt), (pB, ca cI 9 xm), (pC, ca cI 3 (iu xw 0 (dgt i 0)))] := hD
                          refine lv_aload_n hx hb d_Mo_sumBy_365 rfl (lv_at hl 4 rfl) ?_
                          refine va_get (D := D) (ci := 8) (v := .ref pC) (C := R_Mo) (T := T_Mo) (N := 17) hx hb hts i_Mo hown hK hP 0 rfl rfl 16 (by decide) (hts _ mw_567) (fun _ h9 => h9) rfl d_Mo_sumBy_366 ?_
                          refine lv_iconst (v := J (1)) hx hb d_Mo_sumBy_369 rfl ?_
                          refine lv_iload hx hb d_Mo_sumBy_370 (lv_at hl 10 rfl) ?_
                          refine w_iast hx hb hK hP hD hS 5 0 rfl rfl 1 (by omega) (by omega) (by omega) d_Mo_sumBy_372 (fun H locs hP hD hS => ?_)
                          have hP : va_P D classes [(o, .inr (8, [.int (J th), .int (J ((n : Nat) : Int)), .ref p1, .ref p2, .ref p3, .ref p4, .ref p5, .ref p6, .int (J ap), .ref p7, .int (J ((fn : Nat) : Int)), .ref p8, .ref p9, .int (J wk), .ref pA, .ref pB, .ref pC])), (p5, ca cI 123 ln), (p6, ca cI 1230 gl), (p7, ca cI 6 wt), (pB, ca cI 9 xm), (pC, ca cI 3 (iu (iu xw 0 (dgt i 0)) 1 (dgt i 1)))] H := hP
                          have hD : va_D A [(o, .inr (8, [.int (J th), .int (J ((n : Nat) : Int)), .ref p1, .ref p2, .ref p3, .ref p4, .ref p5, .ref p6, .int (J ap), .ref p7, .int (J ((fn : Nat) : Int)), .ref p8, .ref p9, .int (J wk), .ref pA, .ref pB, .ref pC])), (p5, ca cI 123 ln), (p6, ca cI 1230 gl), (p7, ca cI 6 wt), (pB, ca cI 9 xm), (pC, ca cI 3 (iu (iu xw 0 (dgt i 0)) 1 (dgt i 1)))] := hD
                          refine lv_aload_n hx hb d_Mo_sumBy_373 rfl (lv_at hl 4 rfl) ?_
                          refine va_get (D := D) (ci := 8) (v := .ref pC) (C := R_Mo) (T := T_Mo) (N := 17) hx hb hts i_Mo hown hK hP 0 rfl rfl 16 (by decide) (hts _ mw_567) (fun _ h9 => h9) rfl d_Mo_sumBy_374 ?_
                          refine lv_iconst (v := J (2)) hx hb d_Mo_sumBy_377 rfl ?_
                          refine lv_iload hx hb d_Mo_sumBy_378 (lv_at hl 11 rfl) ?_
                          refine w_iast hx hb hK hP hD hS 5 0 rfl rfl 2 (by omega) (by omega) (by omega) d_Mo_sumBy_380 (fun H locs hP hD hS => ?_)
                          have hP : va_P D classes [(o, .inr (8, [.int (J th), .int (J ((n : Nat) : Int)), .ref p1, .ref p2, .ref p3, .ref p4, .ref p5, .ref p6, .int (J ap), .ref p7, .int (J ((fn : Nat) : Int)), .ref p8, .ref p9, .int (J wk), .ref pA, .ref pB, .ref pC])), (p5, ca cI 123 ln), (p6, ca cI 1230 gl), (p7, ca cI 6 wt), (pB, ca cI 9 xm), (pC, ca cI 3 (iu (iu (iu xw 0 (dgt i 0)) 1 (dgt i 1)) 2 (dgt i 2)))] H := hP
                          have hD : va_D A [(o, .inr (8, [.int (J th), .int (J ((n : Nat) : Int)), .ref p1, .ref p2, .ref p3, .ref p4, .ref p5, .ref p6, .int (J ap), .ref p7, .int (J ((fn : Nat) : Int)), .ref p8, .ref p9, .int (J wk), .ref pA, .ref pB, .ref pC])), (p5, ca cI 123 ln), (p6, ca cI 1230 gl), (p7, ca cI 6 wt), (pB, ca cI 9 xm), (pC, ca cI 3 (iu (iu (iu xw 0 (dgt i 0)) 1 (dgt i 1)) 2 (dgt i 2)))] := hD
                          refine w_iinc (k := 8) (lv' := [(5, .int (J ((i + 1 : Nat) : Int))), (4, .int (J (top wt xm (nw (shf ln 120) + nw (shf ln (3 * en))) (dgt i 0) (dgt i 1) (dgt i 2)))), (11, .int (J (top wt xm (nw (shf ln 120) + nw (shf ln (3 * en))) (dgt i 0) (dgt i 1) (dgt i 2)))), (10, .int (J (((one (dgt i 0)) + (one (dgt i 1))) + (one (dgt i 2))))), (9, .int (J (b2 ((dgt i 0 < 0 ∨ (dgt i 0 ≠ dgt i 1 ∧ dgt i 0 ≠ dgt i 2)) ∧ (dgt i 1 < 0 ∨ dgt i 1 ≠ dgt i 2))))), (0, .ref o), (1, .int (J ((en : Nat) : Int))), (2, .int (J 1)), (3, .int (J (nw (shf ln 120) + nw (shf ln (3 * en))))), (6, .int (J (dgt i 0))), (7, .int (J (dgt i 1))), (8, .int (J (dgt i 2)))]) hx hb d_Mo_sumBy_381 hl rfl ((i + 1 : Nat) : Int) (by omega) (by decide) rfl (fun ls hl => ?_)
                          refine lv_goto (tgt := 127) hx hb d_Mo_sumBy_384 (by decide) ?_
                          exact ih_127 (i + 1) (top wt xm (nw (shf ln 120) + nw (shf ln (3 * en))) (dgt i 0) (dgt i 1) (dgt i 2)) (iu (iu (iu xw 0 (dgt i 0)) 1 (dgt i 1)) 2 (dgt i 2)) (by omega) (sbi_take hsb ⟨c_201, c_212, c_223, c_234⟩ (by omega)) (by omega) _ _ (P_map hP [0, 1, 2, 3, 4, 5] rfl) (hD.sub [0, 1, 2, 3, 4, 5] (by decide) rfl) hS ls (lv_sub hl [5, 6, 7, 8, 1, 0] rfl)
                        · refine lv_iload hx hb d_Mo_sumBy_346 (lv_at hl 0 rfl) ?_
                          refine lv_iload hx hb d_Mo_sumBy_348 (lv_at hl 7 rfl) ?_
                          refine w_icmp_ge (tgt := 381) hx hb d_Mo_sumBy_350 (by decide) (by omega) (by omega) (fun c_350 => ?_) (fun c_350 => ?_)
                          · refine w_iinc (k := 8) (lv' := [(5, .int (J ((i + 1 : Nat) : Int))), (11, .int (J (top wt xm (nw (shf ln 120) + nw (shf ln (3 * en))) (dgt i 0) (dgt i 1) (dgt i 2)))), (10, .int (J (((one (dgt i 0)) + (one (dgt i 1))) + (one (dgt i 2))))), (9, .int (J (b2 ((dgt i 0 < 0 ∨ (dgt i 0 ≠ dgt i 1 ∧ dgt i 0 ≠ dgt i 2)) ∧ (dgt i 1 < 0 ∨ dgt i 1 ≠ dgt i 2))))), (0, .ref o), (1, .int (J ((en : Nat) : Int))), (2, .int (J 1)), (3, .int (J (nw (shf ln 120) + nw (shf ln (3 * en))))), (4, .int (J b)), (6, .int (J (dgt i 0))), (7, .int (J (dgt i 1))), (8, .int (J (dgt i 2)))]) hx hb d_Mo_sumBy_381 hl rfl ((i + 1 : Nat) : Int) (by omega) (by decide) rfl (fun ls hl => ?_)
                            refine lv_goto (tgt := 127) hx hb d_Mo_sumBy_384 (by decide) ?_
                            exact ih_127 (i + 1) b xw (by omega) (sbi_ge hsb ⟨by omega, by omega⟩) (by omega) _ _ (P_map hP [0, 1, 2, 3, 4, 5] rfl) (hD.sub [0, 1, 2, 3, 4, 5] (by decide) rfl) hS ls (lv_sub hl [4, 5, 6, 7, 8, 0] rfl)
                          · refine lv_iload hx hb d_Mo_sumBy_353 (lv_at hl 0 rfl) ?_
                            refine lv_istore (lv' := [(4, .int (J (top wt xm (nw (shf ln 120) + nw (shf ln (3 * en))) (dgt i 0) (dgt i 1) (dgt i 2)))), (11, .int (J (top wt xm (nw (shf ln 120) + nw (shf ln (3 * en))) (dgt i 0) (dgt i 1) (dgt i 2)))), (10, .int (J (((one (dgt i 0)) + (one (dgt i 1))) + (one (dgt i 2))))), (9, .int (J (b2 ((dgt i 0 < 0 ∨ (dgt i 0 ≠ dgt i 1 ∧ dgt i 0 ≠ dgt i 2)) ∧ (dgt i 1 < 0 ∨ dgt i 1 ≠ dgt i 2))))), (0, .ref o), (1, .int (J ((en : Nat) : Int))), (2, .int (J 1)), (3, .int (J (nw (shf ln 120) + nw (shf ln (3 * en))))), (5, .int (J ((i : Nat) : Int))), (6, .int (J (dgt i 0))), (7, .int (J (dgt i 1))), (8, .int (J (dgt i 2)))]) hx hb d_Mo_sumBy_355 hl (by decide) rfl (fun ls hl => ?_)
                            refine lv_aload_n hx hb d_Mo_sumBy_357 rfl (lv_at hl 4 rfl) ?_
                            refine va_get (D := D) (ci := 8) (v := .ref pC) (C := R_Mo) (T := T_Mo) (N := 17) hx hb hts i_Mo hown hK hP 0 rfl rfl 16 (by decide) (hts _ mw_567) (fun _ h9 => h9) rfl d_Mo_sumBy_358 ?_
                            refine lv_iconst (v := J (0)) hx hb d_Mo_sumBy_361 rfl ?_
                            refine lv_iload hx hb d_Mo_sumBy_362 (lv_at hl 9 rfl) ?_
                            refine w_iast hx hb hK hP hD hS 5 0 rfl rfl 0 (by omega) (by omega) (by omega) d_Mo_sumBy_364 (fun H locs hP hD hS => ?_)
                            have hP : va_P D classes [(o, .inr (8, [.int (J th), .int (J ((n : Nat) : Int)), .ref p1, .ref p2, .ref p3, .ref p4, .ref p5, .ref p6, .int (J ap), .ref p7, .int (J ((fn : Nat) : Int)), .ref p8, .ref p9, .int (J wk), .ref pA, .ref pB, .ref pC])), (p5, ca cI 123 ln), (p6, ca cI 1230 gl), (p7, ca cI 6 wt), (pB, ca cI 9 xm), (pC, ca cI 3 (iu xw 0 (dgt i 0)))] H := hP
                            have hD : va_D A [(o, .inr (8, [.int (J th), .int (J ((n : Nat) : Int)), .ref p1, .ref p2, .ref p3, .ref p4, .ref p5, .ref p6, .int (J ap), .ref p7, .int (J ((fn : Nat) : Int)), .ref p8, .ref p9, .int (J wk), .ref pA, .ref pB, .ref pC])), (p5, ca cI 123 ln), (p6, ca cI 1230 gl), (p7, ca cI 6 wt), (pB, ca cI 9 xm), (pC, ca cI 3 (iu xw 0 (dgt i 0)))] := hD
                            refine lv_aload_n hx hb d_Mo_sumBy_365 rfl (lv_at hl 4 rfl) ?_
                            refine va_get (D := D) (ci := 8) (v := .ref pC) (C := R_Mo) (T := T_Mo) (N := 17) hx hb hts i_Mo hown hK hP 0 rfl rfl 16 (by decide) (hts _ mw_567) (fun _ h9 => h9) rfl d_Mo_sumBy_366 ?_
                            refine lv_iconst (v := J (1)) hx hb d_Mo_sumBy_369 rfl ?_
                            refine lv_iload hx hb d_Mo_sumBy_370 (lv_at hl 10 rfl) ?_
                            refine w_iast hx hb hK hP hD hS 5 0 rfl rfl 1 (by omega) (by omega) (by omega) d_Mo_sumBy_372 (fun H locs hP hD hS => ?_)
                            have hP : va_P D classes [(o, .inr (8, [.int (J th), .int (J ((n : Nat) : Int)), .ref p1, .ref p2, .ref p3, .ref p4, .ref p5, .ref p6, .int (J ap), .ref p7, .int (J ((fn : Nat) : Int)), .ref p8, .ref p9, .int (J wk), .ref pA, .ref pB, .ref pC])), (p5, ca cI 123 ln), (p6, ca cI 1230 gl), (p7, ca cI 6 wt), (pB, ca cI 9 xm), (pC, ca cI 3 (iu (iu xw 0 (dgt i 0)) 1 (dgt i 1)))] H := hP
                            have hD : va_D A [(o, .inr (8, [.int (J th), .int (J ((n : Nat) : Int)), .ref p1, .ref p2, .ref p3, .ref p4, .ref p5, .ref p6, .int (J ap), .ref p7, .int (J ((fn : Nat) : Int)), .ref p8, .ref p9, .int (J wk), .ref pA, .ref pB, .ref pC])), (p5, ca cI 123 ln), (p6, ca cI 1230 gl), (p7, ca cI 6 wt), (pB, ca cI 9 xm), (pC, ca cI 3 (iu (iu xw 0 (dgt i 0)) 1 (dgt i 1)))] := hD
                            refine lv_aload_n hx hb d_Mo_sumBy_373 rfl (lv_at hl 4 rfl) ?_
                            refine va_get (D := D) (ci := 8) (v := .ref pC) (C := R_Mo) (T := T_Mo) (N := 17) hx hb hts i_Mo hown hK hP 0 rfl rfl 16 (by decide) (hts _ mw_567) (fun _ h9 => h9) rfl d_Mo_sumBy_374 ?_
                            refine lv_iconst (v := J (2)) hx hb d_Mo_sumBy_377 rfl ?_
                            refine lv_iload hx hb d_Mo_sumBy_378 (lv_at hl 11 rfl) ?_
                            refine w_iast hx hb hK hP hD hS 5 0 rfl rfl 2 (by omega) (by omega) (by omega) d_Mo_sumBy_380 (fun H locs hP hD hS => ?_)
                            have hP : va_P D classes [(o, .inr (8, [.int (J th), .int (J ((n : Nat) : Int)), .ref p1, .ref p2, .ref p3, .ref p4, .ref p5, .ref p6, .int (J ap), .ref p7, .int (J ((fn : Nat) : Int)), .ref p8, .ref p9, .int (J wk), .ref pA, .ref pB, .ref pC])), (p5, ca cI 123 ln), (p6, ca cI 1230 gl), (p7, ca cI 6 wt), (pB, ca cI 9 xm), (pC, ca cI 3 (iu (iu (iu xw 0 (dgt i 0)) 1 (dgt i 1)) 2 (dgt i 2)))] H := hP
                            have hD : va_D A [(o, .inr (8, [.int (J th), .int (J ((n : Nat) : Int)), .ref p1, .ref p2, .ref p3, .ref p4, .ref p5, .ref p6, .int (J ap), .ref p7, .int (J ((fn : Nat) : Int)), .ref p8, .ref p9, .int (J wk), .ref pA, .ref pB, .ref pC])), (p5, ca cI 123 ln), (p6, ca cI 1230 gl), (p7, ca cI 6 wt), (pB, ca cI 9 xm), (pC, ca cI 3 (iu (iu (iu xw 0 (dgt i 0)) 1 (dgt i 1)) 2 (dgt i 2)))] := hD
                            refine w_iinc (k := 8) (lv' := [(5, .int (J ((i + 1 : Nat) : Int))), (4, .int (J (top wt xm (nw (shf ln 120) + nw (shf ln (3 * en))) (dgt i 0) (dgt i 1) (dgt i 2)))), (11, .int (J (top wt xm (nw (shf ln 120) + nw (shf ln (3 * en))) (dgt i 0) (dgt i 1) (dgt i 2)))), (10, .int (J (((one (dgt i 0)) + (one (dgt i 1))) + (one (dgt i 2))))), (9, .int (J (b2 ((dgt i 0 < 0 ∨ (dgt i 0 ≠ dgt i 1 ∧ dgt i 0 ≠ dgt i 2)) ∧ (dgt i 1 < 0 ∨ dgt i 1 ≠ dgt i 2))))), (0, .ref o), (1, .int (J ((en : Nat) : Int))), (2, .int (J 1)), (3, .int (J (nw (shf ln 120) + nw (shf ln (3 * en))))), (6, .int (J (dgt i 0))), (7, .int (J (dgt i 1))), (8, .int (J (dgt i 2)))]) hx hb d_Mo_sumBy_381 hl rfl ((i + 1 : Nat) : Int) (by omega) (by decide) rfl (fun ls hl => ?_)
                            refine lv_goto (tgt := 127) hx hb d_Mo_sumBy_384 (by decide) ?_
                            exact ih_127 (i + 1) (top wt xm (nw (shf ln 120) + nw (shf ln (3 * en))) (dgt i 0) (dgt i 1) (dgt i 2)) (iu (iu (iu xw 0 (dgt i 0)) 1 (dgt i 1)) 2 (dgt i 2)) (by omega) (sbi_take hsb ⟨c_201, c_212, c_223, c_234⟩ (by omega)) (by omega) _ _ (P_map hP [0, 1, 2, 3, 4, 5] rfl) (hD.sub [0, 1, 2, 3, 4, 5] (by decide) rfl) hS ls (lv_sub hl [5, 6, 7, 8, 1, 0] rfl)
              refine lv_iload hx hb d_Mo_sumBy_161 (lv_at hl 2 rfl) ?_
              refine w_if_lt (tgt := 180) hx hb d_Mo_sumBy_163 (by decide) (by omega) (fun c_163 => ?_) (fun c_163 => ?_)
              · refine lv_iload hx hb d_Mo_sumBy_180 (lv_at hl 1 rfl) ?_
                refine w_if_lt (tgt := 192) hx hb d_Mo_sumBy_182 (by decide) (by omega) (fun c_182 => ?_) (fun c_182 => ?_)
                · refine lv_iconst (v := J (1)) hx hb d_Mo_sumBy_192 rfl ?_
                  refine lv_goto (tgt := 197) hx hb d_Mo_sumBy_193 (by decide) ?_
                  refine tp_J (y := b2 ((dgt i 0 < 0 ∨ (dgt i 0 ≠ dgt i 1 ∧ dgt i 0 ≠ dgt i 2)) ∧ (dgt i 1 < 0 ∨ dgt i 1 ≠ dgt i 2))) (by unfold b2; split <;> omega) ?_
                  exact j_197 ls (lv_sub hl [3, 4, 5, 6, 7, 8, 2, 1, 0] rfl)
                · refine lv_iload hx hb d_Mo_sumBy_185 (lv_at hl 1 rfl) ?_
                  refine lv_iload hx hb d_Mo_sumBy_187 (lv_at hl 0 rfl) ?_
                  refine w_icmp_eq (tgt := 196) hx hb d_Mo_sumBy_189 (by decide) (by omega) (by omega) (fun c_189 => ?_) (fun c_189 => ?_)
                  · refine lv_iconst (v := J (0)) hx hb d_Mo_sumBy_196 rfl ?_
                    refine tp_J (y := b2 ((dgt i 0 < 0 ∨ (dgt i 0 ≠ dgt i 1 ∧ dgt i 0 ≠ dgt i 2)) ∧ (dgt i 1 < 0 ∨ dgt i 1 ≠ dgt i 2))) (by unfold b2; split <;> omega) ?_
                    exact j_197 ls (lv_sub hl [3, 4, 5, 6, 7, 8, 2, 1, 0] rfl)
                  · refine lv_iconst (v := J (1)) hx hb d_Mo_sumBy_192 rfl ?_
                    refine lv_goto (tgt := 197) hx hb d_Mo_sumBy_193 (by decide) ?_
                    refine tp_J (y := b2 ((dgt i 0 < 0 ∨ (dgt i 0 ≠ dgt i 1 ∧ dgt i 0 ≠ dgt i 2)) ∧ (dgt i 1 < 0 ∨ dgt i 1 ≠ dgt i 2))) (by unfold b2; split <;> omega) ?_
                    exact j_197 ls (lv_sub hl [3, 4, 5, 6, 7, 8, 2, 1, 0] rfl)
              · refine lv_iload hx hb d_Mo_sumBy_166 (lv_at hl 2 rfl) ?_
                refine lv_iload hx hb d_Mo_sumBy_168 (lv_at hl 1 rfl) ?_
                refine w_icmp_eq (tgt := 196) hx hb d_Mo_sumBy_170 (by decide) (by omega) (by omega) (fun c_170 => ?_) (fun c_170 => ?_)
                · refine lv_iconst (v := J (0)) hx hb d_Mo_sumBy_196 rfl ?_
                  refine tp_J (y := b2 ((dgt i 0 < 0 ∨ (dgt i 0 ≠ dgt i 1 ∧ dgt i 0 ≠ dgt i 2)) ∧ (dgt i 1 < 0 ∨ dgt i 1 ≠ dgt i 2))) (by unfold b2; split <;> omega) ?_
                  exact j_197 ls (lv_sub hl [3, 4, 5, 6, 7, 8, 2, 1, 0] rfl)
                · refine lv_iload hx hb d_Mo_sumBy_173 (lv_at hl 2 rfl) ?_
                  refine lv_iload hx hb d_Mo_sumBy_175 (lv_at hl 0 rfl) ?_
                  refine w_icmp_eq (tgt := 196) hx hb d_Mo_sumBy_177 (by decide) (by omega) (by omega) (fun c_177 => ?_) (fun c_177 => ?_)
                  · refine lv_iconst (v := J (0)) hx hb d_Mo_sumBy_196 rfl ?_
                    refine tp_J (y := b2 ((dgt i 0 < 0 ∨ (dgt i 0 ≠ dgt i 1 ∧ dgt i 0 ≠ dgt i 2)) ∧ (dgt i 1 < 0 ∨ dgt i 1 ≠ dgt i 2))) (by unfold b2; split <;> omega) ?_
                    exact j_197 ls (lv_sub hl [3, 4, 5, 6, 7, 8, 2, 1, 0] rfl)
                  · refine lv_iload hx hb d_Mo_sumBy_180 (lv_at hl 1 rfl) ?_
                    refine w_if_lt (tgt := 192) hx hb d_Mo_sumBy_182 (by decide) (by omega) (fun c_182 => ?_) (fun c_182 => ?_)
                    · refine lv_iconst (v := J (1)) hx hb d_Mo_sumBy_192 rfl ?_
                      refine lv_goto (tgt := 197) hx hb d_Mo_sumBy_193 (by decide) ?_
                      refine tp_J (y := b2 ((dgt i 0 < 0 ∨ (dgt i 0 ≠ dgt i 1 ∧ dgt i 0 ≠ dgt i 2)) ∧ (dgt i 1 < 0 ∨ dgt i 1 ≠ dgt i 2))) (by unfold b2; split <;> omega) ?_
                      exact j_197 ls (lv_sub hl [3, 4, 5, 6, 7, 8, 2, 1, 0] rfl)
                    · refine lv_iload hx hb d_Mo_sumBy_185 (lv_at hl 1 rfl) ?_
                      refine lv_iload hx hb d_Mo_sumBy_187 (lv_at hl 0 rfl) ?_
                      refine w_icmp_eq (tgt := 196) hx hb d_Mo_sumBy_189 (by decide) (by omega) (by omega) (fun c_189 => ?_) (fun c_189 => ?_)
                      · refine lv_iconst (v := J (0)) hx hb d_Mo_sumBy_196 rfl ?_
                        refine tp_J (y := b2 ((dgt i 0 < 0 ∨ (dgt i 0 ≠ dgt i 1 ∧ dgt i 0 ≠ dgt i 2)) ∧ (dgt i 1 < 0 ∨ dgt i 1 ≠ dgt i 2))) (by unfold b2; split <;> omega) ?_
                        exact j_197 ls (lv_sub hl [3, 4, 5, 6, 7, 8, 2, 1, 0] rfl)
                      · refine lv_iconst (v := J (1)) hx hb d_Mo_sumBy_192 rfl ?_
                        refine lv_goto (tgt := 197) hx hb d_Mo_sumBy_193 (by decide) ?_
                        refine tp_J (y := b2 ((dgt i 0 < 0 ∨ (dgt i 0 ≠ dgt i 1 ∧ dgt i 0 ≠ dgt i 2)) ∧ (dgt i 1 < 0 ∨ dgt i 1 ≠ dgt i 2))) (by unfold b2; split <;> omega) ?_
                        exact j_197 ls (lv_sub hl [3, 4, 5, 6, 7, 8, 2, 1, 0] rfl)
        exact lp_127 ((64 - 0) + 1) 0 (-1) wy (by omega) (sbi_0 _ _ _ _ _) (Nat.lt_succ_self _) _ _ (P_map hP [0, 1, 2, 3, 4, 5] rfl) (hD.sub [0, 1, 2, 3, 4, 5] (by decide) rfl) hS ls (lv_sub hl [3, 4, 5, 2, 1, 0] rfl)
      · refine lv_aload_n hx hb d_Mo_sumBy_8 rfl (lv_at hl 0 rfl) ?_
        refine va_get (D := D) (ci := 8) (v := .ref p5) (C := R_Mo) (T := T_Mo) (N := 17) hx hb hts i_Mo hown hK hP 0 rfl rfl 6 (by decide) (hts _ mw_557) (fun _ h9 => h9) rfl d_Mo_sumBy_9 ?_
        refine lv_bipush (v := J (120)) hx hb d_Mo_sumBy_12 (by decide) ?_
        refine lv_iload_n hx hb d_Mo_sumBy_14 rfl (lv_at hl 3 rfl) ?_
        refine lv_iconst (v := J (3)) hx hb d_Mo_sumBy_15 rfl ?_
        refine w_idiv hx hb d_Mo_sumBy_16 (by omega) (by omega) (by omega) (by omega) ((i / 3 : Nat) : Int) (by omega) ?_
        refine w_iadd hx hb d_Mo_sumBy_17 ((120 + i / 3 : Nat) : Int) (by omega) ?_
        refine w_iald hx hb hK hP 1 0 rfl rfl (120 + i / 3) (by omega) (by omega) (by omega) d_Mo_sumBy_18 ?_
        refine w_if_le (tgt := 41) hx hb d_Mo_sumBy_19 (by decide) (by omega) (fun c_19 => ?_) (fun c_19 => ?_)
        · refine lv_iconst (v := J (0)) hx hb d_Mo_sumBy_41 rfl ?_
          refine lv_istore (lv' := [(4, .int (J 0)), (0, .ref o), (1, .int (J ((en : Nat) : Int))), (2, .int (J 1)), (3, .int (J ((i : Nat) : Int)))]) hx hb d_Mo_sumBy_42 hl (by decide) rfl (fun ls hl => ?_)
          refine lv_aload_n hx hb d_Mo_sumBy_44 rfl (lv_at hl 1 rfl) ?_
          refine va_get (D := D) (ci := 8) (v := .ref pB) (C := R_Mo) (T := T_Mo) (N := 17) hx hb hts i_Mo hown hK hP 0 rfl rfl 15 (by decide) (hts _ mw_566) (fun _ h9 => h9) rfl d_Mo_sumBy_45 ?_
          refine lv_iload_n hx hb d_Mo_sumBy_48 rfl (lv_at hl 4 rfl) ?_
          refine lv_iload hx hb d_Mo_sumBy_49 (lv_at hl 0 rfl) ?_
          refine w_if_ne (tgt := 58) hx hb d_Mo_sumBy_51 (by decide) (by omega) (fun c_51 => ?_) (fun c_51 => ?_)
          · exfalso; omega
          · refine lv_iconst (v := J (0)) hx hb d_Mo_sumBy_54 rfl ?_
            refine lv_goto (tgt := 99) hx hb d_Mo_sumBy_55 (by decide) ?_
            refine w_iast hx hb hK hP hD hS 4 0 rfl rfl i (by omega) (by omega) (by omega) d_Mo_sumBy_99 (fun H locs hP hD hS => ?_)
            have hP : va_P D classes [(o, .inr (8, [.int (J th), .int (J ((n : Nat) : Int)), .ref p1, .ref p2, .ref p3, .ref p4, .ref p5, .ref p6, .int (J ap), .ref p7, .int (J ((fn : Nat) : Int)), .ref p8, .ref p9, .int (J wk), .ref pA, .ref pB, .ref pC])), (p5, ca cI 123 ln), (p6, ca cI 1230 gl), (p7, ca cI 6 wt), (pB, ca cI 9 (iu xm i 0)), (pC, ca cI 3 wy)] H := hP
            have hD : va_D A [(o, .inr (8, [.int (J th), .int (J ((n : Nat) : Int)), .ref p1, .ref p2, .ref p3, .ref p4, .ref p5, .ref p6, .int (J ap), .ref p7, .int (J ((fn : Nat) : Int)), .ref p8, .ref p9, .int (J wk), .ref pA, .ref pB, .ref pC])), (p5, ca cI 123 ln), (p6, ca cI 1230 gl), (p7, ca cI 6 wt), (pB, ca cI 9 (iu xm i 0)), (pC, ca cI 3 wy)] := hD
            refine w_iinc (k := 4) (lv' := [(3, .int (J ((i + 1 : Nat) : Int))), (4, .int (J 0)), (0, .ref o), (1, .int (J ((en : Nat) : Int))), (2, .int (J 1))]) hx hb d_Mo_sumBy_100 hl rfl ((i + 1 : Nat) : Int) (by omega) (by decide) rfl (fun ls hl => ?_)
            refine lv_goto (tgt := 2) hx hb d_Mo_sumBy_103 (by decide) ?_
            have hbz := cmn_rg hw hln hgl en i
            exact ih_2 (i + 1) (iu xm i 0) (by omega) (cmf_s hm ((if_neg (by show ¬ (0 < ln (120 + i / 3) ∧ 0 < ln (3 * en + i % 3)); omega)).symm)) (fun j => by unfold iu; split; (first | exact hbz | omega); exact hmb j) (by omega) _ _ (P_map hP [0, 1, 2, 3, 4, 5] rfl) (hD.sub [0, 1, 2, 3, 4, 5] (by decide) rfl) hS ls (lv_sub hl [2, 3, 4, 0] rfl)
        · refine lv_aload_n hx hb d_Mo_sumBy_22 rfl (lv_at hl 0 rfl) ?_
          refine va_get (D := D) (ci := 8) (v := .ref p5) (C := R_Mo) (T := T_Mo) (N := 17) hx hb hts i_Mo hown hK hP 0 rfl rfl 6 (by decide) (hts _ mw_557) (fun _ h9 => h9) rfl d_Mo_sumBy_23 ?_
          refine lv_iconst (v := J (3)) hx hb d_Mo_sumBy_26 rfl ?_
          refine lv_iload_n hx hb d_Mo_sumBy_27 rfl (lv_at hl 1 rfl) ?_
          refine w_imul hx hb d_Mo_sumBy_28 ((3 * en : Nat) : Int) (by omega) ?_
          refine lv_iload_n hx hb d_Mo_sumBy_29 rfl (lv_at hl 3 rfl) ?_
          refine lv_iconst (v := J (3)) hx hb d_Mo_sumBy_30 rfl ?_
          refine w_irem hx hb d_Mo_sumBy_31 (by omega) (by omega) (by omega) (by omega) ((i % 3 : Nat) : Int) (by omega) ?_
          refine w_iadd hx hb d_Mo_sumBy_32 ((3 * en + i % 3 : Nat) : Int) (by omega) ?_
          refine w_iald hx hb hK hP 1 0 rfl rfl (3 * en + i % 3) (by omega) (by omega) (by omega) d_Mo_sumBy_33 ?_
          refine w_if_le (tgt := 41) hx hb d_Mo_sumBy_34 (by decide) (by omega) (fun c_34 => ?_) (fun c_34 => ?_)
          · refine lv_iconst (v := J (0)) hx hb d_Mo_sumBy_41 rfl ?_
            refine lv_istore (lv' := [(4, .int (J 0)), (0, .ref o), (1, .int (J ((en : Nat) : Int))), (2, .int (J 1)), (3, .int (J ((i : Nat) : Int)))]) hx hb d_Mo_sumBy_42 hl (by decide) rfl (fun ls hl => ?_)
            refine lv_aload_n hx hb d_Mo_sumBy_44 rfl (lv_at hl 1 rfl) ?_
            refine va_get (D := D) (ci := 8) (v := .ref pB) (C := R_Mo) (T := T_Mo) (N := 17) hx hb hts i_Mo hown hK hP 0 rfl rfl 15 (by decide) (hts _ mw_566) (fun _ h9 => h9) rfl d_Mo_sumBy_45 ?_
            refine lv_iload_n hx hb d_Mo_sumBy_48 rfl (lv_at hl 4 rfl) ?_
            refine lv_iload hx hb d_Mo_sumBy_49 (lv_at hl 0 rfl) ?_
            refine w_if_ne (tgt := 58) hx hb d_Mo_sumBy_51 (by decide) (by omega) (fun c_51 => ?_) (fun c_51 => ?_)
            · exfalso; omega
            · refine lv_iconst (v := J (0)) hx hb d_Mo_sumBy_54 rfl ?_
              refine lv_goto (tgt := 99) hx hb d_Mo_sumBy_55 (by decide) ?_
              refine w_iast hx hb hK hP hD hS 4 0 rfl rfl i (by omega) (by omega) (by omega) d_Mo_sumBy_99 (fun H locs hP hD hS => ?_)
              have hP : va_P D classes [(o, .inr (8, [.int (J th), .int (J ((n : Nat) : Int)), .ref p1, .ref p2, .ref p3, .ref p4, .ref p5, .ref p6, .int (J ap), .ref p7, .int (J ((fn : Nat) : Int)), .ref p8, .ref p9, .int (J wk), .ref pA, .ref pB, .ref pC])), (p5, ca cI 123 ln), (p6, ca cI 1230 gl), (p7, ca cI 6 wt), (pB, ca cI 9 (iu xm i 0)), (pC, ca cI 3 wy)] H := hP
              have hD : va_D A [(o, .inr (8, [.int (J th), .int (J ((n : Nat) : Int)), .ref p1, .ref p2, .ref p3, .ref p4, .ref p5, .ref p6, .int (J ap), .ref p7, .int (J ((fn : Nat) : Int)), .ref p8, .ref p9, .int (J wk), .ref pA, .ref pB, .ref pC])), (p5, ca cI 123 ln), (p6, ca cI 1230 gl), (p7, ca cI 6 wt), (pB, ca cI 9 (iu xm i 0)), (pC, ca cI 3 wy)] := hD
              refine w_iinc (k := 4) (lv' := [(3, .int (J ((i + 1 : Nat) : Int))), (4, .int (J 0)), (0, .ref o), (1, .int (J ((en : Nat) : Int))), (2, .int (J 1))]) hx hb d_Mo_sumBy_100 hl rfl ((i + 1 : Nat) : Int) (by omega) (by decide) rfl (fun ls hl => ?_)
              refine lv_goto (tgt := 2) hx hb d_Mo_sumBy_103 (by decide) ?_
              have hbz := cmn_rg hw hln hgl en i
              exact ih_2 (i + 1) (iu xm i 0) (by omega) (cmf_s hm ((if_neg (by show ¬ (0 < ln (120 + i / 3) ∧ 0 < ln (3 * en + i % 3)); omega)).symm)) (fun j => by unfold iu; split; (first | exact hbz | omega); exact hmb j) (by omega) _ _ (P_map hP [0, 1, 2, 3, 4, 5] rfl) (hD.sub [0, 1, 2, 3, 4, 5] (by decide) rfl) hS ls (lv_sub hl [2, 3, 4, 0] rfl)
          · refine lv_iconst (v := J (1)) hx hb d_Mo_sumBy_37 rfl ?_
            refine lv_goto (tgt := 42) hx hb d_Mo_sumBy_38 (by decide) ?_
            refine lv_istore (lv' := [(4, .int (J 1)), (0, .ref o), (1, .int (J ((en : Nat) : Int))), (2, .int (J 1)), (3, .int (J ((i : Nat) : Int)))]) hx hb d_Mo_sumBy_42 hl (by decide) rfl (fun ls hl => ?_)
            refine lv_aload_n hx hb d_Mo_sumBy_44 rfl (lv_at hl 1 rfl) ?_
            refine va_get (D := D) (ci := 8) (v := .ref pB) (C := R_Mo) (T := T_Mo) (N := 17) hx hb hts i_Mo hown hK hP 0 rfl rfl 15 (by decide) (hts _ mw_566) (fun _ h9 => h9) rfl d_Mo_sumBy_45 ?_
            refine lv_iload_n hx hb d_Mo_sumBy_48 rfl (lv_at hl 4 rfl) ?_
            refine lv_iload hx hb d_Mo_sumBy_49 (lv_at hl 0 rfl) ?_
            refine w_if_ne (tgt := 58) hx hb d_Mo_sumBy_51 (by decide) (by omega) (fun c_51 => ?_) (fun c_51 => ?_)
            · refine lv_iload_n hx hb d_Mo_sumBy_58 rfl (lv_at hl 3 rfl) ?_
              refine w_if_eq (tgt := 82) hx hb d_Mo_sumBy_59 (by decide) (by omega) (fun c_59 => ?_) (fun c_59 => ?_)
              · exfalso; omega
              · refine lv_aload_n hx hb d_Mo_sumBy_62 rfl (lv_at hl 1 rfl) ?_
                refine lv_bipush (v := J (120)) hx hb d_Mo_sumBy_63 (by decide) ?_
                refine lv_iload_n hx hb d_Mo_sumBy_65 rfl (lv_at hl 4 rfl) ?_
                refine lv_iconst (v := J (3)) hx hb d_Mo_sumBy_66 rfl ?_
                refine w_idiv hx hb d_Mo_sumBy_67 (by omega) (by omega) (by omega) (by omega) ((i / 3 : Nat) : Int) (by omega) ?_
                refine w_iadd hx hb d_Mo_sumBy_68 ((120 + i / 3 : Nat) : Int) (by omega) ?_
                refine lv_iconst (v := J (3)) hx hb d_Mo_sumBy_69 rfl ?_
                refine lv_iload_n hx hb d_Mo_sumBy_70 rfl (lv_at hl 2 rfl) ?_
                refine w_imul hx hb d_Mo_sumBy_71 ((3 * en : Nat) : Int) (by omega) ?_
                refine lv_iload_n hx hb d_Mo_sumBy_72 rfl (lv_at hl 4 rfl) ?_
                refine lv_iconst (v := J (3)) hx hb d_Mo_sumBy_73 rfl ?_
                refine w_irem hx hb d_Mo_sumBy_74 (by omega) (by omega) (by omega) (by omega) ((i % 3 : Nat) : Int) (by omega) ?_
                refine w_iadd hx hb d_Mo_sumBy_75 ((3 * en + i % 3 : Nat) : Int) (by omega) ?_
                refine Ri_call (va_runV (As := [.int (J ((120 + i / 3 : Nat) : Int)), .int (J ((3 * en + i % 3 : Nat) : Int))]) (rest := [.int (J ((i : Nat) : Int)), .ref pB]) ⟨hx, hb, hml, hown, hts⟩ (c_Mo_counted l D cI cZ cJ o p1 p2 p3 p4 p5 p6 p7 p8 p9 pA pB pC th n ap fn wk ln gl wt (120 + i / 3) (3 * en + i % 3) (by first | with_reducible assumption | omega) (by first | with_reducible assumption | omega) (by first | with_reducible assumption | omega) (by first | with_reducible assumption | omega)) (cwV 2 hts (g_V mw_658 mw_660 mw_16 mw_33 mw_661) rfl rfl rfl (by decide +kernel) ⟨Nat.le_of_ble_eq_true rfl, Nat.le_of_ble_eq_true rfl⟩) (pre_RV hP hK [0, 1, 2, 3] rfl 8 0 rfl rfl) rfl rfl hl.1 rfl (lv_room (Nat.le_of_ble_eq_true rfl)) d_Mo_sumBy_76 ⟨Nat.le_of_ble_eq_true rfl, Nat.le_of_ble_eq_true rfl⟩) ?_
                refine tp_J (y := (cmn wt ln gl en) i) (rfl) ?_
                refine lv_goto (tgt := 99) hx hb d_Mo_sumBy_79 (by decide) ?_
                refine w_iast hx hb hK hP hD hS 4 0 rfl rfl i (by omega) (by omega) (by omega) d_Mo_sumBy_99 (fun H locs hP hD hS => ?_)
                have hP : va_P D classes [(o, .inr (8, [.int (J th), .int (J ((n : Nat) : Int)), .ref p1, .ref p2, .ref p3, .ref p4, .ref p5, .ref p6, .int (J ap), .ref p7, .int (J ((fn : Nat) : Int)), .ref p8, .ref p9, .int (J wk), .ref pA, .ref pB, .ref pC])), (p5, ca cI 123 ln), (p6, ca cI 1230 gl), (p7, ca cI 6 wt), (pB, ca cI 9 (iu xm i ((cmn wt ln gl en) i))), (pC, ca cI 3 wy)] H := hP
                have hD : va_D A [(o, .inr (8, [.int (J th), .int (J ((n : Nat) : Int)), .ref p1, .ref p2, .ref p3, .ref p4, .ref p5, .ref p6, .int (J ap), .ref p7, .int (J ((fn : Nat) : Int)), .ref p8, .ref p9, .int (J wk), .ref pA, .ref pB, .ref pC])), (p5, ca cI 123 ln), (p6, ca cI 1230 gl), (p7, ca cI 6 wt), (pB, ca cI 9 (iu xm i ((cmn wt ln gl en) i))), (pC, ca cI 3 wy)] := hD
                refine w_iinc (k := 4) (lv' := [(3, .int (J ((i + 1 : Nat) : Int))), (4, .int (J 1)), (0, .ref o), (1, .int (J ((en : Nat) : Int))), (2, .int (J 1))]) hx hb d_Mo_sumBy_100 hl rfl ((i + 1 : Nat) : Int) (by omega) (by decide) rfl (fun ls hl => ?_)
                refine lv_goto (tgt := 2) hx hb d_Mo_sumBy_103 (by decide) ?_
                have hbz := cmn_rg hw hln hgl en i
                exact ih_2 (i + 1) (iu xm i ((cmn wt ln gl en) i)) (by omega) (cmf_s hm ((if_pos (show 0 < ln (120 + i / 3) ∧ 0 < ln (3 * en + i % 3) from ⟨by omega, by omega⟩)).symm)) (fun j => by unfold iu; split; (first | exact hbz | omega); exact hmb j) (by omega) _ _ (P_map hP [0, 1, 2, 3, 4, 5] rfl) (hD.sub [0, 1, 2, 3, 4, 5] (by decide) rfl) hS ls (lv_sub hl [2, 3, 4, 0] rfl)
            · exfalso; omega
  exact lp_2 ((9 - 0) + 1) 0 cm (by omega) (fun j hj => absurd hj (Nat.not_lt_zero _)) (hcm) (Nat.lt_succ_self _) _ _ (P_map hP [0, 1, 2, 3, 4, 5] rfl) (hD.sub [0, 1, 2, 3, 4, 5] (by decide) rfl) hS ls (lv_sub hl [1, 2, 3, 0] rfl)
