theorem w_dne {p : Program} {l : Launch} {e : Env} {R : Room} {s : State} {m : MethodId} {args : Array Value} {below : List Frame} {meth : Method} {c : Code} {H : Heap} {locs : List Loc} {cells slots : Nat} {Q : State → Prop} {cc : ByteArray} {pc : Nat} {ls : Array Slot} {rest : List Value} {q : Prop} [Decidable q] {off off2 : Int} {tgt X : Nat} (hexec : p.tables.exec = Jvm.exec) (hb : c.code = cc) (h1 : decode cc pc = .ok (.ifCond .ne off, 3)) (ht : (pc : Int) + off = (tgt : Int)) (h2 : decode cc (pc + 3) = .ok (.iconst 1, 1)) (h3 : decode cc (pc + 4) = .ok (.goto off2, 3)) (hX : ((pc + 4 : Nat) : Int) + off2 = (X : Int)) (h4 : decode cc tgt = .ok (.iconst 0, 1)) (h5 : tgt + 1 = X)
    (k : W p l e R s m args below meth c H locs cells slots Q (F0 m X ls (.int (J (b2 (¬ q))) :: rest))) : W p l e R s m args below meth c H locs cells slots Q (F0 m pc ls (.int (J (b2 q)) :: rest)) := by
  refine w_if_ne hexec hb h1 ht rg_b2 (fun h => ?_) (fun h => ?_)
  · have h := b2_n0.mp h
    refine lv_iconst (v := J 0) hexec hb h4 rfl ?_
    rw [b2_f (q := ¬ q) (fun z => z h)] at k
    subst h5
    exact k
  · have h := b2_0.mp h
    refine lv_iconst (v := J 1) hexec hb h2 rfl ?_
    refine lv_goto (tgt := X) hexec hb h3 hX ?_
    rw [b2_t (q := ¬ q) h] at k
    exact k
theorem w_deq {p : Program} {l : Launch} {e : Env} {R : Room} {s : State} {m : MethodId} {args : Array Value} {below : List Frame} {meth : Method} {c : Code} {H : Heap} {locs : List Loc} {cells slots : Nat} {Q : State → Prop} {cc : ByteArray} {pc : Nat} {ls : Array Slot} {rest : List Value} {q : Prop} [Decidable q] {off off2 : Int} {tgt X : Nat} (hexec : p.tables.exec = Jvm.exec) (hb : c.code = cc) (h1 : decode cc pc = .ok (.ifCond .eq off, 3)) (ht : (pc : Int) + off = (tgt : Int)) (h2 : decode cc (pc + 3) = .ok (.iconst 1, 1)) (h3 : decode cc (pc + 4) = .ok (.goto off2, 3)) (hX : ((pc + 4 : Nat) : Int) + off2 = (X : Int)) (h4 : decode cc tgt = .ok (.iconst 0, 1)) (h5 : tgt + 1 = X)
    (k : W p l e R s m args below meth c H locs cells slots Q (F0 m X ls (.int (J (b2 q)) :: rest))) : W p l e R s m args below meth c H locs cells slots Q (F0 m pc ls (.int (J (b2 q)) :: rest)) := by
  refine w_if_eq hexec hb h1 ht rg_b2 (fun h => ?_) (fun h => ?_)
  · have h := b2_0.mp h
    refine lv_iconst (v := J 0) hexec hb h4 rfl ?_
    rw [b2_f (q := q) h] at k
    subst h5
    exact k
  · have h := b2_n0.mp h
    refine lv_iconst (v := J 1) hexec hb h2 rfl ?_
    refine lv_goto (tgt := X) hexec hb h3 hX ?_
    rw [b2_t (q := q) h] at k
    exact k
theorem b2_eq {q r : Prop} [Decidable q] [Decidable r] (h : q ↔ r) : b2 q = b2 r := by
  by_cases z : q
  · rw [b2_t z, b2_t (h.mp z)]
  · rw [b2_f z, b2_f (fun y => z (h.mpr y))]
def shf (f : Nat → Int) (k : Nat) : Nat → Int := fun j => f (k + j)
/-- the costs of pairing, by changes and by counts -/
def csc (wt ga la gb lt : Nat → Int) (en : Nat) : Nat → Int := fun j => ed wt (fun t => ga (j / 3 * 10 + t)) (fun t => gb ((en * 3 + j % 3) * 10 + t)) (la (j / 3)).toNat (lt (en * 3 + j % 3)).toNat
def csn (wt ga la gb lt : Nat → Int) (en : Nat) : Nat → Int := fun j => lb wt (fun t => ga (j / 3 * 10 + t)) (la (j / 3)).toNat (fun t => gb ((en * 3 + j % 3) * 10 + t)) (lt (en * 3 + j % 3)).toNat
theorem csc_at (wt ga la gb lt : Nat → Int) (en w : Nat) {d : Nat} (h : d < 3) : csc wt ga la gb lt en (3 * w + d) = ed wt (fun t => ga (w * 10 + t)) (fun t => gb ((en * 3 + d) * 10 + t)) (la w).toNat (lt (en * 3 + d)).toNat := by
  unfold csc
  rw [show (3 * w + d) / 3 = w by omega, show (3 * w + d) % 3 = d by omega]
theorem csn_at (wt ga la gb lt : Nat → Int) (en w : Nat) {d : Nat} (h : d < 3) : csn wt ga la gb lt en (3 * w + d) = lb wt (fun t => ga (w * 10 + t)) (la w).toNat (fun t => gb ((en * 3 + d) * 10 + t)) (lt (en * 3 + d)).toNat := by
  unfold csn
  rw [show (3 * w + d) / 3 = w by omega, show (3 * w + d) % 3 = d by omega]
theorem csc_rg {wt ga la gb lt : Nat → Int} (hw : ∀ k, 0 ≤ wt k ∧ wt k ≤ 1000) (hla : ∀ k, 0 ≤ la k ∧ la k ≤ 10) (hlt : ∀ k, 0 ≤ lt k ∧ lt k ≤ 10) (en j : Nat) : 0 ≤ csc wt ga la gb lt en j ∧ csc wt ga la gb lt en j ≤ 20000 := by
  have h1 := ed_rg hw (fun t => ga (j / 3 * 10 + t)) (fun t => gb ((en * 3 + j % 3) * 10 + t)) (la (j / 3)).toNat (lt (en * 3 + j % 3)).toNat
  have h2 := hla (j / 3)
  have h3 := hlt (en * 3 + j % 3)
  unfold csc
  omega
theorem csn_rg {wt ga la gb lt : Nat → Int} (hw : ∀ k, 0 ≤ wt k ∧ wt k ≤ 1000) (hla : ∀ k, 0 ≤ la k ∧ la k ≤ 10) (hlt : ∀ k, 0 ≤ lt k ∧ lt k ≤ 10) (hga : ∀ k, 0 ≤ ga k ∧ ga k < 26) (hgb : ∀ k, 0 ≤ gb k ∧ gb k < 26) (en j : Nat) : 0 ≤ csn wt ga la gb lt en j ∧ csn wt ga la gb lt en j ≤ 20000 := by
  have h2 := hla (j / 3)
  have h3 := hlt (en * 3 + j % 3)
  have w0 := hw 0
  have w1 := hw 1
  have w2 := hw 2
  have w3 := hw 3
  have m1 := bey_m (x := fun t => ga (j / 3 * 10 + t)) (v := fun t => gb ((en * 3 + j % 3) * 10 + t)) (n := (la (j / 3)).toNat) (k := (lt (en * 3 + j % 3)).toNat) (fun t => hga _) (by omega) (z := min (wt 1) (min (wt 2) (wt 3))) (by omega)
  have m2 := bey_m (x := fun t => gb ((en * 3 + j % 3) * 10 + t)) (v := fun t => ga (j / 3 * 10 + t)) (n := (lt (en * 3 + j % 3)).toNat) (k := (la (j / 3)).toNat) (fun t => hgb _) (by omega) (z := min (wt 0) (min (wt 2) (wt 3))) (by omega)
  unfold csn lb
  omega
set_option maxHeartbeats 4000000 in
set_option maxRecDepth 100000 in
theorem c_Nf_isLookedFor (l : Launch) (D : va_G) (cI cZ cJ : ClassId) (o : Nat) (bk : Nat) (wA : Nat) (wo : Nat) (m1 : Nat) (m2 : Nat) (pa : Nat) (hi : Nat) (wB : Nat) (q1 : Nat) (q2 : Nat) (q3 : Nat) (q4 : Nat) (n : Nat) (ap : Int) (sw : Int) (pl : Nat → Int) (dr : Nat → Int) (en : Nat) (hen : en < 40) (hdr : ∀ k, 0 ≤ dr k ∧ dr k ≤ 1) (hpl : ∀ k, rg (pl k)) (hap : rg ap) : Ri l y_Nf_isLookedFor w_Nf_isLookedFor ({ frames := 0, cells := 0, slots := 0, locals := 0 }) D classes [(cI, .int), (cZ, .boolean), (cJ, .long)] [.ref o, .int (J ((en : Nat) : Int))] [(o, .inr (7, [.ref bk, .ref wA, .ref wo, .ref m1, .ref m2, .ref pa, .ref hi, .int (J ap), .int (J sw)])), (bk, .inr (0, [.ref wB, .ref q1, .ref q2, .ref q3, .ref q4, .int (J ((n : Nat) : Int))])), (q1, ca cI 40 pl), (q4, ca cZ 40 dr)] (b2 (dr en = 0 ∧ (ap = -1 ∨ ap = pl en))) := by
  refine Ri_of (cc := b_Nf_isLookedFor) (maxL := 2) (by decide) rfl (Nat.le_of_ble_eq_true rfl) ?_
  intro p e s m args below meth c hx hb hr hml hts hown hlocks hP hK Q hQ H hH ls hl
  rw [← hH] at hP
  have hl : lv_has ls 2 [(0, .ref o), (1, .int (J ((en : Nat) : Int)))] := hl
  have r1 := hdr en
  have r2 := hpl en
  refine lv_aload_n hx hb d_Nf_isLookedFor_0 rfl (lv_at hl 0 rfl) ?_
  refine va_get (D := D) (ci := 7) (v := .ref bk) (C := R_Nf) (T := T_Nf) (N := 9) hx hb hts i_Nf hown hK hP 0 rfl rfl 0 (by decide) (hts _ mw_186) (fun _ h9 => h9) rfl d_Nf_isLookedFor_1 ?_
  refine va_get (D := D) (ci := 0) (v := .ref q4) (C := R_Bk) (T := T_Bk) (N := 6) hx hb hts i_Bk hown hK hP 1 rfl rfl 4 (by decide) (hts _ mw_83) (fun _ h9 => h9) rfl d_Nf_isLookedFor_4 ?_
  refine lv_iload_n hx hb d_Nf_isLookedFor_7 rfl (lv_at hl 1 rfl) ?_
  refine w_zald hx hb hK hP 3 1 rfl rfl en (by omega) (by omega) (by omega) d_Nf_isLookedFor_8 ?_
  refine w_if_ne (tgt := 40) hx hb d_Nf_isLookedFor_9 (by decide) (by omega) (fun c_9 => ?_) (fun c_9 => ?_)
  · refine lv_iconst (v := J (0)) hx hb d_Nf_isLookedFor_40 rfl ?_
    exact Ri_ret hx hb hr hlocks hQ hH d_Nf_isLookedFor_41 (nb_z (by omega)) (by unfold b2; split <;> omega)
  · refine lv_aload_n hx hb d_Nf_isLookedFor_12 rfl (lv_at hl 0 rfl) ?_
    refine va_get (D := D) (ci := 7) (v := .int (J ap)) (C := R_Nf) (T := T_Nf) (N := 9) hx hb hts i_Nf hown hK hP 0 rfl rfl 7 (by decide) (hts _ mw_193) (fun _ h9 => h9) rfl d_Nf_isLookedFor_13 ?_
    refine lv_iconst (v := J (-1)) hx hb d_Nf_isLookedFor_16 rfl ?_
    refine w_icmp_eq (tgt := 36) hx hb d_Nf_isLookedFor_17 (by decide) (by omega) (by omega) (fun c_17 => ?_) (fun c_17 => ?_)
    · refine lv_iconst (v := J (1)) hx hb d_Nf_isLookedFor_36 rfl ?_
      refine lv_goto (tgt := 41) hx hb d_Nf_isLookedFor_37 (by decide) ?_
      exact Ri_ret hx hb hr hlocks hQ hH d_Nf_isLookedFor_41 (nb_z (by omega)) (by unfold b2; split <;> omega)
    · refine lv_aload_n hx hb d_Nf_isLookedFor_20 rfl (lv_at hl 0 rfl) ?_
      refine va_get (D := D) (ci := 7) (v := .int (J ap)) (C := R_Nf) (T := T_Nf) (N := 9) hx hb hts i_Nf hown hK hP 0 rfl rfl 7 (by decide) (hts _ mw_193) (fun _ h9 => h9) rfl d_Nf_isLookedFor_21 ?_
      refine lv_aload_n hx hb d_Nf_isLookedFor_24 rfl (lv_at hl 0 rfl) ?_
      refine va_get (D := D) (ci := 7) (v := .ref bk) (C := R_Nf) (T := T_Nf) (N := 9) hx hb hts i_Nf hown hK hP 0 rfl rfl 0 (by decide) (hts _ mw_186) (fun _ h9 => h9) rfl d_Nf_isLookedFor_25 ?_
      refine va_get (D := D) (ci := 0) (v := .ref q1) (C := R_Bk) (T := T_Bk) (N := 6) hx hb hts i_Bk hown hK hP 1 rfl rfl 1 (by decide) (hts _ mw_78) (fun _ h9 => h9) rfl d_Nf_isLookedFor_28 ?_
      refine lv_iload_n hx hb d_Nf_isLookedFor_31 rfl (lv_at hl 1 rfl) ?_
      refine w_iald hx hb hK hP 2 0 rfl rfl en (by omega) (by omega) (by omega) d_Nf_isLookedFor_32 ?_
      refine w_icmp_ne (tgt := 40) hx hb d_Nf_isLookedFor_33 (by decide) (by omega) (by omega) (fun c_33 => ?_) (fun c_33 => ?_)
      · refine lv_iconst (v := J (0)) hx hb d_Nf_isLookedFor_40 rfl ?_
        exact Ri_ret hx hb hr hlocks hQ hH d_Nf_isLookedFor_41 (nb_z (by omega)) (by unfold b2; split <;> omega)
      · refine lv_iconst (v := J (1)) hx hb d_Nf_isLookedFor_36 rfl ?_
        refine lv_goto (tgt := 41) hx hb d_Nf_isLookedFor_37 (by decide) ?_
        exact Ri_ret hx hb hr hlocks hQ hH d_Nf_isLookedFor_41 (nb_z (by omega)) (by unfold b2; split <;> omega)
set_option maxHeartbeats 4000000 in
set_option maxRecDepth 100000 in
theorem c_Nf_costOfPair_c (l : Launch) (D : va_G) (cI cZ cJ : ClassId) (sz : Nat) (o : Nat) (bk : Nat) (wA : Nat) (wo : Nat) (m1 : Nat) (m2 : Nat) (pa : Nat) (hi : Nat) (wB : Nat) (q1 : Nat) (q2 : Nat) (q3 : Nat) (q4 : Nat) (n : Nat) (ap : Int) (sw : Int) (ra : Nat) (aL : Nat) (aN : Nat) (bL : Nat) (bN : Nat) (wa : Nat) (ca1 : Int) (cb1 : Int) (wt : Nat → Int) (ga : Nat → Int) (la : Nat → Int) (gb : Nat → Int) (lt : Nat → Int) (r0 : Nat → Int) (w : Nat) (d : Nat) (hw : ∀ k, 0 ≤ wt k ∧ wt k ≤ 1000) (hla : ∀ k, 0 ≤ la k ∧ la k ≤ 10) (hlt : ∀ k, 0 ≤ lt k ∧ lt k ≤ 10) (hga : ∀ k, 0 ≤ ga k ∧ ga k < 26) (hgb : ∀ k, 0 ≤ gb k ∧ gb k < 26) (hwd : w < 3 ∧ d < 120) (hr0 : ∀ k, 0 ≤ r0 k ∧ r0 k ≤ 100000) : Mi l y_Nf_costOfPair w_Nf_costOfPair ({ frames := 4, cells := 0, slots := 0, locals := 94 }) true D classes [(cI, .int), (cZ, .boolean), (cJ, .long)] sz [.ref o, .int (J ((w : Nat) : Int)), .int (J ((d : Nat) : Int)), .ref m1] [(o, .inr (7, [.ref bk, .ref wA, .ref wo, .ref m1, .ref m2, .ref pa, .ref hi, .int (J ap), .int (J sw)])), (bk, .inr (0, [.ref wB, .ref q1, .ref q2, .ref q3, .ref q4, .int (J ((n : Nat) : Int))])), (m1, .inr (1, [.ref wo, .ref ra])), (ra, ca cI 11 r0), (wo, .inr (5, [.ref wa])), (wa, ca cI 6 wt), (wA, .inr (6, [.ref aL, .ref aN, .int (J ca1)])), (aL, ca cI 30 ga), (aN, ca cI 3 la), (wB, .inr (6, [.ref bL, .ref bN, .int (J cb1)])), (bL, ca cI 1200 gb), (bN, ca cI 120 lt)] (if 0 < la w ∧ 0 < lt d then ed wt (fun t => ga (w * 10 + t)) (fun t => gb (d * 10 + t)) (la w).toNat (lt d).toNat else -1) (S := Nat → Int) (fun f => ∀ k, 0 ≤ f k ∧ f k ≤ 100000) (fun u : Nat → Int => [(o, .inr (7, [.ref bk, .ref wA, .ref wo, .ref m1, .ref m2, .ref pa, .ref hi, .int (J ap), .int (J sw)])), (bk, .inr (0, [.ref wB, .ref q1, .ref q2, .ref q3, .ref q4, .int (J ((n : Nat) : Int))])), (m1, .inr (1, [.ref wo, .ref ra])), (ra, ca cI 11 u), (wo, .inr (5, [.ref wa])), (wa, ca cI 6 wt), (wA, .inr (6, [.ref aL, .ref aN, .int (J ca1)])), (aL, ca cI 30 ga), (aN, ca cI 3 la), (wB, .inr (6, [.ref bL, .ref bN, .int (J cb1)])), (bL, ca cI 1200 gb), (bN, ca cI 120 lt)]) 0 0 := by
  refine Mi_of (cc := b_Nf_costOfPair) (maxL := 4) (by decide) rfl (Nat.le_of_ble_eq_true rfl) ?_
  intro p e s m args below meth c hx hb hr hml hts hown hlocks A hA hP hK hD hT hS Q hQ H hH ls hl
  subst hH
  have hl : lv_has ls 4 [(0, .ref o), (1, .int (J ((w : Nat) : Int))), (2, .int (J ((d : Nat) : Int))), (3, .ref m1)] := hl
  obtain ⟨tt, hZ, hTt, hF1, hF2⟩ := hT rfl
  have l1 := hla w
  have l2 := hlt d
  refine lv_aload_n hx hb d_Nf_costOfPair_0 rfl (lv_at hl 0 rfl) ?_
  refine va_get (D := D) (ci := 7) (v := .ref wA) (C := R_Nf) (T := T_Nf) (N := 9) hx hb hts i_Nf hown hK hP 0 rfl rfl 1 (by decide) (hts _ mw_187) (fun _ h9 => h9) rfl d_Nf_costOfPair_1 ?_
  refine lv_iload_n hx hb d_Nf_costOfPair_4 rfl (lv_at hl 1 rfl) ?_
  refine Ri_call (va_runV (As := [.int (J ((w : Nat) : Int))]) (rest := []) ⟨hx, hb, hml, hown, hts⟩ (c_Wo_isNone l D cI cZ cJ wA aL aN 3 ca1 la w (by first | assumption | omega) (by first | assumption | omega) (by first | assumption | omega)) (cwV 1 hts (g_V mw_303 mw_304 mw_305 mw_27 mw_306) rfl rfl rfl (by decide +kernel) ⟨Nat.le_of_ble_eq_true rfl, Nat.le_of_ble_eq_true rfl⟩) (pre_RV hP hK [6, 8] rfl 6 0 rfl rfl) rfl rfl hl.1 rfl (lv_room (Nat.le_of_ble_eq_true rfl)) d_Nf_costOfPair_5 ⟨Nat.le_of_ble_eq_true rfl, Nat.le_of_ble_eq_true rfl⟩) ?_
  refine w_if_ne (tgt := 25) hx hb d_Nf_costOfPair_8 (by decide) (rg_b2) (fun c_8 => ?_) (fun c_8 => ?_)
  · have c_8 := b2_n0.mp c_8
    refine lv_iconst (v := J (-1)) hx hb d_Nf_costOfPair_25 rfl ?_
    exact Mi_ret hx hb hr hlocks hQ d_Nf_costOfPair_26 hP hK hD hS nb_i (by rw [if_neg (by omega)]) r0 (hr0) [0, 1, 2, 3, 4, 5, 6, 7, 8, 9, 10, 11] rfl (by decide)
  · have c_8 := b2_0.mp c_8
    refine lv_aload_n hx hb d_Nf_costOfPair_11 rfl (lv_at hl 0 rfl) ?_
    refine va_get (D := D) (ci := 7) (v := .ref bk) (C := R_Nf) (T := T_Nf) (N := 9) hx hb hts i_Nf hown hK hP 0 rfl rfl 0 (by decide) (hts _ mw_186) (fun _ h9 => h9) rfl d_Nf_costOfPair_12 ?_
    refine va_get (D := D) (ci := 0) (v := .ref wB) (C := R_Bk) (T := T_Bk) (N := 6) hx hb hts i_Bk hown hK hP 1 rfl rfl 0 (by decide) (hts _ mw_76) (fun _ h9 => h9) rfl d_Nf_costOfPair_15 ?_
    refine lv_iload_n hx hb d_Nf_costOfPair_18 rfl (lv_at hl 2 rfl) ?_
    refine Ri_call (va_runV (As := [.int (J ((d : Nat) : Int))]) (rest := []) ⟨hx, hb, hml, hown, hts⟩ (c_Wo_isNone l D cI cZ cJ wB bL bN 120 cb1 lt d (by first | assumption | omega) (by first | assumption | omega) (by first | assumption | omega)) (cwV 1 hts (g_V mw_303 mw_304 mw_305 mw_27 mw_306) rfl rfl rfl (by decide +kernel) ⟨Nat.le_of_ble_eq_true rfl, Nat.le_of_ble_eq_true rfl⟩) (pre_RV hP hK [9, 11] rfl 6 0 rfl rfl) rfl rfl hl.1 rfl (lv_room (Nat.le_of_ble_eq_true rfl)) d_Nf_costOfPair_19 ⟨Nat.le_of_ble_eq_true rfl, Nat.le_of_ble_eq_true rfl⟩) ?_
    refine w_if_eq (tgt := 27) hx hb d_Nf_costOfPair_22 (by decide) (rg_b2) (fun c_22 => ?_) (fun c_22 => ?_)
    · have c_22 := b2_0.mp c_22
      refine lv_aload_n hx hb d_Nf_costOfPair_27 rfl (lv_at hl 3 rfl) ?_
      refine lv_aload_n hx hb d_Nf_costOfPair_28 rfl (lv_at hl 0 rfl) ?_
      refine va_get (D := D) (ci := 7) (v := .ref wA) (C := R_Nf) (T := T_Nf) (N := 9) hx hb hts i_Nf hown hK hP 0 rfl rfl 1 (by decide) (hts _ mw_187) (fun _ h9 => h9) rfl d_Nf_costOfPair_29 ?_
      refine lv_iload_n hx hb d_Nf_costOfPair_32 rfl (lv_at hl 1 rfl) ?_
      refine lv_aload_n hx hb d_Nf_costOfPair_33 rfl (lv_at hl 0 rfl) ?_
      refine va_get (D := D) (ci := 7) (v := .ref bk) (C := R_Nf) (T := T_Nf) (N := 9) hx hb hts i_Nf hown hK hP 0 rfl rfl 0 (by decide) (hts _ mw_186) (fun _ h9 => h9) rfl d_Nf_costOfPair_34 ?_
      refine va_get (D := D) (ci := 0) (v := .ref wB) (C := R_Bk) (T := T_Bk) (N := 6) hx hb hts i_Bk hown hK hP 1 rfl rfl 0 (by decide) (hts _ mw_76) (fun _ h9 => h9) rfl d_Nf_costOfPair_37 ?_
      refine lv_iload_n hx hb d_Nf_costOfPair_40 rfl (lv_at hl 2 rfl) ?_
      refine Mi_callF (wr := [(o, .inr (7, [.ref bk, .ref wA, .ref wo, .ref m1, .ref m2, .ref pa, .ref hi, .int (J ap), .int (J sw)])), (bk, .inr (0, [.ref wB, .ref q1, .ref q2, .ref q3, .ref q4, .int (J ((n : Nat) : Int))]))]) (va_runF (As := [.ref wA, .int (J ((w : Nat) : Int)), .ref wB, .int (J ((d : Nat) : Int))]) (rest := []) (hK.1 1 _ rfl).2 ⟨hx, hb, hml, hown, hts⟩ (c_Bc_between l D cI cZ cJ s.heap.size m1 wo wa ra wA aL aN wB bL bN 30 3 1200 120 ca1 cb1 wt r0 ga la gb lt w d (by first | assumption | omega) (by first | assumption | omega) (by first | assumption | omega) (by first | assumption | omega) (by first | assumption | omega) (by first | assumption | omega) (by first | assumption | omega) (by first | assumption | omega)) (va_cwF 4 hts (g_F mw_316 mw_320 mw_322 mw_29 mw_324) rfl rfl rfl hF1 (by decide +kernel) ⟨Nat.le_of_ble_eq_true rfl, Nat.le_of_ble_eq_true rfl⟩) (pre_WV hP hK hD [2, 3, 4, 5, 6, 7, 8, 9, 10, 11] rfl (by decide) 1 0 rfl rfl (fun _ => (hT rfl).at hD hS hA [2, 3, 4, 5, 6, 7, 8, 9, 10, 11] rfl)) rfl rfl hl.1 rfl (lv_room (Nat.le_of_ble_eq_true rfl)) d_Nf_costOfPair_41 ⟨Nat.le_of_ble_eq_true rfl, Nat.le_of_ble_eq_true rfl⟩) hP hD hS hA [2, 3, 4, 5, 6, 7, 8, 9, 10, 11] [0, 1] rfl rfl (by decide) (by decide) (fun u_41 H locs hu_41 hP hD hS => ?_)
      have hP : va_P D classes [(o, .inr (7, [.ref bk, .ref wA, .ref wo, .ref m1, .ref m2, .ref pa, .ref hi, .int (J ap), .int (J sw)])), (bk, .inr (0, [.ref wB, .ref q1, .ref q2, .ref q3, .ref q4, .int (J ((n : Nat) : Int))])), (m1, .inr (1, [.ref wo, .ref ra])), (ra, ca cI 11 u_41), (wo, .inr (5, [.ref wa])), (wa, ca cI 6 wt), (wA, .inr (6, [.ref aL, .ref aN, .int (J ca1)])), (aL, ca cI 30 ga), (aN, ca cI 3 la), (wB, .inr (6, [.ref bL, .ref bN, .int (J cb1)])), (bL, ca cI 1200 gb), (bN, ca cI 120 lt)] H := hP
      have hD : va_D A [(o, .inr (7, [.ref bk, .ref wA, .ref wo, .ref m1, .ref m2, .ref pa, .ref hi, .int (J ap), .int (J sw)])), (bk, .inr (0, [.ref wB, .ref q1, .ref q2, .ref q3, .ref q4, .int (J ((n : Nat) : Int))])), (m1, .inr (1, [.ref wo, .ref ra])), (ra, ca cI 11 u_41), (wo, .inr (5, [.ref wa])), (wa, ca cI 6 wt), (wA, .inr (6, [.ref aL, .ref aN, .int (J ca1)])), (aL, ca cI 30 ga), (aN, ca cI 3 la), (wB, .inr (6, [.ref bL, .ref bN, .int (J cb1)])), (bL, ca cI 1200 gb), (bN, ca cI 120 lt)] := hD
      exact Mi_ret hx hb hr hlocks hQ d_Nf_costOfPair_46 hP hK hD hS nb_i (by rw [if_pos (by omega)]) u_41 (hu_41) [0, 1, 2, 3, 4, 5, 6, 7, 8, 9, 10, 11] rfl (by decide)
    · have c_22 := b2_n0.mp c_22
      refine lv_iconst (v := J (-1)) hx hb d_Nf_costOfPair_25 rfl ?_
      exact Mi_ret hx hb hr hlocks hQ d_Nf_costOfPair_26 hP hK hD hS nb_i (by rw [if_neg (by omega)]) r0 (hr0) [0, 1, 2, 3, 4, 5, 6, 7, 8, 9, 10, 11] rfl (by decide)
set_option maxHeartbeats 4000000 in
set_option maxRecDepth 100000 in
theorem c_Nf_costOfPair_n (l : Launch) (D : va_G) (cI cZ cJ : ClassId) (sz : Nat) (o : Nat) (bk : Nat) (wA : Nat) (wo : Nat) (m1 : Nat) (m2 : Nat) (pa : Nat) (hi : Nat) (wB : Nat) (q1 : Nat) (q2 : Nat) (q3 : Nat) (q4 : Nat) (n : Nat) (ap : Int) (sw : Int) (sa : Nat) (aL : Nat) (aN : Nat) (bL : Nat) (bN : Nat) (wa : Nat) (ca1 : Int) (cb1 : Int) (wt : Nat → Int) (ga : Nat → Int) (la : Nat → Int) (gb : Nat → Int) (lt : Nat → Int) (w : Nat) (d : Nat) (hw : ∀ k, 0 ≤ wt k ∧ wt k ≤ 1000) (hla : ∀ k, 0 ≤ la k ∧ la k ≤ 10) (hlt : ∀ k, 0 ≤ lt k ∧ lt k ≤ 10) (hga : ∀ k, 0 ≤ ga k ∧ ga k < 26) (hgb : ∀ k, 0 ≤ gb k ∧ gb k < 26) (hwd : w < 3 ∧ d < 120) : Mi l y_Nf_costOfPair w_Nf_costOfPair ({ frames := 3, cells := 0, slots := 0, locals := 77 }) true D classes [(cI, .int), (cZ, .boolean), (cJ, .long)] sz [.ref o, .int (J ((w : Nat) : Int)), .int (J ((d : Nat) : Int)), .ref m2] [(o, .inr (7, [.ref bk, .ref wA, .ref wo, .ref m1, .ref m2, .ref pa, .ref hi, .int (J ap), .int (J sw)])), (bk, .inr (0, [.ref wB, .ref q1, .ref q2, .ref q3, .ref q4, .int (J ((n : Nat) : Int))])), (m2, .inr (2, [.ref wo, .ref sa])), (sa, ca cI 26 (fun _ => 0)), (wo, .inr (5, [.ref wa])), (wa, ca cI 6 wt), (wA, .inr (6, [.ref aL, .ref aN, .int (J ca1)])), (aL, ca cI 30 ga), (aN, ca cI 3 la), (wB, .inr (6, [.ref bL, .ref bN, .int (J cb1)])), (bL, ca cI 1200 gb), (bN, ca cI 120 lt)] (if 0 < la w ∧ 0 < lt d then lb wt (fun t => ga (w * 10 + t)) (la w).toNat (fun t => gb (d * 10 + t)) (lt d).toNat else -1) (S := Unit) (fun _ => True) (fun u : Unit => [(o, .inr (7, [.ref bk, .ref wA, .ref wo, .ref m1, .ref m2, .ref pa, .ref hi, .int (J ap), .int (J sw)])), (bk, .inr (0, [.ref wB, .ref q1, .ref q2, .ref q3, .ref q4, .int (J ((n : Nat) : Int))])), (m2, .inr (2, [.ref wo, .ref sa])), (sa, ca cI 26 (fun _ => 0)), (wo, .inr (5, [.ref wa])), (wa, ca cI 6 wt), (wA, .inr (6, [.ref aL, .ref aN, .int (J ca1)])), (aL, ca cI 30 ga), (aN, ca cI 3 la), (wB, .inr (6, [.ref bL, .ref bN, .int (J cb1)])), (bL, ca cI 1200 gb), (bN, ca cI 120 lt)]) 0 0 := by
  refine Mi_of (cc := b_Nf_costOfPair) (maxL := 4) (by decide) rfl (Nat.le_of_ble_eq_true rfl) ?_
  intro p e s m args below meth c hx hb hr hml hts hown hlocks A hA hP hK hD hT hS Q hQ H hH ls hl
  subst hH
  have hl : lv_has ls 4 [(0, .ref o), (1, .int (J ((w : Nat) : Int))), (2, .int (J ((d : Nat) : Int))), (3, .ref m2)] := hl
  obtain ⟨tt, hZ, hTt, hF1, hF2⟩ := hT rfl
  have l1 := hla w
  have l2 := hlt d
  refine lv_aload_n hx hb d_Nf_costOfPair_0 rfl (lv_at hl 0 rfl) ?_
  refine va_get (D := D) (ci := 7) (v := .ref wA) (C := R_Nf) (T := T_Nf) (N := 9) hx hb hts i_Nf hown hK hP 0 rfl rfl 1 (by decide) (hts _ mw_187) (fun _ h9 => h9) rfl d_Nf_costOfPair_1 ?_
  refine lv_iload_n hx hb d_Nf_costOfPair_4 rfl (lv_at hl 1 rfl) ?_
  refine Ri_call (va_runV (As := [.int (J ((w : Nat) : Int))]) (rest := []) ⟨hx, hb, hml, hown, hts⟩ (c_Wo_isNone l D cI cZ cJ wA aL aN 3 ca1 la w (by first | assumption | omega) (by first | assumption | omega) (by first | assumption | omega)) (cwV 1 hts (g_V mw_303 mw_304 mw_305 mw_27 mw_306) rfl rfl rfl (by decide +kernel) ⟨Nat.le_of_ble_eq_true rfl, Nat.le_of_ble_eq_true rfl⟩) (pre_RV hP hK [6, 8] rfl 6 0 rfl rfl) rfl rfl hl.1 rfl (lv_room (Nat.le_of_ble_eq_true rfl)) d_Nf_costOfPair_5 ⟨Nat.le_of_ble_eq_true rfl, Nat.le_of_ble_eq_true rfl⟩) ?_
  refine w_if_ne (tgt := 25) hx hb d_Nf_costOfPair_8 (by decide) (rg_b2) (fun c_8 => ?_) (fun c_8 => ?_)
  · have c_8 := b2_n0.mp c_8
    refine lv_iconst (v := J (-1)) hx hb d_Nf_costOfPair_25 rfl ?_
    exact Mi_ret hx hb hr hlocks hQ d_Nf_costOfPair_26 hP hK hD hS nb_i (by rw [if_neg (by omega)]) () (trivial) [0, 1, 2, 3, 4, 5, 6, 7, 8, 9, 10, 11] rfl (by decide)
  · have c_8 := b2_0.mp c_8
    refine lv_aload_n hx hb d_Nf_costOfPair_11 rfl (lv_at hl 0 rfl) ?_
    refine va_get (D := D) (ci := 7) (v := .ref bk) (C := R_Nf) (T := T_Nf) (N := 9) hx hb hts i_Nf hown hK hP 0 rfl rfl 0 (by decide) (hts _ mw_186) (fun _ h9 => h9) rfl d_Nf_costOfPair_12 ?_
    refine va_get (D := D) (ci := 0) (v := .ref wB) (C := R_Bk) (T := T_Bk) (N := 6) hx hb hts i_Bk hown hK hP 1 rfl rfl 0 (by decide) (hts _ mw_76) (fun _ h9 => h9) rfl d_Nf_costOfPair_15 ?_
    refine lv_iload_n hx hb d_Nf_costOfPair_18 rfl (lv_at hl 2 rfl) ?_
    refine Ri_call (va_runV (As := [.int (J ((d : Nat) : Int))]) (rest := []) ⟨hx, hb, hml, hown, hts⟩ (c_Wo_isNone l D cI cZ cJ wB bL bN 120 cb1 lt d (by first | assumption | omega) (by first | assumption | omega) (by first | assumption | omega)) (cwV 1 hts (g_V mw_303 mw_304 mw_305 mw_27 mw_306) rfl rfl rfl (by decide +kernel) ⟨Nat.le_of_ble_eq_true rfl, Nat.le_of_ble_eq_true rfl⟩) (pre_RV hP hK [9, 11] rfl 6 0 rfl rfl) rfl rfl hl.1 rfl (lv_room (Nat.le_of_ble_eq_true rfl)) d_Nf_costOfPair_19 ⟨Nat.le_of_ble_eq_true rfl, Nat.le_of_ble_eq_true rfl⟩) ?_
    refine w_if_eq (tgt := 27) hx hb d_Nf_costOfPair_22 (by decide) (rg_b2) (fun c_22 => ?_) (fun c_22 => ?_)
    · have c_22 := b2_0.mp c_22
      refine lv_aload_n hx hb d_Nf_costOfPair_27 rfl (lv_at hl 3 rfl) ?_
      refine lv_aload_n hx hb d_Nf_costOfPair_28 rfl (lv_at hl 0 rfl) ?_
      refine va_get (D := D) (ci := 7) (v := .ref wA) (C := R_Nf) (T := T_Nf) (N := 9) hx hb hts i_Nf hown hK hP 0 rfl rfl 1 (by decide) (hts _ mw_187) (fun _ h9 => h9) rfl d_Nf_costOfPair_29 ?_
      refine lv_iload_n hx hb d_Nf_costOfPair_32 rfl (lv_at hl 1 rfl) ?_
      refine lv_aload_n hx hb d_Nf_costOfPair_33 rfl (lv_at hl 0 rfl) ?_
      refine va_get (D := D) (ci := 7) (v := .ref bk) (C := R_Nf) (T := T_Nf) (N := 9) hx hb hts i_Nf hown hK hP 0 rfl rfl 0 (by decide) (hts _ mw_186) (fun _ h9 => h9) rfl d_Nf_costOfPair_34 ?_
      refine va_get (D := D) (ci := 0) (v := .ref wB) (C := R_Bk) (T := T_Bk) (N := 6) hx hb hts i_Bk hown hK hP 1 rfl rfl 0 (by decide) (hts _ mw_76) (fun _ h9 => h9) rfl d_Nf_costOfPair_37 ?_
      refine lv_iload_n hx hb d_Nf_costOfPair_40 rfl (lv_at hl 2 rfl) ?_
      refine Mi_callF (wr := [(o, .inr (7, [.ref bk, .ref wA, .ref wo, .ref m1, .ref m2, .ref pa, .ref hi, .int (J ap), .int (J sw)])), (bk, .inr (0, [.ref wB, .ref q1, .ref q2, .ref q3, .ref q4, .int (J ((n : Nat) : Int))]))]) (va_runF (As := [.ref wA, .int (J ((w : Nat) : Int)), .ref wB, .int (J ((d : Nat) : Int))]) (rest := []) (hK.1 2 _ rfl).2 ⟨hx, hb, hml, hown, hts⟩ (c_Bn_between l D cI cZ cJ s.heap.size m2 wo wa sa wA aL aN wB bL bN 30 3 1200 120 ca1 cb1 wt ga la gb lt w d (by first | assumption | omega) (by first | assumption | omega) (by first | assumption | omega) (by first | assumption | omega) (by first | assumption | omega) (by first | assumption | omega) (by first | assumption | omega)) (va_cwF 4 hts (g_F mw_316 mw_353 mw_355 mw_30 mw_357) rfl rfl rfl hF2 (by decide +kernel) ⟨Nat.le_of_ble_eq_true rfl, Nat.le_of_ble_eq_true rfl⟩) (pre_WV hP hK hD [2, 3, 4, 5, 6, 7, 8, 9, 10, 11] rfl (by decide) 2 0 rfl rfl (fun h => Bool.noConfusion h)) rfl rfl hl.1 rfl (lv_room (Nat.le_of_ble_eq_true rfl)) d_Nf_costOfPair_41 ⟨Nat.le_of_ble_eq_true rfl, Nat.le_of_ble_eq_true rfl⟩) hP hD hS hA [2, 3, 4, 5, 6, 7, 8, 9, 10, 11] [0, 1] rfl rfl (by decide) (by decide) (fun _u H locs _hu hP hD hS => ?_)
      have hP : va_P D classes [(o, .inr (7, [.ref bk, .ref wA, .ref wo, .ref m1, .ref m2, .ref pa, .ref hi, .int (J ap), .int (J sw)])), (bk, .inr (0, [.ref wB, .ref q1, .ref q2, .ref q3, .ref q4, .int (J ((n : Nat) : Int))])), (m2, .inr (2, [.ref wo, .ref sa])), (sa, ca cI 26 (fun _ => 0)), (wo, .inr (5, [.ref wa])), (wa, ca cI 6 wt), (wA, .inr (6, [.ref aL, .ref aN, .int (J ca1)])), (aL, ca cI 30 ga), (aN, ca cI 3 la), (wB, .inr (6, [.ref bL, .ref bN, .int (J cb1)])), (bL, ca cI 1200 gb), (bN, ca cI 120 lt)] H := hP
      have hD : va_D A [(o, .inr (7, [.ref bk, .ref wA, .ref wo, .ref m1, .ref m2, .ref pa, .ref hi, .int (J ap), .int (J sw)])), (bk, .inr (0, [.ref wB, .ref q1, .ref q2, .ref q3, .ref q4, .int (J ((n : Nat) : Int))])), (m2, .inr (2, [.ref wo, .ref sa])), (sa, ca cI 26 (fun _ => 0)), (wo, .inr (5, [.ref wa])), (wa, ca cI 6 wt), (wA, .inr (6, [.ref aL, .ref aN, .int (J ca1)])), (aL, ca cI 30 ga), (aN, ca cI 3 la), (wB, .inr (6, [.ref bL, .ref bN, .int (J cb1)])), (bL, ca cI 1200 gb), (bN, ca cI 120 lt)] := hD
      exact Mi_ret hx hb hr hlocks hQ d_Nf_costOfPair_46 hP hK hD hS nb_i (by rw [if_pos (by omega)]) () (trivial) [0, 1, 2, 3, 4, 5, 6, 7, 8, 9, 10, 11] rfl (by decide)
    · have c_22 := b2_n0.mp c_22
      refine lv_iconst (v := J (-1)) hx hb d_Nf_costOfPair_25 rfl ?_
      exact Mi_ret hx hb hr hlocks hQ d_Nf_costOfPair_26 hP hK hD hS nb_i (by rw [if_neg (by omega)]) () (trivial) [0, 1, 2, 3, 4, 5, 6, 7, 8, 9, 10, 11] rfl (by decide)
