set_option maxHeartbeats 4000000 in
set_option maxRecDepth 100000 in
theorem c_Mo_sumOf_bad (l : Launch) (D : va_G) (cI cZ cJ : ClassId) (sz : Nat) (o : Nat) (p1 : Nat) (p2 : Nat) (p3 : Nat) (p4 : Nat) (p5 : Nat) (p6 : Nat) (p7 : Nat) (p8 : Nat) (p9 : Nat) (pA : Nat) (pB : Nat) (pC : Nat) (th : Int) (n : Nat) (ap : Int) (fn : Nat) (wk : Int) (z : Int) (hz : rg z) (hn : n ≤ 40) (hno : z < 0 ∨ (n : Int) ≤ z) : Mi l y_Mo_sumOf w_Mo_sumOf ({ frames := 1, cells := 0, slots := 0, locals := 21 }) false D classes [(cI, .int), (cZ, .boolean), (cJ, .long)] sz [.ref o, .int (J z)] [(o, .inr (8, [.int (J th), .int (J ((n : Nat) : Int)), .ref p1, .ref p2, .ref p3, .ref p4, .ref p5, .ref p6, .int (J ap), .ref p7, .int (J ((fn : Nat) : Int)), .ref p8, .ref p9, .int (J wk), .ref pA, .ref pB, .ref pC]))] (-1) (S := Unit) (fun _ => True) (fun u : Unit => [(o, .inr (8, [.int (J 0), .int (J ((n : Nat) : Int)), .ref p1, .ref p2, .ref p3, .ref p4, .ref p5, .ref p6, .int (J ap), .ref p7, .int (J ((fn : Nat) : Int)), .ref p8, .ref p9, .int (J wk), .ref pA, .ref pB, .ref pC]))]) 0 0 := by
  refine Mi_of (cc := b_Mo_sumOf) (maxL := 2) (by decide) rfl (Nat.le_of_ble_eq_true rfl) ?_
  intro p e s m args below meth c hx hb hr hml hts hown hlocks A hA hP hK hD hT hS Q hQ H hH ls hl
  subst hH
  have hl : lv_has ls 2 [(0, .ref o), (1, .int (J z))] := hl
  refine lv_aload_n hx hb d_Mo_sumOf_0 rfl (lv_at hl 0 rfl) ?_
  refine lv_iconst (v := J (0)) hx hb d_Mo_sumOf_1 rfl ?_
  refine va_put (D := D) (ci := 8) (v := .int (J 0)) (ty := .int) (C := R_Mo) (T := T_Mo) (N := 17) hx hb hts i_Mo t_Mo k_Mo n_Mo hown hK hP hD hS 0 rfl rfl 0 (by decide) (hts _ mw_551) (fun _ h9 => h9) rfl (by decide +kernel) rfl rfl (Nat.le_of_ble_eq_true rfl) d_Mo_sumOf_2 (fun H locs hP hD hS => ?_)
  have hP : va_P D classes [(o, .inr (8, [.int (J 0), .int (J ((n : Nat) : Int)), .ref p1, .ref p2, .ref p3, .ref p4, .ref p5, .ref p6, .int (J ap), .ref p7, .int (J ((fn : Nat) : Int)), .ref p8, .ref p9, .int (J wk), .ref pA, .ref pB, .ref pC]))] H := hP
  have hD : va_D A [(o, .inr (8, [.int (J 0), .int (J ((n : Nat) : Int)), .ref p1, .ref p2, .ref p3, .ref p4, .ref p5, .ref p6, .int (J ap), .ref p7, .int (J ((fn : Nat) : Int)), .ref p8, .ref p9, .int (J wk), .ref pA, .ref pB, .ref pC]))] := hD
  refine lv_aload_n hx hb d_Mo_sumOf_5 rfl (lv_at hl 0 rfl) ?_
  refine lv_iload_n hx hb d_Mo_sumOf_6 rfl (lv_at hl 1 rfl) ?_
  refine Ri_call (va_runV (As := [.int (J z)]) (rest := []) ⟨hx, hb, hml, hown, hts⟩ (c_Mo_isEntry l D cI cZ cJ o p1 p2 p3 p4 p5 p6 p7 p8 p9 pA pB pC 0 n ap fn wk z (by first | with_reducible assumption | omega) (by first | with_reducible assumption | omega)) (cwV 1 hts (g_V mw_615 mw_617 mw_10 mw_33 mw_618) rfl rfl rfl (by decide +kernel) ⟨Nat.le_of_ble_eq_true rfl, Nat.le_of_ble_eq_true rfl⟩) (pre_RV hP hK [0] rfl 8 0 rfl rfl) rfl rfl hl.1 rfl (lv_room (Nat.le_of_ble_eq_true rfl)) d_Mo_sumOf_7 ⟨Nat.le_of_ble_eq_true rfl, Nat.le_of_ble_eq_true rfl⟩) ?_
  refine w_if_eq (tgt := 22) hx hb d_Mo_sumOf_10 (by decide) (rg_b2) (fun c_10 => ?_) (fun c_10 => ?_)
  · have c_10 := b2_0.mp c_10
    refine lv_iconst (v := J (-1)) hx hb d_Mo_sumOf_22 rfl ?_
    exact Mi_ret hx hb hr hlocks hQ d_Mo_sumOf_23 hP hK hD hS nb_i (by omega) () (trivial) [0] rfl (by decide)
  · have c_10 := b2_n0.mp c_10
    exfalso; omega
set_option maxHeartbeats 4000000 in
set_option maxRecDepth 100000 in
theorem c_Mo_sumOf (l : Launch) (D : va_G) (cI cZ cJ : ClassId) (sz : Nat) (o : Nat) (p1 : Nat) (p2 : Nat) (p3 : Nat) (p4 : Nat) (p5 : Nat) (p6 : Nat) (p7 : Nat) (p8 : Nat) (p9 : Nat) (pA : Nat) (pB : Nat) (pC : Nat) (th : Int) (n : Nat) (ap : Int) (fn : Nat) (wk : Int) (wt : Nat → Int) (ga : Nat → Int) (la : Nat → Int) (gb : Nat → Int) (lt : Nat → Int) (sp : Nat → Int) (cm : Nat → Int) (wy : Nat → Int) (en : Nat) (hw : ∀ k, 0 ≤ wt k ∧ wt k ≤ 1000) (hla : ∀ k, 0 ≤ la k ∧ la k ≤ 10) (hlt : ∀ k, 0 ≤ lt k ∧ lt k ≤ 10) (hga : ∀ k, 0 ≤ ga k ∧ ga k < 26) (hgb : ∀ k, 0 ≤ gb k ∧ gb k < 26) (hn : n ≤ 40) (hcm : ∀ j, 0 ≤ cm j ∧ cm j ≤ 20000) (hen : en < n) : Mi l y_Mo_sumOf w_Mo_sumOf ({ frames := 4, cells := 0, slots := 0, locals := 99 }) false D classes [(cI, .int), (cZ, .boolean), (cJ, .long)] sz [.ref o, .int (J ((en : Nat) : Int))] [(o, .inr (8, [.int (J th), .int (J ((n : Nat) : Int)), .ref p1, .ref p2, .ref p3, .ref p4, .ref p5, .ref p6, .int (J ap), .ref p7, .int (J ((fn : Nat) : Int)), .ref p8, .ref p9, .int (J wk), .ref pA, .ref pB, .ref pC])), (p5, ca cI 123 (cmb lt la 120)), (p6, ca cI 1230 (cmb gb ga 1200)), (p7, ca cI 6 wt), (pA, ca cI 121 sp), (pB, ca cI 9 cm), (pC, ca cI 3 wy)] (smc wt ga la gb lt en) (S := (Nat → Int) × (Nat → Int) × (Nat → Int)) (fun f => ∀ j, 0 ≤ f.2.1 j ∧ f.2.1 j ≤ 20000) (fun u : (Nat → Int) × (Nat → Int) × (Nat → Int) => [(o, .inr (8, [.int (J 0), .int (J ((n : Nat) : Int)), .ref p1, .ref p2, .ref p3, .ref p4, .ref p5, .ref p6, .int (J ap), .ref p7, .int (J ((fn : Nat) : Int)), .ref p8, .ref p9, .int (J wk), .ref pA, .ref pB, .ref pC])), (p5, ca cI 123 (cmb lt la 120)), (p6, ca cI 1230 (cmb gb ga 1200)), (p7, ca cI 6 wt), (pA, ca cI 121 (u.1)), (pB, ca cI 9 (u.2.1)), (pC, ca cI 3 (u.2.2))]) 0 0 := by
  refine Mi_of (cc := b_Mo_sumOf) (maxL := 2) (by decide) rfl (Nat.le_of_ble_eq_true rfl) ?_
  intro p e s m args below meth c hx hb hr hml hts hown hlocks A hA hP hK hD hT hS Q hQ H hH ls hl
  subst hH
  have hl : lv_has ls 2 [(0, .ref o), (1, .int (J ((en : Nat) : Int)))] := hl
  have hln : ∀ k, 0 ≤ (cmb lt la 120) k ∧ (cmb lt la 120) k ≤ 10 := fun k => cmb_P (P := fun x => 0 ≤ x ∧ x ≤ 10) 120 hlt hla k
  have hgl : ∀ k, 0 ≤ (cmb gb ga 1200) k ∧ (cmb gb ga 1200) k < 26 := fun k => cmb_P (P := fun x => 0 ≤ x ∧ x < 26) 1200 hgb hga k
  refine lv_aload_n hx hb d_Mo_sumOf_0 rfl (lv_at hl 0 rfl) ?_
  refine lv_iconst (v := J (0)) hx hb d_Mo_sumOf_1 rfl ?_
  refine va_put (D := D) (ci := 8) (v := .int (J 0)) (ty := .int) (C := R_Mo) (T := T_Mo) (N := 17) hx hb hts i_Mo t_Mo k_Mo n_Mo hown hK hP hD hS 0 rfl rfl 0 (by decide) (hts _ mw_551) (fun _ h9 => h9) rfl (by decide +kernel) rfl rfl (Nat.le_of_ble_eq_true rfl) d_Mo_sumOf_2 (fun H locs hP hD hS => ?_)
  have hP : va_P D classes [(o, .inr (8, [.int (J 0), .int (J ((n : Nat) : Int)), .ref p1, .ref p2, .ref p3, .ref p4, .ref p5, .ref p6, .int (J ap), .ref p7, .int (J ((fn : Nat) : Int)), .ref p8, .ref p9, .int (J wk), .ref pA, .ref pB, .ref pC])), (p5, ca cI 123 (cmb lt la 120)), (p6, ca cI 1230 (cmb gb ga 1200)), (p7, ca cI 6 wt), (pA, ca cI 121 sp), (pB, ca cI 9 cm), (pC, ca cI 3 wy)] H := hP
  have hD : va_D A [(o, .inr (8, [.int (J 0), .int (J ((n : Nat) : Int)), .ref p1, .ref p2, .ref p3, .ref p4, .ref p5, .ref p6, .int (J ap), .ref p7, .int (J ((fn : Nat) : Int)), .ref p8, .ref p9, .int (J wk), .ref pA, .ref pB, .ref pC])), (p5, ca cI 123 (cmb lt la 120)), (p6, ca cI 1230 (cmb gb ga 1200)), (p7, ca cI 6 wt), (pA, ca cI 121 sp), (pB, ca cI 9 cm), (pC, ca cI 3 wy)] := hD
  refine lv_aload_n hx hb d_Mo_sumOf_5 rfl (lv_at hl 0 rfl) ?_
  refine lv_iload_n hx hb d_Mo_sumOf_6 rfl (lv_at hl 1 rfl) ?_
  refine Ri_call (va_runV (As := [.int (J ((en : Nat) : Int))]) (rest := []) ⟨hx, hb, hml, hown, hts⟩ (c_Mo_isEntry l D cI cZ cJ o p1 p2 p3 p4 p5 p6 p7 p8 p9 pA pB pC 0 n ap fn wk ((en : Nat) : Int) (by first | with_reducible assumption | omega) (by first | with_reducible assumption | omega)) (cwV 1 hts (g_V mw_615 mw_617 mw_10 mw_33 mw_618) rfl rfl rfl (by decide +kernel) ⟨Nat.le_of_ble_eq_true rfl, Nat.le_of_ble_eq_true rfl⟩) (pre_RV hP hK [0] rfl 8 0 rfl rfl) rfl rfl hl.1 rfl (lv_room (Nat.le_of_ble_eq_true rfl)) d_Mo_sumOf_7 ⟨Nat.le_of_ble_eq_true rfl, Nat.le_of_ble_eq_true rfl⟩) ?_
  refine w_if_eq (tgt := 22) hx hb d_Mo_sumOf_10 (by decide) (rg_b2) (fun c_10 => ?_) (fun c_10 => ?_)
  · have c_10 := b2_0.mp c_10
    exfalso; omega
  · have c_10 := b2_n0.mp c_10
    refine lv_aload_n hx hb d_Mo_sumOf_13 rfl (lv_at hl 0 rfl) ?_
    refine lv_iload_n hx hb d_Mo_sumOf_14 rfl (lv_at hl 1 rfl) ?_
    refine lv_iconst (v := J (0)) hx hb d_Mo_sumOf_15 rfl ?_
    refine Mi_call (wr := []) (va_runV (As := [.int (J ((en : Nat) : Int)), .int (J 0)]) (rest := []) ⟨hx, hb, hml, hown, hts⟩ (c_Mo_sumBy_c l D cI cZ cJ H.size o p1 p2 p3 p4 p5 p6 p7 p8 p9 pA pB pC 0 n ap fn wk (cmb lt la 120) (cmb gb ga 1200) wt sp cm wy en (by first | with_reducible assumption | omega) (by first | with_reducible assumption | omega) (by first | with_reducible assumption | omega) (by first | with_reducible assumption | omega) (by first | with_reducible assumption | omega)) (cwV 2 hts (g_V mw_654 mw_656 mw_15 mw_33 mw_657) rfl rfl rfl (by decide +kernel) ⟨Nat.le_of_ble_eq_true rfl, Nat.le_of_ble_eq_true rfl⟩) (pre_WV hP hK hD [0, 1, 2, 3, 4, 5, 6] rfl (by decide) 8 0 rfl rfl (fun h => Bool.noConfusion h)) rfl rfl hl.1 rfl (lv_room (Nat.le_of_ble_eq_true rfl)) d_Mo_sumOf_16 ⟨Nat.le_of_ble_eq_true rfl, Nat.le_of_ble_eq_true rfl⟩) hP hD hS hA [0, 1, 2, 3, 4, 5, 6] [] rfl rfl (by decide) (by decide) (fun u_16 H locs hu_16 hP hD hS => ?_)
    have hP : va_P D classes [(o, .inr (8, [.int (J 0), .int (J ((n : Nat) : Int)), .ref p1, .ref p2, .ref p3, .ref p4, .ref p5, .ref p6, .int (J ap), .ref p7, .int (J ((fn : Nat) : Int)), .ref p8, .ref p9, .int (J wk), .ref pA, .ref pB, .ref pC])), (p5, ca cI 123 (cmb lt la 120)), (p6, ca cI 1230 (cmb gb ga 1200)), (p7, ca cI 6 wt), (pA, ca cI 121 (u_16.2.2)), (pB, ca cI 9 (u_16.1)), (pC, ca cI 3 (u_16.2.1))] H := hP
    have hD : va_D A [(o, .inr (8, [.int (J 0), .int (J ((n : Nat) : Int)), .ref p1, .ref p2, .ref p3, .ref p4, .ref p5, .ref p6, .int (J ap), .ref p7, .int (J ((fn : Nat) : Int)), .ref p8, .ref p9, .int (J wk), .ref pA, .ref pB, .ref pC])), (p5, ca cI 123 (cmb lt la 120)), (p6, ca cI 1230 (cmb gb ga 1200)), (p7, ca cI 6 wt), (pA, ca cI 121 (u_16.2.2)), (pB, ca cI 9 (u_16.1)), (pC, ca cI 3 (u_16.2.1))] := hD
    refine tp_J (y := smc wt ga la gb lt en) (by rw [pk_ce (by omega) hla hlt]; rfl) ?_
    refine lv_goto (tgt := 23) hx hb d_Mo_sumOf_19 (by decide) ?_
    exact Mi_ret hx hb hr hlocks hQ d_Mo_sumOf_23 hP hK hD hS nb_i (rfl) (u_16.2.2, u_16.1, u_16.2.1) (hu_16.1) [0, 1, 2, 3, 4, 5, 6] rfl (by decide)
set_option maxHeartbeats 4000000 in
set_option maxRecDepth 100000 in
theorem c_Mo_pair_bad (l : Launch) (D : va_G) (cI cZ cJ : ClassId) (sz : Nat) (o : Nat) (p1 : Nat) (p2 : Nat) (p3 : Nat) (p4 : Nat) (p5 : Nat) (p6 : Nat) (p7 : Nat) (p8 : Nat) (p9 : Nat) (pA : Nat) (pB : Nat) (pC : Nat) (th : Int) (n : Nat) (ap : Int) (fn : Nat) (wk : Int) (z : Int) (y : Int) (hz : rg z) (hy : rg y) (hn : n ≤ 40) (hno : z < 0 ∨ (n : Int) ≤ z ∨ y < 0 ∨ 3 ≤ y) : Mi l y_Mo_pair w_Mo_pair ({ frames := 1, cells := 0, slots := 0, locals := 21 }) false D classes [(cI, .int), (cZ, .boolean), (cJ, .long)] sz [.ref o, .int (J z), .int (J y)] [(o, .inr (8, [.int (J th), .int (J ((n : Nat) : Int)), .ref p1, .ref p2, .ref p3, .ref p4, .ref p5, .ref p6, .int (J ap), .ref p7, .int (J ((fn : Nat) : Int)), .ref p8, .ref p9, .int (J wk), .ref pA, .ref pB, .ref pC]))] (-1) (S := Unit) (fun _ => True) (fun u : Unit => [(o, .inr (8, [.int (J 0), .int (J ((n : Nat) : Int)), .ref p1, .ref p2, .ref p3, .ref p4, .ref p5, .ref p6, .int (J ap), .ref p7, .int (J ((fn : Nat) : Int)), .ref p8, .ref p9, .int (J wk), .ref pA, .ref pB, .ref pC]))]) 0 0 := by
  refine Mi_of (cc := b_Mo_pair) (maxL := 4) (by decide) rfl (Nat.le_of_ble_eq_true rfl) ?_
  intro p e s m args below meth c hx hb hr hml hts hown hlocks A hA hP hK hD hT hS Q hQ H hH ls hl
  subst hH
  have hl : lv_has ls 4 [(0, .ref o), (1, .int (J z)), (2, .int (J y))] := hl
  refine lv_aload_n hx hb d_Mo_pair_0 rfl (lv_at hl 0 rfl) ?_
  refine lv_iconst (v := J (0)) hx hb d_Mo_pair_1 rfl ?_
  refine va_put (D := D) (ci := 8) (v := .int (J 0)) (ty := .int) (C := R_Mo) (T := T_Mo) (N := 17) hx hb hts i_Mo t_Mo k_Mo n_Mo hown hK hP hD hS 0 rfl rfl 0 (by decide) (hts _ mw_551) (fun _ h9 => h9) rfl (by decide +kernel) rfl rfl (Nat.le_of_ble_eq_true rfl) d_Mo_pair_2 (fun H locs hP hD hS => ?_)
  have hP : va_P D classes [(o, .inr (8, [.int (J 0), .int (J ((n : Nat) : Int)), .ref p1, .ref p2, .ref p3, .ref p4, .ref p5, .ref p6, .int (J ap), .ref p7, .int (J ((fn : Nat) : Int)), .ref p8, .ref p9, .int (J wk), .ref pA, .ref pB, .ref pC]))] H := hP
  have hD : va_D A [(o, .inr (8, [.int (J 0), .int (J ((n : Nat) : Int)), .ref p1, .ref p2, .ref p3, .ref p4, .ref p5, .ref p6, .int (J ap), .ref p7, .int (J ((fn : Nat) : Int)), .ref p8, .ref p9, .int (J wk), .ref pA, .ref pB, .ref pC]))] := hD
  refine lv_aload_n hx hb d_Mo_pair_5 rfl (lv_at hl 0 rfl) ?_
  refine lv_iload_n hx hb d_Mo_pair_6 rfl (lv_at hl 1 rfl) ?_
  refine Ri_call (va_runV (As := [.int (J z)]) (rest := []) ⟨hx, hb, hml, hown, hts⟩ (c_Mo_isEntry l D cI cZ cJ o p1 p2 p3 p4 p5 p6 p7 p8 p9 pA pB pC 0 n ap fn wk z (by first | with_reducible assumption | omega) (by first | with_reducible assumption | omega)) (cwV 1 hts (g_V mw_615 mw_617 mw_10 mw_33 mw_618) rfl rfl rfl (by decide +kernel) ⟨Nat.le_of_ble_eq_true rfl, Nat.le_of_ble_eq_true rfl⟩) (pre_RV hP hK [0] rfl 8 0 rfl rfl) rfl rfl hl.1 rfl (lv_room (Nat.le_of_ble_eq_true rfl)) d_Mo_pair_7 ⟨Nat.le_of_ble_eq_true rfl, Nat.le_of_ble_eq_true rfl⟩) ?_
  refine w_if_eq (tgt := 20) hx hb d_Mo_pair_10 (by decide) (rg_b2) (fun c_10 => ?_) (fun c_10 => ?_)
  · have c_10 := b2_0.mp c_10
    refine lv_iconst (v := J (-1)) hx hb d_Mo_pair_20 rfl ?_
    exact Mi_ret hx hb hr hlocks hQ d_Mo_pair_21 hP hK hD hS nb_i (by omega) () (trivial) [0] rfl (by decide)
  · have c_10 := b2_n0.mp c_10
    refine lv_iload_n hx hb d_Mo_pair_13 rfl (lv_at hl 2 rfl) ?_
    refine Ri_call (va_runS (As := [.int (J y)]) (rest := []) ⟨hx, hb, hml, hown, hts⟩ (c_Mo_isWord l D cI cZ cJ y (by first | with_reducible assumption | omega)) (va_cwS 1 hts (g_S mw_619 mw_620 mw_33 mw_621) rfl rfl rfl (by decide +kernel) ⟨Nat.le_of_ble_eq_true rfl, Nat.le_of_ble_eq_true rfl⟩) (pre_RS hP hK [] rfl) rfl rfl hl.1 rfl (lv_room (Nat.le_of_ble_eq_true rfl)) d_Mo_pair_14 ⟨Nat.le_of_ble_eq_true rfl, Nat.le_of_ble_eq_true rfl⟩) ?_
    refine w_if_ne (tgt := 22) hx hb d_Mo_pair_17 (by decide) (rg_b2) (fun c_17 => ?_) (fun c_17 => ?_)
    · have c_17 := b2_n0.mp c_17
      exfalso; omega
    · have c_17 := b2_0.mp c_17
      refine lv_iconst (v := J (-1)) hx hb d_Mo_pair_20 rfl ?_
      exact Mi_ret hx hb hr hlocks hQ d_Mo_pair_21 hP hK hD hS nb_i (by omega) () (trivial) [0] rfl (by decide)
set_option maxHeartbeats 4000000 in
set_option maxRecDepth 100000 in
theorem c_Mo_pair (l : Launch) (D : va_G) (cI cZ cJ : ClassId) (sz : Nat) (o : Nat) (p1 : Nat) (p2 : Nat) (p3 : Nat) (p4 : Nat) (p5 : Nat) (p6 : Nat) (p7 : Nat) (p8 : Nat) (p9 : Nat) (pA : Nat) (pB : Nat) (pC : Nat) (th : Int) (n : Nat) (ap : Int) (fn : Nat) (wk : Int) (wt : Nat → Int) (ga : Nat → Int) (la : Nat → Int) (gb : Nat → Int) (lt : Nat → Int) (sp : Nat → Int) (cm : Nat → Int) (wy : Nat → Int) (en : Nat) (w : Nat) (hw : ∀ k, 0 ≤ wt k ∧ wt k ≤ 1000) (hla : ∀ k, 0 ≤ la k ∧ la k ≤ 10) (hlt : ∀ k, 0 ≤ lt k ∧ lt k ≤ 10) (hga : ∀ k, 0 ≤ ga k ∧ ga k < 26) (hgb : ∀ k, 0 ≤ gb k ∧ gb k < 26) (hn : n ≤ 40) (hcm : ∀ j, 0 ≤ cm j ∧ cm j ≤ 20000) (hen : en < n) (hw3 : w < 3) : Mi l y_Mo_pair w_Mo_pair ({ frames := 4, cells := 0, slots := 0, locals := 99 }) false D classes [(cI, .int), (cZ, .boolean), (cJ, .long)] sz [.ref o, .int (J ((en : Nat) : Int)), .int (J ((w : Nat) : Int))] [(o, .inr (8, [.int (J th), .int (J ((n : Nat) : Int)), .ref p1, .ref p2, .ref p3, .ref p4, .ref p5, .ref p6, .int (J ap), .ref p7, .int (J ((fn : Nat) : Int)), .ref p8, .ref p9, .int (J wk), .ref pA, .ref pB, .ref pC])), (p5, ca cI 123 (cmb lt la 120)), (p6, ca cI 1230 (cmb gb ga 1200)), (p7, ca cI 6 wt), (pA, ca cI 121 sp), (pB, ca cI 9 cm), (pC, ca cI 3 wy)] (dgt (pkw la (shf lt (en * 3)) wt (csc wt ga la gb lt en) (nw la + nw (shf lt (en * 3))) 64).2 w) (S := (Nat → Int) × (Nat → Int) × (Nat → Int)) (fun f => ∀ j, 0 ≤ f.2.1 j ∧ f.2.1 j ≤ 20000) (fun u : (Nat → Int) × (Nat → Int) × (Nat → Int) => [(o, .inr (8, [.int (J 0), .int (J ((n : Nat) : Int)), .ref p1, .ref p2, .ref p3, .ref p4, .ref p5, .ref p6, .int (J ap), .ref p7, .int (J ((fn : Nat) : Int)), .ref p8, .ref p9, .int (J wk), .ref pA, .ref pB, .ref pC])), (p5, ca cI 123 (cmb lt la 120)), (p6, ca cI 1230 (cmb gb ga 1200)), (p7, ca cI 6 wt), (pA, ca cI 121 (u.1)), (pB, ca cI 9 (u.2.1)), (pC, ca cI 3 (u.2.2))]) 0 0 := by
  refine Mi_of (cc := b_Mo_pair) (maxL := 4) (by decide) rfl (Nat.le_of_ble_eq_true rfl) ?_
  intro p e s m args below meth c hx hb hr hml hts hown hlocks A hA hP hK hD hT hS Q hQ H hH ls hl
  subst hH
  have hl : lv_has ls 4 [(0, .ref o), (1, .int (J ((en : Nat) : Int))), (2, .int (J ((w : Nat) : Int)))] := hl
  have hln : ∀ k, 0 ≤ (cmb lt la 120) k ∧ (cmb lt la 120) k ≤ 10 := fun k => cmb_P (P := fun x => 0 ≤ x ∧ x ≤ 10) 120 hlt hla k
  have hgl : ∀ k, 0 ≤ (cmb gb ga 1200) k ∧ (cmb gb ga 1200) k < 26 := fun k => cmb_P (P := fun x => 0 ≤ x ∧ x < 26) 1200 hgb hga k
  have z1 := smc_rg (ga := ga) (gb := gb) hw hla hlt en
  refine lv_aload_n hx hb d_Mo_pair_0 rfl (lv_at hl 0 rfl) ?_
  refine lv_iconst (v := J (0)) hx hb d_Mo_pair_1 rfl ?_
  refine va_put (D := D) (ci := 8) (v := .int (J 0)) (ty := .int) (C := R_Mo) (T := T_Mo) (N := 17) hx hb hts i_Mo t_Mo k_Mo n_Mo hown hK hP hD hS 0 rfl rfl 0 (by decide) (hts _ mw_551) (fun _ h9 => h9) rfl (by decide +kernel) rfl rfl (Nat.le_of_ble_eq_true rfl) d_Mo_pair_2 (fun H locs hP hD hS => ?_)
  have hP : va_P D classes [(o, .inr (8, [.int (J 0), .int (J ((n : Nat) : Int)), .ref p1, .ref p2, .ref p3, .ref p4, .ref p5, .ref p6, .int (J ap), .ref p7, .int (J ((fn : Nat) : Int)), .ref p8, .ref p9, .int (J wk), .ref pA, .ref pB, .ref pC])), (p5, ca cI 123 (cmb lt la 120)), (p6, ca cI 1230 (cmb gb ga 1200)), (p7, ca cI 6 wt), (pA, ca cI 121 sp), (pB, ca cI 9 cm), (pC, ca cI 3 wy)] H := hP
  have hD : va_D A [(o, .inr (8, [.int (J 0), .int (J ((n : Nat) : Int)), .ref p1, .ref p2, .ref p3, .ref p4, .ref p5, .ref p6, .int (J ap), .ref p7, .int (J ((fn : Nat) : Int)), .ref p8, .ref p9, .int (J wk), .ref pA, .ref pB, .ref pC])), (p5, ca cI 123 (cmb lt la 120)), (p6, ca cI 1230 (cmb gb ga 1200)), (p7, ca cI 6 wt), (pA, ca cI 121 sp), (pB, ca cI 9 cm), (pC, ca cI 3 wy)] := hD
  refine lv_aload_n hx hb d_Mo_pair_5 rfl (lv_at hl 0 rfl) ?_
  refine lv_iload_n hx hb d_Mo_pair_6 rfl (lv_at hl 1 rfl) ?_
  refine Ri_call (va_runV (As := [.int (J ((en : Nat) : Int))]) (rest := []) ⟨hx, hb, hml, hown, hts⟩ (c_Mo_isEntry l D cI cZ cJ o p1 p2 p3 p4 p5 p6 p7 p8 p9 pA pB pC 0 n ap fn wk ((en : Nat) : Int) (by first | with_reducible assumption | omega) (by first | with_reducible assumption | omega)) (cwV 1 hts (g_V mw_615 mw_617 mw_10 mw_33 mw_618) rfl rfl rfl (by decide +kernel) ⟨Nat.le_of_ble_eq_true rfl, Nat.le_of_ble_eq_true rfl⟩) (pre_RV hP hK [0] rfl 8 0 rfl rfl) rfl rfl hl.1 rfl (lv_room (Nat.le_of_ble_eq_true rfl)) d_Mo_pair_7 ⟨Nat.le_of_ble_eq_true rfl, Nat.le_of_ble_eq_true rfl⟩) ?_
  refine w_if_eq (tgt := 20) hx hb d_Mo_pair_10 (by decide) (rg_b2) (fun c_10 => ?_) (fun c_10 => ?_)
  · have c_10 := b2_0.mp c_10
    exfalso; omega
  · have c_10 := b2_n0.mp c_10
    refine lv_iload_n hx hb d_Mo_pair_13 rfl (lv_at hl 2 rfl) ?_
    refine Ri_call (va_runS (As := [.int (J ((w : Nat) : Int))]) (rest := []) ⟨hx, hb, hml, hown, hts⟩ (c_Mo_isWord l D cI cZ cJ ((w : Nat) : Int) (by first | with_reducible assumption | omega)) (va_cwS 1 hts (g_S mw_619 mw_620 mw_33 mw_621) rfl rfl rfl (by decide +kernel) ⟨Nat.le_of_ble_eq_true rfl, Nat.le_of_ble_eq_true rfl⟩) (pre_RS hP hK [] rfl) rfl rfl hl.1 rfl (lv_room (Nat.le_of_ble_eq_true rfl)) d_Mo_pair_14 ⟨Nat.le_of_ble_eq_true rfl, Nat.le_of_ble_eq_true rfl⟩) ?_
    refine w_if_ne (tgt := 22) hx hb d_Mo_pair_17 (by decide) (rg_b2) (fun c_17 => ?_) (fun c_17 => ?_)
    · have c_17 := b2_n0.mp c_17
      refine lv_aload_n hx hb d_Mo_pair_22 rfl (lv_at hl 0 rfl) ?_
      refine lv_iload_n hx hb d_Mo_pair_23 rfl (lv_at hl 1 rfl) ?_
      refine lv_iconst (v := J (0)) hx hb d_Mo_pair_24 rfl ?_
      refine Mi_call (wr := []) (va_runV (As := [.int (J ((en : Nat) : Int)), .int (J 0)]) (rest := []) ⟨hx, hb, hml, hown, hts⟩ (c_Mo_sumBy_c l D cI cZ cJ H.size o p1 p2 p3 p4 p5 p6 p7 p8 p9 pA pB pC 0 n ap fn wk (cmb lt la 120) (cmb gb ga 1200) wt sp cm wy en (by first | with_reducible assumption | omega) (by first | with_reducible assumption | omega) (by first | with_reducible assumption | omega) (by first | with_reducible assumption | omega) (by first | with_reducible assumption | omega)) (cwV 2 hts (g_V mw_654 mw_656 mw_15 mw_33 mw_657) rfl rfl rfl (by decide +kernel) ⟨Nat.le_of_ble_eq_true rfl, Nat.le_of_ble_eq_true rfl⟩) (pre_WV hP hK hD [0, 1, 2, 3, 4, 5, 6] rfl (by decide) 8 0 rfl rfl (fun h => Bool.noConfusion h)) rfl rfl hl.1 rfl (lv_room (Nat.le_of_ble_eq_true rfl)) d_Mo_pair_25 ⟨Nat.le_of_ble_eq_true rfl, Nat.le_of_ble_eq_true rfl⟩) hP hD hS hA [0, 1, 2, 3, 4, 5, 6] [] rfl rfl (by decide) (by decide) (fun u_25 H locs hu_25 hP hD hS => ?_)
      have hP : va_P D classes [(o, .inr (8, [.int (J 0), .int (J ((n : Nat) : Int)), .ref p1, .ref p2, .ref p3, .ref p4, .ref p5, .ref p6, .int (J ap), .ref p7, .int (J ((fn : Nat) : Int)), .ref p8, .ref p9, .int (J wk), .ref pA, .ref pB, .ref pC])), (p5, ca cI 123 (cmb lt la 120)), (p6, ca cI 1230 (cmb gb ga 1200)), (p7, ca cI 6 wt), (pA, ca cI 121 (u_25.2.2)), (pB, ca cI 9 (u_25.1)), (pC, ca cI 3 (u_25.2.1))] H := hP
      have hD : va_D A [(o, .inr (8, [.int (J 0), .int (J ((n : Nat) : Int)), .ref p1, .ref p2, .ref p3, .ref p4, .ref p5, .ref p6, .int (J ap), .ref p7, .int (J ((fn : Nat) : Int)), .ref p8, .ref p9, .int (J wk), .ref pA, .ref pB, .ref pC])), (p5, ca cI 123 (cmb lt la 120)), (p6, ca cI 1230 (cmb gb ga 1200)), (p7, ca cI 6 wt), (pA, ca cI 121 (u_25.2.2)), (pB, ca cI 9 (u_25.1)), (pC, ca cI 3 (u_25.2.1))] := hD
      refine tp_J (y := smc wt ga la gb lt en) (by rw [pk_ce (by omega) hla hlt]; rfl) ?_
      refine lv_istore_n (lv' := [(3, .int (J (smc wt ga la gb lt en))), (0, .ref o), (1, .int (J ((en : Nat) : Int))), (2, .int (J ((w : Nat) : Int)))]) hx hb d_Mo_pair_28 rfl hl (by decide) rfl (fun ls hl => ?_)
      refine lv_iload_n hx hb d_Mo_pair_29 rfl (lv_at hl 0 rfl) ?_
      refine w_if_ge (tgt := 37) hx hb d_Mo_pair_30 (by decide) (by omega) (fun c_30 => ?_) (fun c_30 => ?_)
      · refine lv_aload_n hx hb d_Mo_pair_37 rfl (lv_at hl 1 rfl) ?_
        refine va_get (D := D) (ci := 8) (v := .ref pC) (C := R_Mo) (T := T_Mo) (N := 17) hx hb hts i_Mo hown hK hP 0 rfl rfl 16 (by decide) (hts _ mw_567) (fun _ h9 => h9) rfl d_Mo_pair_38 ?_
        refine lv_iload_n hx hb d_Mo_pair_41 rfl (lv_at hl 3 rfl) ?_
        refine w_iald hx hb hK hP 6 0 rfl rfl w (by omega) (by omega) (by omega) d_Mo_pair_42 ?_
        exact Mi_ret hx hb hr hlocks hQ d_Mo_pair_43 hP hK hD hS nb_i (by rw [hu_25.2 w hw3, pk_ce (by omega) hla hlt]) (u_25.2.2, u_25.1, u_25.2.1) (hu_25.1) [0, 1, 2, 3, 4, 5, 6] rfl (by decide)
      · exfalso; omega
    · have c_17 := b2_0.mp c_17
      exfalso; omega
set_option maxHeartbeats 4000000 in
set_option maxRecDepth 100000 in
theorem c_Mo_changes_bad (l : Launch) (D : va_G) (cI cZ cJ : ClassId) (sz : Nat) (o : Nat) (p1 : Nat) (p2 : Nat) (p3 : Nat) (p4 : Nat) (p5 : Nat) (p6 : Nat) (p7 : Nat) (p8 : Nat) (p9 : Nat) (pA : Nat) (pB : Nat) (pC : Nat) (th : Int) (n : Nat) (ap : Int) (fn : Nat) (wk : Int) (la : Nat → Int) (lt : Nat → Int) (z : Int) (y : Int) (x : Int) (hz : rg z) (hy : rg y) (hx : rg x) (hn : n ≤ 40) (hla : ∀ k, 0 ≤ la k ∧ la k ≤ 10) (hlt : ∀ k, 0 ≤ lt k ∧ lt k ≤ 10) (hno : z < 0 ∨ 3 ≤ z ∨ y < 0 ∨ (n : Int) ≤ y ∨ x < 0 ∨ 3 ≤ x) : Mi l y_Mo_changes w_Mo_changes ({ frames := 1, cells := 0, slots := 0, locals := 21 }) false D classes [(cI, .int), (cZ, .boolean), (cJ, .long)] sz [.ref o, .int (J z), .int (J y), .int (J x)] [(o, .inr (8, [.int (J th), .int (J ((n : Nat) : Int)), .ref p1, .ref p2, .ref p3, .ref p4, .ref p5, .ref p6, .int (J ap), .ref p7, .int (J ((fn : Nat) : Int)), .ref p8, .ref p9, .int (J wk), .ref pA, .ref pB, .ref pC])), (p5, ca cI 123 (cmb lt la 120))] (-1) (S := Unit) (fun _ => True) (fun u : Unit => [(o, .inr (8, [.int (J 0), .int (J ((n : Nat) : Int)), .ref p1, .ref p2, .ref p3, .ref p4, .ref p5, .ref p6, .int (J ap), .ref p7, .int (J ((fn : Nat) : Int)), .ref p8, .ref p9, .int (J wk), .ref pA, .ref pB, .ref pC])), (p5, ca cI 123 (cmb lt la 120))]) 0 0 := by
  refine Mi_of (cc := b_Mo_changes) (maxL := 4) (by decide) rfl (Nat.le_of_ble_eq_true rfl) ?_
  intro p e s m args below meth c hx hb hr hml hts hown hlocks A hA hP hK hD hT hS Q hQ H hH ls hl
  subst hH
  have hl : lv_has ls 4 [(0, .ref o), (1, .int (J z)), (2, .int (J y)), (3, .int (J x))] := hl
  refine lv_aload_n hx hb d_Mo_changes_0 rfl (lv_at hl 0 rfl) ?_
  refine lv_iconst (v := J (0)) hx hb d_Mo_changes_1 rfl ?_
  refine va_put (D := D) (ci := 8) (v := .int (J 0)) (ty := .int) (C := R_Mo) (T := T_Mo) (N := 17) hx hb hts i_Mo t_Mo k_Mo n_Mo hown hK hP hD hS 0 rfl rfl 0 (by decide) (hts _ mw_551) (fun _ h9 => h9) rfl (by decide +kernel) rfl rfl (Nat.le_of_ble_eq_true rfl) d_Mo_changes_2 (fun H locs hP hD hS => ?_)
  have hP : va_P D classes [(o, .inr (8, [.int (J 0), .int (J ((n : Nat) : Int)), .ref p1, .ref p2, .ref p3, .ref p4, .ref p5, .ref p6, .int (J ap), .ref p7, .int (J ((fn : Nat) : Int)), .ref p8, .ref p9, .int (J wk), .ref pA, .ref pB, .ref pC])), (p5, ca cI 123 (cmb lt la 120))] H := hP
  have hD : va_D A [(o, .inr (8, [.int (J 0), .int (J ((n : Nat) : Int)), .ref p1, .ref p2, .ref p3, .ref p4, .ref p5, .ref p6, .int (J ap), .ref p7, .int (J ((fn : Nat) : Int)), .ref p8, .ref p9, .int (J wk), .ref pA, .ref pB, .ref pC])), (p5, ca cI 123 (cmb lt la 120))] := hD
  refine lv_iload_n hx hb d_Mo_changes_5 rfl (lv_at hl 1 rfl) ?_
  refine Ri_call (va_runS (As := [.int (J z)]) (rest := []) ⟨hx, hb, hml, hown, hts⟩ (c_Mo_isWord l D cI cZ cJ z (by first | with_reducible assumption | omega)) (va_cwS 1 hts (g_S mw_619 mw_620 mw_33 mw_621) rfl rfl rfl (by decide +kernel) ⟨Nat.le_of_ble_eq_true rfl, Nat.le_of_ble_eq_true rfl⟩) (pre_RS hP hK [] rfl) rfl rfl hl.1 rfl (lv_room (Nat.le_of_ble_eq_true rfl)) d_Mo_changes_6 ⟨Nat.le_of_ble_eq_true rfl, Nat.le_of_ble_eq_true rfl⟩) ?_
  refine w_if_eq (tgt := 52) hx hb d_Mo_changes_9 (by decide) (rg_b2) (fun c_9 => ?_) (fun c_9 => ?_)
  · have c_9 := b2_0.mp c_9
    refine lv_iconst (v := J (-1)) hx hb d_Mo_changes_52 rfl ?_
    exact Mi_ret hx hb hr hlocks hQ d_Mo_changes_53 hP hK hD hS nb_i (by omega) () (trivial) [0, 1] rfl (by decide)
  · have c_9 := b2_n0.mp c_9
    refine lv_aload_n hx hb d_Mo_changes_12 rfl (lv_at hl 0 rfl) ?_
    refine lv_iload_n hx hb d_Mo_changes_13 rfl (lv_at hl 2 rfl) ?_
    refine Ri_call (va_runV (As := [.int (J y)]) (rest := []) ⟨hx, hb, hml, hown, hts⟩ (c_Mo_isEntry l D cI cZ cJ o p1 p2 p3 p4 p5 p6 p7 p8 p9 pA pB pC 0 n ap fn wk y (by first | with_reducible assumption | omega) (by first | with_reducible assumption | omega)) (cwV 1 hts (g_V mw_615 mw_617 mw_10 mw_33 mw_618) rfl rfl rfl (by decide +kernel) ⟨Nat.le_of_ble_eq_true rfl, Nat.le_of_ble_eq_true rfl⟩) (pre_RV hP hK [0] rfl 8 0 rfl rfl) rfl rfl hl.1 rfl (lv_room (Nat.le_of_ble_eq_true rfl)) d_Mo_changes_14 ⟨Nat.le_of_ble_eq_true rfl, Nat.le_of_ble_eq_true rfl⟩) ?_
    refine w_if_eq (tgt := 52) hx hb d_Mo_changes_17 (by decide) (rg_b2) (fun c_17 => ?_) (fun c_17 => ?_)
    · have c_17 := b2_0.mp c_17
      refine lv_iconst (v := J (-1)) hx hb d_Mo_changes_52 rfl ?_
      exact Mi_ret hx hb hr hlocks hQ d_Mo_changes_53 hP hK hD hS nb_i (by omega) () (trivial) [0, 1] rfl (by decide)
    · have c_17 := b2_n0.mp c_17
      refine lv_iload_n hx hb d_Mo_changes_20 rfl (lv_at hl 3 rfl) ?_
      refine Ri_call (va_runS (As := [.int (J x)]) (rest := []) ⟨hx, hb, hml, hown, hts⟩ (c_Mo_isWord l D cI cZ cJ x (by first | with_reducible assumption | omega)) (va_cwS 1 hts (g_S mw_619 mw_620 mw_33 mw_621) rfl rfl rfl (by decide +kernel) ⟨Nat.le_of_ble_eq_true rfl, Nat.le_of_ble_eq_true rfl⟩) (pre_RS hP hK [] rfl) rfl rfl hl.1 rfl (lv_room (Nat.le_of_ble_eq_true rfl)) d_Mo_changes_21 ⟨Nat.le_of_ble_eq_true rfl, Nat.le_of_ble_eq_true rfl⟩) ?_
      refine w_if_eq (tgt := 52) hx hb d_Mo_changes_24 (by decide) (rg_b2) (fun c_24 => ?_) (fun c_24 => ?_)
      · have c_24 := b2_0.mp c_24
        refine lv_iconst (v := J (-1)) hx hb d_Mo_changes_52 rfl ?_
        exact Mi_ret hx hb hr hlocks hQ d_Mo_changes_53 hP hK hD hS nb_i (by omega) () (trivial) [0, 1] rfl (by decide)
      · have c_24 := b2_n0.mp c_24
        exfalso; omega
set_option maxHeartbeats 4000000 in
set_option maxRecDepth 100000 in
theorem c_Mo_changes_none (l : Launch) (D : va_G) (cI cZ cJ : ClassId) (sz : Nat) (o : Nat) (p1 : Nat) (p2 : Nat) (p3 : Nat) (p4 : Nat) (p5 : Nat) (p6 : Nat) (p7 : Nat) (p8 : Nat) (p9 : Nat) (pA : Nat) (pB : Nat) (pC : Nat) (th : Int) (n : Nat) (ap : Int) (fn : Nat) (wk : Int) (la : Nat → Int) (lt : Nat → Int) (w : Nat) (en : Nat) (d : Nat) (hn : n ≤ 40) (hla : ∀ k, 0 ≤ la k ∧ la k ≤ 10) (hlt : ∀ k, 0 ≤ lt k ∧ lt k ≤ 10) (hok : w < 3 ∧ en < n ∧ d < 3) (hno : la w = 0 ∨ lt (en * 3 + d) = 0) : Mi l y_Mo_changes w_Mo_changes ({ frames := 1, cells := 0, slots := 0, locals := 21 }) false D classes [(cI, .int), (cZ, .boolean), (cJ, .long)] sz [.ref o, .int (J ((w : Nat) : Int)), .int (J ((en : Nat) : Int)), .int (J ((d : Nat) : Int))] [(o, .inr (8, [.int (J th), .int (J ((n : Nat) : Int)), .ref p1, .ref p2, .ref p3, .ref p4, .ref p5, .ref p6, .int (J ap), .ref p7, .int (J ((fn : Nat) : Int)), .ref p8, .ref p9, .int (J wk), .ref pA, .ref pB, .ref pC])), (p5, ca cI 123 (cmb lt la 120))] (-1) (S := Unit) (fun _ => True) (fun u : Unit => [(o, .inr (8, [.int (J 0), .int (J ((n : Nat) : Int)), .ref p1, .ref p2, .ref p3, .ref p4, .ref p5, .ref p6, .int (J ap), .ref p7, .int (J ((fn : Nat) : Int)), .ref p8, .ref p9, .int (J wk), .ref pA, .ref pB, .ref pC])), (p5, ca cI 123 (cmb lt la 120))]) 0 0 := by
  refine Mi_of (cc := b_Mo_changes) (maxL := 4) (by decide) rfl (Nat.le_of_ble_eq_true rfl) ?_
  intro p e s m args below meth c hx hb hr hml hts hown hlocks A hA hP hK hD hT hS Q hQ H hH ls hl
  subst hH
  have hl : lv_has ls 4 [(0, .ref o), (1, .int (J ((w : Nat) : Int))), (2, .int (J ((en : Nat) : Int))), (3, .int (J ((d : Nat) : Int)))] := hl
  have el1 : (cmb lt la 120) (120 + w) = la w := cmb_hi _ _ _ _
  have el2 : (cmb lt la 120) (3 * en + d) = lt (en * 3 + d) := by rw [cmb_lo _ _ (by omega), show 3 * en + d = en * 3 + d by omega]
  have x1 := hla w
  have x2 := hlt (en * 3 + d)
  refine lv_aload_n hx hb d_Mo_changes_0 rfl (lv_at hl 0 rfl) ?_
  refine lv_iconst (v := J (0)) hx hb d_Mo_changes_1 rfl ?_
  refine va_put (D := D) (ci := 8) (v := .int (J 0)) (ty := .int) (C := R_Mo) (T := T_Mo) (N := 17) hx hb hts i_Mo t_Mo k_Mo n_Mo hown hK hP hD hS 0 rfl rfl 0 (by decide) (hts _ mw_551) (fun _ h9 => h9) rfl (by decide +kernel) rfl rfl (Nat.le_of_ble_eq_true rfl) d_Mo_changes_2 (fun H locs hP hD hS => ?_)
  have hP : va_P D classes [(o, .inr (8, [.int (J 0), .int (J ((n : Nat) : Int)), .ref p1, .ref p2, .ref p3, .ref p4, .ref p5, .ref p6, .int (J ap), .ref p7, .int (J ((fn : Nat) : Int)), .ref p8, .ref p9, .int (J wk), .ref pA, .ref pB, .ref pC])), (p5, ca cI 123 (cmb lt la 120))] H := hP
  have hD : va_D A [(o, .inr (8, [.int (J 0), .int (J ((n : Nat) : Int)), .ref p1, .ref p2, .ref p3, .ref p4, .ref p5, .ref p6, .int (J ap), .ref p7, .int (J ((fn : Nat) : Int)), .ref p8, .ref p9, .int (J wk), .ref pA, .ref pB, .ref pC])), (p5, ca cI 123 (cmb lt la 120))] := hD
  refine lv_iload_n hx hb d_Mo_changes_5 rfl (lv_at hl 1 rfl) ?_
  refine Ri_call (va_runS (As := [.int (J ((w : Nat) : Int))]) (rest := []) ⟨hx, hb, hml, hown, hts⟩ (c_Mo_isWord l D cI cZ cJ ((w : Nat) : Int) (by first | with_reducible assumption | omega)) (va_cwS 1 hts (g_S mw_619 mw_620 mw_33 mw_621) rfl rfl rfl (by decide +kernel) ⟨Nat.le_of_ble_eq_true rfl, Nat.le_of_ble_eq_true rfl⟩) (pre_RS hP hK [] rfl) rfl rfl hl.1 rfl (lv_room (Nat.le_of_ble_eq_true rfl)) d_Mo_changes_6 ⟨Nat.le_of_ble_eq_true rfl, Nat.le_of_ble_eq_true rfl⟩) ?_
  refine w_if_eq (tgt := 52) hx hb d_Mo_changes_9 (by decide) (rg_b2) (fun c_9 => ?_) (fun c_9 => ?_)
  · have c_9 := b2_0.mp c_9
    exfalso; omega
  · have c_9 := b2_n0.mp c_9
    refine lv_aload_n hx hb d_Mo_changes_12 rfl (lv_at hl 0 rfl) ?_
    refine lv_iload_n hx hb d_Mo_changes_13 rfl (lv_at hl 2 rfl) ?_
    refine Ri_call (va_runV (As := [.int (J ((en : Nat) : Int))]) (rest := []) ⟨hx, hb, hml, hown, hts⟩ (c_Mo_isEntry l D cI cZ cJ o p1 p2 p3 p4 p5 p6 p7 p8 p9 pA pB pC 0 n ap fn wk ((en : Nat) : Int) (by first | with_reducible assumption | omega) (by first | with_reducible assumption | omega)) (cwV 1 hts (g_V mw_615 mw_617 mw_10 mw_33 mw_618) rfl rfl rfl (by decide +kernel) ⟨Nat.le_of_ble_eq_true rfl, Nat.le_of_ble_eq_true rfl⟩) (pre_RV hP hK [0] rfl 8 0 rfl rfl) rfl rfl hl.1 rfl (lv_room (Nat.le_of_ble_eq_true rfl)) d_Mo_changes_14 ⟨Nat.le_of_ble_eq_true rfl, Nat.le_of_ble_eq_true rfl⟩) ?_
    refine w_if_eq (tgt := 52) hx hb d_Mo_changes_17 (by decide) (rg_b2) (fun c_17 => ?_) (fun c_17 => ?_)
    · have c_17 := b2_0.mp c_17
      exfalso; omega
    · have c_17 := b2_n0.mp c_17
      refine lv_iload_n hx hb d_Mo_changes_20 rfl (lv_at hl 3 rfl) ?_
      refine Ri_call (va_runS (As := [.int (J ((d : Nat) : Int))]) (rest := []) ⟨hx, hb, hml, hown, hts⟩ (c_Mo_isWord l D cI cZ cJ ((d : Nat) : Int) (by first | with_reducible assumption | omega)) (va_cwS 1 hts (g_S mw_619 mw_620 mw_33 mw_621) rfl rfl rfl (by decide +kernel) ⟨Nat.le_of_ble_eq_true rfl, Nat.le_of_ble_eq_true rfl⟩) (pre_RS hP hK [] rfl) rfl rfl hl.1 rfl (lv_room (Nat.le_of_ble_eq_true rfl)) d_Mo_changes_21 ⟨Nat.le_of_ble_eq_true rfl, Nat.le_of_ble_eq_true rfl⟩) ?_
      refine w_if_eq (tgt := 52) hx hb d_Mo_changes_24 (by decide) (rg_b2) (fun c_24 => ?_) (fun c_24 => ?_)
      · have c_24 := b2_0.mp c_24
        exfalso; omega
      · have c_24 := b2_n0.mp c_24
        refine lv_aload_n hx hb d_Mo_changes_27 rfl (lv_at hl 0 rfl) ?_
        refine va_get (D := D) (ci := 8) (v := .ref p5) (C := R_Mo) (T := T_Mo) (N := 17) hx hb hts i_Mo hown hK hP 0 rfl rfl 6 (by decide) (hts _ mw_557) (fun _ h9 => h9) rfl d_Mo_changes_28 ?_
        refine lv_bipush (v := J (120)) hx hb d_Mo_changes_31 (by decide) ?_
        refine lv_iload_n hx hb d_Mo_changes_33 rfl (lv_at hl 1 rfl) ?_
        refine w_iadd hx hb d_Mo_changes_34 ((120 + w : Nat) : Int) (by omega) ?_
        refine w_iald hx hb hK hP 1 0 rfl rfl (120 + w) (by omega) (by omega) (by omega) d_Mo_changes_35 ?_
        refine tp_J (y := la w) (el1) ?_
        refine w_if_eq (tgt := 52) hx hb d_Mo_changes_36 (by decide) (by omega) (fun c_36 => ?_) (fun c_36 => ?_)
        · refine lv_iconst (v := J (-1)) hx hb d_Mo_changes_52 rfl ?_
          exact Mi_ret hx hb hr hlocks hQ d_Mo_changes_53 hP hK hD hS nb_i (by omega) () (trivial) [0, 1] rfl (by decide)
        · refine lv_aload_n hx hb d_Mo_changes_39 rfl (lv_at hl 0 rfl) ?_
          refine va_get (D := D) (ci := 8) (v := .ref p5) (C := R_Mo) (T := T_Mo) (N := 17) hx hb hts i_Mo hown hK hP 0 rfl rfl 6 (by decide) (hts _ mw_557) (fun _ h9 => h9) rfl d_Mo_changes_40 ?_
          refine lv_iconst (v := J (3)) hx hb d_Mo_changes_43 rfl ?_
          refine lv_iload_n hx hb d_Mo_changes_44 rfl (lv_at hl 2 rfl) ?_
          refine w_imul hx hb d_Mo_changes_45 ((3 * en : Nat) : Int) (by omega) ?_
          refine lv_iload_n hx hb d_Mo_changes_46 rfl (lv_at hl 3 rfl) ?_
          refine w_iadd hx hb d_Mo_changes_47 ((3 * en + d : Nat) : Int) (by omega) ?_
          refine w_iald hx hb hK hP 1 0 rfl rfl (3 * en + d) (by omega) (by omega) (by omega) d_Mo_changes_48 ?_
          refine tp_J (y := lt (en * 3 + d)) (el2) ?_
          refine w_if_ne (tgt := 54) hx hb d_Mo_changes_49 (by decide) (by omega) (fun c_49 => ?_) (fun c_49 => ?_)
          · exfalso; omega
          · refine lv_iconst (v := J (-1)) hx hb d_Mo_changes_52 rfl ?_
            exact Mi_ret hx hb hr hlocks hQ d_Mo_changes_53 hP hK hD hS nb_i (by omega) () (trivial) [0, 1] rfl (by decide)
theorem ed_ce {wt ga la gb lt : Nat → Int} {w en d : Nat} (he : en < 40) (hd : d < 3) (hlt : ∀ k, 0 ≤ lt k ∧ lt k ≤ 10) : ed wt (fun t => cmb gb ga 1200 (10 * (120 + w) + t)) (fun t => cmb gb ga 1200 (10 * (3 * en + d) + t)) (cmb lt la 120 (120 + w)).toNat (cmb lt la 120 (3 * en + d)).toNat = ed wt (fun t => ga (w * 10 + t)) (fun t => gb ((en * 3 + d) * 10 + t)) (la w).toNat (lt (en * 3 + d)).toNat := by
  have a1 := hlt (en * 3 + d)
  rw [cmb_hi, cmb_lo _ _ (show 3 * en + d < 120 by omega), show 3 * en + d = en * 3 + d by omega]
  refine ed_eq2 (fun t _ => ?_) (fun t ht => ?_) _ (Nat.le_refl _) _ (Nat.le_refl _)
  · show cmb gb ga 1200 (10 * (120 + w) + t) = ga (w * 10 + t)
    rw [show 10 * (120 + w) + t = 1200 + (w * 10 + t) by omega, cmb_hi]
  · show cmb gb ga 1200 (10 * (en * 3 + d) + t) = gb ((en * 3 + d) * 10 + t)
    rw [cmb_lo _ _ (by omega), show 10 * (en * 3 + d) + t = (en * 3 + d) * 10 + t by omega]
set_option maxHeartbeats 4000000 in
set_option maxRecDepth 100000 in
theorem c_Mo_changes (l : Launch) (D : va_G) (cI cZ cJ : ClassId) (sz : Nat) (o : Nat) (p1 : Nat) (p2 : Nat) (p3 : Nat) (p4 : Nat) (p5 : Nat) (p6 : Nat) (p7 : Nat) (p8 : Nat) (p9 : Nat) (pA : Nat) (pB : Nat) (pC : Nat) (th : Int) (n : Nat) (ap : Int) (fn : Nat) (wk : Int) (wt : Nat → Int) (ga : Nat → Int) (la : Nat → Int) (gb : Nat → Int) (lt : Nat → Int) (sp : Nat → Int) (w : Nat) (en : Nat) (d : Nat) (hw : ∀ k, 0 ≤ wt k ∧ wt k ≤ 1000) (hla : ∀ k, 0 ≤ la k ∧ la k ≤ 10) (hlt : ∀ k, 0 ≤ lt k ∧ lt k ≤ 10) (hga : ∀ k, 0 ≤ ga k ∧ ga k < 26) (hgb : ∀ k, 0 ≤ gb k ∧ gb k < 26) (hn : n ≤ 40) (hok : w < 3 ∧ en < n ∧ d < 3) (hyes : 0 < la w ∧ 0 < lt (en * 3 + d)) : Mi l y_Mo_changes w_Mo_changes ({ frames := 3, cells := 0, slots := 0, locals := 68 }) false D classes [(cI, .int), (cZ, .boolean), (cJ, .long)] sz [.ref o, .int (J ((w : Nat) : Int)), .int (J ((en : Nat) : Int)), .int (J ((d : Nat) : Int))] [(o, .inr (8, [.int (J th), .int (J ((n : Nat) : Int)), .ref p1, .ref p2, .ref p3, .ref p4, .ref p5, .ref p6, .int (J ap), .ref p7, .int (J ((fn : Nat) : Int)), .ref p8, .ref p9, .int (J wk), .ref pA, .ref pB, .ref pC])), (p5, ca cI 123 (cmb lt la 120)), (p6, ca cI 1230 (cmb gb ga 1200)), (p7, ca cI 6 wt), (pA, ca cI 121 sp)] (ed wt (fun t => ga (w * 10 + t)) (fun t => gb ((en * 3 + d) * 10 + t)) (la w).toNat (lt (en * 3 + d)).toNat) (S := Nat → Int) (fun _ => True) (fun u : Nat → Int => [(o, .inr (8, [.int (J 0), .int (J ((n : Nat) : Int)), .ref p1, .ref p2, .ref p3, .ref p4, .ref p5, .ref p6, .int (J ap), .ref p7, .int (J ((fn : Nat) : Int)), .ref p8, .ref p9, .int (J wk), .ref pA, .ref pB, .ref pC])), (p5, ca cI 123 (cmb lt la 120)), (p6, ca cI 1230 (cmb gb ga 1200)), (p7, ca cI 6 wt), (pA, ca cI 121 u)]) 0 0 := by
  refine Mi_of (cc := b_Mo_changes) (maxL := 4) (by decide) rfl (Nat.le_of_ble_eq_true rfl) ?_
  intro p e s m args below meth c hx hb hr hml hts hown hlocks A hA hP hK hD hT hS Q hQ H hH ls hl
  subst hH
  have hl : lv_has ls 4 [(0, .ref o), (1, .int (J ((w : Nat) : Int))), (2, .int (J ((en : Nat) : Int))), (3, .int (J ((d : Nat) : Int)))] := hl
  have hln : ∀ k, 0 ≤ (cmb lt la 120) k ∧ (cmb lt la 120) k ≤ 10 := fun k => cmb_P (P := fun x => 0 ≤ x ∧ x ≤ 10) 120 hlt hla k
  have hgl : ∀ k, 0 ≤ (cmb gb ga 1200) k ∧ (cmb gb ga 1200) k < 26 := fun k => cmb_P (P := fun x => 0 ≤ x ∧ x < 26) 1200 hgb hga k
  have el1 : (cmb lt la 120) (120 + w) = la w := cmb_hi _ _ _ _
  have el2 : (cmb lt la 120) (3 * en + d) = lt (en * 3 + d) := by rw [cmb_lo _ _ (by omega), show 3 * en + d = en * 3 + d by omega]
  have x1 := hla w
  have x2 := hlt (en * 3 + d)
  refine lv_aload_n hx hb d_Mo_changes_0 rfl (lv_at hl 0 rfl) ?_
  refine lv_iconst (v := J (0)) hx hb d_Mo_changes_1 rfl ?_
  refine va_put (D := D) (ci := 8) (v := .int (J 0)) (ty := .int) (C := R_Mo) (T := T_Mo) (N := 17) hx hb hts i_Mo t_Mo k_Mo n_Mo hown hK hP hD hS 0 rfl rfl 0 (by decide) (hts _ mw_551) (fun _ h9 => h9) rfl (by decide +kernel) rfl rfl (Nat.le_of_ble_eq_true rfl) d_Mo_changes_2 (fun H locs hP hD hS => ?_)
  have hP : va_P D classes [(o, .inr (8, [.int (J 0), .int (J ((n : Nat) : Int)), .ref p1, .ref p2, .ref p3, .ref p4, .ref p5, .ref p6, .int (J ap), .ref p7, .int (J ((fn : Nat) : Int)), .ref p8, .ref p9, .int (J wk), .ref pA, .ref pB, .ref pC])), (p5, ca cI 123 (cmb lt la 120)), (p6, ca cI 1230 (cmb gb ga 1200)), (p7, ca cI 6 wt), (pA, ca cI 121 sp)] H := hP
  have hD : va_D A [(o, .inr (8, [.int (J 0), .int (J ((n : Nat) : Int)), .ref p1, .ref p2, .ref p3, .ref p4, .ref p5, .ref p6, .int (J ap), .ref p7, .int (J ((fn : Nat) : Int)), .ref p8, .ref p9, .int (J wk), .ref pA, .ref pB, .ref pC])), (p5, ca cI 123 (cmb lt la 120)), (p6, ca cI 1230 (cmb gb ga 1200)), (p7, ca cI 6 wt), (pA, ca cI 121 sp)] := hD
  refine lv_iload_n hx hb d_Mo_changes_5 rfl (lv_at hl 1 rfl) ?_
  refine Ri_call (va_runS (As := [.int (J ((w : Nat) : Int))]) (rest := []) ⟨hx, hb, hml, hown, hts⟩ (c_Mo_isWord l D cI cZ cJ ((w : Nat) : Int) (by first | with_reducible assumption | omega)) (va_cwS 1 hts (g_S mw_619 mw_620 mw_33 mw_621) rfl rfl rfl (by decide +kernel) ⟨Nat.le_of_ble_eq_true rfl, Nat.le_of_ble_eq_true rfl⟩) (pre_RS hP hK [] rfl) rfl rfl hl.1 rfl (lv_room (Nat.le_of_ble_eq_true rfl)) d_Mo_changes_6 ⟨Nat.le_of_ble_eq_true rfl, Nat.le_of_ble_eq_true rfl⟩) ?_
  refine w_if_eq (tgt := 52) hx hb d_Mo_changes_9 (by decide) (rg_b2) (fun c_9 => ?_) (fun c_9 => ?_)
  · have c_9 := b2_0.mp c_9
    exfalso; omega
  · have c_9 := b2_n0.mp c_9
    refine lv_aload_n hx hb d_Mo_changes_12 rfl (lv_at hl 0 rfl) ?_
    refine lv_iload_n hx hb d_Mo_changes_13 rfl (lv_at hl 2 rfl) ?_
    refine Ri_call (va_runV (As := [.int (J ((en : Nat) : Int))]) (rest := []) ⟨hx, hb, hml, hown, hts⟩ (c_Mo_isEntry l D cI cZ cJ o p1 p2 p3 p4 p5 p6 p7 p8 p9 pA pB pC 0 n ap fn wk ((en : Nat) : Int) (by first | with_reducible assumption | omega) (by first | with_reducible assumption | omega)) (cwV 1 hts (g_V mw_615 mw_617 mw_10 mw_33 mw_618) rfl rfl rfl (by decide +kernel) ⟨Nat.le_of_ble_eq_true rfl, Nat.le_of_ble_eq_true rfl⟩) (pre_RV hP hK [0] rfl 8 0 rfl rfl) rfl rfl hl.1 rfl (lv_room (Nat.le_of_ble_eq_true rfl)) d_Mo_changes_14 ⟨Nat.le_of_ble_eq_true rfl, Nat.le_of_ble_eq_true rfl⟩) ?_
    refine w_if_eq (tgt := 52) hx hb d_Mo_changes_17 (by decide) (rg_b2) (fun c_17 => ?_) (fun c_17 => ?_)
    · have c_17 := b2_0.mp c_17
      exfalso; omega
    · have c_17 := b2_n0.mp c_17
      refine lv_iload_n hx hb d_Mo_changes_20 rfl (lv_at hl 3 rfl) ?_
      refine Ri_call (va_runS (As := [.int (J ((d : Nat) : Int))]) (rest := []) ⟨hx, hb, hml, hown, hts⟩ (c_Mo_isWord l D cI cZ cJ ((d : Nat) : Int) (by first | with_reducible assumption | omega)) (va_cwS 1 hts (g_S mw_619 mw_620 mw_33 mw_621) rfl rfl rfl (by decide +kernel) ⟨Nat.le_of_ble_eq_true rfl, Nat.le_of_ble_eq_true rfl⟩) (pre_RS hP hK [] rfl) rfl rfl hl.1 rfl (lv_room (Nat.le_of_ble_eq_true rfl)) d_Mo_changes_21 ⟨Nat.le_of_ble_eq_true rfl, Nat.le_of_ble_eq_true rfl⟩) ?_
      refine w_if_eq (tgt := 52) hx hb d_Mo_changes_24 (by decide) (rg_b2) (fun c_24 => ?_) (fun c_24 => ?_)
      · have c_24 := b2_0.mp c_24
        exfalso; omega
      · have c_24 := b2_n0.mp c_24
        refine lv_aload_n hx hb d_Mo_changes_27 rfl (lv_at hl 0 rfl) ?_
        refine va_get (D := D) (ci := 8) (v := .ref p5) (C := R_Mo) (T := T_Mo) (N := 17) hx hb hts i_Mo hown hK hP 0 rfl rfl 6 (by decide) (hts _ mw_557) (fun _ h9 => h9) rfl d_Mo_changes_28 ?_
        refine lv_bipush (v := J (120)) hx hb d_Mo_changes_31 (by decide) ?_
        refine lv_iload_n hx hb d_Mo_changes_33 rfl (lv_at hl 1 rfl) ?_
        refine w_iadd hx hb d_Mo_changes_34 ((120 + w : Nat) : Int) (by omega) ?_
        refine w_iald hx hb hK hP 1 0 rfl rfl (120 + w) (by omega) (by omega) (by omega) d_Mo_changes_35 ?_
        refine tp_J (y := la w) (el1) ?_
        refine w_if_eq (tgt := 52) hx hb d_Mo_changes_36 (by decide) (by omega) (fun c_36 => ?_) (fun c_36 => ?_)
        · exfalso; omega
        · refine lv_aload_n hx hb d_Mo_changes_39 rfl (lv_at hl 0 rfl) ?_
          refine va_get (D := D) (ci := 8) (v := .ref p5) (C := R_Mo) (T := T_Mo) (N := 17) hx hb hts i_Mo hown hK hP 0 rfl rfl 6 (by decide) (hts _ mw_557) (fun _ h9 => h9) rfl d_Mo_changes_40 ?_
          refine lv_iconst (v := J (3)) hx hb d_Mo_changes_43 rfl ?_
          refine lv_iload_n hx hb d_Mo_changes_44 rfl (lv_at hl 2 rfl) ?_
          refine w_imul hx hb d_Mo_changes_45 ((3 * en : Nat) : Int) (by omega) ?_
          refine lv_iload_n hx hb d_Mo_changes_46 rfl (lv_at hl 3 rfl) ?_
          refine w_iadd hx hb d_Mo_changes_47 ((3 * en + d : Nat) : Int) (by omega) ?_
          refine w_iald hx hb hK hP 1 0 rfl rfl (3 * en + d) (by omega) (by omega) (by omega) d_Mo_changes_48 ?_
          refine tp_J (y := lt (en * 3 + d)) (el2) ?_
          refine w_if_ne (tgt := 54) hx hb d_Mo_changes_49 (by decide) (by omega) (fun c_49 => ?_) (fun c_49 => ?_)
          · refine lv_aload_n hx hb d_Mo_changes_54 rfl (lv_at hl 0 rfl) ?_
            refine lv_bipush (v := J (120)) hx hb d_Mo_changes_55 (by decide) ?_
            refine lv_iload_n hx hb d_Mo_changes_57 rfl (lv_at hl 1 rfl) ?_
            refine w_iadd hx hb d_Mo_changes_58 ((120 + w : Nat) : Int) (by omega) ?_
            refine lv_iconst (v := J (3)) hx hb d_Mo_changes_59 rfl ?_
            refine lv_iload_n hx hb d_Mo_changes_60 rfl (lv_at hl 2 rfl) ?_
            refine w_imul hx hb d_Mo_changes_61 ((3 * en : Nat) : Int) (by omega) ?_
            refine lv_iload_n hx hb d_Mo_changes_62 rfl (lv_at hl 3 rfl) ?_
            refine w_iadd hx hb d_Mo_changes_63 ((3 * en + d : Nat) : Int) (by omega) ?_
            refine Mi_call (wr := []) (va_runV (As := [.int (J ((120 + w : Nat) : Int)), .int (J ((3 * en + d : Nat) : Int))]) (rest := []) ⟨hx, hb, hml, hown, hts⟩ (c_Mo_change l D cI cZ cJ H.size o p1 p2 p3 p4 p5 p6 p7 p8 p9 pA pB pC 0 n ap fn wk (cmb lt la 120) (cmb gb ga 1200) wt sp (120 + w) (3 * en + d) (by first | with_reducible assumption | omega) (by first | with_reducible assumption | omega) (by first | with_reducible assumption | omega) (by first | with_reducible assumption | omega)) (cwV 2 hts (g_V mw_669 mw_671 mw_18 mw_33 mw_672) rfl rfl rfl (by decide +kernel) ⟨Nat.le_of_ble_eq_true rfl, Nat.le_of_ble_eq_true rfl⟩) (pre_WV hP hK hD [0, 1, 2, 3, 4] rfl (by decide) 8 0 rfl rfl (fun h => Bool.noConfusion h)) rfl rfl hl.1 rfl (lv_room (Nat.le_of_ble_eq_true rfl)) d_Mo_changes_64 ⟨Nat.le_of_ble_eq_true rfl, Nat.le_of_ble_eq_true rfl⟩) hP hD hS hA [0, 1, 2, 3, 4] [] rfl rfl (by decide) (by decide) (fun u_64 H locs hu_64 hP hD hS => ?_)
            have hP : va_P D classes [(o, .inr (8, [.int (J 0), .int (J ((n : Nat) : Int)), .ref p1, .ref p2, .ref p3, .ref p4, .ref p5, .ref p6, .int (J ap), .ref p7, .int (J ((fn : Nat) : Int)), .ref p8, .ref p9, .int (J wk), .ref pA, .ref pB, .ref pC])), (p5, ca cI 123 (cmb lt la 120)), (p6, ca cI 1230 (cmb gb ga 1200)), (p7, ca cI 6 wt), (pA, ca cI 121 u_64)] H := hP
            have hD : va_D A [(o, .inr (8, [.int (J 0), .int (J ((n : Nat) : Int)), .ref p1, .ref p2, .ref p3, .ref p4, .ref p5, .ref p6, .int (J ap), .ref p7, .int (J ((fn : Nat) : Int)), .ref p8, .ref p9, .int (J wk), .ref pA, .ref pB, .ref pC])), (p5, ca cI 123 (cmb lt la 120)), (p6, ca cI 1230 (cmb gb ga 1200)), (p7, ca cI 6 wt), (pA, ca cI 121 u_64)] := hD
            refine tp_J (y := ed wt (fun t => ga (w * 10 + t)) (fun t => gb ((en * 3 + d) * 10 + t)) (la w).toNat (lt (en * 3 + d)).toNat) (ed_ce (by omega) (by omega) hlt) ?_
            exact Mi_ret hx hb hr hlocks hQ d_Mo_changes_67 hP hK hD hS nb_i (rfl) u_64 (trivial) [0, 1, 2, 3, 4] rfl (by decide)
          · exfalso; omega
set_option maxHeartbeats 4000000 in
set_option maxRecDepth 100000 in
theorem c_Mo_count (l : Launch) (D : va_G) (cI cZ cJ : ClassId) (sz : Nat) (o : Nat) (p1 : Nat) (p2 : Nat) (p3 : Nat) (p4 : Nat) (p5 : Nat) (p6 : Nat) (p7 : Nat) (p8 : Nat) (p9 : Nat) (pA : Nat) (pB : Nat) (pC : Nat) (th : Int) (n : Nat) (ap : Int) (fn : Nat) (wk : Int) (la : Nat → Int) (lt : Nat → Int) (dr : Nat → Int) (z : Int) (hz : rg z) (hn : n ≤ 40) (hdr : ∀ k, 0 ≤ dr k ∧ dr k ≤ 1) : Mi l y_Mo_count w_Mo_count ({ frames := 0, cells := 0, slots := 0, locals := 0 }) false D classes [(cI, .int), (cZ, .boolean), (cJ, .long)] sz [.ref o, .int (J z)] [(o, .inr (8, [.int (J th), .int (J ((n : Nat) : Int)), .ref p1, .ref p2, .ref p3, .ref p4, .ref p5, .ref p6, .int (J ap), .ref p7, .int (J ((fn : Nat) : Int)), .ref p8, .ref p9, .int (J wk), .ref pA, .ref pB, .ref pC])), (p5, ca cI 123 (cmb lt la 120)), (p4, ca cZ 40 dr)] (ctv (n : Int) (sm lt 120) (sm la 3) (fn : Int) (sm dr n) z) (S := Unit) (fun _ => True) (fun u : Unit => [(o, .inr (8, [.int (J 0), .int (J ((n : Nat) : Int)), .ref p1, .ref p2, .ref p3, .ref p4, .ref p5, .ref p6, .int (J ap), .ref p7, .int (J ((fn : Nat) : Int)), .ref p8, .ref p9, .int (J wk), .ref pA, .ref pB, .ref pC])), (p5, ca cI 123 (cmb lt la 120)), (p4, ca cZ 40 dr)]) 0 0 := by
  refine Mi_of (cc := b_Mo_count) (maxL := 4) (by decide) rfl (Nat.le_of_ble_eq_true rfl) ?_
  intro p e s m args below meth c hx hb hr hml hts hown hlocks A hA hP hK hD hT hS Q hQ H hH ls hl
  subst hH
  have hl : lv_has ls 4 [(0, .ref o), (1, .int (J z))] := hl
  refine lv_aload_n hx hb d_Mo_count_0 rfl (lv_at hl 0 rfl) ?_
  refine lv_iconst (v := J (0)) hx hb d_Mo_count_1 rfl ?_
  refine va_put (D := D) (ci := 8) (v := .int (J 0)) (ty := .int) (C := R_Mo) (T := T_Mo) (N := 17) hx hb hts i_Mo t_Mo k_Mo n_Mo hown hK hP hD hS 0 rfl rfl 0 (by decide) (hts _ mw_551) (fun _ h9 => h9) rfl (by decide +kernel) rfl rfl (Nat.le_of_ble_eq_true rfl) d_Mo_count_2 (fun H locs hP hD hS => ?_)
  have hP : va_P D classes [(o, .inr (8, [.int (J 0), .int (J ((n : Nat) : Int)), .ref p1, .ref p2, .ref p3, .ref p4, .ref p5, .ref p6, .int (J ap), .ref p7, .int (J ((fn : Nat) : Int)), .ref p8, .ref p9, .int (J wk), .ref pA, .ref pB, .ref pC])), (p5, ca cI 123 (cmb lt la 120)), (p4, ca cZ 40 dr)] H := hP
  have hD : va_D A [(o, .inr (8, [.int (J 0), .int (J ((n : Nat) : Int)), .ref p1, .ref p2, .ref p3, .ref p4, .ref p5, .ref p6, .int (J ap), .ref p7, .int (J ((fn : Nat) : Int)), .ref p8, .ref p9, .int (J wk), .ref pA, .ref pB, .ref pC])), (p5, ca cI 123 (cmb lt la 120)), (p4, ca cZ 40 dr)] := hD
  refine lv_iconst (v := J (0)) hx hb d_Mo_count_5 rfl ?_
  refine lv_istore_n (lv' := [(2, .int (J 0)), (0, .ref o), (1, .int (J z))]) hx hb d_Mo_count_6 rfl hl (by decide) rfl (fun ls hl => ?_)
  refine lv_iload_n hx hb d_Mo_count_7 rfl (lv_at hl 2 rfl) ?_
  rcases (show z = 0 ∨ z = 1 ∨ z = 2 ∨ z = 3 ∨ z = 4 ∨ (z < 0 ∨ 4 < z) by omega) with rfl | rfl | rfl | rfl | rfl | hz9
  · refine lv_tableIn (off := 36) (tgt := 44) hx hb d_Mo_count_8 (by decide) (by decide) (by decide) (by decide) ?_
    refine lv_aload_n hx hb d_Mo_count_44 rfl (lv_at hl 1 rfl) ?_
    refine va_get (D := D) (ci := 8) (v := .int (J ((n : Nat) : Int))) (C := R_Mo) (T := T_Mo) (N := 17) hx hb hts i_Mo hown hK hP 0 rfl rfl 1 (by decide) (hts _ mw_552) (fun _ h9 => h9) rfl d_Mo_count_45 ?_
    exact Mi_ret hx hb hr hlocks hQ d_Mo_count_48 hP hK hD hS nb_i (rfl) () (trivial) [0, 1, 2] rfl (by decide)
  · refine lv_tableIn (off := 41) (tgt := 49) hx hb d_Mo_count_8 (by decide) (by decide) (by decide) (by decide) ?_
    refine lv_iconst (v := J (0)) hx hb d_Mo_count_49 rfl ?_
    refine lv_istore_n (lv' := [(3, .int (J 0)), (2, .int (J 0)), (0, .ref o), (1, .int (J 1))]) hx hb d_Mo_count_50 rfl hl (by decide) rfl (fun ls hl => ?_)
    have lp_51 : ∀ (fu : Nat) (i : Nat) (t : Int), (i ≤ 120) → (t = sm lt i) → (120 - i) < fu → ∀ (H : Heap) (locs : List Loc), va_P D classes [(o, .inr (8, [.int (J 0), .int (J ((n : Nat) : Int)), .ref p1, .ref p2, .ref p3, .ref p4, .ref p5, .ref p6, .int (J ap), .ref p7, .int (J ((fn : Nat) : Int)), .ref p8, .ref p9, .int (J wk), .ref pA, .ref pB, .ref pC])), (p5, ca cI 123 (cmb lt la 120)), (p4, ca cZ 40 dr)] H → va_D A [(o, .inr (8, [.int (J 0), .int (J ((n : Nat) : Int)), .ref p1, .ref p2, .ref p3, .ref p4, .ref p5, .ref p6, .int (J ap), .ref p7, .int (J ((fn : Nat) : Int)), .ref p8, .ref p9, .int (J wk), .ref pA, .ref pB, .ref pC])), (p5, ca cI 123 (cmb lt la 120)), (p4, ca cZ 40 dr)] → va_S A s.heap H locs → ∀ ls : Array Slot, lv_has ls 4 [(0, .ref o), (1, .int (J 1)), (2, .int (J t)), (3, .int (J ((i : Nat) : Int)))] → W p l e ({ frames := 0, cells := 0, slots := 0, locals := 0 }) s m args below meth c H locs 0 0 Q (F0 m 51 ls []) := by
      intro fu
      induction fu with
      | zero => intro i t hi ht hfu; exact absurd hfu (Nat.not_lt_zero _)
      | succ fu ih_51 =>
        intro i t hi ht hfu H locs hP hD hS ls hl
        refine lv_iload_n hx hb d_Mo_count_51 rfl (lv_at hl 3 rfl) ?_
        refine lv_bipush (v := J (120)) hx hb d_Mo_count_52 (by decide) ?_
        refine w_icmp_ge (tgt := 72) hx hb d_Mo_count_54 (by decide) (by omega) (by omega) (fun c_54 => ?_) (fun c_54 => ?_)
        · obtain rfl : i = 120 := by omega
          refine lv_iload_n hx hb d_Mo_count_72 rfl (lv_at hl 2 rfl) ?_
          exact Mi_ret hx hb hr hlocks hQ d_Mo_count_73 hP hK hD hS nb_i (ht) () (trivial) [0, 1, 2] rfl (by decide)
        · refine lv_iload_n hx hb d_Mo_count_57 rfl (lv_at hl 2 rfl) ?_
          refine lv_aload_n hx hb d_Mo_count_58 rfl (lv_at hl 0 rfl) ?_
          refine va_get (D := D) (ci := 8) (v := .ref p5) (C := R_Mo) (T := T_Mo) (N := 17) hx hb hts i_Mo hown hK hP 0 rfl rfl 6 (by decide) (hts _ mw_557) (fun _ h9 => h9) rfl d_Mo_count_59 ?_
          refine lv_iload_n hx hb d_Mo_count_62 rfl (lv_at hl 3 rfl) ?_
          refine w_iald hx hb hK hP 1 0 rfl rfl i (by omega) (by omega) (by omega) d_Mo_count_63 ?_
          refine tp_J (y := lt i) (cmb_lo _ _ (by omega)) ?_
          refine w_iadd hx hb d_Mo_count_64 (t + (lt i)) (rfl) ?_
          refine lv_istore_n (lv' := [(2, .int (J (t + (lt i)))), (0, .ref o), (1, .int (J 1)), (3, .int (J ((i : Nat) : Int)))]) hx hb d_Mo_count_65 rfl hl (by decide) rfl (fun ls hl => ?_)
          refine w_iinc (k := 3) (lv' := [(3, .int (J ((i + 1 : Nat) : Int))), (2, .int (J (t + (lt i)))), (0, .ref o), (1, .int (J 1))]) hx hb d_Mo_count_66 hl rfl ((i + 1 : Nat) : Int) (by omega) (by decide) rfl (fun ls hl => ?_)
          refine lv_goto (tgt := 51) hx hb d_Mo_count_69 (by decide) ?_
          exact ih_51 (i + 1) (t + (lt i)) (by omega) (by rw [sm, ht]) (by omega) _ _ (P_map hP [0, 1, 2] rfl) (hD.sub [0, 1, 2] (by decide) rfl) hS ls (lv_sub hl [2, 3, 1, 0] rfl)
    exact lp_51 ((120 - 0) + 1) 0 0 (by omega) (rfl) (Nat.lt_succ_self _) _ _ (P_map hP [0, 1, 2] rfl) (hD.sub [0, 1, 2] (by decide) rfl) hS ls (lv_sub hl [2, 3, 1, 0] rfl)
  · refine lv_tableIn (off := 66) (tgt := 74) hx hb d_Mo_count_8 (by decide) (by decide) (by decide) (by decide) ?_
    refine lv_aload_n hx hb d_Mo_count_74 rfl (lv_at hl 1 rfl) ?_
    refine va_get (D := D) (ci := 8) (v := .ref p5) (C := R_Mo) (T := T_Mo) (N := 17) hx hb hts i_Mo hown hK hP 0 rfl rfl 6 (by decide) (hts _ mw_557) (fun _ h9 => h9) rfl d_Mo_count_75 ?_
    refine lv_bipush (v := J (120)) hx hb d_Mo_count_78 (by decide) ?_
    refine w_iald hx hb hK hP 1 0 rfl rfl 120 (by omega) (by omega) (by omega) d_Mo_count_80 ?_
    refine tp_J (y := la 0) (cmb_hi _ _ 120 0) ?_
    refine lv_aload_n hx hb d_Mo_count_81 rfl (lv_at hl 1 rfl) ?_
    refine va_get (D := D) (ci := 8) (v := .ref p5) (C := R_Mo) (T := T_Mo) (N := 17) hx hb hts i_Mo hown hK hP 0 rfl rfl 6 (by decide) (hts _ mw_557) (fun _ h9 => h9) rfl d_Mo_count_82 ?_
    refine lv_bipush (v := J (121)) hx hb d_Mo_count_85 (by decide) ?_
    refine w_iald hx hb hK hP 1 0 rfl rfl 121 (by omega) (by omega) (by omega) d_Mo_count_87 ?_
    refine tp_J (y := la 1) (cmb_hi _ _ 120 1) ?_
    refine w_iadd hx hb d_Mo_count_88 ((la 0) + (la 1)) (rfl) ?_
    refine lv_aload_n hx hb d_Mo_count_89 rfl (lv_at hl 1 rfl) ?_
    refine va_get (D := D) (ci := 8) (v := .ref p5) (C := R_Mo) (T := T_Mo) (N := 17) hx hb hts i_Mo hown hK hP 0 rfl rfl 6 (by decide) (hts _ mw_557) (fun _ h9 => h9) rfl d_Mo_count_90 ?_
    refine lv_bipush (v := J (122)) hx hb d_Mo_count_93 (by decide) ?_
    refine w_iald hx hb hK hP 1 0 rfl rfl 122 (by omega) (by omega) (by omega) d_Mo_count_95 ?_
    refine tp_J (y := la 2) (cmb_hi _ _ 120 2) ?_
    refine w_iadd hx hb d_Mo_count_96 (((la 0) + (la 1)) + (la 2)) (rfl) ?_
    exact Mi_ret hx hb hr hlocks hQ d_Mo_count_97 hP hK hD hS nb_i (by show la 0 + la 1 + la 2 = ((0 + la 0) + la 1) + la 2; omega) () (trivial) [0, 1, 2] rfl (by decide)
  · refine lv_tableIn (off := 90) (tgt := 98) hx hb d_Mo_count_8 (by decide) (by decide) (by decide) (by decide) ?_
    refine lv_aload_n hx hb d_Mo_count_98 rfl (lv_at hl 1 rfl) ?_
    refine va_get (D := D) (ci := 8) (v := .int (J ((fn : Nat) : Int))) (C := R_Mo) (T := T_Mo) (N := 17) hx hb hts i_Mo hown hK hP 0 rfl rfl 10 (by decide) (hts _ mw_561) (fun _ h9 => h9) rfl d_Mo_count_99 ?_
    exact Mi_ret hx hb hr hlocks hQ d_Mo_count_102 hP hK hD hS nb_i (rfl) () (trivial) [0, 1, 2] rfl (by decide)
  · refine lv_tableIn (off := 95) (tgt := 103) hx hb d_Mo_count_8 (by decide) (by decide) (by decide) (by decide) ?_
    refine lv_iconst (v := J (0)) hx hb d_Mo_count_103 rfl ?_
    refine lv_istore_n (lv' := [(3, .int (J 0)), (2, .int (J 0)), (0, .ref o), (1, .int (J 4))]) hx hb d_Mo_count_104 rfl hl (by decide) rfl (fun ls hl => ?_)
    have lp_105 : ∀ (fu : Nat) (i : Nat) (t : Int), (i ≤ n) → (t = sm dr i) → (n - i) < fu → ∀ (H : Heap) (locs : List Loc), va_P D classes [(o, .inr (8, [.int (J 0), .int (J ((n : Nat) : Int)), .ref p1, .ref p2, .ref p3, .ref p4, .ref p5, .ref p6, .int (J ap), .ref p7, .int (J ((fn : Nat) : Int)), .ref p8, .ref p9, .int (J wk), .ref pA, .ref pB, .ref pC])), (p5, ca cI 123 (cmb lt la 120)), (p4, ca cZ 40 dr)] H → va_D A [(o, .inr (8, [.int (J 0), .int (J ((n : Nat) : Int)), .ref p1, .ref p2, .ref p3, .ref p4, .ref p5, .ref p6, .int (J ap), .ref p7, .int (J ((fn : Nat) : Int)), .ref p8, .ref p9, .int (J wk), .ref pA, .ref pB, .ref pC])), (p5, ca cI 123 (cmb lt la 120)), (p4, ca cZ 40 dr)] → va_S A s.heap H locs → ∀ ls : Array Slot, lv_has ls 4 [(0, .ref o), (1, .int (J 4)), (2, .int (J t)), (3, .int (J ((i : Nat) : Int)))] → W p l e ({ frames := 0, cells := 0, slots := 0, locals := 0 }) s m args below meth c H locs 0 0 Q (F0 m 105 ls []) := by
      intro fu
      induction fu with
      | zero => intro i t hi ht hfu; exact absurd hfu (Nat.not_lt_zero _)
      | succ fu ih_105 =>
        intro i t hi ht hfu H locs hP hD hS ls hl
        have r1 := hdr i
        refine lv_iload_n hx hb d_Mo_count_105 rfl (lv_at hl 3 rfl) ?_
        refine lv_aload_n hx hb d_Mo_count_106 rfl (lv_at hl 0 rfl) ?_
        refine va_get (D := D) (ci := 8) (v := .int (J ((n : Nat) : Int))) (C := R_Mo) (T := T_Mo) (N := 17) hx hb hts i_Mo hown hK hP 0 rfl rfl 1 (by decide) (hts _ mw_552) (fun _ h9 => h9) rfl d_Mo_count_107 ?_
        refine w_icmp_ge (tgt := 136) hx hb d_Mo_count_110 (by decide) (by omega) (by omega) (fun c_110 => ?_) (fun c_110 => ?_)
        · obtain rfl : n = i := by omega
          refine lv_iload_n hx hb d_Mo_count_136 rfl (lv_at hl 2 rfl) ?_
          exact Mi_ret hx hb hr hlocks hQ d_Mo_count_137 hP hK hD hS nb_i (ht) () (trivial) [0, 1, 2] rfl (by decide)
        · refine lv_aload_n hx hb d_Mo_count_113 rfl (lv_at hl 0 rfl) ?_
          refine va_get (D := D) (ci := 8) (v := .ref p4) (C := R_Mo) (T := T_Mo) (N := 17) hx hb hts i_Mo hown hK hP 0 rfl rfl 5 (by decide) (hts _ mw_556) (fun _ h9 => h9) rfl d_Mo_count_114 ?_
          refine lv_iload_n hx hb d_Mo_count_117 rfl (lv_at hl 3 rfl) ?_
          refine w_zald hx hb hK hP 2 1 rfl rfl i (by omega) (by omega) (by omega) d_Mo_count_118 ?_
          refine w_if_eq (tgt := 128) hx hb d_Mo_count_119 (by decide) (by omega) (fun c_119 => ?_) (fun c_119 => ?_)
          · refine lv_iload_n hx hb d_Mo_count_128 rfl (lv_at hl 2 rfl) ?_
            refine lv_istore_n (lv' := [(2, .int (J t)), (0, .ref o), (1, .int (J 4)), (3, .int (J ((i : Nat) : Int)))]) hx hb d_Mo_count_129 rfl hl (by decide) rfl (fun ls hl => ?_)
            refine w_iinc (k := 3) (lv' := [(3, .int (J ((i + 1 : Nat) : Int))), (2, .int (J t)), (0, .ref o), (1, .int (J 4))]) hx hb d_Mo_count_130 hl rfl ((i + 1 : Nat) : Int) (by omega) (by decide) rfl (fun ls hl => ?_)
            refine lv_goto (tgt := 105) hx hb d_Mo_count_133 (by decide) ?_
            exact ih_105 (i + 1) t (by omega) (by rw [sm]; omega) (by omega) _ _ (P_map hP [0, 1, 2] rfl) (hD.sub [0, 1, 2] (by decide) rfl) hS ls (lv_sub hl [2, 3, 1, 0] rfl)
          · refine lv_iload_n hx hb d_Mo_count_122 rfl (lv_at hl 2 rfl) ?_
            refine lv_iconst (v := J (1)) hx hb d_Mo_count_123 rfl ?_
            refine w_iadd hx hb d_Mo_count_124 (t + 1) (rfl) ?_
            refine lv_goto (tgt := 129) hx hb d_Mo_count_125 (by decide) ?_
            refine lv_istore_n (lv' := [(2, .int (J (t + 1))), (0, .ref o), (1, .int (J 4)), (3, .int (J ((i : Nat) : Int)))]) hx hb d_Mo_count_129 rfl hl (by decide) rfl (fun ls hl => ?_)
            refine w_iinc (k := 3) (lv' := [(3, .int (J ((i + 1 : Nat) : Int))), (2, .int (J (t + 1))), (0, .ref o), (1, .int (J 4))]) hx hb d_Mo_count_130 hl rfl ((i + 1 : Nat) : Int) (by omega) (by decide) rfl (fun ls hl => ?_)
            refine lv_goto (tgt := 105) hx hb d_Mo_count_133 (by decide) ?_
            exact ih_105 (i + 1) (t + 1) (by omega) (by rw [sm]; omega) (by omega) _ _ (P_map hP [0, 1, 2] rfl) (hD.sub [0, 1, 2] (by decide) rfl) hS ls (lv_sub hl [2, 3, 1, 0] rfl)
    exact lp_105 ((n - 0) + 1) 0 0 (by omega) (rfl) (Nat.lt_succ_self _) _ _ (P_map hP [0, 1, 2] rfl) (hD.sub [0, 1, 2] (by decide) rfl) hS ls (lv_sub hl [2, 3, 1, 0] rfl)
  · refine lv_tableOut (tgt := 138) hx hb d_Mo_count_8 (by rw [J_toInt (by omega)]; omega) (by decide) ?_
    refine lv_iconst (v := J (-1)) hx hb d_Mo_count_138 rfl ?_
    exact Mi_ret hx hb hr hlocks hQ d_Mo_count_139 hP hK hD hS nb_i (by unfold ctv; rw [if_neg (by omega), if_neg (by omega), if_neg (by omega), if_neg (by omega), if_neg (by omega)]) () (trivial) [0, 1, 2] rfl (by decide)
set_option maxHeartbeats 4000000 in
set_option maxRecDepth 100000 in
theorem c_Mo_find_bad (l : Launch) (D : va_G) (cI cZ cJ : ClassId) (sz : Nat) (o : Nat) (p1 : Nat) (p2 : Nat) (p3 : Nat) (p4 : Nat) (p5 : Nat) (p6 : Nat) (p7 : Nat) (p8 : Nat) (p9 : Nat) (pA : Nat) (pB : Nat) (pC : Nat) (th : Int) (n : Nat) (ap : Int) (fn : Nat) (wk : Int) (z : Int) (bd : Int) (hz : rg z) (hbd : rg bd) (hno : z < 1 ∨ 40 < z ∨ bd < 0) : Mi l y_Mo_find w_Mo_find ({ frames := 1, cells := 0, slots := 0, locals := 27 }) false D classes [(cI, .int), (cZ, .boolean), (cJ, .long)] sz [.ref o, .int (J z), .int (J bd)] [(o, .inr (8, [.int (J th), .int (J ((n : Nat) : Int)), .ref p1, .ref p2, .ref p3, .ref p4, .ref p5, .ref p6, .int (J ap), .ref p7, .int (J ((fn : Nat) : Int)), .ref p8, .ref p9, .int (J wk), .ref pA, .ref pB, .ref pC]))] (-1) (S := Unit) (fun _ => True) (fun u : Unit => [(o, .inr (8, [.int (J 0), .int (J ((n : Nat) : Int)), .ref p1, .ref p2, .ref p3, .ref p4, .ref p5, .ref p6, .int (J ap), .ref p7, .int (J ((fn : Nat) : Int)), .ref p8, .ref p9, .int (J wk), .ref pA, .ref pB, .ref pC]))]) 0 0 := by
  refine Mi_of (cc := b_Mo_find) (maxL := 3) (by decide) rfl (Nat.le_of_ble_eq_true rfl) ?_
  intro p e s m args below meth c hx hb hr hml hts hown hlocks A hA hP hK hD hT hS Q hQ H hH ls hl
  subst hH
  have hl : lv_has ls 3 [(0, .ref o), (1, .int (J z)), (2, .int (J bd))] := hl
  refine lv_aload_n hx hb d_Mo_find_0 rfl (lv_at hl 0 rfl) ?_
  refine lv_iconst (v := J (0)) hx hb d_Mo_find_1 rfl ?_
  refine va_put (D := D) (ci := 8) (v := .int (J 0)) (ty := .int) (C := R_Mo) (T := T_Mo) (N := 17) hx hb hts i_Mo t_Mo k_Mo n_Mo hown hK hP hD hS 0 rfl rfl 0 (by decide) (hts _ mw_551) (fun _ h9 => h9) rfl (by decide +kernel) rfl rfl (Nat.le_of_ble_eq_true rfl) d_Mo_find_2 (fun H locs hP hD hS => ?_)
  have hP : va_P D classes [(o, .inr (8, [.int (J 0), .int (J ((n : Nat) : Int)), .ref p1, .ref p2, .ref p3, .ref p4, .ref p5, .ref p6, .int (J ap), .ref p7, .int (J ((fn : Nat) : Int)), .ref p8, .ref p9, .int (J wk), .ref pA, .ref pB, .ref pC]))] H := hP
  have hD : va_D A [(o, .inr (8, [.int (J 0), .int (J ((n : Nat) : Int)), .ref p1, .ref p2, .ref p3, .ref p4, .ref p5, .ref p6, .int (J ap), .ref p7, .int (J ((fn : Nat) : Int)), .ref p8, .ref p9, .int (J wk), .ref pA, .ref pB, .ref pC]))] := hD
  refine lv_aload_n hx hb d_Mo_find_5 rfl (lv_at hl 0 rfl) ?_
  refine lv_iload_n hx hb d_Mo_find_6 rfl (lv_at hl 1 rfl) ?_
  refine lv_iload_n hx hb d_Mo_find_7 rfl (lv_at hl 2 rfl) ?_
  refine lv_iconst (v := J (1)) hx hb d_Mo_find_8 rfl ?_
  refine Ri_call (va_runV (As := [.int (J z), .int (J bd), .int (J 1)]) (rest := []) ⟨hx, hb, hml, hown, hts⟩ (c_Mo_look_bad l D cI cZ cJ o p1 p2 p3 p4 p5 p6 p7 p8 p9 pA pB pC 0 n ap fn wk z bd 1 (by first | with_reducible assumption | omega) (by first | with_reducible assumption | omega) (by first | with_reducible assumption | omega)) (cwV 3 hts (g_V mw_642 mw_644 mw_12 mw_33 mw_645) rfl rfl rfl (by decide +kernel) ⟨Nat.le_of_ble_eq_true rfl, Nat.le_of_ble_eq_true rfl⟩) (pre_RV hP hK [0] rfl 8 0 rfl rfl) rfl rfl hl.1 rfl (lv_room (Nat.le_of_ble_eq_true rfl)) d_Mo_find_9 ⟨Nat.le_of_ble_eq_true rfl, Nat.le_of_ble_eq_true rfl⟩) ?_
  exact Mi_ret hx hb hr hlocks hQ d_Mo_find_12 hP hK hD hS nb_i (rfl) () (trivial) [0] rfl (by decide)
set_option maxHeartbeats 4000000 in
set_option maxRecDepth 100000 in
theorem c_Mo_find_none (l : Launch) (D : va_G) (cI cZ cJ : ClassId) (sz : Nat) (o : Nat) (p1 : Nat) (p2 : Nat) (p3 : Nat) (p4 : Nat) (p5 : Nat) (p6 : Nat) (p7 : Nat) (p8 : Nat) (p9 : Nat) (pA : Nat) (pB : Nat) (pC : Nat) (th : Int) (n : Nat) (ap : Int) (fn : Nat) (wk : Int) (lt : Nat → Int) (la : Nat → Int) (k : Nat) (bd : Int) (hla : ∀ k, 0 ≤ la k ∧ la k ≤ 10) (hlt : ∀ k, 0 ≤ lt k ∧ lt k ≤ 10) (hbd : rg bd) (hok : 1 ≤ k ∧ k ≤ 40 ∧ 0 ≤ bd) (hn : n ≤ 40) (hnw : nw la = 0) : Mi l y_Mo_find w_Mo_find ({ frames := 2, cells := 0, slots := 0, locals := 48 }) false D classes [(cI, .int), (cZ, .boolean), (cJ, .long)] sz [.ref o, .int (J ((k : Nat) : Int)), .int (J bd)] [(o, .inr (8, [.int (J th), .int (J ((n : Nat) : Int)), .ref p1, .ref p2, .ref p3, .ref p4, .ref p5, .ref p6, .int (J ap), .ref p7, .int (J ((fn : Nat) : Int)), .ref p8, .ref p9, .int (J wk), .ref pA, .ref pB, .ref pC])), (p5, ca cI 123 (cmb lt la 120))] (0) (S := Unit) (fun _ => True) (fun u : Unit => [(o, .inr (8, [.int (J 0), .int (J ((n : Nat) : Int)), .ref p1, .ref p2, .ref p3, .ref p4, .ref p5, .ref p6, .int (J ap), .ref p7, .int (J 0), .ref p8, .ref p9, .int (J 0), .ref pA, .ref pB, .ref pC])), (p5, ca cI 123 (cmb lt la 120))]) 0 0 := by
  refine Mi_of (cc := b_Mo_find) (maxL := 3) (by decide) rfl (Nat.le_of_ble_eq_true rfl) ?_
  intro p e s m args below meth c hx hb hr hml hts hown hlocks A hA hP hK hD hT hS Q hQ H hH ls hl
  subst hH
  have hl : lv_has ls 3 [(0, .ref o), (1, .int (J ((k : Nat) : Int))), (2, .int (J bd))] := hl
  refine lv_aload_n hx hb d_Mo_find_0 rfl (lv_at hl 0 rfl) ?_
  refine lv_iconst (v := J (0)) hx hb d_Mo_find_1 rfl ?_
  refine va_put (D := D) (ci := 8) (v := .int (J 0)) (ty := .int) (C := R_Mo) (T := T_Mo) (N := 17) hx hb hts i_Mo t_Mo k_Mo n_Mo hown hK hP hD hS 0 rfl rfl 0 (by decide) (hts _ mw_551) (fun _ h9 => h9) rfl (by decide +kernel) rfl rfl (Nat.le_of_ble_eq_true rfl) d_Mo_find_2 (fun H locs hP hD hS => ?_)
  have hP : va_P D classes [(o, .inr (8, [.int (J 0), .int (J ((n : Nat) : Int)), .ref p1, .ref p2, .ref p3, .ref p4, .ref p5, .ref p6, .int (J ap), .ref p7, .int (J ((fn : Nat) : Int)), .ref p8, .ref p9, .int (J wk), .ref pA, .ref pB, .ref pC])), (p5, ca cI 123 (cmb lt la 120))] H := hP
  have hD : va_D A [(o, .inr (8, [.int (J 0), .int (J ((n : Nat) : Int)), .ref p1, .ref p2, .ref p3, .ref p4, .ref p5, .ref p6, .int (J ap), .ref p7, .int (J ((fn : Nat) : Int)), .ref p8, .ref p9, .int (J wk), .ref pA, .ref pB, .ref pC])), (p5, ca cI 123 (cmb lt la 120))] := hD
  refine lv_aload_n hx hb d_Mo_find_5 rfl (lv_at hl 0 rfl) ?_
  refine lv_iload_n hx hb d_Mo_find_6 rfl (lv_at hl 1 rfl) ?_
  refine lv_iload_n hx hb d_Mo_find_7 rfl (lv_at hl 2 rfl) ?_
  refine lv_iconst (v := J (1)) hx hb d_Mo_find_8 rfl ?_
  refine Mi_call (wr := []) (va_runV (As := [.int (J ((k : Nat) : Int)), .int (J bd), .int (J 1)]) (rest := []) ⟨hx, hb, hml, hown, hts⟩ (c_Mo_look_none l D cI cZ cJ H.size o p1 p2 p3 p4 p5 p6 p7 p8 p9 pA pB pC 0 n ap fn wk lt la k bd 1 (by first | with_reducible assumption | omega) (by first | with_reducible assumption | omega) (by first | with_reducible assumption | omega) (by first | with_reducible assumption | omega) (by first | with_reducible assumption | omega) (by first | with_reducible assumption | omega)) (cwV 3 hts (g_V mw_642 mw_644 mw_12 mw_33 mw_645) rfl rfl rfl (by decide +kernel) ⟨Nat.le_of_ble_eq_true rfl, Nat.le_of_ble_eq_true rfl⟩) (pre_WV hP hK hD [0, 1] rfl (by decide) 8 0 rfl rfl (fun h => Bool.noConfusion h)) rfl rfl hl.1 rfl (lv_room (Nat.le_of_ble_eq_true rfl)) d_Mo_find_9 ⟨Nat.le_of_ble_eq_true rfl, Nat.le_of_ble_eq_true rfl⟩) hP hD hS hA [0, 1] [] rfl rfl (by decide) (by decide) (fun _u H locs _hu hP hD hS => ?_)
  have hP : va_P D classes [(o, .inr (8, [.int (J 0), .int (J ((n : Nat) : Int)), .ref p1, .ref p2, .ref p3, .ref p4, .ref p5, .ref p6, .int (J ap), .ref p7, .int (J 0), .ref p8, .ref p9, .int (J 0), .ref pA, .ref pB, .ref pC])), (p5, ca cI 123 (cmb lt la 120))] H := hP
  have hD : va_D A [(o, .inr (8, [.int (J 0), .int (J ((n : Nat) : Int)), .ref p1, .ref p2, .ref p3, .ref p4, .ref p5, .ref p6, .int (J ap), .ref p7, .int (J 0), .ref p8, .ref p9, .int (J 0), .ref pA, .ref pB, .ref pC])), (p5, ca cI 123 (cmb lt la 120))] := hD
  exact Mi_ret hx hb hr hlocks hQ d_Mo_find_12 hP hK hD hS nb_i (rfl) () (trivial) [0, 1] rfl (by decide)
set_option maxHeartbeats 4000000 in
set_option maxRecDepth 100000 in
theorem c_Mo_find (l : Launch) (D : va_G) (cI cZ cJ : ClassId) (sz : Nat) (o : Nat) (p1 : Nat) (p2 : Nat) (p3 : Nat) (p4 : Nat) (p5 : Nat) (p6 : Nat) (p7 : Nat) (p8 : Nat) (p9 : Nat) (pA : Nat) (pB : Nat) (pC : Nat) (th : Int) (n : Nat) (ap : Int) (fn : Nat) (wk : Int) (wt : Nat → Int) (ga : Nat → Int) (la : Nat → Int) (gb : Nat → Int) (lt : Nat → Int) (pl : Nat → Int) (dy : Nat → Int) (dr : Nat → Int) (fe : Nat → Int) (fs : Nat → Int) (sp : Nat → Int) (cm : Nat → Int) (wy : Nat → Int) (k : Nat) (bd : Int) (hw : ∀ k, 0 ≤ wt k ∧ wt k ≤ 1000) (hla : ∀ k, 0 ≤ la k ∧ la k ≤ 10) (hlt : ∀ k, 0 ≤ lt k ∧ lt k ≤ 10) (hga : ∀ k, 0 ≤ ga k ∧ ga k < 26) (hgb : ∀ k, 0 ≤ gb k ∧ gb k < 26) (hok : 1 ≤ k ∧ k ≤ 40 ∧ 0 ≤ bd) (hbd : rg bd) (hnw : 0 < nw la) (hn : n ≤ 40) (hdy : ∀ j, -1 ≤ dy j ∧ dy j ≤ 100000) (hfs : ∀ j, 0 ≤ fs j ∧ fs j ≤ 69000) (hfe : ∀ j, 0 ≤ fe j ∧ fe j < 40) (hdr : ∀ j, 0 ≤ dr j ∧ dr j ≤ 1) (hpl : ∀ j, 0 ≤ pl j ∧ pl j < 1000) (hap : -1 ≤ ap ∧ ap < 1000) (hcm : ∀ j, 0 ≤ cm j ∧ cm j ≤ 20000) : Mi l y_Mo_find w_Mo_find ({ frames := 5, cells := 0, slots := 0, locals := 126 }) false D classes [(cI, .int), (cZ, .boolean), (cJ, .long)] sz [.ref o, .int (J ((k : Nat) : Int)), .int (J bd)] [(o, .inr (8, [.int (J th), .int (J ((n : Nat) : Int)), .ref p1, .ref p2, .ref p3, .ref p4, .ref p5, .ref p6, .int (J ap), .ref p7, .int (J ((fn : Nat) : Int)), .ref p8, .ref p9, .int (J wk), .ref pA, .ref pB, .ref pC])), (p1, ca cI 40 pl), (p2, ca cI 40 dy), (p4, ca cZ 40 dr), (p5, ca cI 123 (cmb lt la 120)), (p6, ca cI 1230 (cmb gb ga 1200)), (p7, ca cI 6 wt), (p8, ca cI 40 fe), (p9, ca cI 40 fs), (pA, ca cI 121 sp), (pB, ca cI 9 cm), (pC, ca cI 3 wy)] ((((lks (smc wt ga la gb lt) (smn wt ga la gb lt) dr pl dy ap k bd 1 fe fs n).1.1 : Nat) : Int)) (S := (Nat → Int) × (Nat → Int) × (Nat → Int)) (fun f => ∀ j, 0 ≤ f.2.1 j ∧ f.2.1 j ≤ 20000) (fun u : (Nat → Int) × (Nat → Int) × (Nat → Int) => [(o, .inr (8, [.int (J 0), .int (J ((n : Nat) : Int)), .ref p1, .ref p2, .ref p3, .ref p4, .ref p5, .ref p6, .int (J ap), .ref p7, .int (J (((lks (smc wt ga la gb lt) (smn wt ga la gb lt) dr pl dy ap k bd 1 fe fs n).1.1 : Nat) : Int)), .ref p8, .ref p9, .int (J ((lks (smc wt ga la gb lt) (smn wt ga la gb lt) dr pl dy ap k bd 1 fe fs n).2)), .ref pA, .ref pB, .ref pC])), (p1, ca cI 40 pl), (p2, ca cI 40 dy), (p4, ca cZ 40 dr), (p5, ca cI 123 (cmb lt la 120)), (p6, ca cI 1230 (cmb gb ga 1200)), (p7, ca cI 6 wt), (p8, ca cI 40 ((lks (smc wt ga la gb lt) (smn wt ga la gb lt) dr pl dy ap k bd 1 fe fs n).1.2.1)), (p9, ca cI 40 ((lks (smc wt ga la gb lt) (smn wt ga la gb lt) dr pl dy ap k bd 1 fe fs n).1.2.2)), (pA, ca cI 121 (u.1)), (pB, ca cI 9 (u.2.1)), (pC, ca cI 3 (u.2.2))]) 0 0 := by
  refine Mi_of (cc := b_Mo_find) (maxL := 3) (by decide) rfl (Nat.le_of_ble_eq_true rfl) ?_
  intro p e s m args below meth c hx hb hr hml hts hown hlocks A hA hP hK hD hT hS Q hQ H hH ls hl
  subst hH
  have hl : lv_has ls 3 [(0, .ref o), (1, .int (J ((k : Nat) : Int))), (2, .int (J bd))] := hl
  refine lv_aload_n hx hb d_Mo_find_0 rfl (lv_at hl 0 rfl) ?_
  refine lv_iconst (v := J (0)) hx hb d_Mo_find_1 rfl ?_
  refine va_put (D := D) (ci := 8) (v := .int (J 0)) (ty := .int) (C := R_Mo) (T := T_Mo) (N := 17) hx hb hts i_Mo t_Mo k_Mo n_Mo hown hK hP hD hS 0 rfl rfl 0 (by decide) (hts _ mw_551) (fun _ h9 => h9) rfl (by decide +kernel) rfl rfl (Nat.le_of_ble_eq_true rfl) d_Mo_find_2 (fun H locs hP hD hS => ?_)
  have hP : va_P D classes [(o, .inr (8, [.int (J 0), .int (J ((n : Nat) : Int)), .ref p1, .ref p2, .ref p3, .ref p4, .ref p5, .ref p6, .int (J ap), .ref p7, .int (J ((fn : Nat) : Int)), .ref p8, .ref p9, .int (J wk), .ref pA, .ref pB, .ref pC])), (p1, ca cI 40 pl), (p2, ca cI 40 dy), (p4, ca cZ 40 dr), (p5, ca cI 123 (cmb lt la 120)), (p6, ca cI 1230 (cmb gb ga 1200)), (p7, ca cI 6 wt), (p8, ca cI 40 fe), (p9, ca cI 40 fs), (pA, ca cI 121 sp), (pB, ca cI 9 cm), (pC, ca cI 3 wy)] H := hP
  have hD : va_D A [(o, .inr (8, [.int (J 0), .int (J ((n : Nat) : Int)), .ref p1, .ref p2, .ref p3, .ref p4, .ref p5, .ref p6, .int (J ap), .ref p7, .int (J ((fn : Nat) : Int)), .ref p8, .ref p9, .int (J wk), .ref pA, .ref pB, .ref pC])), (p1, ca cI 40 pl), (p2, ca cI 40 dy), (p4, ca cZ 40 dr), (p5, ca cI 123 (cmb lt la 120)), (p6, ca cI 1230 (cmb gb ga 1200)), (p7, ca cI 6 wt), (p8, ca cI 40 fe), (p9, ca cI 40 fs), (pA, ca cI 121 sp), (pB, ca cI 9 cm), (pC, ca cI 3 wy)] := hD
  refine lv_aload_n hx hb d_Mo_find_5 rfl (lv_at hl 0 rfl) ?_
  refine lv_iload_n hx hb d_Mo_find_6 rfl (lv_at hl 1 rfl) ?_
  refine lv_iload_n hx hb d_Mo_find_7 rfl (lv_at hl 2 rfl) ?_
  refine lv_iconst (v := J (1)) hx hb d_Mo_find_8 rfl ?_
  refine Mi_call (wr := []) (va_runV (As := [.int (J ((k : Nat) : Int)), .int (J bd), .int (J 1)]) (rest := []) ⟨hx, hb, hml, hown, hts⟩ (c_Mo_look l D cI cZ cJ H.size o p1 p2 p3 p4 p5 p6 p7 p8 p9 pA pB pC 0 n ap fn wk wt ga la gb lt pl dy dr fe fs sp cm wy k bd 1 (by first | with_reducible assumption | omega) (by first | with_reducible assumption | omega) (by first | with_reducible assumption | omega) (by first | with_reducible assumption | omega) (by first | with_reducible assumption | omega) (by first | with_reducible assumption | omega) (by first | with_reducible assumption | omega) (by first | with_reducible assumption | omega) (by first | with_reducible assumption | omega) (by first | with_reducible assumption | omega) (by first | with_reducible assumption | omega) (by first | with_reducible assumption | omega) (by first | with_reducible assumption | omega) (by first | with_reducible assumption | omega) (by first | with_reducible assumption | omega) (by first | with_reducible assumption | omega) (by first | with_reducible assumption | omega)) (cwV 3 hts (g_V mw_642 mw_644 mw_12 mw_33 mw_645) rfl rfl rfl (by decide +kernel) ⟨Nat.le_of_ble_eq_true rfl, Nat.le_of_ble_eq_true rfl⟩) (pre_WV hP hK hD [0, 1, 2, 3, 4, 5, 6, 7, 8, 9, 10, 11] rfl (by decide) 8 0 rfl rfl (fun h => Bool.noConfusion h)) rfl rfl hl.1 rfl (lv_room (Nat.le_of_ble_eq_true rfl)) d_Mo_find_9 ⟨Nat.le_of_ble_eq_true rfl, Nat.le_of_ble_eq_true rfl⟩) hP hD hS hA [0, 1, 2, 3, 4, 5, 6, 7, 8, 9, 10, 11] [] rfl rfl (by decide) (by decide) (fun u_9 H locs hu_9 hP hD hS => ?_)
  have hP : va_P D classes [(o, .inr (8, [.int (J 0), .int (J ((n : Nat) : Int)), .ref p1, .ref p2, .ref p3, .ref p4, .ref p5, .ref p6, .int (J ap), .ref p7, .int (J (((lks (smc wt ga la gb lt) (smn wt ga la gb lt) dr pl dy ap k bd 1 fe fs n).1.1 : Nat) : Int)), .ref p8, .ref p9, .int (J ((lks (smc wt ga la gb lt) (smn wt ga la gb lt) dr pl dy ap k bd 1 fe fs n).2)), .ref pA, .ref pB, .ref pC])), (p1, ca cI 40 pl), (p2, ca cI 40 dy), (p4, ca cZ 40 dr), (p5, ca cI 123 (cmb lt la 120)), (p6, ca cI 1230 (cmb gb ga 1200)), (p7, ca cI 6 wt), (p8, ca cI 40 ((lks (smc wt ga la gb lt) (smn wt ga la gb lt) dr pl dy ap k bd 1 fe fs n).1.2.1)), (p9, ca cI 40 ((lks (smc wt ga la gb lt) (smn wt ga la gb lt) dr pl dy ap k bd 1 fe fs n).1.2.2)), (pA, ca cI 121 (u_9.1)), (pB, ca cI 9 (u_9.2.1)), (pC, ca cI 3 (u_9.2.2))] H := hP
  have hD : va_D A [(o, .inr (8, [.int (J 0), .int (J ((n : Nat) : Int)), .ref p1, .ref p2, .ref p3, .ref p4, .ref p5, .ref p6, .int (J ap), .ref p7, .int (J (((lks (smc wt ga la gb lt) (smn wt ga la gb lt) dr pl dy ap k bd 1 fe fs n).1.1 : Nat) : Int)), .ref p8, .ref p9, .int (J ((lks (smc wt ga la gb lt) (smn wt ga la gb lt) dr pl dy ap k bd 1 fe fs n).2)), .ref pA, .ref pB, .ref pC])), (p1, ca cI 40 pl), (p2, ca cI 40 dy), (p4, ca cZ 40 dr), (p5, ca cI 123 (cmb lt la 120)), (p6, ca cI 1230 (cmb gb ga 1200)), (p7, ca cI 6 wt), (p8, ca cI 40 ((lks (smc wt ga la gb lt) (smn wt ga la gb lt) dr pl dy ap k bd 1 fe fs n).1.2.1)), (p9, ca cI 40 ((lks (smc wt ga la gb lt) (smn wt ga la gb lt) dr pl dy ap k bd 1 fe fs n).1.2.2)), (pA, ca cI 121 (u_9.1)), (pB, ca cI 9 (u_9.2.1)), (pC, ca cI 3 (u_9.2.2))] := hD
  exact Mi_ret hx hb hr hlocks hQ d_Mo_find_12 hP hK hD hS nb_i (rfl) u_9 (hu_9) [0, 1, 2, 3, 4, 5, 6, 7, 8, 9, 10, 11] rfl (by decide)
set_option maxHeartbeats 4000000 in
set_option maxRecDepth 100000 in
theorem c_Mo_scan_bad (l : Launch) (D : va_G) (cI cZ cJ : ClassId) (sz : Nat) (o : Nat) (p1 : Nat) (p2 : Nat) (p3 : Nat) (p4 : Nat) (p5 : Nat) (p6 : Nat) (p7 : Nat) (p8 : Nat) (p9 : Nat) (pA : Nat) (pB : Nat) (pC : Nat) (th : Int) (n : Nat) (ap : Int) (fn : Nat) (wk : Int) (z : Int) (bd : Int) (hz : rg z) (hbd : rg bd) (hno : z < 1 ∨ 40 < z ∨ bd < 0) : Mi l y_Mo_scan w_Mo_scan ({ frames := 1, cells := 0, slots := 0, locals := 27 }) false D classes [(cI, .int), (cZ, .boolean), (cJ, .long)] sz [.ref o, .int (J z), .int (J bd)] [(o, .inr (8, [.int (J th), .int (J ((n : Nat) : Int)), .ref p1, .ref p2, .ref p3, .ref p4, .ref p5, .ref p6, .int (J ap), .ref p7, .int (J ((fn : Nat) : Int)), .ref p8, .ref p9, .int (J wk), .ref pA, .ref pB, .ref pC]))] (-1) (S := Unit) (fun _ => True) (fun u : Unit => [(o, .inr (8, [.int (J 0), .int (J ((n : Nat) : Int)), .ref p1, .ref p2, .ref p3, .ref p4, .ref p5, .ref p6, .int (J ap), .ref p7, .int (J ((fn : Nat) : Int)), .ref p8, .ref p9, .int (J wk), .ref pA, .ref pB, .ref pC]))]) 0 0 := by
  refine Mi_of (cc := b_Mo_scan) (maxL := 3) (by decide) rfl (Nat.le_of_ble_eq_true rfl) ?_
  intro p e s m args below meth c hx hb hr hml hts hown hlocks A hA hP hK hD hT hS Q hQ H hH ls hl
  subst hH
  have hl : lv_has ls 3 [(0, .ref o), (1, .int (J z)), (2, .int (J bd))] := hl
  refine lv_aload_n hx hb d_Mo_scan_0 rfl (lv_at hl 0 rfl) ?_
  refine lv_iconst (v := J (0)) hx hb d_Mo_scan_1 rfl ?_
  refine va_put (D := D) (ci := 8) (v := .int (J 0)) (ty := .int) (C := R_Mo) (T := T_Mo) (N := 17) hx hb hts i_Mo t_Mo k_Mo n_Mo hown hK hP hD hS 0 rfl rfl 0 (by decide) (hts _ mw_551) (fun _ h9 => h9) rfl (by decide +kernel) rfl rfl (Nat.le_of_ble_eq_true rfl) d_Mo_scan_2 (fun H locs hP hD hS => ?_)
  have hP : va_P D classes [(o, .inr (8, [.int (J 0), .int (J ((n : Nat) : Int)), .ref p1, .ref p2, .ref p3, .ref p4, .ref p5, .ref p6, .int (J ap), .ref p7, .int (J ((fn : Nat) : Int)), .ref p8, .ref p9, .int (J wk), .ref pA, .ref pB, .ref pC]))] H := hP
  have hD : va_D A [(o, .inr (8, [.int (J 0), .int (J ((n : Nat) : Int)), .ref p1, .ref p2, .ref p3, .ref p4, .ref p5, .ref p6, .int (J ap), .ref p7, .int (J ((fn : Nat) : Int)), .ref p8, .ref p9, .int (J wk), .ref pA, .ref pB, .ref pC]))] := hD
  refine lv_aload_n hx hb d_Mo_scan_5 rfl (lv_at hl 0 rfl) ?_
  refine lv_iload_n hx hb d_Mo_scan_6 rfl (lv_at hl 1 rfl) ?_
  refine lv_iload_n hx hb d_Mo_scan_7 rfl (lv_at hl 2 rfl) ?_
  refine lv_iconst (v := J (0)) hx hb d_Mo_scan_8 rfl ?_
  refine Ri_call (va_runV (As := [.int (J z), .int (J bd), .int (J 0)]) (rest := []) ⟨hx, hb, hml, hown, hts⟩ (c_Mo_look_bad l D cI cZ cJ o p1 p2 p3 p4 p5 p6 p7 p8 p9 pA pB pC 0 n ap fn wk z bd 0 (by first | with_reducible assumption | omega) (by first | with_reducible assumption | omega) (by first | with_reducible assumption | omega)) (cwV 3 hts (g_V mw_642 mw_644 mw_12 mw_33 mw_645) rfl rfl rfl (by decide +kernel) ⟨Nat.le_of_ble_eq_true rfl, Nat.le_of_ble_eq_true rfl⟩) (pre_RV hP hK [0] rfl 8 0 rfl rfl) rfl rfl hl.1 rfl (lv_room (Nat.le_of_ble_eq_true rfl)) d_Mo_scan_9 ⟨Nat.le_of_ble_eq_true rfl, Nat.le_of_ble_eq_true rfl⟩) ?_
  exact Mi_ret hx hb hr hlocks hQ d_Mo_scan_12 hP hK hD hS nb_i (rfl) () (trivial) [0] rfl (by decide)
set_option maxHeartbeats 4000000 in
set_option maxRecDepth 100000 in
theorem c_Mo_scan_none (l : Launch) (D : va_G) (cI cZ cJ : ClassId) (sz : Nat) (o : Nat) (p1 : Nat) (p2 : Nat) (p3 : Nat) (p4 : Nat) (p5 : Nat) (p6 : Nat) (p7 : Nat) (p8 : Nat) (p9 : Nat) (pA : Nat) (pB : Nat) (pC : Nat) (th : Int) (n : Nat) (ap : Int) (fn : Nat) (wk : Int) (lt : Nat → Int) (la : Nat → Int) (k : Nat) (bd : Int) (hla : ∀ k, 0 ≤ la k ∧ la k ≤ 10) (hlt : ∀ k, 0 ≤ lt k ∧ lt k ≤ 10) (hbd : rg bd) (hok : 1 ≤ k ∧ k ≤ 40 ∧ 0 ≤ bd) (hn : n ≤ 40) (hnw : nw la = 0) : Mi l y_Mo_scan w_Mo_scan ({ frames := 2, cells := 0, slots := 0, locals := 48 }) false D classes [(cI, .int), (cZ, .boolean), (cJ, .long)] sz [.ref o, .int (J ((k : Nat) : Int)), .int (J bd)] [(o, .inr (8, [.int (J th), .int (J ((n : Nat) : Int)), .ref p1, .ref p2, .ref p3, .ref p4, .ref p5, .ref p6, .int (J ap), .ref p7, .int (J ((fn : Nat) : Int)), .ref p8, .ref p9, .int (J wk), .ref pA, .ref pB, .ref pC])), (p5, ca cI 123 (cmb lt la 120))] (0) (S := Unit) (fun _ => True) (fun u : Unit => [(o, .inr (8, [.int (J 0), .int (J ((n : Nat) : Int)), .ref p1, .ref p2, .ref p3, .ref p4, .ref p5, .ref p6, .int (J ap), .ref p7, .int (J 0), .ref p8, .ref p9, .int (J 0), .ref pA, .ref pB, .ref pC])), (p5, ca cI 123 (cmb lt la 120))]) 0 0 := by
  refine Mi_of (cc := b_Mo_scan) (maxL := 3) (by decide) rfl (Nat.le_of_ble_eq_true rfl) ?_
  intro p e s m args below meth c hx hb hr hml hts hown hlocks A hA hP hK hD hT hS Q hQ H hH ls hl
  subst hH
  have hl : lv_has ls 3 [(0, .ref o), (1, .int (J ((k : Nat) : Int))), (2, .int (J bd))] := hl
  refine lv_aload_n hx hb d_Mo_scan_0 rfl (lv_at hl 0 rfl) ?_
  refine lv_iconst (v := J (0)) hx hb d_Mo_scan_1 rfl ?_
  refine va_put (D := D) (ci := 8) (v := .int (J 0)) (ty := .int) (C := R_Mo) (T := T_Mo) (N := 17) hx hb hts i_Mo t_Mo k_Mo n_Mo hown hK hP hD hS 0 rfl rfl 0 (by decide) (hts _ mw_551) (fun _ h9 => h9) rfl (by decide +kernel) rfl rfl (Nat.le_of_ble_eq_true rfl) d_Mo_scan_2 (fun H locs hP hD hS => ?_)
  have hP : va_P D classes [(o, .inr (8, [.int (J 0), .int (J ((n : Nat) : Int)), .ref p1, .ref p2, .ref p3, .ref p4, .ref p5, .ref p6, .int (J ap), .ref p7, .int (J ((fn : Nat) : Int)), .ref p8, .ref p9, .int (J wk), .ref pA, .ref pB, .ref pC])), (p5, ca cI 123 (cmb lt la 120))] H := hP
  have hD : va_D A [(o, .inr (8, [.int (J 0), .int (J ((n : Nat) : Int)), .ref p1, .ref p2, .ref p3, .ref p4, .ref p5, .ref p6, .int (J ap), .ref p7, .int (J ((fn : Nat) : Int)), .ref p8, .ref p9, .int (J wk), .ref pA, .ref pB, .ref pC])), (p5, ca cI 123 (cmb lt la 120))] := hD
  refine lv_aload_n hx hb d_Mo_scan_5 rfl (lv_at hl 0 rfl) ?_
  refine lv_iload_n hx hb d_Mo_scan_6 rfl (lv_at hl 1 rfl) ?_
  refine lv_iload_n hx hb d_Mo_scan_7 rfl (lv_at hl 2 rfl) ?_
  refine lv_iconst (v := J (0)) hx hb d_Mo_scan_8 rfl ?_
  refine Mi_call (wr := []) (va_runV (As := [.int (J ((k : Nat) : Int)), .int (J bd), .int (J 0)]) (rest := []) ⟨hx, hb, hml, hown, hts⟩ (c_Mo_look_none l D cI cZ cJ H.size o p1 p2 p3 p4 p5 p6 p7 p8 p9 pA pB pC 0 n ap fn wk lt la k bd 0 (by first | with_reducible assumption | omega) (by first | with_reducible assumption | omega) (by first | with_reducible assumption | omega) (by first | with_reducible assumption | omega) (by first | with_reducible assumption | omega) (by first | with_reducible assumption | omega)) (cwV 3 hts (g_V mw_642 mw_644 mw_12 mw_33 mw_645) rfl rfl rfl (by decide +kernel) ⟨Nat.le_of_ble_eq_true rfl, Nat.le_of_ble_eq_true rfl⟩) (pre_WV hP hK hD [0, 1] rfl (by decide) 8 0 rfl rfl (fun h => Bool.noConfusion h)) rfl rfl hl.1 rfl (lv_room (Nat.le_of_ble_eq_true rfl)) d_Mo_scan_9 ⟨Nat.le_of_ble_eq_true rfl, Nat.le_of_ble_eq_true rfl⟩) hP hD hS hA [0, 1] [] rfl rfl (by decide) (by decide) (fun _u H locs _hu hP hD hS => ?_)
  have hP : va_P D classes [(o, .inr (8, [.int (J 0), .int (J ((n : Nat) : Int)), .ref p1, .ref p2, .ref p3, .ref p4, .ref p5, .ref p6, .int (J ap), .ref p7, .int (J 0), .ref p8, .ref p9, .int (J 0), .ref pA, .ref pB, .ref pC])), (p5, ca cI 123 (cmb lt la 120))] H := hP
  have hD : va_D A [(o, .inr (8, [.int (J 0), .int (J ((n : Nat) : Int)), .ref p1, .ref p2, .ref p3, .ref p4, .ref p5, .ref p6, .int (J ap), .ref p7, .int (J 0), .ref p8, .ref p9, .int (J 0), .ref pA, .ref pB, .ref pC])), (p5, ca cI 123 (cmb lt la 120))] := hD
  exact Mi_ret hx hb hr hlocks hQ d_Mo_scan_12 hP hK hD hS nb_i (rfl) () (trivial) [0, 1] rfl (by decide)
set_option maxHeartbeats 4000000 in
set_option maxRecDepth 100000 in
theorem c_Mo_scan (l : Launch) (D : va_G) (cI cZ cJ : ClassId) (sz : Nat) (o : Nat) (p1 : Nat) (p2 : Nat) (p3 : Nat) (p4 : Nat) (p5 : Nat) (p6 : Nat) (p7 : Nat) (p8 : Nat) (p9 : Nat) (pA : Nat) (pB : Nat) (pC : Nat) (th : Int) (n : Nat) (ap : Int) (fn : Nat) (wk : Int) (wt : Nat → Int) (ga : Nat → Int) (la : Nat → Int) (gb : Nat → Int) (lt : Nat → Int) (pl : Nat → Int) (dy : Nat → Int) (dr : Nat → Int) (fe : Nat → Int) (fs : Nat → Int) (sp : Nat → Int) (cm : Nat → Int) (wy : Nat → Int) (k : Nat) (bd : Int) (hw : ∀ k, 0 ≤ wt k ∧ wt k ≤ 1000) (hla : ∀ k, 0 ≤ la k ∧ la k ≤ 10) (hlt : ∀ k, 0 ≤ lt k ∧ lt k ≤ 10) (hga : ∀ k, 0 ≤ ga k ∧ ga k < 26) (hgb : ∀ k, 0 ≤ gb k ∧ gb k < 26) (hok : 1 ≤ k ∧ k ≤ 40 ∧ 0 ≤ bd) (hbd : rg bd) (hnw : 0 < nw la) (hn : n ≤ 40) (hdy : ∀ j, -1 ≤ dy j ∧ dy j ≤ 100000) (hfs : ∀ j, 0 ≤ fs j ∧ fs j ≤ 69000) (hfe : ∀ j, 0 ≤ fe j ∧ fe j < 40) (hdr : ∀ j, 0 ≤ dr j ∧ dr j ≤ 1) (hpl : ∀ j, 0 ≤ pl j ∧ pl j < 1000) (hap : -1 ≤ ap ∧ ap < 1000) (hcm : ∀ j, 0 ≤ cm j ∧ cm j ≤ 20000) : Mi l y_Mo_scan w_Mo_scan ({ frames := 5, cells := 0, slots := 0, locals := 126 }) false D classes [(cI, .int), (cZ, .boolean), (cJ, .long)] sz [.ref o, .int (J ((k : Nat) : Int)), .int (J bd)] [(o, .inr (8, [.int (J th), .int (J ((n : Nat) : Int)), .ref p1, .ref p2, .ref p3, .ref p4, .ref p5, .ref p6, .int (J ap), .ref p7, .int (J ((fn : Nat) : Int)), .ref p8, .ref p9, .int (J wk), .ref pA, .ref pB, .ref pC])), (p1, ca cI 40 pl), (p2, ca cI 40 dy), (p4, ca cZ 40 dr), (p5, ca cI 123 (cmb lt la 120)), (p6, ca cI 1230 (cmb gb ga 1200)), (p7, ca cI 6 wt), (p8, ca cI 40 fe), (p9, ca cI 40 fs), (pA, ca cI 121 sp), (pB, ca cI 9 cm), (pC, ca cI 3 wy)] ((((lks (smc wt ga la gb lt) (smn wt ga la gb lt) dr pl dy ap k bd 0 fe fs n).1.1 : Nat) : Int)) (S := (Nat → Int) × (Nat → Int) × (Nat → Int)) (fun f => ∀ j, 0 ≤ f.2.1 j ∧ f.2.1 j ≤ 20000) (fun u : (Nat → Int) × (Nat → Int) × (Nat → Int) => [(o, .inr (8, [.int (J 0), .int (J ((n : Nat) : Int)), .ref p1, .ref p2, .ref p3, .ref p4, .ref p5, .ref p6, .int (J ap), .ref p7, .int (J (((lks (smc wt ga la gb lt) (smn wt ga la gb lt) dr pl dy ap k bd 0 fe fs n).1.1 : Nat) : Int)), .ref p8, .ref p9, .int (J ((lks (smc wt ga la gb lt) (smn wt ga la gb lt) dr pl dy ap k bd 0 fe fs n).2)), .ref pA, .ref pB, .ref pC])), (p1, ca cI 40 pl), (p2, ca cI 40 dy), (p4, ca cZ 40 dr), (p5, ca cI 123 (cmb lt la 120)), (p6, ca cI 1230 (cmb gb ga 1200)), (p7, ca cI 6 wt), (p8, ca cI 40 ((lks (smc wt ga la gb lt) (smn wt ga la gb lt) dr pl dy ap k bd 0 fe fs n).1.2.1)), (p9, ca cI 40 ((lks (smc wt ga la gb lt) (smn wt ga la gb lt) dr pl dy ap k bd 0 fe fs n).1.2.2)), (pA, ca cI 121 (u.1)), (pB, ca cI 9 (u.2.1)), (pC, ca cI 3 (u.2.2))]) 0 0 := by
  refine Mi_of (cc := b_Mo_scan) (maxL := 3) (by decide) rfl (Nat.le_of_ble_eq_true rfl) ?_
  intro p e s m args below meth c hx hb hr hml hts hown hlocks A hA hP hK hD hT hS Q hQ H hH ls hl
  subst hH
  have hl : lv_has ls 3 [(0, .ref o), (1, .int (J ((k : Nat) : Int))), (2, .int (J bd))] := hl
  refine lv_aload_n hx hb d_Mo_scan_0 rfl (lv_at hl 0 rfl) ?_
  refine lv_iconst (v := J (0)) hx hb d_Mo_scan_1 rfl ?_
  refine va_put (D := D) (ci := 8) (v := .int (J 0)) (ty := .int) (C := R_Mo) (T := T_Mo) (N := 17) hx hb hts i_Mo t_Mo k_Mo n_Mo hown hK hP hD hS 0 rfl rfl 0 (by decide) (hts _ mw_551) (fun _ h9 => h9) rfl (by decide +kernel) rfl rfl (Nat.le_of_ble_eq_true rfl) d_Mo_scan_2 (fun H locs hP hD hS => ?_)
  have hP : va_P D classes [(o, .inr (8, [.int (J 0), .int (J ((n : Nat) : Int)), .ref p1, .ref p2, .ref p3, .ref p4, .ref p5, .ref p6, .int (J ap), .ref p7, .int (J ((fn : Nat) : Int)), .ref p8, .ref p9, .int (J wk), .ref pA, .ref pB, .ref pC])), (p1, ca cI 40 pl), (p2, ca cI 40 dy), (p4, ca cZ 40 dr), (p5, ca cI 123 (cmb lt la 120)), (p6, ca cI 1230 (cmb gb ga 1200)), (p7, ca cI 6 wt), (p8, ca cI 40 fe), (p9, ca cI 40 fs), (pA, ca cI 121 sp), (pB, ca cI 9 cm), (pC, ca cI 3 wy)] H := hP
  have hD : va_D A [(o, .inr (8, [.int (J 0), .int (J ((n : Nat) : Int)), .ref p1, .ref p2, .ref p3, .ref p4, .ref p5, .ref p6, .int (J ap), .ref p7, .int (J ((fn : Nat) : Int)), .ref p8, .ref p9, .int (J wk), .ref pA, .ref pB, .ref pC])), (p1, ca cI 40 pl), (p2, ca cI 40 dy), (p4, ca cZ 40 dr), (p5, ca cI 123 (cmb lt la 120)), (p6, ca cI 1230 (cmb gb ga 1200)), (p7, ca cI 6 wt), (p8, ca cI 40 fe), (p9, ca cI 40 fs), (pA, ca cI 121 sp), (pB, ca cI 9 cm), (pC, ca cI 3 wy)] := hD
  refine lv_aload_n hx hb d_Mo_scan_5 rfl (lv_at hl 0 rfl) ?_
  refine lv_iload_n hx hb d_Mo_scan_6 rfl (lv_at hl 1 rfl) ?_
  refine lv_iload_n hx hb d_Mo_scan_7 rfl (lv_at hl 2 rfl) ?_
  refine lv_iconst (v := J (0)) hx hb d_Mo_scan_8 rfl ?_
  refine Mi_call (wr := []) (va_runV (As := [.int (J ((k : Nat) : Int)), .int (J bd), .int (J 0)]) (rest := []) ⟨hx, hb, hml, hown, hts⟩ (c_Mo_look l D cI cZ cJ H.size o p1 p2 p3 p4 p5 p6 p7 p8 p9 pA pB pC 0 n ap fn wk wt ga la gb lt pl dy dr fe fs sp cm wy k bd 0 (by first | with_reducible assumption | omega) (by first | with_reducible assumption | omega) (by first | with_reducible assumption | omega) (by first | with_reducible assumption | omega) (by first | with_reducible assumption | omega) (by first | with_reducible assumption | omega) (by first | with_reducible assumption | omega) (by first | with_reducible assumption | omega) (by first | with_reducible assumption | omega) (by first | with_reducible assumption | omega) (by first | with_reducible assumption | omega) (by first | with_reducible assumption | omega) (by first | with_reducible assumption | omega) (by first | with_reducible assumption | omega) (by first | with_reducible assumption | omega) (by first | with_reducible assumption | omega) (by first | with_reducible assumption | omega)) (cwV 3 hts (g_V mw_642 mw_644 mw_12 mw_33 mw_645) rfl rfl rfl (by decide +kernel) ⟨Nat.le_of_ble_eq_true rfl, Nat.le_of_ble_eq_true rfl⟩) (pre_WV hP hK hD [0, 1, 2, 3, 4, 5, 6, 7, 8, 9, 10, 11] rfl (by decide) 8 0 rfl rfl (fun h => Bool.noConfusion h)) rfl rfl hl.1 rfl (lv_room (Nat.le_of_ble_eq_true rfl)) d_Mo_scan_9 ⟨Nat.le_of_ble_eq_true rfl, Nat.le_of_ble_eq_true rfl⟩) hP hD hS hA [0, 1, 2, 3, 4, 5, 6, 7, 8, 9, 10, 11] [] rfl rfl (by decide) (by decide) (fun u_9 H locs hu_9 hP hD hS => ?_)
  have hP : va_P D classes [(o, .inr (8, [.int (J 0), .int (J ((n : Nat) : Int)), .ref p1, .ref p2, .ref p3, .ref p4, .ref p5, .ref p6, .int (J ap), .ref p7, .int (J (((lks (smc wt ga la gb lt) (smn wt ga la gb lt) dr pl dy ap k bd 0 fe fs n).1.1 : Nat) : Int)), .ref p8, .ref p9, .int (J ((lks (smc wt ga la gb lt) (smn wt ga la gb lt) dr pl dy ap k bd 0 fe fs n).2)), .ref pA, .ref pB, .ref pC])), (p1, ca cI 40 pl), (p2, ca cI 40 dy), (p4, ca cZ 40 dr), (p5, ca cI 123 (cmb lt la 120)), (p6, ca cI 1230 (cmb gb ga 1200)), (p7, ca cI 6 wt), (p8, ca cI 40 ((lks (smc wt ga la gb lt) (smn wt ga la gb lt) dr pl dy ap k bd 0 fe fs n).1.2.1)), (p9, ca cI 40 ((lks (smc wt ga la gb lt) (smn wt ga la gb lt) dr pl dy ap k bd 0 fe fs n).1.2.2)), (pA, ca cI 121 (u_9.1)), (pB, ca cI 9 (u_9.2.1)), (pC, ca cI 3 (u_9.2.2))] H := hP
  have hD : va_D A [(o, .inr (8, [.int (J 0), .int (J ((n : Nat) : Int)), .ref p1, .ref p2, .ref p3, .ref p4, .ref p5, .ref p6, .int (J ap), .ref p7, .int (J (((lks (smc wt ga la gb lt) (smn wt ga la gb lt) dr pl dy ap k bd 0 fe fs n).1.1 : Nat) : Int)), .ref p8, .ref p9, .int (J ((lks (smc wt ga la gb lt) (smn wt ga la gb lt) dr pl dy ap k bd 0 fe fs n).2)), .ref pA, .ref pB, .ref pC])), (p1, ca cI 40 pl), (p2, ca cI 40 dy), (p4, ca cZ 40 dr), (p5, ca cI 123 (cmb lt la 120)), (p6, ca cI 1230 (cmb gb ga 1200)), (p7, ca cI 6 wt), (p8, ca cI 40 ((lks (smc wt ga la gb lt) (smn wt ga la gb lt) dr pl dy ap k bd 0 fe fs n).1.2.1)), (p9, ca cI 40 ((lks (smc wt ga la gb lt) (smn wt ga la gb lt) dr pl dy ap k bd 0 fe fs n).1.2.2)), (pA, ca cI 121 (u_9.1)), (pB, ca cI 9 (u_9.2.1)), (pC, ca cI 3 (u_9.2.2))] := hD
  exact Mi_ret hx hb hr hlocks hQ d_Mo_scan_12 hP hK hD hS nb_i (rfl) u_9 (hu_9) [0, 1, 2, 3, 4, 5, 6, 7, 8, 9, 10, 11] rfl (by decide)
set_option maxHeartbeats 4000000 in
set_option maxRecDepth 100000 in
theorem c_Mo_init (l : Launch) (D : va_G) (cI cZ cJ : ClassId) (sz : Nat) (o : Nat)  : Mv l y_Mo_init w_Mo_init ({ frames := 1, cells := 12, slots := 1732, locals := 12 }) false D classes [(cI, .int), (cZ, .boolean), (cJ, .long)] sz [.ref o] [(o, .inr (8, [.int (J 0), .int (J 0), .null, .null, .null, .null, .null, .null, .int (J 0), .null, .int (J 0), .null, .null, .int (J 0), .null, .null, .null]))] (S := Nat → Nat) (fun _ => True) (fun u : Nat → Nat => [(o, .inr (8, [.int (J 0), .int (J 0), .ref (u 0), .ref (u 1), .ref (u 2), .ref (u 3), .ref (u 4), .ref (u 5), .int (J (-1)), .ref (u 6), .int (J 0), .ref (u 7), .ref (u 8), .int (J 0), .ref (u 9), .ref (u 10), .ref (u 11)])), (u 0, ca cI 40 (fun _ => 0)), (u 1, ca cI 40 (rwl (fun _ => -1) (fun _ => 0) 40)), (u 2, ca cI 40 (fun _ => 0)), (u 3, ca cZ 40 (fun _ => 0)), (u 4, ca cI 123 (fun _ => 0)), (u 5, ca cI 1230 (fun _ => 0)), (u 6, ca cI 6 (iu (iu (iu (iu (iu (iu (fun _ => 0) 0 10) 1 10) 2 15) 3 5) 4 60) 5 20)), (u 7, ca cI 40 (fun _ => 0)), (u 8, ca cI 40 (fun _ => 0)), (u 9, ca cI 121 (fun _ => 0)), (u 10, ca cI 9 (fun _ => 0)), (u 11, ca cI 3 (fun _ => 0))]) 12 1732 := by
  refine Mv_of (cc := b_Mo_init) (maxL := 2) (by decide) rfl (Nat.le_of_ble_eq_true rfl) ?_
  intro p e s m args below meth c hx hb hr hml hts hown hlocks hin A hA hP hK hD hT hS Q hQ H hH ls hl
  subst hH
  have hl : lv_has ls 2 [(0, .ref o)] := hl
  refine lv_aload_n hx hb d_Mo_init_0 rfl (lv_at hl 0 rfl) ?_
  refine W.objInit hx hb hown (hts _ mw_550) (hts _ mw_45) (hts _ mw_46) rfl (by rw [hml]; exact hl.1) rfl d_Mo_init_1 (Nat.le_of_ble_eq_true rfl) (Nat.le_of_ble_eq_true rfl) ?_
  refine W.eq (g2 := F0 m 4 ls []) rfl ?_
  refine lv_aload_n hx hb d_Mo_init_4 rfl (lv_at hl 0 rfl) ?_
  refine lv_bipush (v := J (40)) hx hb d_Mo_init_5 (by decide) ?_
  refine w_newi hx hb (hts _ mw_74) hK hP hD hS hA 0 rfl rfl 40 (by omega) (by omega) (by decide) (by decide) d_Mo_init_7 (fun q7 H hP hD hS => ?_)
  have hP : va_P D classes [(o, .inr (8, [.int (J 0), .int (J 0), .null, .null, .null, .null, .null, .null, .int (J 0), .null, .int (J 0), .null, .null, .int (J 0), .null, .null, .null])), (q7, ca cI 40 (fun _ => 0))] H := hP
  have hD : va_D A [(o, .inr (8, [.int (J 0), .int (J 0), .null, .null, .null, .null, .null, .null, .int (J 0), .null, .int (J 0), .null, .null, .int (J 0), .null, .null, .null])), (q7, ca cI 40 (fun _ => 0))] := hD
  refine W.widen (k := 1) (n := 40) (by decide) (by decide) ?_
  refine va_putF (D := D) (ci := 8) (v := .ref q7) (ty := (.array .int)) (C := R_Mo) (T := T_Mo) (N := 17) hx hb hts i_Mo t_Mo k_Mo n_Mo hown hK hP hD hS 0 rfl rfl 2 (by decide) (hts _ mw_553) (fun _ h9 => h9) rfl hin rfl (by decide +kernel) rfl rfl (Nat.le_of_ble_eq_true rfl) d_Mo_init_9 (fun H locs hP hD hS => ?_)
  have hP : va_P D classes [(o, .inr (8, [.int (J 0), .int (J 0), .ref q7, .null, .null, .null, .null, .null, .int (J 0), .null, .int (J 0), .null, .null, .int (J 0), .null, .null, .null])), (q7, ca cI 40 (fun _ => 0))] H := hP
  have hD : va_D A [(o, .inr (8, [.int (J 0), .int (J 0), .ref q7, .null, .null, .null, .null, .null, .int (J 0), .null, .int (J 0), .null, .null, .int (J 0), .null, .null, .null])), (q7, ca cI 40 (fun _ => 0))] := hD
  refine lv_aload_n hx hb d_Mo_init_12 rfl (lv_at hl 0 rfl) ?_
  refine lv_bipush (v := J (40)) hx hb d_Mo_init_13 (by decide) ?_
  refine w_newi hx hb (hts _ mw_74) hK hP hD hS hA 0 rfl rfl 40 (by omega) (by omega) (by decide) (by decide) d_Mo_init_15 (fun q15 H hP hD hS => ?_)
  have hP : va_P D classes [(o, .inr (8, [.int (J 0), .int (J 0), .ref q7, .null, .null, .null, .null, .null, .int (J 0), .null, .int (J 0), .null, .null, .int (J 0), .null, .null, .null])), (q7, ca cI 40 (fun _ => 0)), (q15, ca cI 40 (fun _ => 0))] H := hP
  have hD : va_D A [(o, .inr (8, [.int (J 0), .int (J 0), .ref q7, .null, .null, .null, .null, .null, .int (J 0), .null, .int (J 0), .null, .null, .int (J 0), .null, .null, .null])), (q7, ca cI 40 (fun _ => 0)), (q15, ca cI 40 (fun _ => 0))] := hD
  refine W.widen (k := 2) (n := 80) (by decide) (by decide) ?_
  refine va_putF (D := D) (ci := 8) (v := .ref q15) (ty := (.array .int)) (C := R_Mo) (T := T_Mo) (N := 17) hx hb hts i_Mo t_Mo k_Mo n_Mo hown hK hP hD hS 0 rfl rfl 3 (by decide) (hts _ mw_554) (fun _ h9 => h9) rfl hin rfl (by decide +kernel) rfl rfl (Nat.le_of_ble_eq_true rfl) d_Mo_init_17 (fun H locs hP hD hS => ?_)
  have hP : va_P D classes [(o, .inr (8, [.int (J 0), .int (J 0), .ref q7, .ref q15, .null, .null, .null, .null, .int (J 0), .null, .int (J 0), .null, .null, .int (J 0), .null, .null, .null])), (q7, ca cI 40 (fun _ => 0)), (q15, ca cI 40 (fun _ => 0))] H := hP
  have hD : va_D A [(o, .inr (8, [.int (J 0), .int (J 0), .ref q7, .ref q15, .null, .null, .null, .null, .int (J 0), .null, .int (J 0), .null, .null, .int (J 0), .null, .null, .null])), (q7, ca cI 40 (fun _ => 0)), (q15, ca cI 40 (fun _ => 0))] := hD
  refine lv_aload_n hx hb d_Mo_init_20 rfl (lv_at hl 0 rfl) ?_
  refine lv_bipush (v := J (40)) hx hb d_Mo_init_21 (by decide) ?_
  refine w_newi hx hb (hts _ mw_74) hK hP hD hS hA 0 rfl rfl 40 (by omega) (by omega) (by decide) (by decide) d_Mo_init_23 (fun q23 H hP hD hS => ?_)
  have hP : va_P D classes [(o, .inr (8, [.int (J 0), .int (J 0), .ref q7, .ref q15, .null, .null, .null, .null, .int (J 0), .null, .int (J 0), .null, .null, .int (J 0), .null, .null, .null])), (q7, ca cI 40 (fun _ => 0)), (q15, ca cI 40 (fun _ => 0)), (q23, ca cI 40 (fun _ => 0))] H := hP
  have hD : va_D A [(o, .inr (8, [.int (J 0), .int (J 0), .ref q7, .ref q15, .null, .null, .null, .null, .int (J 0), .null, .int (J 0), .null, .null, .int (J 0), .null, .null, .null])), (q7, ca cI 40 (fun _ => 0)), (q15, ca cI 40 (fun _ => 0)), (q23, ca cI 40 (fun _ => 0))] := hD
  refine W.widen (k := 3) (n := 120) (by decide) (by decide) ?_
  refine va_putF (D := D) (ci := 8) (v := .ref q23) (ty := (.array .int)) (C := R_Mo) (T := T_Mo) (N := 17) hx hb hts i_Mo t_Mo k_Mo n_Mo hown hK hP hD hS 0 rfl rfl 4 (by decide) (hts _ mw_555) (fun _ h9 => h9) rfl hin rfl (by decide +kernel) rfl rfl (Nat.le_of_ble_eq_true rfl) d_Mo_init_25 (fun H locs hP hD hS => ?_)
  have hP : va_P D classes [(o, .inr (8, [.int (J 0), .int (J 0), .ref q7, .ref q15, .ref q23, .null, .null, .null, .int (J 0), .null, .int (J 0), .null, .null, .int (J 0), .null, .null, .null])), (q7, ca cI 40 (fun _ => 0)), (q15, ca cI 40 (fun _ => 0)), (q23, ca cI 40 (fun _ => 0))] H := hP
  have hD : va_D A [(o, .inr (8, [.int (J 0), .int (J 0), .ref q7, .ref q15, .ref q23, .null, .null, .null, .int (J 0), .null, .int (J 0), .null, .null, .int (J 0), .null, .null, .null])), (q7, ca cI 40 (fun _ => 0)), (q15, ca cI 40 (fun _ => 0)), (q23, ca cI 40 (fun _ => 0))] := hD
  refine lv_aload_n hx hb d_Mo_init_28 rfl (lv_at hl 0 rfl) ?_
  refine lv_bipush (v := J (40)) hx hb d_Mo_init_29 (by decide) ?_
  refine w_newz hx hb (hts _ mw_99) hK hP hD hS hA 1 rfl rfl 40 (by omega) (by omega) (by decide) (by decide) d_Mo_init_31 (fun q31 H hP hD hS => ?_)
  have hP : va_P D classes [(o, .inr (8, [.int (J 0), .int (J 0), .ref q7, .ref q15, .ref q23, .null, .null, .null, .int (J 0), .null, .int (J 0), .null, .null, .int (J 0), .null, .null, .null])), (q7, ca cI 40 (fun _ => 0)), (q15, ca cI 40 (fun _ => 0)), (q23, ca cI 40 (fun _ => 0)), (q31, ca cZ 40 (fun _ => 0))] H := hP
  have hD : va_D A [(o, .inr (8, [.int (J 0), .int (J 0), .ref q7, .ref q15, .ref q23, .null, .null, .null, .int (J 0), .null, .int (J 0), .null, .null, .int (J 0), .null, .null, .null])), (q7, ca cI 40 (fun _ => 0)), (q15, ca cI 40 (fun _ => 0)), (q23, ca cI 40 (fun _ => 0)), (q31, ca cZ 40 (fun _ => 0))] := hD
  refine W.widen (k := 4) (n := 160) (by decide) (by decide) ?_
  refine va_putF (D := D) (ci := 8) (v := .ref q31) (ty := (.array .boolean)) (C := R_Mo) (T := T_Mo) (N := 17) hx hb hts i_Mo t_Mo k_Mo n_Mo hown hK hP hD hS 0 rfl rfl 5 (by decide) (hts _ mw_556) (fun _ h9 => h9) rfl hin rfl (by decide +kernel) rfl rfl (Nat.le_of_ble_eq_true rfl) d_Mo_init_33 (fun H locs hP hD hS => ?_)
  have hP : va_P D classes [(o, .inr (8, [.int (J 0), .int (J 0), .ref q7, .ref q15, .ref q23, .ref q31, .null, .null, .int (J 0), .null, .int (J 0), .null, .null, .int (J 0), .null, .null, .null])), (q7, ca cI 40 (fun _ => 0)), (q15, ca cI 40 (fun _ => 0)), (q23, ca cI 40 (fun _ => 0)), (q31, ca cZ 40 (fun _ => 0))] H := hP
  have hD : va_D A [(o, .inr (8, [.int (J 0), .int (J 0), .ref q7, .ref q15, .ref q23, .ref q31, .null, .null, .int (J 0), .null, .int (J 0), .null, .null, .int (J 0), .null, .null, .null])), (q7, ca cI 40 (fun _ => 0)), (q15, ca cI 40 (fun _ => 0)), (q23, ca cI 40 (fun _ => 0)), (q31, ca cZ 40 (fun _ => 0))] := hD
  refine lv_aload_n hx hb d_Mo_init_36 rfl (lv_at hl 0 rfl) ?_
  refine lv_bipush (v := J (123)) hx hb d_Mo_init_37 (by decide) ?_
  refine w_newi hx hb (hts _ mw_74) hK hP hD hS hA 0 rfl rfl 123 (by omega) (by omega) (by decide) (by decide) d_Mo_init_39 (fun q39 H hP hD hS => ?_)
  have hP : va_P D classes [(o, .inr (8, [.int (J 0), .int (J 0), .ref q7, .ref q15, .ref q23, .ref q31, .null, .null, .int (J 0), .null, .int (J 0), .null, .null, .int (J 0), .null, .null, .null])), (q7, ca cI 40 (fun _ => 0)), (q15, ca cI 40 (fun _ => 0)), (q23, ca cI 40 (fun _ => 0)), (q31, ca cZ 40 (fun _ => 0)), (q39, ca cI 123 (fun _ => 0))] H := hP
  have hD : va_D A [(o, .inr (8, [.int (J 0), .int (J 0), .ref q7, .ref q15, .ref q23, .ref q31, .null, .null, .int (J 0), .null, .int (J 0), .null, .null, .int (J 0), .null, .null, .null])), (q7, ca cI 40 (fun _ => 0)), (q15, ca cI 40 (fun _ => 0)), (q23, ca cI 40 (fun _ => 0)), (q31, ca cZ 40 (fun _ => 0)), (q39, ca cI 123 (fun _ => 0))] := hD
  refine W.widen (k := 5) (n := 283) (by decide) (by decide) ?_
  refine va_putF (D := D) (ci := 8) (v := .ref q39) (ty := (.array .int)) (C := R_Mo) (T := T_Mo) (N := 17) hx hb hts i_Mo t_Mo k_Mo n_Mo hown hK hP hD hS 0 rfl rfl 6 (by decide) (hts _ mw_557) (fun _ h9 => h9) rfl hin rfl (by decide +kernel) rfl rfl (Nat.le_of_ble_eq_true rfl) d_Mo_init_41 (fun H locs hP hD hS => ?_)
  have hP : va_P D classes [(o, .inr (8, [.int (J 0), .int (J 0), .ref q7, .ref q15, .ref q23, .ref q31, .ref q39, .null, .int (J 0), .null, .int (J 0), .null, .null, .int (J 0), .null, .null, .null])), (q7, ca cI 40 (fun _ => 0)), (q15, ca cI 40 (fun _ => 0)), (q23, ca cI 40 (fun _ => 0)), (q31, ca cZ 40 (fun _ => 0)), (q39, ca cI 123 (fun _ => 0))] H := hP
  have hD : va_D A [(o, .inr (8, [.int (J 0), .int (J 0), .ref q7, .ref q15, .ref q23, .ref q31, .ref q39, .null, .int (J 0), .null, .int (J 0), .null, .null, .int (J 0), .null, .null, .null])), (q7, ca cI 40 (fun _ => 0)), (q15, ca cI 40 (fun _ => 0)), (q23, ca cI 40 (fun _ => 0)), (q31, ca cZ 40 (fun _ => 0)), (q39, ca cI 123 (fun _ => 0))] := hD
  refine lv_aload_n hx hb d_Mo_init_44 rfl (lv_at hl 0 rfl) ?_
  refine lv_sipush (v := J (1230)) hx hb d_Mo_init_45 (by decide) ?_
  refine w_newi hx hb (hts _ mw_74) hK hP hD hS hA 0 rfl rfl 1230 (by omega) (by omega) (by decide) (by decide) d_Mo_init_48 (fun q48 H hP hD hS => ?_)
  have hP : va_P D classes [(o, .inr (8, [.int (J 0), .int (J 0), .ref q7, .ref q15, .ref q23, .ref q31, .ref q39, .null, .int (J 0), .null, .int (J 0), .null, .null, .int (J 0), .null, .null, .null])), (q7, ca cI 40 (fun _ => 0)), (q15, ca cI 40 (fun _ => 0)), (q23, ca cI 40 (fun _ => 0)), (q31, ca cZ 40 (fun _ => 0)), (q39, ca cI 123 (fun _ => 0)), (q48, ca cI 1230 (fun _ => 0))] H := hP
  have hD : va_D A [(o, .inr (8, [.int (J 0), .int (J 0), .ref q7, .ref q15, .ref q23, .ref q31, .ref q39, .null, .int (J 0), .null, .int (J 0), .null, .null, .int (J 0), .null, .null, .null])), (q7, ca cI 40 (fun _ => 0)), (q15, ca cI 40 (fun _ => 0)), (q23, ca cI 40 (fun _ => 0)), (q31, ca cZ 40 (fun _ => 0)), (q39, ca cI 123 (fun _ => 0)), (q48, ca cI 1230 (fun _ => 0))] := hD
  refine W.widen (k := 6) (n := 1513) (by decide) (by decide) ?_
  refine va_putF (D := D) (ci := 8) (v := .ref q48) (ty := (.array .int)) (C := R_Mo) (T := T_Mo) (N := 17) hx hb hts i_Mo t_Mo k_Mo n_Mo hown hK hP hD hS 0 rfl rfl 7 (by decide) (hts _ mw_558) (fun _ h9 => h9) rfl hin rfl (by decide +kernel) rfl rfl (Nat.le_of_ble_eq_true rfl) d_Mo_init_50 (fun H locs hP hD hS => ?_)
  have hP : va_P D classes [(o, .inr (8, [.int (J 0), .int (J 0), .ref q7, .ref q15, .ref q23, .ref q31, .ref q39, .ref q48, .int (J 0), .null, .int (J 0), .null, .null, .int (J 0), .null, .null, .null])), (q7, ca cI 40 (fun _ => 0)), (q15, ca cI 40 (fun _ => 0)), (q23, ca cI 40 (fun _ => 0)), (q31, ca cZ 40 (fun _ => 0)), (q39, ca cI 123 (fun _ => 0)), (q48, ca cI 1230 (fun _ => 0))] H := hP
  have hD : va_D A [(o, .inr (8, [.int (J 0), .int (J 0), .ref q7, .ref q15, .ref q23, .ref q31, .ref q39, .ref q48, .int (J 0), .null, .int (J 0), .null, .null, .int (J 0), .null, .null, .null])), (q7, ca cI 40 (fun _ => 0)), (q15, ca cI 40 (fun _ => 0)), (q23, ca cI 40 (fun _ => 0)), (q31, ca cZ 40 (fun _ => 0)), (q39, ca cI 123 (fun _ => 0)), (q48, ca cI 1230 (fun _ => 0))] := hD
  refine lv_aload_n hx hb d_Mo_init_53 rfl (lv_at hl 0 rfl) ?_
  refine lv_iconst (v := J (-1)) hx hb d_Mo_init_54 rfl ?_
  refine va_put (D := D) (ci := 8) (v := .int (J (-1))) (ty := .int) (C := R_Mo) (T := T_Mo) (N := 17) hx hb hts i_Mo t_Mo k_Mo n_Mo hown hK hP hD hS 0 rfl rfl 8 (by decide) (hts _ mw_559) (fun _ h9 => h9) rfl (by decide +kernel) rfl rfl (Nat.le_of_ble_eq_true rfl) d_Mo_init_55 (fun H locs hP hD hS => ?_)
  have hP : va_P D classes [(o, .inr (8, [.int (J 0), .int (J 0), .ref q7, .ref q15, .ref q23, .ref q31, .ref q39, .ref q48, .int (J (-1)), .null, .int (J 0), .null, .null, .int (J 0), .null, .null, .null])), (q7, ca cI 40 (fun _ => 0)), (q15, ca cI 40 (fun _ => 0)), (q23, ca cI 40 (fun _ => 0)), (q31, ca cZ 40 (fun _ => 0)), (q39, ca cI 123 (fun _ => 0)), (q48, ca cI 1230 (fun _ => 0))] H := hP
  have hD : va_D A [(o, .inr (8, [.int (J 0), .int (J 0), .ref q7, .ref q15, .ref q23, .ref q31, .ref q39, .ref q48, .int (J (-1)), .null, .int (J 0), .null, .null, .int (J 0), .null, .null, .null])), (q7, ca cI 40 (fun _ => 0)), (q15, ca cI 40 (fun _ => 0)), (q23, ca cI 40 (fun _ => 0)), (q31, ca cZ 40 (fun _ => 0)), (q39, ca cI 123 (fun _ => 0)), (q48, ca cI 1230 (fun _ => 0))] := hD
  refine lv_aload_n hx hb d_Mo_init_58 rfl (lv_at hl 0 rfl) ?_
  refine lv_bipush (v := J (6)) hx hb d_Mo_init_59 (by decide) ?_
  refine w_newi hx hb (hts _ mw_74) hK hP hD hS hA 0 rfl rfl 6 (by omega) (by omega) (by decide) (by decide) d_Mo_init_61 (fun q61 H hP hD hS => ?_)
  have hP : va_P D classes [(o, .inr (8, [.int (J 0), .int (J 0), .ref q7, .ref q15, .ref q23, .ref q31, .ref q39, .ref q48, .int (J (-1)), .null, .int (J 0), .null, .null, .int (J 0), .null, .null, .null])), (q7, ca cI 40 (fun _ => 0)), (q15, ca cI 40 (fun _ => 0)), (q23, ca cI 40 (fun _ => 0)), (q31, ca cZ 40 (fun _ => 0)), (q39, ca cI 123 (fun _ => 0)), (q48, ca cI 1230 (fun _ => 0)), (q61, ca cI 6 (fun _ => 0))] H := hP
  have hD : va_D A [(o, .inr (8, [.int (J 0), .int (J 0), .ref q7, .ref q15, .ref q23, .ref q31, .ref q39, .ref q48, .int (J (-1)), .null, .int (J 0), .null, .null, .int (J 0), .null, .null, .null])), (q7, ca cI 40 (fun _ => 0)), (q15, ca cI 40 (fun _ => 0)), (q23, ca cI 40 (fun _ => 0)), (q31, ca cZ 40 (fun _ => 0)), (q39, ca cI 123 (fun _ => 0)), (q48, ca cI 1230 (fun _ => 0)), (q61, ca cI 6 (fun _ => 0))] := hD
  refine W.widen (k := 7) (n := 1519) (by decide) (by decide) ?_
  refine va_putF (D := D) (ci := 8) (v := .ref q61) (ty := (.array .int)) (C := R_Mo) (T := T_Mo) (N := 17) hx hb hts i_Mo t_Mo k_Mo n_Mo hown hK hP hD hS 0 rfl rfl 9 (by decide) (hts _ mw_560) (fun _ h9 => h9) rfl hin rfl (by decide +kernel) rfl rfl (Nat.le_of_ble_eq_true rfl) d_Mo_init_63 (fun H locs hP hD hS => ?_)
  have hP : va_P D classes [(o, .inr (8, [.int (J 0), .int (J 0), .ref q7, .ref q15, .ref q23, .ref q31, .ref q39, .ref q48, .int (J (-1)), .ref q61, .int (J 0), .null, .null, .int (J 0), .null, .null, .null])), (q7, ca cI 40 (fun _ => 0)), (q15, ca cI 40 (fun _ => 0)), (q23, ca cI 40 (fun _ => 0)), (q31, ca cZ 40 (fun _ => 0)), (q39, ca cI 123 (fun _ => 0)), (q48, ca cI 1230 (fun _ => 0)), (q61, ca cI 6 (fun _ => 0))] H := hP
  have hD : va_D A [(o, .inr (8, [.int (J 0), .int (J 0), .ref q7, .ref q15, .ref q23, .ref q31, .ref q39, .ref q48, .int (J (-1)), .ref q61, .int (J 0), .null, .null, .int (J 0), .null, .null, .null])), (q7, ca cI 40 (fun _ => 0)), (q15, ca cI 40 (fun _ => 0)), (q23, ca cI 40 (fun _ => 0)), (q31, ca cZ 40 (fun _ => 0)), (q39, ca cI 123 (fun _ => 0)), (q48, ca cI 1230 (fun _ => 0)), (q61, ca cI 6 (fun _ => 0))] := hD
  refine lv_aload_n hx hb d_Mo_init_66 rfl (lv_at hl 0 rfl) ?_
  refine lv_bipush (v := J (40)) hx hb d_Mo_init_67 (by decide) ?_
  refine w_newi hx hb (hts _ mw_74) hK hP hD hS hA 0 rfl rfl 40 (by omega) (by omega) (by decide) (by decide) d_Mo_init_69 (fun q69 H hP hD hS => ?_)
  have hP : va_P D classes [(o, .inr (8, [.int (J 0), .int (J 0), .ref q7, .ref q15, .ref q23, .ref q31, .ref q39, .ref q48, .int (J (-1)), .ref q61, .int (J 0), .null, .null, .int (J 0), .null, .null, .null])), (q7, ca cI 40 (fun _ => 0)), (q15, ca cI 40 (fun _ => 0)), (q23, ca cI 40 (fun _ => 0)), (q31, ca cZ 40 (fun _ => 0)), (q39, ca cI 123 (fun _ => 0)), (q48, ca cI 1230 (fun _ => 0)), (q61, ca cI 6 (fun _ => 0)), (q69, ca cI 40 (fun _ => 0))] H := hP
  have hD : va_D A [(o, .inr (8, [.int (J 0), .int (J 0), .ref q7, .ref q15, .ref q23, .ref q31, .ref q39, .ref q48, .int (J (-1)), .ref q61, .int (J 0), .null, .null, .int (J 0), .null, .null, .null])), (q7, ca cI 40 (fun _ => 0)), (q15, ca cI 40 (fun _ => 0)), (q23, ca cI 40 (fun _ => 0)), (q31, ca cZ 40 (fun _ => 0)), (q39, ca cI 123 (fun _ => 0)), (q48, ca cI 1230 (fun _ => 0)), (q61, ca cI 6 (fun _ => 0)), (q69, ca cI 40 (fun _ => 0))] := hD
  refine W.widen (k := 8) (n := 1559) (by decide) (by decide) ?_
  refine va_putF (D := D) (ci := 8) (v := .ref q69) (ty := (.array .int)) (C := R_Mo) (T := T_Mo) (N := 17) hx hb hts i_Mo t_Mo k_Mo n_Mo hown hK hP hD hS 0 rfl rfl 11 (by decide) (hts _ mw_562) (fun _ h9 => h9) rfl hin rfl (by decide +kernel) rfl rfl (Nat.le_of_ble_eq_true rfl) d_Mo_init_71 (fun H locs hP hD hS => ?_)
  have hP : va_P D classes [(o, .inr (8, [.int (J 0), .int (J 0), .ref q7, .ref q15, .ref q23, .ref q31, .ref q39, .ref q48, .int (J (-1)), .ref q61, .int (J 0), .ref q69, .null, .int (J 0), .null, .null, .null])), (q7, ca cI 40 (fun _ => 0)), (q15, ca cI 40 (fun _ => 0)), (q23, ca cI 40 (fun _ => 0)), (q31, ca cZ 40 (fun _ => 0)), (q39, ca cI 123 (fun _ => 0)), (q48, ca cI 1230 (fun _ => 0)), (q61, ca cI 6 (fun _ => 0)), (q69, ca cI 40 (fun _ => 0))] H := hP
  have hD : va_D A [(o, .inr (8, [.int (J 0), .int (J 0), .ref q7, .ref q15, .ref q23, .ref q31, .ref q39, .ref q48, .int (J (-1)), .ref q61, .int (J 0), .ref q69, .null, .int (J 0), .null, .null, .null])), (q7, ca cI 40 (fun _ => 0)), (q15, ca cI 40 (fun _ => 0)), (q23, ca cI 40 (fun _ => 0)), (q31, ca cZ 40 (fun _ => 0)), (q39, ca cI 123 (fun _ => 0)), (q48, ca cI 1230 (fun _ => 0)), (q61, ca cI 6 (fun _ => 0)), (q69, ca cI 40 (fun _ => 0))] := hD
  refine lv_aload_n hx hb d_Mo_init_74 rfl (lv_at hl 0 rfl) ?_
  refine lv_bipush (v := J (40)) hx hb d_Mo_init_75 (by decide) ?_
  refine w_newi hx hb (hts _ mw_74) hK hP hD hS hA 0 rfl rfl 40 (by omega) (by omega) (by decide) (by decide) d_Mo_init_77 (fun q77 H hP hD hS => ?_)
  have hP : va_P D classes [(o, .inr (8, [.int (J 0), .int (J 0), .ref q7, .ref q15, .ref q23, .ref q31, .ref q39, .ref q48, .int (J (-1)), .ref q61, .int (J 0), .ref q69, .null, .int (J 0), .null, .null, .null])), (q7, ca cI 40 (fun _ => 0)), (q15, ca cI 40 (fun _ => 0)), (q23, ca cI 40 (fun _ => 0)), (q31, ca cZ 40 (fun _ => 0)), (q39, ca cI 123 (fun _ => 0)), (q48, ca cI 1230 (fun _ => 0)), (q61, ca cI 6 (fun _ => 0)), (q69, ca cI 40 (fun _ => 0)), (q77, ca cI 40 (fun _ => 0))] H := hP
  have hD : va_D A [(o, .inr (8, [.int (J 0), .int (J 0), .ref q7, .ref q15, .ref q23, .ref q31, .ref q39, .ref q48, .int (J (-1)), .ref q61, .int (J 0), .ref q69, .null, .int (J 0), .null, .null, .null])), (q7, ca cI 40 (fun _ => 0)), (q15, ca cI 40 (fun _ => 0)), (q23, ca cI 40 (fun _ => 0)), (q31, ca cZ 40 (fun _ => 0)), (q39, ca cI 123 (fun _ => 0)), (q48, ca cI 1230 (fun _ => 0)), (q61, ca cI 6 (fun _ => 0)), (q69, ca cI 40 (fun _ => 0)), (q77, ca cI 40 (fun _ => 0))] := hD
  refine W.widen (k := 9) (n := 1599) (by decide) (by decide) ?_
  refine va_putF (D := D) (ci := 8) (v := .ref q77) (ty := (.array .int)) (C := R_Mo) (T := T_Mo) (N := 17) hx hb hts i_Mo t_Mo k_Mo n_Mo hown hK hP hD hS 0 rfl rfl 12 (by decide) (hts _ mw_563) (fun _ h9 => h9) rfl hin rfl (by decide +kernel) rfl rfl (Nat.le_of_ble_eq_true rfl) d_Mo_init_79 (fun H locs hP hD hS => ?_)
  have hP : va_P D classes [(o, .inr (8, [.int (J 0), .int (J 0), .ref q7, .ref q15, .ref q23, .ref q31, .ref q39, .ref q48, .int (J (-1)), .ref q61, .int (J 0), .ref q69, .ref q77, .int (J 0), .null, .null, .null])), (q7, ca cI 40 (fun _ => 0)), (q15, ca cI 40 (fun _ => 0)), (q23, ca cI 40 (fun _ => 0)), (q31, ca cZ 40 (fun _ => 0)), (q39, ca cI 123 (fun _ => 0)), (q48, ca cI 1230 (fun _ => 0)), (q61, ca cI 6 (fun _ => 0)), (q69, ca cI 40 (fun _ => 0)), (q77, ca cI 40 (fun _ => 0))] H := hP
  have hD : va_D A [(o, .inr (8, [.int (J 0), .int (J 0), .ref q7, .ref q15, .ref q23, .ref q31, .ref q39, .ref q48, .int (J (-1)), .ref q61, .int (J 0), .ref q69, .ref q77, .int (J 0), .null, .null, .null])), (q7, ca cI 40 (fun _ => 0)), (q15, ca cI 40 (fun _ => 0)), (q23, ca cI 40 (fun _ => 0)), (q31, ca cZ 40 (fun _ => 0)), (q39, ca cI 123 (fun _ => 0)), (q48, ca cI 1230 (fun _ => 0)), (q61, ca cI 6 (fun _ => 0)), (q69, ca cI 40 (fun _ => 0)), (q77, ca cI 40 (fun _ => 0))] := hD
  refine lv_aload_n hx hb d_Mo_init_82 rfl (lv_at hl 0 rfl) ?_
  refine lv_bipush (v := J (121)) hx hb d_Mo_init_83 (by decide) ?_
  refine w_newi hx hb (hts _ mw_74) hK hP hD hS hA 0 rfl rfl 121 (by omega) (by omega) (by decide) (by decide) d_Mo_init_85 (fun q85 H hP hD hS => ?_)
  have hP : va_P D classes [(o, .inr (8, [.int (J 0), .int (J 0), .ref q7, .ref q15, .ref q23, .ref q31, .ref q39, .ref q48, .int (J (-1)), .ref q61, .int (J 0), .ref q69, .ref q77, .int (J 0), .null, .null, .null])), (q7, ca cI 40 (fun _ => 0)), (q15, ca cI 40 (fun _ => 0)), (q23, ca cI 40 (fun _ => 0)), (q31, ca cZ 40 (fun _ => 0)), (q39, ca cI 123 (fun _ => 0)), (q48, ca cI 1230 (fun _ => 0)), (q61, ca cI 6 (fun _ => 0)), (q69, ca cI 40 (fun _ => 0)), (q77, ca cI 40 (fun _ => 0)), (q85, ca cI 121 (fun _ => 0))] H := hP
  have hD : va_D A [(o, .inr (8, [.int (J 0), .int (J 0), .ref q7, .ref q15, .ref q23, .ref q31, .ref q39, .ref q48, .int (J (-1)), .ref q61, .int (J 0), .ref q69, .ref q77, .int (J 0), .null, .null, .null])), (q7, ca cI 40 (fun _ => 0)), (q15, ca cI 40 (fun _ => 0)), (q23, ca cI 40 (fun _ => 0)), (q31, ca cZ 40 (fun _ => 0)), (q39, ca cI 123 (fun _ => 0)), (q48, ca cI 1230 (fun _ => 0)), (q61, ca cI 6 (fun _ => 0)), (q69, ca cI 40 (fun _ => 0)), (q77, ca cI 40 (fun _ => 0)), (q85, ca cI 121 (fun _ => 0))] := hD
  refine W.widen (k := 10) (n := 1720) (by decide) (by decide) ?_
  refine va_putF (D := D) (ci := 8) (v := .ref q85) (ty := (.array .int)) (C := R_Mo) (T := T_Mo) (N := 17) hx hb hts i_Mo t_Mo k_Mo n_Mo hown hK hP hD hS 0 rfl rfl 14 (by decide) (hts _ mw_565) (fun _ h9 => h9) rfl hin rfl (by decide +kernel) rfl rfl (Nat.le_of_ble_eq_true rfl) d_Mo_init_87 (fun H locs hP hD hS => ?_)
  have hP : va_P D classes [(o, .inr (8, [.int (J 0), .int (J 0), .ref q7, .ref q15, .ref q23, .ref q31, .ref q39, .ref q48, .int (J (-1)), .ref q61, .int (J 0), .ref q69, .ref q77, .int (J 0), .ref q85, .null, .null])), (q7, ca cI 40 (fun _ => 0)), (q15, ca cI 40 (fun _ => 0)), (q23, ca cI 40 (fun _ => 0)), (q31, ca cZ 40 (fun _ => 0)), (q39, ca cI 123 (fun _ => 0)), (q48, ca cI 1230 (fun _ => 0)), (q61, ca cI 6 (fun _ => 0)), (q69, ca cI 40 (fun _ => 0)), (q77, ca cI 40 (fun _ => 0)), (q85, ca cI 121 (fun _ => 0))] H := hP
  have hD : va_D A [(o, .inr (8, [.int (J 0), .int (J 0), .ref q7, .ref q15, .ref q23, .ref q31, .ref q39, .ref q48, .int (J (-1)), .ref q61, .int (J 0), .ref q69, .ref q77, .int (J 0), .ref q85, .null, .null])), (q7, ca cI 40 (fun _ => 0)), (q15, ca cI 40 (fun _ => 0)), (q23, ca cI 40 (fun _ => 0)), (q31, ca cZ 40 (fun _ => 0)), (q39, ca cI 123 (fun _ => 0)), (q48, ca cI 1230 (fun _ => 0)), (q61, ca cI 6 (fun _ => 0)), (q69, ca cI 40 (fun _ => 0)), (q77, ca cI 40 (fun _ => 0)), (q85, ca cI 121 (fun _ => 0))] := hD
  refine lv_aload_n hx hb d_Mo_init_90 rfl (lv_at hl 0 rfl) ?_
  refine lv_bipush (v := J (9)) hx hb d_Mo_init_91 (by decide) ?_
  refine w_newi hx hb (hts _ mw_74) hK hP hD hS hA 0 rfl rfl 9 (by omega) (by omega) (by decide) (by decide) d_Mo_init_93 (fun q93 H hP hD hS => ?_)
  have hP : va_P D classes [(o, .inr (8, [.int (J 0), .int (J 0), .ref q7, .ref q15, .ref q23, .ref q31, .ref q39, .ref q48, .int (J (-1)), .ref q61, .int (J 0), .ref q69, .ref q77, .int (J 0), .ref q85, .null, .null])), (q7, ca cI 40 (fun _ => 0)), (q15, ca cI 40 (fun _ => 0)), (q23, ca cI 40 (fun _ => 0)), (q31, ca cZ 40 (fun _ => 0)), (q39, ca cI 123 (fun _ => 0)), (q48, ca cI 1230 (fun _ => 0)), (q61, ca cI 6 (fun _ => 0)), (q69, ca cI 40 (fun _ => 0)), (q77, ca cI 40 (fun _ => 0)), (q85, ca cI 121 (fun _ => 0)), (q93, ca cI 9 (fun _ => 0))] H := hP
  have hD : va_D A [(o, .inr (8, [.int (J 0), .int (J 0), .ref q7, .ref q15, .ref q23, .ref q31, .ref q39, .ref q48, .int (J (-1)), .ref q61, .int (J 0), .ref q69, .ref q77, .int (J 0), .ref q85, .null, .null])), (q7, ca cI 40 (fun _ => 0)), (q15, ca cI 40 (fun _ => 0)), (q23, ca cI 40 (fun _ => 0)), (q31, ca cZ 40 (fun _ => 0)), (q39, ca cI 123 (fun _ => 0)), (q48, ca cI 1230 (fun _ => 0)), (q61, ca cI 6 (fun _ => 0)), (q69, ca cI 40 (fun _ => 0)), (q77, ca cI 40 (fun _ => 0)), (q85, ca cI 121 (fun _ => 0)), (q93, ca cI 9 (fun _ => 0))] := hD
  refine W.widen (k := 11) (n := 1729) (by decide) (by decide) ?_
  refine va_putF (D := D) (ci := 8) (v := .ref q93) (ty := (.array .int)) (C := R_Mo) (T := T_Mo) (N := 17) hx hb hts i_Mo t_Mo k_Mo n_Mo hown hK hP hD hS 0 rfl rfl 15 (by decide) (hts _ mw_566) (fun _ h9 => h9) rfl hin rfl (by decide +kernel) rfl rfl (Nat.le_of_ble_eq_true rfl) d_Mo_init_95 (fun H locs hP hD hS => ?_)
  have hP : va_P D classes [(o, .inr (8, [.int (J 0), .int (J 0), .ref q7, .ref q15, .ref q23, .ref q31, .ref q39, .ref q48, .int (J (-1)), .ref q61, .int (J 0), .ref q69, .ref q77, .int (J 0), .ref q85, .ref q93, .null])), (q7, ca cI 40 (fun _ => 0)), (q15, ca cI 40 (fun _ => 0)), (q23, ca cI 40 (fun _ => 0)), (q31, ca cZ 40 (fun _ => 0)), (q39, ca cI 123 (fun _ => 0)), (q48, ca cI 1230 (fun _ => 0)), (q61, ca cI 6 (fun _ => 0)), (q69, ca cI 40 (fun _ => 0)), (q77, ca cI 40 (fun _ => 0)), (q85, ca cI 121 (fun _ => 0)), (q93, ca cI 9 (fun _ => 0))] H := hP
  have hD : va_D A [(o, .inr (8, [.int (J 0), .int (J 0), .ref q7, .ref q15, .ref q23, .ref q31, .ref q39, .ref q48, .int (J (-1)), .ref q61, .int (J 0), .ref q69, .ref q77, .int (J 0), .ref q85, .ref q93, .null])), (q7, ca cI 40 (fun _ => 0)), (q15, ca cI 40 (fun _ => 0)), (q23, ca cI 40 (fun _ => 0)), (q31, ca cZ 40 (fun _ => 0)), (q39, ca cI 123 (fun _ => 0)), (q48, ca cI 1230 (fun _ => 0)), (q61, ca cI 6 (fun _ => 0)), (q69, ca cI 40 (fun _ => 0)), (q77, ca cI 40 (fun _ => 0)), (q85, ca cI 121 (fun _ => 0)), (q93, ca cI 9 (fun _ => 0))] := hD
  refine lv_aload_n hx hb d_Mo_init_98 rfl (lv_at hl 0 rfl) ?_
  refine lv_iconst (v := J (3)) hx hb d_Mo_init_99 rfl ?_
  refine w_newi hx hb (hts _ mw_74) hK hP hD hS hA 0 rfl rfl 3 (by omega) (by omega) (by decide) (by decide) d_Mo_init_100 (fun q100 H hP hD hS => ?_)
  have hP : va_P D classes [(o, .inr (8, [.int (J 0), .int (J 0), .ref q7, .ref q15, .ref q23, .ref q31, .ref q39, .ref q48, .int (J (-1)), .ref q61, .int (J 0), .ref q69, .ref q77, .int (J 0), .ref q85, .ref q93, .null])), (q7, ca cI 40 (fun _ => 0)), (q15, ca cI 40 (fun _ => 0)), (q23, ca cI 40 (fun _ => 0)), (q31, ca cZ 40 (fun _ => 0)), (q39, ca cI 123 (fun _ => 0)), (q48, ca cI 1230 (fun _ => 0)), (q61, ca cI 6 (fun _ => 0)), (q69, ca cI 40 (fun _ => 0)), (q77, ca cI 40 (fun _ => 0)), (q85, ca cI 121 (fun _ => 0)), (q93, ca cI 9 (fun _ => 0)), (q100, ca cI 3 (fun _ => 0))] H := hP
  have hD : va_D A [(o, .inr (8, [.int (J 0), .int (J 0), .ref q7, .ref q15, .ref q23, .ref q31, .ref q39, .ref q48, .int (J (-1)), .ref q61, .int (J 0), .ref q69, .ref q77, .int (J 0), .ref q85, .ref q93, .null])), (q7, ca cI 40 (fun _ => 0)), (q15, ca cI 40 (fun _ => 0)), (q23, ca cI 40 (fun _ => 0)), (q31, ca cZ 40 (fun _ => 0)), (q39, ca cI 123 (fun _ => 0)), (q48, ca cI 1230 (fun _ => 0)), (q61, ca cI 6 (fun _ => 0)), (q69, ca cI 40 (fun _ => 0)), (q77, ca cI 40 (fun _ => 0)), (q85, ca cI 121 (fun _ => 0)), (q93, ca cI 9 (fun _ => 0)), (q100, ca cI 3 (fun _ => 0))] := hD
  refine W.widen (k := 12) (n := 1732) (by decide) (by decide) ?_
  refine va_putF (D := D) (ci := 8) (v := .ref q100) (ty := (.array .int)) (C := R_Mo) (T := T_Mo) (N := 17) hx hb hts i_Mo t_Mo k_Mo n_Mo hown hK hP hD hS 0 rfl rfl 16 (by decide) (hts _ mw_567) (fun _ h9 => h9) rfl hin rfl (by decide +kernel) rfl rfl (Nat.le_of_ble_eq_true rfl) d_Mo_init_102 (fun H locs hP hD hS => ?_)
  have hP : va_P D classes [(o, .inr (8, [.int (J 0), .int (J 0), .ref q7, .ref q15, .ref q23, .ref q31, .ref q39, .ref q48, .int (J (-1)), .ref q61, .int (J 0), .ref q69, .ref q77, .int (J 0), .ref q85, .ref q93, .ref q100])), (q7, ca cI 40 (fun _ => 0)), (q15, ca cI 40 (fun _ => 0)), (q23, ca cI 40 (fun _ => 0)), (q31, ca cZ 40 (fun _ => 0)), (q39, ca cI 123 (fun _ => 0)), (q48, ca cI 1230 (fun _ => 0)), (q61, ca cI 6 (fun _ => 0)), (q69, ca cI 40 (fun _ => 0)), (q77, ca cI 40 (fun _ => 0)), (q85, ca cI 121 (fun _ => 0)), (q93, ca cI 9 (fun _ => 0)), (q100, ca cI 3 (fun _ => 0))] H := hP
  have hD : va_D A [(o, .inr (8, [.int (J 0), .int (J 0), .ref q7, .ref q15, .ref q23, .ref q31, .ref q39, .ref q48, .int (J (-1)), .ref q61, .int (J 0), .ref q69, .ref q77, .int (J 0), .ref q85, .ref q93, .ref q100])), (q7, ca cI 40 (fun _ => 0)), (q15, ca cI 40 (fun _ => 0)), (q23, ca cI 40 (fun _ => 0)), (q31, ca cZ 40 (fun _ => 0)), (q39, ca cI 123 (fun _ => 0)), (q48, ca cI 1230 (fun _ => 0)), (q61, ca cI 6 (fun _ => 0)), (q69, ca cI 40 (fun _ => 0)), (q77, ca cI 40 (fun _ => 0)), (q85, ca cI 121 (fun _ => 0)), (q93, ca cI 9 (fun _ => 0)), (q100, ca cI 3 (fun _ => 0))] := hD
  refine lv_aload_n hx hb d_Mo_init_105 rfl (lv_at hl 0 rfl) ?_
  refine va_get (D := D) (ci := 8) (v := .ref q61) (C := R_Mo) (T := T_Mo) (N := 17) hx hb hts i_Mo hown hK hP 0 rfl rfl 9 (by decide) (hts _ mw_560) (fun _ h9 => h9) rfl d_Mo_init_106 ?_
  refine lv_iconst (v := J (0)) hx hb d_Mo_init_109 rfl ?_
  refine lv_bipush (v := J (10)) hx hb d_Mo_init_110 (by decide) ?_
  refine w_iast hx hb hK hP hD hS 7 0 rfl rfl 0 (by omega) (by omega) (by omega) d_Mo_init_112 (fun H locs hP hD hS => ?_)
  have hP : va_P D classes [(o, .inr (8, [.int (J 0), .int (J 0), .ref q7, .ref q15, .ref q23, .ref q31, .ref q39, .ref q48, .int (J (-1)), .ref q61, .int (J 0), .ref q69, .ref q77, .int (J 0), .ref q85, .ref q93, .ref q100])), (q7, ca cI 40 (fun _ => 0)), (q15, ca cI 40 (fun _ => 0)), (q23, ca cI 40 (fun _ => 0)), (q31, ca cZ 40 (fun _ => 0)), (q39, ca cI 123 (fun _ => 0)), (q48, ca cI 1230 (fun _ => 0)), (q61, ca cI 6 (iu (fun _ => 0) 0 10)), (q69, ca cI 40 (fun _ => 0)), (q77, ca cI 40 (fun _ => 0)), (q85, ca cI 121 (fun _ => 0)), (q93, ca cI 9 (fun _ => 0)), (q100, ca cI 3 (fun _ => 0))] H := hP
  have hD : va_D A [(o, .inr (8, [.int (J 0), .int (J 0), .ref q7, .ref q15, .ref q23, .ref q31, .ref q39, .ref q48, .int (J (-1)), .ref q61, .int (J 0), .ref q69, .ref q77, .int (J 0), .ref q85, .ref q93, .ref q100])), (q7, ca cI 40 (fun _ => 0)), (q15, ca cI 40 (fun _ => 0)), (q23, ca cI 40 (fun _ => 0)), (q31, ca cZ 40 (fun _ => 0)), (q39, ca cI 123 (fun _ => 0)), (q48, ca cI 1230 (fun _ => 0)), (q61, ca cI 6 (iu (fun _ => 0) 0 10)), (q69, ca cI 40 (fun _ => 0)), (q77, ca cI 40 (fun _ => 0)), (q85, ca cI 121 (fun _ => 0)), (q93, ca cI 9 (fun _ => 0)), (q100, ca cI 3 (fun _ => 0))] := hD
  refine lv_aload_n hx hb d_Mo_init_113 rfl (lv_at hl 0 rfl) ?_
  refine va_get (D := D) (ci := 8) (v := .ref q61) (C := R_Mo) (T := T_Mo) (N := 17) hx hb hts i_Mo hown hK hP 0 rfl rfl 9 (by decide) (hts _ mw_560) (fun _ h9 => h9) rfl d_Mo_init_114 ?_
  refine lv_iconst (v := J (1)) hx hb d_Mo_init_117 rfl ?_
  refine lv_bipush (v := J (10)) hx hb d_Mo_init_118 (by decide) ?_
  refine w_iast hx hb hK hP hD hS 7 0 rfl rfl 1 (by omega) (by omega) (by omega) d_Mo_init_120 (fun H locs hP hD hS => ?_)
  have hP : va_P D classes [(o, .inr (8, [.int (J 0), .int (J 0), .ref q7, .ref q15, .ref q23, .ref q31, .ref q39, .ref q48, .int (J (-1)), .ref q61, .int (J 0), .ref q69, .ref q77, .int (J 0), .ref q85, .ref q93, .ref q100])), (q7, ca cI 40 (fun _ => 0)), (q15, ca cI 40 (fun _ => 0)), (q23, ca cI 40 (fun _ => 0)), (q31, ca cZ 40 (fun _ => 0)), (q39, ca cI 123 (fun _ => 0)), (q48, ca cI 1230 (fun _ => 0)), (q61, ca cI 6 (iu (iu (fun _ => 0) 0 10) 1 10)), (q69, ca cI 40 (fun _ => 0)), (q77, ca cI 40 (fun _ => 0)), (q85, ca cI 121 (fun _ => 0)), (q93, ca cI 9 (fun _ => 0)), (q100, ca cI 3 (fun _ => 0))] H := hP
  have hD : va_D A [(o, .inr (8, [.int (J 0), .int (J 0), .ref q7, .ref q15, .ref q23, .ref q31, .ref q39, .ref q48, .int (J (-1)), .ref q61, .int (J 0), .ref q69, .ref q77, .int (J 0), .ref q85, .ref q93, .ref q100])), (q7, ca cI 40 (fun _ => 0)), (q15, ca cI 40 (fun _ => 0)), (q23, ca cI 40 (fun _ => 0)), (q31, ca cZ 40 (fun _ => 0)), (q39, ca cI 123 (fun _ => 0)), (q48, ca cI 1230 (fun _ => 0)), (q61, ca cI 6 (iu (iu (fun _ => 0) 0 10) 1 10)), (q69, ca cI 40 (fun _ => 0)), (q77, ca cI 40 (fun _ => 0)), (q85, ca cI 121 (fun _ => 0)), (q93, ca cI 9 (fun _ => 0)), (q100, ca cI 3 (fun _ => 0))] := hD
  refine lv_aload_n hx hb d_Mo_init_121 rfl (lv_at hl 0 rfl) ?_
  refine va_get (D := D) (ci := 8) (v := .ref q61) (C := R_Mo) (T := T_Mo) (N := 17) hx hb hts i_Mo hown hK hP 0 rfl rfl 9 (by decide) (hts _ mw_560) (fun _ h9 => h9) rfl d_Mo_init_122 ?_
  refine lv_iconst (v := J (2)) hx hb d_Mo_init_125 rfl ?_
  refine lv_bipush (v := J (15)) hx hb d_Mo_init_126 (by decide) ?_
  refine w_iast hx hb hK hP hD hS 7 0 rfl rfl 2 (by omega) (by omega) (by omega) d_Mo_init_128 (fun H locs hP hD hS => ?_)
  have hP : va_P D classes [(o, .inr (8, [.int (J 0), .int (J 0), .ref q7, .ref q15, .ref q23, .ref q31, .ref q39, .ref q48, .int (J (-1)), .ref q61, .int (J 0), .ref q69, .ref q77, .int (J 0), .ref q85, .ref q93, .ref q100])), (q7, ca cI 40 (fun _ => 0)), (q15, ca cI 40 (fun _ => 0)), (q23, ca cI 40 (fun _ => 0)), (q31, ca cZ 40 (fun _ => 0)), (q39, ca cI 123 (fun _ => 0)), (q48, ca cI 1230 (fun _ => 0)), (q61, ca cI 6 (iu (iu (iu (fun _ => 0) 0 10) 1 10) 2 15)), (q69, ca cI 40 (fun _ => 0)), (q77, ca cI 40 (fun _ => 0)), (q85, ca cI 121 (fun _ => 0)), (q93, ca cI 9 (fun _ => 0)), (q100, ca cI 3 (fun _ => 0))] H := hP
  have hD : va_D A [(o, .inr (8, [.int (J 0), .int (J 0), .ref q7, .ref q15, .ref q23, .ref q31, .ref q39, .ref q48, .int (J (-1)), .ref q61, .int (J 0), .ref q69, .ref q77, .int (J 0), .ref q85, .ref q93, .ref q100])), (q7, ca cI 40 (fun _ => 0)), (q15, ca cI 40 (fun _ => 0)), (q23, ca cI 40 (fun _ => 0)), (q31, ca cZ 40 (fun _ => 0)), (q39, ca cI 123 (fun _ => 0)), (q48, ca cI 1230 (fun _ => 0)), (q61, ca cI 6 (iu (iu (iu (fun _ => 0) 0 10) 1 10) 2 15)), (q69, ca cI 40 (fun _ => 0)), (q77, ca cI 40 (fun _ => 0)), (q85, ca cI 121 (fun _ => 0)), (q93, ca cI 9 (fun _ => 0)), (q100, ca cI 3 (fun _ => 0))] := hD
  refine lv_aload_n hx hb d_Mo_init_129 rfl (lv_at hl 0 rfl) ?_
  refine va_get (D := D) (ci := 8) (v := .ref q61) (C := R_Mo) (T := T_Mo) (N := 17) hx hb hts i_Mo hown hK hP 0 rfl rfl 9 (by decide) (hts _ mw_560) (fun _ h9 => h9) rfl d_Mo_init_130 ?_
  refine lv_iconst (v := J (3)) hx hb d_Mo_init_133 rfl ?_
  refine lv_iconst (v := J (5)) hx hb d_Mo_init_134 rfl ?_
  refine w_iast hx hb hK hP hD hS 7 0 rfl rfl 3 (by omega) (by omega) (by omega) d_Mo_init_135 (fun H locs hP hD hS => ?_)
  have hP : va_P D classes [(o, .inr (8, [.int (J 0), .int (J 0), .ref q7, .ref q15, .ref q23, .ref q31, .ref q39, .ref q48, .int (J (-1)), .ref q61, .int (J 0), .ref q69, .ref q77, .int (J 0), .ref q85, .ref q93, .ref q100])), (q7, ca cI 40 (fun _ => 0)), (q15, ca cI 40 (fun _ => 0)), (q23, ca cI 40 (fun _ => 0)), (q31, ca cZ 40 (fun _ => 0)), (q39, ca cI 123 (fun _ => 0)), (q48, ca cI 1230 (fun _ => 0)), (q61, ca cI 6 (iu (iu (iu (iu (fun _ => 0) 0 10) 1 10) 2 15) 3 5)), (q69, ca cI 40 (fun _ => 0)), (q77, ca cI 40 (fun _ => 0)), (q85, ca cI 121 (fun _ => 0)), (q93, ca cI 9 (fun _ => 0)), (q100, ca cI 3 (fun _ => 0))] H := hP
  have hD : va_D A [(o, .inr (8, [.int (J 0), .int (J 0), .ref q7, .ref q15, .ref q23, .ref q31, .ref q39, .ref q48, .int (J (-1)), .ref q61, .int (J 0), .ref q69, .ref q77, .int (J 0), .ref q85, .ref q93, .ref q100])), (q7, ca cI 40 (fun _ => 0)), (q15, ca cI 40 (fun _ => 0)), (q23, ca cI 40 (fun _ => 0)), (q31, ca cZ 40 (fun _ => 0)), (q39, ca cI 123 (fun _ => 0)), (q48, ca cI 1230 (fun _ => 0)), (q61, ca cI 6 (iu (iu (iu (iu (fun _ => 0) 0 10) 1 10) 2 15) 3 5)), (q69, ca cI 40 (fun _ => 0)), (q77, ca cI 40 (fun _ => 0)), (q85, ca cI 121 (fun _ => 0)), (q93, ca cI 9 (fun _ => 0)), (q100, ca cI 3 (fun _ => 0))] := hD
  refine lv_aload_n hx hb d_Mo_init_136 rfl (lv_at hl 0 rfl) ?_
  refine va_get (D := D) (ci := 8) (v := .ref q61) (C := R_Mo) (T := T_Mo) (N := 17) hx hb hts i_Mo hown hK hP 0 rfl rfl 9 (by decide) (hts _ mw_560) (fun _ h9 => h9) rfl d_Mo_init_137 ?_
  refine lv_iconst (v := J (4)) hx hb d_Mo_init_140 rfl ?_
  refine lv_bipush (v := J (60)) hx hb d_Mo_init_141 (by decide) ?_
  refine w_iast hx hb hK hP hD hS 7 0 rfl rfl 4 (by omega) (by omega) (by omega) d_Mo_init_143 (fun H locs hP hD hS => ?_)
  have hP : va_P D classes [(o, .inr (8, [.int (J 0), .int (J 0), .ref q7, .ref q15, .ref q23, .ref q31, .ref q39, .ref q48, .int (J (-1)), .ref q61, .int (J 0), .ref q69, .ref q77, .int (J 0), .ref q85, .ref q93, .ref q100])), (q7, ca cI 40 (fun _ => 0)), (q15, ca cI 40 (fun _ => 0)), (q23, ca cI 40 (fun _ => 0)), (q31, ca cZ 40 (fun _ => 0)), (q39, ca cI 123 (fun _ => 0)), (q48, ca cI 1230 (fun _ => 0)), (q61, ca cI 6 (iu (iu (iu (iu (iu (fun _ => 0) 0 10) 1 10) 2 15) 3 5) 4 60)), (q69, ca cI 40 (fun _ => 0)), (q77, ca cI 40 (fun _ => 0)), (q85, ca cI 121 (fun _ => 0)), (q93, ca cI 9 (fun _ => 0)), (q100, ca cI 3 (fun _ => 0))] H := hP
  have hD : va_D A [(o, .inr (8, [.int (J 0), .int (J 0), .ref q7, .ref q15, .ref q23, .ref q31, .ref q39, .ref q48, .int (J (-1)), .ref q61, .int (J 0), .ref q69, .ref q77, .int (J 0), .ref q85, .ref q93, .ref q100])), (q7, ca cI 40 (fun _ => 0)), (q15, ca cI 40 (fun _ => 0)), (q23, ca cI 40 (fun _ => 0)), (q31, ca cZ 40 (fun _ => 0)), (q39, ca cI 123 (fun _ => 0)), (q48, ca cI 1230 (fun _ => 0)), (q61, ca cI 6 (iu (iu (iu (iu (iu (fun _ => 0) 0 10) 1 10) 2 15) 3 5) 4 60)), (q69, ca cI 40 (fun _ => 0)), (q77, ca cI 40 (fun _ => 0)), (q85, ca cI 121 (fun _ => 0)), (q93, ca cI 9 (fun _ => 0)), (q100, ca cI 3 (fun _ => 0))] := hD
  refine lv_aload_n hx hb d_Mo_init_144 rfl (lv_at hl 0 rfl) ?_
  refine va_get (D := D) (ci := 8) (v := .ref q61) (C := R_Mo) (T := T_Mo) (N := 17) hx hb hts i_Mo hown hK hP 0 rfl rfl 9 (by decide) (hts _ mw_560) (fun _ h9 => h9) rfl d_Mo_init_145 ?_
  refine lv_iconst (v := J (5)) hx hb d_Mo_init_148 rfl ?_
  refine lv_bipush (v := J (20)) hx hb d_Mo_init_149 (by decide) ?_
  refine w_iast hx hb hK hP hD hS 7 0 rfl rfl 5 (by omega) (by omega) (by omega) d_Mo_init_151 (fun H locs hP hD hS => ?_)
  have hP : va_P D classes [(o, .inr (8, [.int (J 0), .int (J 0), .ref q7, .ref q15, .ref q23, .ref q31, .ref q39, .ref q48, .int (J (-1)), .ref q61, .int (J 0), .ref q69, .ref q77, .int (J 0), .ref q85, .ref q93, .ref q100])), (q7, ca cI 40 (fun _ => 0)), (q15, ca cI 40 (fun _ => 0)), (q23, ca cI 40 (fun _ => 0)), (q31, ca cZ 40 (fun _ => 0)), (q39, ca cI 123 (fun _ => 0)), (q48, ca cI 1230 (fun _ => 0)), (q61, ca cI 6 (iu (iu (iu (iu (iu (iu (fun _ => 0) 0 10) 1 10) 2 15) 3 5) 4 60) 5 20)), (q69, ca cI 40 (fun _ => 0)), (q77, ca cI 40 (fun _ => 0)), (q85, ca cI 121 (fun _ => 0)), (q93, ca cI 9 (fun _ => 0)), (q100, ca cI 3 (fun _ => 0))] H := hP
  have hD : va_D A [(o, .inr (8, [.int (J 0), .int (J 0), .ref q7, .ref q15, .ref q23, .ref q31, .ref q39, .ref q48, .int (J (-1)), .ref q61, .int (J 0), .ref q69, .ref q77, .int (J 0), .ref q85, .ref q93, .ref q100])), (q7, ca cI 40 (fun _ => 0)), (q15, ca cI 40 (fun _ => 0)), (q23, ca cI 40 (fun _ => 0)), (q31, ca cZ 40 (fun _ => 0)), (q39, ca cI 123 (fun _ => 0)), (q48, ca cI 1230 (fun _ => 0)), (q61, ca cI 6 (iu (iu (iu (iu (iu (iu (fun _ => 0) 0 10) 1 10) 2 15) 3 5) 4 60) 5 20)), (q69, ca cI 40 (fun _ => 0)), (q77, ca cI 40 (fun _ => 0)), (q85, ca cI 121 (fun _ => 0)), (q93, ca cI 9 (fun _ => 0)), (q100, ca cI 3 (fun _ => 0))] := hD
  refine lv_iconst (v := J (0)) hx hb d_Mo_init_152 rfl ?_
  refine lv_istore_n (lv' := [(1, .int (J 0)), (0, .ref o)]) hx hb d_Mo_init_153 rfl hl (by decide) rfl (fun ls hl => ?_)
  have lp_154 : ∀ (fu : Nat) (i : Nat), (i ≤ 40) → (40 - i) < fu → ∀ (H : Heap) (locs : List Loc), va_P D classes [(o, .inr (8, [.int (J 0), .int (J 0), .ref q7, .ref q15, .ref q23, .ref q31, .ref q39, .ref q48, .int (J (-1)), .ref q61, .int (J 0), .ref q69, .ref q77, .int (J 0), .ref q85, .ref q93, .ref q100])), (q7, ca cI 40 (fun _ => 0)), (q15, ca cI 40 (rwl (fun _ => -1) (fun _ => 0) i)), (q23, ca cI 40 (fun _ => 0)), (q31, ca cZ 40 (fun _ => 0)), (q39, ca cI 123 (fun _ => 0)), (q48, ca cI 1230 (fun _ => 0)), (q61, ca cI 6 (iu (iu (iu (iu (iu (iu (fun _ => 0) 0 10) 1 10) 2 15) 3 5) 4 60) 5 20)), (q69, ca cI 40 (fun _ => 0)), (q77, ca cI 40 (fun _ => 0)), (q85, ca cI 121 (fun _ => 0)), (q93, ca cI 9 (fun _ => 0)), (q100, ca cI 3 (fun _ => 0))] H → va_D A [(o, .inr (8, [.int (J 0), .int (J 0), .ref q7, .ref q15, .ref q23, .ref q31, .ref q39, .ref q48, .int (J (-1)), .ref q61, .int (J 0), .ref q69, .ref q77, .int (J 0), .ref q85, .ref q93, .ref q100])), (q7, ca cI 40 (fun _ => 0)), (q15, ca cI 40 (rwl (fun _ => -1) (fun _ => 0) i)), (q23, ca cI 40 (fun _ => 0)), (q31, ca cZ 40 (fun _ => 0)), (q39, ca cI 123 (fun _ => 0)), (q48, ca cI 1230 (fun _ => 0)), (q61, ca cI 6 (iu (iu (iu (iu (iu (iu (fun _ => 0) 0 10) 1 10) 2 15) 3 5) 4 60) 5 20)), (q69, ca cI 40 (fun _ => 0)), (q77, ca cI 40 (fun _ => 0)), (q85, ca cI 121 (fun _ => 0)), (q93, ca cI 9 (fun _ => 0)), (q100, ca cI 3 (fun _ => 0))] → va_S A s.heap H locs → ∀ ls : Array Slot, lv_has ls 2 [(0, .ref o), (1, .int (J ((i : Nat) : Int)))] → W p l e ({ frames := 1, cells := 12, slots := 1732, locals := 12 }) s m args below meth c H locs 12 1732 Q (F0 m 154 ls []) := by
    intro fu
    induction fu with
    | zero => intro i hi hfu; exact absurd hfu (Nat.not_lt_zero _)
    | succ fu ih_154 =>
      intro i hi hfu H locs hP hD hS ls hl
      refine lv_iload_n hx hb d_Mo_init_154 rfl (lv_at hl 1 rfl) ?_
      refine lv_bipush (v := J (40)) hx hb d_Mo_init_155 (by decide) ?_
      refine w_icmp_ge (tgt := 173) hx hb d_Mo_init_157 (by decide) (by omega) (by omega) (fun c_157 => ?_) (fun c_157 => ?_)
      · obtain rfl : i = 40 := by omega
        exact Mv_ret hx hb hr hlocks hQ d_Mo_init_173 hP hK hD hS (fun t => ([q7, q15, q23, q31, q39, q48, q61, q69, q77, q85, q93, q100] : List Nat).getD t 0) (trivial) [0, 1, 2, 3, 4, 5, 6, 7, 8, 9, 10, 11, 12] rfl (by decide)
      · refine lv_aload_n hx hb d_Mo_init_160 rfl (lv_at hl 0 rfl) ?_
        refine va_get (D := D) (ci := 8) (v := .ref q15) (C := R_Mo) (T := T_Mo) (N := 17) hx hb hts i_Mo hown hK hP 0 rfl rfl 3 (by decide) (hts _ mw_554) (fun _ h9 => h9) rfl d_Mo_init_161 ?_
        refine lv_iload_n hx hb d_Mo_init_164 rfl (lv_at hl 1 rfl) ?_
        refine lv_iconst (v := J (-1)) hx hb d_Mo_init_165 rfl ?_
        refine w_iast hx hb hK hP hD hS 2 0 rfl rfl i (by omega) (by omega) (by omega) d_Mo_init_166 (fun H locs hP hD hS => ?_)
        have hP : va_P D classes [(o, .inr (8, [.int (J 0), .int (J 0), .ref q7, .ref q15, .ref q23, .ref q31, .ref q39, .ref q48, .int (J (-1)), .ref q61, .int (J 0), .ref q69, .ref q77, .int (J 0), .ref q85, .ref q93, .ref q100])), (q7, ca cI 40 (fun _ => 0)), (q15, ca cI 40 (iu (rwl (fun _ => -1) (fun _ => 0) i) i (-1))), (q23, ca cI 40 (fun _ => 0)), (q31, ca cZ 40 (fun _ => 0)), (q39, ca cI 123 (fun _ => 0)), (q48, ca cI 1230 (fun _ => 0)), (q61, ca cI 6 (iu (iu (iu (iu (iu (iu (fun _ => 0) 0 10) 1 10) 2 15) 3 5) 4 60) 5 20)), (q69, ca cI 40 (fun _ => 0)), (q77, ca cI 40 (fun _ => 0)), (q85, ca cI 121 (fun _ => 0)), (q93, ca cI 9 (fun _ => 0)), (q100, ca cI 3 (fun _ => 0))] H := hP
        have hD : va_D A [(o, .inr (8, [.int (J 0), .int (J 0), .ref q7, .ref q15, .ref q23, .ref q31, .ref q39, .ref q48, .int (J (-1)), .ref q61, .int (J 0), .ref q69, .ref q77, .int (J 0), .ref q85, .ref q93, .ref q100])), (q7, ca cI 40 (fun _ => 0)), (q15, ca cI 40 (iu (rwl (fun _ => -1) (fun _ => 0) i) i (-1))), (q23, ca cI 40 (fun _ => 0)), (q31, ca cZ 40 (fun _ => 0)), (q39, ca cI 123 (fun _ => 0)), (q48, ca cI 1230 (fun _ => 0)), (q61, ca cI 6 (iu (iu (iu (iu (iu (iu (fun _ => 0) 0 10) 1 10) 2 15) 3 5) 4 60) 5 20)), (q69, ca cI 40 (fun _ => 0)), (q77, ca cI 40 (fun _ => 0)), (q85, ca cI 121 (fun _ => 0)), (q93, ca cI 9 (fun _ => 0)), (q100, ca cI 3 (fun _ => 0))] := hD
        have eg : iu (rwl (fun _ => -1) (fun _ => 0) i) i (-1) = rwl (fun _ => -1) (fun _ => 0) (i + 1) := rwl_s (fun _ => -1) _ i
        rw [eg] at hP hD
        clear eg
        refine w_iinc (k := 1) (lv' := [(1, .int (J ((i + 1 : Nat) : Int))), (0, .ref o)]) hx hb d_Mo_init_167 hl rfl ((i + 1 : Nat) : Int) (by omega) (by decide) rfl (fun ls hl => ?_)
        refine lv_goto (tgt := 154) hx hb d_Mo_init_170 (by decide) ?_
        exact ih_154 (i + 1) (by omega) (by omega) _ _ (P_map hP [0, 1, 2, 3, 4, 5, 6, 7, 8, 9, 10, 11, 12] rfl) (hD.sub [0, 1, 2, 3, 4, 5, 6, 7, 8, 9, 10, 11, 12] (by decide) rfl) hS ls (lv_sub hl [1, 0] rfl)
  have e9 : (fun _ => 0 : Nat → Int) = rwl (fun _ => -1) (fun _ => 0) 0 := (rwl_0 _ _).symm
  exact lp_154 ((40 - 0) + 1) 0 (by omega) (Nat.lt_succ_self _) _ _ (P_map hP [0, 1, 2, 3, 4, 5, 6, 7, 8, 9, 10, 11, 12] rfl) (hD.sub [0, 1, 2, 3, 4, 5, 6, 7, 8, 9, 10, 11, 12] (by decide) rfl) hS ls (lv_sub hl [1, 0] rfl)
