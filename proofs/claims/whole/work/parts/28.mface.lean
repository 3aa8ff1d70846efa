set_option maxHeartbeats 4000000 in
set_option maxRecDepth 100000 in
theorem c_Mo_entry_bad (l : Launch) (D : va_G) (cI cZ cJ : ClassId) (sz : Nat) (o : Nat) (p1 : Nat) (p2 : Nat) (p3 : Nat) (p4 : Nat) (p5 : Nat) (p6 : Nat) (p7 : Nat) (p8 : Nat) (p9 : Nat) (pA : Nat) (pB : Nat) (pC : Nat) (th : Int) (n : Nat) (ap : Int) (fn : Nat) (wk : Int) (z : Int) (hz : rg z) (hn : n ≤ 40) (hno : z < 0 ∨ 1000 ≤ z ∨ n = 40) : Mi l y_Mo_entry w_Mo_entry ({ frames := 0, cells := 0, slots := 0, locals := 0 }) false D classes [(cI, .int), (cZ, .boolean), (cJ, .long)] sz [.ref o, .int (J z)] [(o, .inr (8, [.int (J th), .int (J ((n : Nat) : Int)), .ref p1, .ref p2, .ref p3, .ref p4, .ref p5, .ref p6, .int (J ap), .ref p7, .int (J ((fn : Nat) : Int)), .ref p8, .ref p9, .int (J wk), .ref pA, .ref pB, .ref pC]))] (-1) (S := Unit) (fun _ => True) (fun u : Unit => [(o, .inr (8, [.int (J 0), .int (J ((n : Nat) : Int)), .ref p1, .ref p2, .ref p3, .ref p4, .ref p5, .ref p6, .int (J ap), .ref p7, .int (J ((fn : Nat) : Int)), .ref p8, .ref p9, .int (J wk), .ref pA, .ref pB, .ref pC]))]) 0 0 := by
  refine Mi_of (cc := b_Mo_entry) (maxL := 2) (by decide) rfl (Nat.le_of_ble_eq_true rfl) ?_
  intro p e s m args below meth c hx hb hr hml hts hown hlocks A hA hP hK hD hT hS Q hQ H hH ls hl
  subst hH
  have hl : lv_has ls 2 [(0, .ref o), (1, .int (J z))] := hl
  refine lv_aload_n hx hb d_Mo_entry_0 rfl (lv_at hl 0 rfl) ?_
  refine lv_iconst (v := J (0)) hx hb d_Mo_entry_1 rfl ?_
  refine va_put (D := D) (ci := 8) (v := .int (J 0)) (ty := .int) (C := R_Mo) (T := T_Mo) (N := 17) hx hb hts i_Mo t_Mo k_Mo n_Mo hown hK hP hD hS 0 rfl rfl 0 (by decide) (hts _ mw_551) (fun _ h9 => h9) rfl (by decide +kernel) rfl rfl (Nat.le_of_ble_eq_true rfl) d_Mo_entry_2 (fun H locs hP hD hS => ?_)
  have hP : va_P D classes [(o, .inr (8, [.int (J 0), .int (J ((n : Nat) : Int)), .ref p1, .ref p2, .ref p3, .ref p4, .ref p5, .ref p6, .int (J ap), .ref p7, .int (J ((fn : Nat) : Int)), .ref p8, .ref p9, .int (J wk), .ref pA, .ref pB, .ref pC]))] H := hP
  have hD : va_D A [(o, .inr (8, [.int (J 0), .int (J ((n : Nat) : Int)), .ref p1, .ref p2, .ref p3, .ref p4, .ref p5, .ref p6, .int (J ap), .ref p7, .int (J ((fn : Nat) : Int)), .ref p8, .ref p9, .int (J wk), .ref pA, .ref pB, .ref pC]))] := hD
  refine lv_iload_n hx hb d_Mo_entry_5 rfl (lv_at hl 1 rfl) ?_
  refine w_if_lt (tgt := 25) hx hb d_Mo_entry_6 (by decide) (by omega) (fun c_6 => ?_) (fun c_6 => ?_)
  · refine lv_iconst (v := J (-1)) hx hb d_Mo_entry_25 rfl ?_
    exact Mi_ret hx hb hr hlocks hQ d_Mo_entry_26 hP hK hD hS nb_i (by omega) () (trivial) [0] rfl (by decide)
  · refine lv_iload_n hx hb d_Mo_entry_9 rfl (lv_at hl 1 rfl) ?_
    refine lv_sipush (v := J (999)) hx hb d_Mo_entry_10 (by decide) ?_
    refine w_icmp_gt (tgt := 25) hx hb d_Mo_entry_13 (by decide) (by omega) (by omega) (fun c_13 => ?_) (fun c_13 => ?_)
    · refine lv_iconst (v := J (-1)) hx hb d_Mo_entry_25 rfl ?_
      exact Mi_ret hx hb hr hlocks hQ d_Mo_entry_26 hP hK hD hS nb_i (by omega) () (trivial) [0] rfl (by decide)
    · refine lv_aload_n hx hb d_Mo_entry_16 rfl (lv_at hl 0 rfl) ?_
      refine va_get (D := D) (ci := 8) (v := .int (J ((n : Nat) : Int))) (C := R_Mo) (T := T_Mo) (N := 17) hx hb hts i_Mo hown hK hP 0 rfl rfl 1 (by decide) (hts _ mw_552) (fun _ h9 => h9) rfl d_Mo_entry_17 ?_
      refine lv_bipush (v := J (40)) hx hb d_Mo_entry_20 (by decide) ?_
      refine w_icmp_ne (tgt := 27) hx hb d_Mo_entry_22 (by decide) (by omega) (by omega) (fun c_22 => ?_) (fun c_22 => ?_)
      · exfalso; omega
      · refine lv_iconst (v := J (-1)) hx hb d_Mo_entry_25 rfl ?_
        exact Mi_ret hx hb hr hlocks hQ d_Mo_entry_26 hP hK hD hS nb_i (by omega) () (trivial) [0] rfl (by decide)
set_option maxHeartbeats 4000000 in
set_option maxRecDepth 100000 in
theorem c_Mo_entry (l : Launch) (D : va_G) (cI cZ cJ : ClassId) (sz : Nat) (o : Nat) (p1 : Nat) (p2 : Nat) (p3 : Nat) (p4 : Nat) (p5 : Nat) (p6 : Nat) (p7 : Nat) (p8 : Nat) (p9 : Nat) (pA : Nat) (pB : Nat) (pC : Nat) (th : Int) (n : Nat) (ap : Int) (fn : Nat) (wk : Int) (pl : Nat → Int) (z : Int) (hok : 0 ≤ z ∧ z < 1000 ∧ n < 40) : Mi l y_Mo_entry w_Mo_entry ({ frames := 0, cells := 0, slots := 0, locals := 0 }) false D classes [(cI, .int), (cZ, .boolean), (cJ, .long)] sz [.ref o, .int (J z)] [(o, .inr (8, [.int (J th), .int (J ((n : Nat) : Int)), .ref p1, .ref p2, .ref p3, .ref p4, .ref p5, .ref p6, .int (J ap), .ref p7, .int (J ((fn : Nat) : Int)), .ref p8, .ref p9, .int (J wk), .ref pA, .ref pB, .ref pC])), (p1, ca cI 40 pl)] (((n : Nat) : Int)) (S := Unit) (fun _ => True) (fun u : Unit => [(o, .inr (8, [.int (J 0), .int (J ((n + 1 : Nat) : Int)), .ref p1, .ref p2, .ref p3, .ref p4, .ref p5, .ref p6, .int (J ap), .ref p7, .int (J ((fn : Nat) : Int)), .ref p8, .ref p9, .int (J wk), .ref pA, .ref pB, .ref pC])), (p1, ca cI 40 (iu pl n z))]) 0 0 := by
  refine Mi_of (cc := b_Mo_entry) (maxL := 2) (by decide) rfl (Nat.le_of_ble_eq_true rfl) ?_
  intro p e s m args below meth c hx hb hr hml hts hown hlocks A hA hP hK hD hT hS Q hQ H hH ls hl
  subst hH
  have hl : lv_has ls 2 [(0, .ref o), (1, .int (J z))] := hl
  refine lv_aload_n hx hb d_Mo_entry_0 rfl (lv_at hl 0 rfl) ?_
  refine lv_iconst (v := J (0)) hx hb d_Mo_entry_1 rfl ?_
  refine va_put (D := D) (ci := 8) (v := .int (J 0)) (ty := .int) (C := R_Mo) (T := T_Mo) (N := 17) hx hb hts i_Mo t_Mo k_Mo n_Mo hown hK hP hD hS 0 rfl rfl 0 (by decide) (hts _ mw_551) (fun _ h9 => h9) rfl (by decide +kernel) rfl rfl (Nat.le_of_ble_eq_true rfl) d_Mo_entry_2 (fun H locs hP hD hS => ?_)
  have hP : va_P D classes [(o, .inr (8, [.int (J 0), .int (J ((n : Nat) : Int)), .ref p1, .ref p2, .ref p3, .ref p4, .ref p5, .ref p6, .int (J ap), .ref p7, .int (J ((fn : Nat) : Int)), .ref p8, .ref p9, .int (J wk), .ref pA, .ref pB, .ref pC])), (p1, ca cI 40 pl)] H := hP
  have hD : va_D A [(o, .inr (8, [.int (J 0), .int (J ((n : Nat) : Int)), .ref p1, .ref p2, .ref p3, .ref p4, .ref p5, .ref p6, .int (J ap), .ref p7, .int (J ((fn : Nat) : Int)), .ref p8, .ref p9, .int (J wk), .ref pA, .ref pB, .ref pC])), (p1, ca cI 40 pl)] := hD
  refine lv_iload_n hx hb d_Mo_entry_5 rfl (lv_at hl 1 rfl) ?_
  refine w_if_lt (tgt := 25) hx hb d_Mo_entry_6 (by decide) (by omega) (fun c_6 => ?_) (fun c_6 => ?_)
  · exfalso; omega
  · refine lv_iload_n hx hb d_Mo_entry_9 rfl (lv_at hl 1 rfl) ?_
    refine lv_sipush (v := J (999)) hx hb d_Mo_entry_10 (by decide) ?_
    refine w_icmp_gt (tgt := 25) hx hb d_Mo_entry_13 (by decide) (by omega) (by omega) (fun c_13 => ?_) (fun c_13 => ?_)
    · exfalso; omega
    · refine lv_aload_n hx hb d_Mo_entry_16 rfl (lv_at hl 0 rfl) ?_
      refine va_get (D := D) (ci := 8) (v := .int (J ((n : Nat) : Int))) (C := R_Mo) (T := T_Mo) (N := 17) hx hb hts i_Mo hown hK hP 0 rfl rfl 1 (by decide) (hts _ mw_552) (fun _ h9 => h9) rfl d_Mo_entry_17 ?_
      refine lv_bipush (v := J (40)) hx hb d_Mo_entry_20 (by decide) ?_
      refine w_icmp_ne (tgt := 27) hx hb d_Mo_entry_22 (by decide) (by omega) (by omega) (fun c_22 => ?_) (fun c_22 => ?_)
      · refine lv_aload_n hx hb d_Mo_entry_27 rfl (lv_at hl 0 rfl) ?_
        refine va_get (D := D) (ci := 8) (v := .ref p1) (C := R_Mo) (T := T_Mo) (N := 17) hx hb hts i_Mo hown hK hP 0 rfl rfl 2 (by decide) (hts _ mw_553) (fun _ h9 => h9) rfl d_Mo_entry_28 ?_
        refine lv_aload_n hx hb d_Mo_entry_31 rfl (lv_at hl 0 rfl) ?_
        refine va_get (D := D) (ci := 8) (v := .int (J ((n : Nat) : Int))) (C := R_Mo) (T := T_Mo) (N := 17) hx hb hts i_Mo hown hK hP 0 rfl rfl 1 (by decide) (hts _ mw_552) (fun _ h9 => h9) rfl d_Mo_entry_32 ?_
        refine lv_iload_n hx hb d_Mo_entry_35 rfl (lv_at hl 1 rfl) ?_
        refine w_iast hx hb hK hP hD hS 1 0 rfl rfl n (by omega) (by omega) (by omega) d_Mo_entry_36 (fun H locs hP hD hS => ?_)
        have hP : va_P D classes [(o, .inr (8, [.int (J 0), .int (J ((n : Nat) : Int)), .ref p1, .ref p2, .ref p3, .ref p4, .ref p5, .ref p6, .int (J ap), .ref p7, .int (J ((fn : Nat) : Int)), .ref p8, .ref p9, .int (J wk), .ref pA, .ref pB, .ref pC])), (p1, ca cI 40 (iu pl n z))] H := hP
        have hD : va_D A [(o, .inr (8, [.int (J 0), .int (J ((n : Nat) : Int)), .ref p1, .ref p2, .ref p3, .ref p4, .ref p5, .ref p6, .int (J ap), .ref p7, .int (J ((fn : Nat) : Int)), .ref p8, .ref p9, .int (J wk), .ref pA, .ref pB, .ref pC])), (p1, ca cI 40 (iu pl n z))] := hD
        refine lv_aload_n hx hb d_Mo_entry_37 rfl (lv_at hl 0 rfl) ?_
        refine lv_dup hx hb d_Mo_entry_38 rfl ?_
        refine va_get (D := D) (ci := 8) (v := .int (J ((n : Nat) : Int))) (C := R_Mo) (T := T_Mo) (N := 17) hx hb hts i_Mo hown hK hP 0 rfl rfl 1 (by decide) (hts _ mw_552) (fun _ h9 => h9) rfl d_Mo_entry_39 ?_
        refine lv_iconst (v := J (1)) hx hb d_Mo_entry_42 rfl ?_
        refine w_iadd hx hb d_Mo_entry_43 ((n + 1 : Nat) : Int) (by omega) ?_
        refine va_put (D := D) (ci := 8) (v := .int (J ((n + 1 : Nat) : Int))) (ty := .int) (C := R_Mo) (T := T_Mo) (N := 17) hx hb hts i_Mo t_Mo k_Mo n_Mo hown hK hP hD hS 0 rfl rfl 1 (by decide) (hts _ mw_552) (fun _ h9 => h9) rfl (by decide +kernel) rfl rfl (Nat.le_of_ble_eq_true rfl) d_Mo_entry_44 (fun H locs hP hD hS => ?_)
        have hP : va_P D classes [(o, .inr (8, [.int (J 0), .int (J ((n + 1 : Nat) : Int)), .ref p1, .ref p2, .ref p3, .ref p4, .ref p5, .ref p6, .int (J ap), .ref p7, .int (J ((fn : Nat) : Int)), .ref p8, .ref p9, .int (J wk), .ref pA, .ref pB, .ref pC])), (p1, ca cI 40 (iu pl n z))] H := hP
        have hD : va_D A [(o, .inr (8, [.int (J 0), .int (J ((n + 1 : Nat) : Int)), .ref p1, .ref p2, .ref p3, .ref p4, .ref p5, .ref p6, .int (J ap), .ref p7, .int (J ((fn : Nat) : Int)), .ref p8, .ref p9, .int (J wk), .ref pA, .ref pB, .ref pC])), (p1, ca cI 40 (iu pl n z))] := hD
        refine lv_aload_n hx hb d_Mo_entry_47 rfl (lv_at hl 0 rfl) ?_
        refine va_get (D := D) (ci := 8) (v := .int (J ((n + 1 : Nat) : Int))) (C := R_Mo) (T := T_Mo) (N := 17) hx hb hts i_Mo hown hK hP 0 rfl rfl 1 (by decide) (hts _ mw_552) (fun _ h9 => h9) rfl d_Mo_entry_48 ?_
        refine lv_iconst (v := J (1)) hx hb d_Mo_entry_51 rfl ?_
        refine w_isub hx hb d_Mo_entry_52 ((n : Nat) : Int) (by omega) ?_
        exact Mi_ret hx hb hr hlocks hQ d_Mo_entry_53 hP hK hD hS nb_i (rfl) () (trivial) [0, 1] rfl (by decide)
      · exfalso; omega
set_option maxHeartbeats 4000000 in
set_option maxRecDepth 100000 in
theorem c_Mo_letter_bad (l : Launch) (D : va_G) (cI cZ cJ : ClassId) (sz : Nat) (o : Nat) (p1 : Nat) (p2 : Nat) (p3 : Nat) (p4 : Nat) (p5 : Nat) (p6 : Nat) (p7 : Nat) (p8 : Nat) (p9 : Nat) (pA : Nat) (pB : Nat) (pC : Nat) (th : Int) (n : Nat) (ap : Int) (fn : Nat) (wk : Int) (ga : Nat → Int) (la : Nat → Int) (gb : Nat → Int) (lt : Nat → Int) (z : Int) (y : Int) (x : Int) (hz : rg z) (hy : rg y) (hx : rg x) (hn : n ≤ 40) (hla : ∀ k, 0 ≤ la k ∧ la k ≤ 10) (hlt : ∀ k, 0 ≤ lt k ∧ lt k ≤ 10) (hno : z < 0 ∨ (n : Int) ≤ z ∨ y < 0 ∨ 3 ≤ y ∨ x < 0 ∨ 26 ≤ x) : Mi l y_Mo_letter w_Mo_letter ({ frames := 1, cells := 0, slots := 0, locals := 22 }) false D classes [(cI, .int), (cZ, .boolean), (cJ, .long)] sz [.ref o, .int (J z), .int (J y), .int (J x)] [(o, .inr (8, [.int (J th), .int (J ((n : Nat) : Int)), .ref p1, .ref p2, .ref p3, .ref p4, .ref p5, .ref p6, .int (J ap), .ref p7, .int (J ((fn : Nat) : Int)), .ref p8, .ref p9, .int (J wk), .ref pA, .ref pB, .ref pC])), (p5, ca cI 123 (cmb lt la 120)), (p6, ca cI 1230 (cmb gb ga 1200))] (0) (S := Unit) (fun _ => True) (fun u : Unit => [(o, .inr (8, [.int (J 0), .int (J ((n : Nat) : Int)), .ref p1, .ref p2, .ref p3, .ref p4, .ref p5, .ref p6, .int (J ap), .ref p7, .int (J ((fn : Nat) : Int)), .ref p8, .ref p9, .int (J wk), .ref pA, .ref pB, .ref pC])), (p5, ca cI 123 (cmb lt la 120)), (p6, ca cI 1230 (cmb gb ga 1200))]) 0 0 := by
  refine Mi_of (cc := b_Mo_letter) (maxL := 4) (by decide) rfl (Nat.le_of_ble_eq_true rfl) ?_
  intro p e s m args below meth c hx hb hr hml hts hown hlocks A hA hP hK hD hT hS Q hQ H hH ls hl
  subst hH
  have hl : lv_has ls 4 [(0, .ref o), (1, .int (J z)), (2, .int (J y)), (3, .int (J x))] := hl
  have hln : ∀ k, 0 ≤ (cmb lt la 120) k ∧ (cmb lt la 120) k ≤ 10 := fun k => cmb_P (P := fun x => 0 ≤ x ∧ x ≤ 10) 120 hlt hla k
  refine lv_aload_n hx hb d_Mo_letter_0 rfl (lv_at hl 0 rfl) ?_
  refine lv_iconst (v := J (0)) hx hb d_Mo_letter_1 rfl ?_
  refine va_put (D := D) (ci := 8) (v := .int (J 0)) (ty := .int) (C := R_Mo) (T := T_Mo) (N := 17) hx hb hts i_Mo t_Mo k_Mo n_Mo hown hK hP hD hS 0 rfl rfl 0 (by decide) (hts _ mw_551) (fun _ h9 => h9) rfl (by decide +kernel) rfl rfl (Nat.le_of_ble_eq_true rfl) d_Mo_letter_2 (fun H locs hP hD hS => ?_)
  have hP : va_P D classes [(o, .inr (8, [.int (J 0), .int (J ((n : Nat) : Int)), .ref p1, .ref p2, .ref p3, .ref p4, .ref p5, .ref p6, .int (J ap), .ref p7, .int (J ((fn : Nat) : Int)), .ref p8, .ref p9, .int (J wk), .ref pA, .ref pB, .ref pC])), (p5, ca cI 123 (cmb lt la 120)), (p6, ca cI 1230 (cmb gb ga 1200))] H := hP
  have hD : va_D A [(o, .inr (8, [.int (J 0), .int (J ((n : Nat) : Int)), .ref p1, .ref p2, .ref p3, .ref p4, .ref p5, .ref p6, .int (J ap), .ref p7, .int (J ((fn : Nat) : Int)), .ref p8, .ref p9, .int (J wk), .ref pA, .ref pB, .ref pC])), (p5, ca cI 123 (cmb lt la 120)), (p6, ca cI 1230 (cmb gb ga 1200))] := hD
  refine lv_aload_n hx hb d_Mo_letter_5 rfl (lv_at hl 0 rfl) ?_
  refine lv_iload_n hx hb d_Mo_letter_6 rfl (lv_at hl 1 rfl) ?_
  refine Ri_call (va_runV (As := [.int (J z)]) (rest := []) ⟨hx, hb, hml, hown, hts⟩ (c_Mo_isEntry l D cI cZ cJ o p1 p2 p3 p4 p5 p6 p7 p8 p9 pA pB pC 0 n ap fn wk z (by first | with_reducible assumption | omega) (by first | with_reducible assumption | omega)) (cwV 1 hts (g_V mw_615 mw_617 mw_10 mw_33 mw_618) rfl rfl rfl (by decide +kernel) ⟨Nat.le_of_ble_eq_true rfl, Nat.le_of_ble_eq_true rfl⟩) (pre_RV hP hK [0] rfl 8 0 rfl rfl) rfl rfl hl.1 rfl (lv_room (Nat.le_of_ble_eq_true rfl)) d_Mo_letter_7 ⟨Nat.le_of_ble_eq_true rfl, Nat.le_of_ble_eq_true rfl⟩) ?_
  refine w_if_eq (tgt := 37) hx hb d_Mo_letter_10 (by decide) (rg_b2) (fun c_10 => ?_) (fun c_10 => ?_)
  · have c_10 := b2_0.mp c_10
    refine lv_iconst (v := J (0)) hx hb d_Mo_letter_37 rfl ?_
    exact Mi_ret hx hb hr hlocks hQ d_Mo_letter_38 hP hK hD hS (nb_z (by omega)) (by omega) () (trivial) [0, 1, 2] rfl (by decide)
  · have c_10 := b2_n0.mp c_10
    refine lv_iload_n hx hb d_Mo_letter_13 rfl (lv_at hl 2 rfl) ?_
    refine Ri_call (va_runS (As := [.int (J y)]) (rest := []) ⟨hx, hb, hml, hown, hts⟩ (c_Mo_isWord l D cI cZ cJ y (by first | with_reducible assumption | omega)) (va_cwS 1 hts (g_S mw_619 mw_620 mw_33 mw_621) rfl rfl rfl (by decide +kernel) ⟨Nat.le_of_ble_eq_true rfl, Nat.le_of_ble_eq_true rfl⟩) (pre_RS hP hK [] rfl) rfl rfl hl.1 rfl (lv_room (Nat.le_of_ble_eq_true rfl)) d_Mo_letter_14 ⟨Nat.le_of_ble_eq_true rfl, Nat.le_of_ble_eq_true rfl⟩) ?_
    refine w_if_eq (tgt := 37) hx hb d_Mo_letter_17 (by decide) (rg_b2) (fun c_17 => ?_) (fun c_17 => ?_)
    · have c_17 := b2_0.mp c_17
      refine lv_iconst (v := J (0)) hx hb d_Mo_letter_37 rfl ?_
      exact Mi_ret hx hb hr hlocks hQ d_Mo_letter_38 hP hK hD hS (nb_z (by omega)) (by omega) () (trivial) [0, 1, 2] rfl (by decide)
    · have c_17 := b2_n0.mp c_17
      obtain ⟨en, rfl⟩ : ∃ en : Nat, z = (en : Int) := ⟨(z).toNat, by omega⟩
      obtain ⟨w, rfl⟩ : ∃ w : Nat, y = (w : Int) := ⟨(y).toNat, by omega⟩
      refine lv_aload_n hx hb d_Mo_letter_20 rfl (lv_at hl 0 rfl) ?_
      refine lv_iconst (v := J (3)) hx hb d_Mo_letter_21 rfl ?_
      refine lv_iload_n hx hb d_Mo_letter_22 rfl (lv_at hl 1 rfl) ?_
      refine w_imul hx hb d_Mo_letter_23 ((3 * en : Nat) : Int) (by omega) ?_
      refine lv_iload_n hx hb d_Mo_letter_24 rfl (lv_at hl 2 rfl) ?_
      refine w_iadd hx hb d_Mo_letter_25 (((3 * en) + w : Nat) : Int) (by omega) ?_
      refine lv_iload_n hx hb d_Mo_letter_26 rfl (lv_at hl 3 rfl) ?_
      refine Ri_call (va_runV (As := [.int (J (((3 * en) + w : Nat) : Int)), .int (J x)]) (rest := []) ⟨hx, hb, hml, hown, hts⟩ (c_Mo_add_no l D cI cZ cJ o p1 p2 p3 p4 p5 p6 p7 p8 p9 pA pB pC 0 n ap fn wk (cmb lt la 120) ((3 * en) + w) x (by first | with_reducible assumption | omega) (by first | with_reducible assumption | omega) (by first | with_reducible assumption | omega) (by first | with_reducible assumption | omega)) (cwV 2 hts (g_V mw_622 mw_624 mw_11 mw_33 mw_625) rfl rfl rfl (by decide +kernel) ⟨Nat.le_of_ble_eq_true rfl, Nat.le_of_ble_eq_true rfl⟩) (pre_RV hP hK [0, 1] rfl 8 0 rfl rfl) rfl rfl hl.1 rfl (lv_room (Nat.le_of_ble_eq_true rfl)) d_Mo_letter_27 ⟨Nat.le_of_ble_eq_true rfl, Nat.le_of_ble_eq_true rfl⟩) ?_
      refine w_if_eq (tgt := 37) hx hb d_Mo_letter_30 (by decide) (by omega) (fun c_30 => ?_) (fun c_30 => ?_)
      · refine lv_iconst (v := J (0)) hx hb d_Mo_letter_37 rfl ?_
        exact Mi_ret hx hb hr hlocks hQ d_Mo_letter_38 hP hK hD hS (nb_z (by omega)) (by omega) () (trivial) [0, 1, 2] rfl (by decide)
      · exfalso; omega
set_option maxHeartbeats 4000000 in
set_option maxRecDepth 100000 in
theorem c_Mo_letter_full (l : Launch) (D : va_G) (cI cZ cJ : ClassId) (sz : Nat) (o : Nat) (p1 : Nat) (p2 : Nat) (p3 : Nat) (p4 : Nat) (p5 : Nat) (p6 : Nat) (p7 : Nat) (p8 : Nat) (p9 : Nat) (pA : Nat) (pB : Nat) (pC : Nat) (th : Int) (n : Nat) (ap : Int) (fn : Nat) (wk : Int) (ga : Nat → Int) (la : Nat → Int) (gb : Nat → Int) (lt : Nat → Int) (en : Nat) (w : Nat) (x : Int) (hn : n ≤ 40) (hla : ∀ k, 0 ≤ la k ∧ la k ≤ 10) (hlt : ∀ k, 0 ≤ lt k ∧ lt k ≤ 10) (hok : en < n ∧ w < 3 ∧ 0 ≤ x ∧ x < 26) (hf : lt (en * 3 + w) = 10) : Mi l y_Mo_letter w_Mo_letter ({ frames := 1, cells := 0, slots := 0, locals := 22 }) false D classes [(cI, .int), (cZ, .boolean), (cJ, .long)] sz [.ref o, .int (J ((en : Nat) : Int)), .int (J ((w : Nat) : Int)), .int (J x)] [(o, .inr (8, [.int (J th), .int (J ((n : Nat) : Int)), .ref p1, .ref p2, .ref p3, .ref p4, .ref p5, .ref p6, .int (J ap), .ref p7, .int (J ((fn : Nat) : Int)), .ref p8, .ref p9, .int (J wk), .ref pA, .ref pB, .ref pC])), (p5, ca cI 123 (cmb lt la 120)), (p6, ca cI 1230 (cmb gb ga 1200))] (0) (S := Unit) (fun _ => True) (fun u : Unit => [(o, .inr (8, [.int (J 0), .int (J ((n : Nat) : Int)), .ref p1, .ref p2, .ref p3, .ref p4, .ref p5, .ref p6, .int (J ap), .ref p7, .int (J ((fn : Nat) : Int)), .ref p8, .ref p9, .int (J wk), .ref pA, .ref pB, .ref pC])), (p5, ca cI 123 (cmb lt la 120)), (p6, ca cI 1230 (cmb gb ga 1200))]) 0 0 := by
  refine Mi_of (cc := b_Mo_letter) (maxL := 4) (by decide) rfl (Nat.le_of_ble_eq_true rfl) ?_
  intro p e s m args below meth c hx hb hr hml hts hown hlocks A hA hP hK hD hT hS Q hQ H hH ls hl
  subst hH
  have hl : lv_has ls 4 [(0, .ref o), (1, .int (J ((en : Nat) : Int))), (2, .int (J ((w : Nat) : Int))), (3, .int (J x))] := hl
  have hln : ∀ k, 0 ≤ (cmb lt la 120) k ∧ (cmb lt la 120) k ≤ 10 := fun k => cmb_P (P := fun x => 0 ≤ x ∧ x ≤ 10) 120 hlt hla k
  have el : (cmb lt la 120) (3 * en + w) = lt (en * 3 + w) := by rw [cmb_lo _ _ (by omega), show 3 * en + w = en * 3 + w by omega]
  refine lv_aload_n hx hb d_Mo_letter_0 rfl (lv_at hl 0 rfl) ?_
  refine lv_iconst (v := J (0)) hx hb d_Mo_letter_1 rfl ?_
  refine va_put (D := D) (ci := 8) (v := .int (J 0)) (ty := .int) (C := R_Mo) (T := T_Mo) (N := 17) hx hb hts i_Mo t_Mo k_Mo n_Mo hown hK hP hD hS 0 rfl rfl 0 (by decide) (hts _ mw_551) (fun _ h9 => h9) rfl (by decide +kernel) rfl rfl (Nat.le_of_ble_eq_true rfl) d_Mo_letter_2 (fun H locs hP hD hS => ?_)
  have hP : va_P D classes [(o, .inr (8, [.int (J 0), .int (J ((n : Nat) : Int)), .ref p1, .ref p2, .ref p3, .ref p4, .ref p5, .ref p6, .int (J ap), .ref p7, .int (J ((fn : Nat) : Int)), .ref p8, .ref p9, .int (J wk), .ref pA, .ref pB, .ref pC])), (p5, ca cI 123 (cmb lt la 120)), (p6, ca cI 1230 (cmb gb ga 1200))] H := hP
  have hD : va_D A [(o, .inr (8, [.int (J 0), .int (J ((n : Nat) : Int)), .ref p1, .ref p2, .ref p3, .ref p4, .ref p5, .ref p6, .int (J ap), .ref p7, .int (J ((fn : Nat) : Int)), .ref p8, .ref p9, .int (J wk), .ref pA, .ref pB, .ref pC])), (p5, ca cI 123 (cmb lt la 120)), (p6, ca cI 1230 (cmb gb ga 1200))] := hD
  refine lv_aload_n hx hb d_Mo_letter_5 rfl (lv_at hl 0 rfl) ?_
  refine lv_iload_n hx hb d_Mo_letter_6 rfl (lv_at hl 1 rfl) ?_
  refine Ri_call (va_runV (As := [.int (J ((en : Nat) : Int))]) (rest := []) ⟨hx, hb, hml, hown, hts⟩ (c_Mo_isEntry l D cI cZ cJ o p1 p2 p3 p4 p5 p6 p7 p8 p9 pA pB pC 0 n ap fn wk ((en : Nat) : Int) (by first | with_reducible assumption | omega) (by first | with_reducible assumption | omega)) (cwV 1 hts (g_V mw_615 mw_617 mw_10 mw_33 mw_618) rfl rfl rfl (by decide +kernel) ⟨Nat.le_of_ble_eq_true rfl, Nat.le_of_ble_eq_true rfl⟩) (pre_RV hP hK [0] rfl 8 0 rfl rfl) rfl rfl hl.1 rfl (lv_room (Nat.le_of_ble_eq_true rfl)) d_Mo_letter_7 ⟨Nat.le_of_ble_eq_true rfl, Nat.le_of_ble_eq_true rfl⟩) ?_
  refine w_if_eq (tgt := 37) hx hb d_Mo_letter_10 (by decide) (rg_b2) (fun c_10 => ?_) (fun c_10 => ?_)
  · have c_10 := b2_0.mp c_10
    exfalso; omega
  · have c_10 := b2_n0.mp c_10
    refine lv_iload_n hx hb d_Mo_letter_13 rfl (lv_at hl 2 rfl) ?_
    refine Ri_call (va_runS (As := [.int (J ((w : Nat) : Int))]) (rest := []) ⟨hx, hb, hml, hown, hts⟩ (c_Mo_isWord l D cI cZ cJ ((w : Nat) : Int) (by first | with_reducible assumption | omega)) (va_cwS 1 hts (g_S mw_619 mw_620 mw_33 mw_621) rfl rfl rfl (by decide +kernel) ⟨Nat.le_of_ble_eq_true rfl, Nat.le_of_ble_eq_true rfl⟩) (pre_RS hP hK [] rfl) rfl rfl hl.1 rfl (lv_room (Nat.le_of_ble_eq_true rfl)) d_Mo_letter_14 ⟨Nat.le_of_ble_eq_true rfl, Nat.le_of_ble_eq_true rfl⟩) ?_
    refine w_if_eq (tgt := 37) hx hb d_Mo_letter_17 (by decide) (rg_b2) (fun c_17 => ?_) (fun c_17 => ?_)
    · have c_17 := b2_0.mp c_17
      exfalso; omega
    · have c_17 := b2_n0.mp c_17
      refine lv_aload_n hx hb d_Mo_letter_20 rfl (lv_at hl 0 rfl) ?_
      refine lv_iconst (v := J (3)) hx hb d_Mo_letter_21 rfl ?_
      refine lv_iload_n hx hb d_Mo_letter_22 rfl (lv_at hl 1 rfl) ?_
      refine w_imul hx hb d_Mo_letter_23 ((3 * en : Nat) : Int) (by omega) ?_
      refine lv_iload_n hx hb d_Mo_letter_24 rfl (lv_at hl 2 rfl) ?_
      refine w_iadd hx hb d_Mo_letter_25 ((3 * en + w : Nat) : Int) (by omega) ?_
      refine lv_iload_n hx hb d_Mo_letter_26 rfl (lv_at hl 3 rfl) ?_
      refine Ri_call (va_runV (As := [.int (J ((3 * en + w : Nat) : Int)), .int (J x)]) (rest := []) ⟨hx, hb, hml, hown, hts⟩ (c_Mo_add_no l D cI cZ cJ o p1 p2 p3 p4 p5 p6 p7 p8 p9 pA pB pC 0 n ap fn wk (cmb lt la 120) (3 * en + w) x (by first | with_reducible assumption | omega) (by first | with_reducible assumption | omega) (by first | with_reducible assumption | omega) (by first | with_reducible assumption | omega)) (cwV 2 hts (g_V mw_622 mw_624 mw_11 mw_33 mw_625) rfl rfl rfl (by decide +kernel) ⟨Nat.le_of_ble_eq_true rfl, Nat.le_of_ble_eq_true rfl⟩) (pre_RV hP hK [0, 1] rfl 8 0 rfl rfl) rfl rfl hl.1 rfl (lv_room (Nat.le_of_ble_eq_true rfl)) d_Mo_letter_27 ⟨Nat.le_of_ble_eq_true rfl, Nat.le_of_ble_eq_true rfl⟩) ?_
      refine w_if_eq (tgt := 37) hx hb d_Mo_letter_30 (by decide) (by omega) (fun c_30 => ?_) (fun c_30 => ?_)
      · refine lv_iconst (v := J (0)) hx hb d_Mo_letter_37 rfl ?_
        exact Mi_ret hx hb hr hlocks hQ d_Mo_letter_38 hP hK hD hS (nb_z (by omega)) (by omega) () (trivial) [0, 1, 2] rfl (by decide)
      · exfalso; omega
set_option maxHeartbeats 4000000 in
set_option maxRecDepth 100000 in
theorem c_Mo_letter (l : Launch) (D : va_G) (cI cZ cJ : ClassId) (sz : Nat) (o : Nat) (p1 : Nat) (p2 : Nat) (p3 : Nat) (p4 : Nat) (p5 : Nat) (p6 : Nat) (p7 : Nat) (p8 : Nat) (p9 : Nat) (pA : Nat) (pB : Nat) (pC : Nat) (th : Int) (n : Nat) (ap : Int) (fn : Nat) (wk : Int) (ga : Nat → Int) (la : Nat → Int) (gb : Nat → Int) (lt : Nat → Int) (en : Nat) (w : Nat) (x : Int) (hn : n ≤ 40) (hla : ∀ k, 0 ≤ la k ∧ la k ≤ 10) (hlt : ∀ k, 0 ≤ lt k ∧ lt k ≤ 10) (hok : en < n ∧ w < 3 ∧ 0 ≤ x ∧ x < 26) (hf : lt (en * 3 + w) < 10) : Mi l y_Mo_letter w_Mo_letter ({ frames := 1, cells := 0, slots := 0, locals := 22 }) false D classes [(cI, .int), (cZ, .boolean), (cJ, .long)] sz [.ref o, .int (J ((en : Nat) : Int)), .int (J ((w : Nat) : Int)), .int (J x)] [(o, .inr (8, [.int (J th), .int (J ((n : Nat) : Int)), .ref p1, .ref p2, .ref p3, .ref p4, .ref p5, .ref p6, .int (J ap), .ref p7, .int (J ((fn : Nat) : Int)), .ref p8, .ref p9, .int (J wk), .ref pA, .ref pB, .ref pC])), (p5, ca cI 123 (cmb lt la 120)), (p6, ca cI 1230 (cmb gb ga 1200))] (1) (S := Unit) (fun _ => True) (fun u : Unit => [(o, .inr (8, [.int (J 0), .int (J ((n : Nat) : Int)), .ref p1, .ref p2, .ref p3, .ref p4, .ref p5, .ref p6, .int (J ap), .ref p7, .int (J ((fn : Nat) : Int)), .ref p8, .ref p9, .int (J wk), .ref pA, .ref pB, .ref pC])), (p5, ca cI 123 (cmb (iu lt (en * 3 + w) (lt (en * 3 + w) + 1)) la 120)), (p6, ca cI 1230 (cmb (iu gb ((en * 3 + w) * 10 + (lt (en * 3 + w)).toNat) x) ga 1200))]) 0 0 := by
  refine Mi_of (cc := b_Mo_letter) (maxL := 4) (by decide) rfl (Nat.le_of_ble_eq_true rfl) ?_
  intro p e s m args below meth c hx hb hr hml hts hown hlocks A hA hP hK hD hT hS Q hQ H hH ls hl
  subst hH
  have hl : lv_has ls 4 [(0, .ref o), (1, .int (J ((en : Nat) : Int))), (2, .int (J ((w : Nat) : Int))), (3, .int (J x))] := hl
  have hln : ∀ k, 0 ≤ (cmb lt la 120) k ∧ (cmb lt la 120) k ≤ 10 := fun k => cmb_P (P := fun x => 0 ≤ x ∧ x ≤ 10) 120 hlt hla k
  have el : (cmb lt la 120) (3 * en + w) = lt (en * 3 + w) := by rw [cmb_lo _ _ (by omega), show 3 * en + w = en * 3 + w by omega]
  refine lv_aload_n hx hb d_Mo_letter_0 rfl (lv_at hl 0 rfl) ?_
  refine lv_iconst (v := J (0)) hx hb d_Mo_letter_1 rfl ?_
  refine va_put (D := D) (ci := 8) (v := .int (J 0)) (ty := .int) (C := R_Mo) (T := T_Mo) (N := 17) hx hb hts i_Mo t_Mo k_Mo n_Mo hown hK hP hD hS 0 rfl rfl 0 (by decide) (hts _ mw_551) (fun _ h9 => h9) rfl (by decide +kernel) rfl rfl (Nat.le_of_ble_eq_true rfl) d_Mo_letter_2 (fun H locs hP hD hS => ?_)
  have hP : va_P D classes [(o, .inr (8, [.int (J 0), .int (J ((n : Nat) : Int)), .ref p1, .ref p2, .ref p3, .ref p4, .ref p5, .ref p6, .int (J ap), .ref p7, .int (J ((fn : Nat) : Int)), .ref p8, .ref p9, .int (J wk), .ref pA, .ref pB, .ref pC])), (p5, ca cI 123 (cmb lt la 120)), (p6, ca cI 1230 (cmb gb ga 1200))] H := hP
  have hD : va_D A [(o, .inr (8, [.int (J 0), .int (J ((n : Nat) : Int)), .ref p1, .ref p2, .ref p3, .ref p4, .ref p5, .ref p6, .int (J ap), .ref p7, .int (J ((fn : Nat) : Int)), .ref p8, .ref p9, .int (J wk), .ref pA, .ref pB, .ref pC])), (p5, ca cI 123 (cmb lt la 120)), (p6, ca cI 1230 (cmb gb ga 1200))] := hD
  refine lv_aload_n hx hb d_Mo_letter_5 rfl (lv_at hl 0 rfl) ?_
  refine lv_iload_n hx hb d_Mo_letter_6 rfl (lv_at hl 1 rfl) ?_
  refine Ri_call (va_runV (As := [.int (J ((en : Nat) : Int))]) (rest := []) ⟨hx, hb, hml, hown, hts⟩ (c_Mo_isEntry l D cI cZ cJ o p1 p2 p3 p4 p5 p6 p7 p8 p9 pA pB pC 0 n ap fn wk ((en : Nat) : Int) (by first | with_reducible assumption | omega) (by first | with_reducible assumption | omega)) (cwV 1 hts (g_V mw_615 mw_617 mw_10 mw_33 mw_618) rfl rfl rfl (by decide +kernel) ⟨Nat.le_of_ble_eq_true rfl, Nat.le_of_ble_eq_true rfl⟩) (pre_RV hP hK [0] rfl 8 0 rfl rfl) rfl rfl hl.1 rfl (lv_room (Nat.le_of_ble_eq_true rfl)) d_Mo_letter_7 ⟨Nat.le_of_ble_eq_true rfl, Nat.le_of_ble_eq_true rfl⟩) ?_
  refine w_if_eq (tgt := 37) hx hb d_Mo_letter_10 (by decide) (rg_b2) (fun c_10 => ?_) (fun c_10 => ?_)
  · have c_10 := b2_0.mp c_10
    exfalso; omega
  · have c_10 := b2_n0.mp c_10
    refine lv_iload_n hx hb d_Mo_letter_13 rfl (lv_at hl 2 rfl) ?_
    refine Ri_call (va_runS (As := [.int (J ((w : Nat) : Int))]) (rest := []) ⟨hx, hb, hml, hown, hts⟩ (c_Mo_isWord l D cI cZ cJ ((w : Nat) : Int) (by first | with_reducible assumption | omega)) (va_cwS 1 hts (g_S mw_619 mw_620 mw_33 mw_621) rfl rfl rfl (by decide +kernel) ⟨Nat.le_of_ble_eq_true rfl, Nat.le_of_ble_eq_true rfl⟩) (pre_RS hP hK [] rfl) rfl rfl hl.1 rfl (lv_room (Nat.le_of_ble_eq_true rfl)) d_Mo_letter_14 ⟨Nat.le_of_ble_eq_true rfl, Nat.le_of_ble_eq_true rfl⟩) ?_
    refine w_if_eq (tgt := 37) hx hb d_Mo_letter_17 (by decide) (rg_b2) (fun c_17 => ?_) (fun c_17 => ?_)
    · have c_17 := b2_0.mp c_17
      exfalso; omega
    · have c_17 := b2_n0.mp c_17
      refine lv_aload_n hx hb d_Mo_letter_20 rfl (lv_at hl 0 rfl) ?_
      refine lv_iconst (v := J (3)) hx hb d_Mo_letter_21 rfl ?_
      refine lv_iload_n hx hb d_Mo_letter_22 rfl (lv_at hl 1 rfl) ?_
      refine w_imul hx hb d_Mo_letter_23 ((3 * en : Nat) : Int) (by omega) ?_
      refine lv_iload_n hx hb d_Mo_letter_24 rfl (lv_at hl 2 rfl) ?_
      refine w_iadd hx hb d_Mo_letter_25 ((3 * en + w : Nat) : Int) (by omega) ?_
      refine lv_iload_n hx hb d_Mo_letter_26 rfl (lv_at hl 3 rfl) ?_
      refine Mi_call (wr := []) (va_runV (As := [.int (J ((3 * en + w : Nat) : Int)), .int (J x)]) (rest := []) ⟨hx, hb, hml, hown, hts⟩ (c_Mo_add l D cI cZ cJ H.size o p1 p2 p3 p4 p5 p6 p7 p8 p9 pA pB pC 0 n ap fn wk (cmb lt la 120) (cmb gb ga 1200) (3 * en + w) x (by first | with_reducible assumption | omega) (by first | with_reducible assumption | omega) (by first | with_reducible assumption | omega)) (cwV 2 hts (g_V mw_622 mw_624 mw_11 mw_33 mw_625) rfl rfl rfl (by decide +kernel) ⟨Nat.le_of_ble_eq_true rfl, Nat.le_of_ble_eq_true rfl⟩) (pre_WV hP hK hD [0, 1, 2] rfl (by decide) 8 0 rfl rfl (fun h => Bool.noConfusion h)) rfl rfl hl.1 rfl (lv_room (Nat.le_of_ble_eq_true rfl)) d_Mo_letter_27 ⟨Nat.le_of_ble_eq_true rfl, Nat.le_of_ble_eq_true rfl⟩) hP hD hS hA [0, 1, 2] [] rfl rfl (by decide) (by decide) (fun _u H locs _hu hP hD hS => ?_)
      have hP : va_P D classes [(o, .inr (8, [.int (J 0), .int (J ((n : Nat) : Int)), .ref p1, .ref p2, .ref p3, .ref p4, .ref p5, .ref p6, .int (J ap), .ref p7, .int (J ((fn : Nat) : Int)), .ref p8, .ref p9, .int (J wk), .ref pA, .ref pB, .ref pC])), (p5, ca cI 123 (iu (cmb lt la 120) (3 * en + w) ((cmb lt la 120) (3 * en + w) + 1))), (p6, ca cI 1230 (iu (cmb gb ga 1200) (10 * (3 * en + w) + ((cmb lt la 120) (3 * en + w)).toNat) x))] H := hP
      have hD : va_D A [(o, .inr (8, [.int (J 0), .int (J ((n : Nat) : Int)), .ref p1, .ref p2, .ref p3, .ref p4, .ref p5, .ref p6, .int (J ap), .ref p7, .int (J ((fn : Nat) : Int)), .ref p8, .ref p9, .int (J wk), .ref pA, .ref pB, .ref pC])), (p5, ca cI 123 (iu (cmb lt la 120) (3 * en + w) ((cmb lt la 120) (3 * en + w) + 1))), (p6, ca cI 1230 (iu (cmb gb ga 1200) (10 * (3 * en + w) + ((cmb lt la 120) (3 * en + w)).toNat) x))] := hD
      have hl2 := hlt (en * 3 + w)
      have eg : iu (cmb lt la 120) (3 * en + w) ((cmb lt la 120) (3 * en + w) + 1) = cmb (iu lt (en * 3 + w) (lt (en * 3 + w) + 1)) la 120 := by rw [el, cmb_ul _ _ (by omega), show 3 * en + w = en * 3 + w by omega]
      rw [eg] at hP hD
      clear eg
      have eg : iu (cmb gb ga 1200) (10 * (3 * en + w) + ((cmb lt la 120) (3 * en + w)).toNat) x = cmb (iu gb ((en * 3 + w) * 10 + (lt (en * 3 + w)).toNat) x) ga 1200 := by rw [el, cmb_ul _ _ (by omega), show 10 * (3 * en + w) + (lt (en * 3 + w)).toNat = (en * 3 + w) * 10 + (lt (en * 3 + w)).toNat by omega]
      rw [eg] at hP hD
      clear eg
      refine w_if_eq (tgt := 37) hx hb d_Mo_letter_30 (by decide) (by omega) (fun c_30 => ?_) (fun c_30 => ?_)
      · exfalso; omega
      · refine lv_iconst (v := J (1)) hx hb d_Mo_letter_33 rfl ?_
        refine lv_goto (tgt := 38) hx hb d_Mo_letter_34 (by decide) ?_
        exact Mi_ret hx hb hr hlocks hQ d_Mo_letter_38 hP hK hD hS (nb_z (by omega)) (by omega) () (trivial) [0, 1, 2] rfl (by decide)
set_option maxHeartbeats 4000000 in
set_option maxRecDepth 100000 in
theorem c_Mo_ask_bad (l : Launch) (D : va_G) (cI cZ cJ : ClassId) (sz : Nat) (o : Nat) (p1 : Nat) (p2 : Nat) (p3 : Nat) (p4 : Nat) (p5 : Nat) (p6 : Nat) (p7 : Nat) (p8 : Nat) (p9 : Nat) (pA : Nat) (pB : Nat) (pC : Nat) (th : Int) (n : Nat) (ap : Int) (fn : Nat) (wk : Int) (ga : Nat → Int) (la : Nat → Int) (gb : Nat → Int) (lt : Nat → Int) (y : Int) (x : Int) (hy : rg y) (hx : rg x) (hla : ∀ k, 0 ≤ la k ∧ la k ≤ 10) (hlt : ∀ k, 0 ≤ lt k ∧ lt k ≤ 10) (hno : y < 0 ∨ 3 ≤ y ∨ x < 0 ∨ 26 ≤ x) : Mi l y_Mo_ask w_Mo_ask ({ frames := 1, cells := 0, slots := 0, locals := 22 }) false D classes [(cI, .int), (cZ, .boolean), (cJ, .long)] sz [.ref o, .int (J y), .int (J x)] [(o, .inr (8, [.int (J th), .int (J ((n : Nat) : Int)), .ref p1, .ref p2, .ref p3, .ref p4, .ref p5, .ref p6, .int (J ap), .ref p7, .int (J ((fn : Nat) : Int)), .ref p8, .ref p9, .int (J wk), .ref pA, .ref pB, .ref pC])), (p5, ca cI 123 (cmb lt la 120)), (p6, ca cI 1230 (cmb gb ga 1200))] (0) (S := Unit) (fun _ => True) (fun u : Unit => [(o, .inr (8, [.int (J 0), .int (J ((n : Nat) : Int)), .ref p1, .ref p2, .ref p3, .ref p4, .ref p5, .ref p6, .int (J ap), .ref p7, .int (J ((fn : Nat) : Int)), .ref p8, .ref p9, .int (J wk), .ref pA, .ref pB, .ref pC])), (p5, ca cI 123 (cmb lt la 120)), (p6, ca cI 1230 (cmb gb ga 1200))]) 0 0 := by
  refine Mi_of (cc := b_Mo_ask) (maxL := 3) (by decide) rfl (Nat.le_of_ble_eq_true rfl) ?_
  intro p e s m args below meth c hx hb hr hml hts hown hlocks A hA hP hK hD hT hS Q hQ H hH ls hl
  subst hH
  have hl : lv_has ls 3 [(0, .ref o), (1, .int (J y)), (2, .int (J x))] := hl
  have hln : ∀ k, 0 ≤ (cmb lt la 120) k ∧ (cmb lt la 120) k ≤ 10 := fun k => cmb_P (P := fun x => 0 ≤ x ∧ x ≤ 10) 120 hlt hla k
  refine lv_aload_n hx hb d_Mo_ask_0 rfl (lv_at hl 0 rfl) ?_
  refine lv_iconst (v := J (0)) hx hb d_Mo_ask_1 rfl ?_
  refine va_put (D := D) (ci := 8) (v := .int (J 0)) (ty := .int) (C := R_Mo) (T := T_Mo) (N := 17) hx hb hts i_Mo t_Mo k_Mo n_Mo hown hK hP hD hS 0 rfl rfl 0 (by decide) (hts _ mw_551) (fun _ h9 => h9) rfl (by decide +kernel) rfl rfl (Nat.le_of_ble_eq_true rfl) d_Mo_ask_2 (fun H locs hP hD hS => ?_)
  have hP : va_P D classes [(o, .inr (8, [.int (J 0), .int (J ((n : Nat) : Int)), .ref p1, .ref p2, .ref p3, .ref p4, .ref p5, .ref p6, .int (J ap), .ref p7, .int (J ((fn : Nat) : Int)), .ref p8, .ref p9, .int (J wk), .ref pA, .ref pB, .ref pC])), (p5, ca cI 123 (cmb lt la 120)), (p6, ca cI 1230 (cmb gb ga 1200))] H := hP
  have hD : va_D A [(o, .inr (8, [.int (J 0), .int (J ((n : Nat) : Int)), .ref p1, .ref p2, .ref p3, .ref p4, .ref p5, .ref p6, .int (J ap), .ref p7, .int (J ((fn : Nat) : Int)), .ref p8, .ref p9, .int (J wk), .ref pA, .ref pB, .ref pC])), (p5, ca cI 123 (cmb lt la 120)), (p6, ca cI 1230 (cmb gb ga 1200))] := hD
  refine lv_iload_n hx hb d_Mo_ask_5 rfl (lv_at hl 1 rfl) ?_
  refine Ri_call (va_runS (As := [.int (J y)]) (rest := []) ⟨hx, hb, hml, hown, hts⟩ (c_Mo_isWord l D cI cZ cJ y (by first | with_reducible assumption | omega)) (va_cwS 1 hts (g_S mw_619 mw_620 mw_33 mw_621) rfl rfl rfl (by decide +kernel) ⟨Nat.le_of_ble_eq_true rfl, Nat.le_of_ble_eq_true rfl⟩) (pre_RS hP hK [] rfl) rfl rfl hl.1 rfl (lv_room (Nat.le_of_ble_eq_true rfl)) d_Mo_ask_6 ⟨Nat.le_of_ble_eq_true rfl, Nat.le_of_ble_eq_true rfl⟩) ?_
  refine w_if_eq (tgt := 28) hx hb d_Mo_ask_9 (by decide) (rg_b2) (fun c_9 => ?_) (fun c_9 => ?_)
  · have c_9 := b2_0.mp c_9
    refine lv_iconst (v := J (0)) hx hb d_Mo_ask_28 rfl ?_
    exact Mi_ret hx hb hr hlocks hQ d_Mo_ask_29 hP hK hD hS (nb_z (by omega)) (by omega) () (trivial) [0, 1, 2] rfl (by decide)
  · have c_9 := b2_n0.mp c_9
    obtain ⟨w, rfl⟩ : ∃ w : Nat, y = (w : Int) := ⟨(y).toNat, by omega⟩
    refine lv_aload_n hx hb d_Mo_ask_12 rfl (lv_at hl 0 rfl) ?_
    refine lv_bipush (v := J (120)) hx hb d_Mo_ask_13 (by decide) ?_
    refine lv_iload_n hx hb d_Mo_ask_15 rfl (lv_at hl 1 rfl) ?_
    refine w_iadd hx hb d_Mo_ask_16 ((120 + w : Nat) : Int) (by omega) ?_
    refine lv_iload_n hx hb d_Mo_ask_17 rfl (lv_at hl 2 rfl) ?_
    refine Ri_call (va_runV (As := [.int (J ((120 + w : Nat) : Int)), .int (J x)]) (rest := []) ⟨hx, hb, hml, hown, hts⟩ (c_Mo_add_no l D cI cZ cJ o p1 p2 p3 p4 p5 p6 p7 p8 p9 pA pB pC 0 n ap fn wk (cmb lt la 120) (120 + w) x (by first | with_reducible assumption | omega) (by first | with_reducible assumption | omega) (by first | with_reducible assumption | omega) (by first | with_reducible assumption | omega)) (cwV 2 hts (g_V mw_622 mw_624 mw_11 mw_33 mw_625) rfl rfl rfl (by decide +kernel) ⟨Nat.le_of_ble_eq_true rfl, Nat.le_of_ble_eq_true rfl⟩) (pre_RV hP hK [0, 1] rfl 8 0 rfl rfl) rfl rfl hl.1 rfl (lv_room (Nat.le_of_ble_eq_true rfl)) d_Mo_ask_18 ⟨Nat.le_of_ble_eq_true rfl, Nat.le_of_ble_eq_true rfl⟩) ?_
    refine w_if_eq (tgt := 28) hx hb d_Mo_ask_21 (by decide) (by omega) (fun c_21 => ?_) (fun c_21 => ?_)
    · refine lv_iconst (v := J (0)) hx hb d_Mo_ask_28 rfl ?_
      exact Mi_ret hx hb hr hlocks hQ d_Mo_ask_29 hP hK hD hS (nb_z (by omega)) (by omega) () (trivial) [0, 1, 2] rfl (by decide)
    · exfalso; omega
set_option maxHeartbeats 4000000 in
set_option maxRecDepth 100000 in
theorem c_Mo_ask_full (l : Launch) (D : va_G) (cI cZ cJ : ClassId) (sz : Nat) (o : Nat) (p1 : Nat) (p2 : Nat) (p3 : Nat) (p4 : Nat) (p5 : Nat) (p6 : Nat) (p7 : Nat) (p8 : Nat) (p9 : Nat) (pA : Nat) (pB : Nat) (pC : Nat) (th : Int) (n : Nat) (ap : Int) (fn : Nat) (wk : Int) (ga : Nat → Int) (la : Nat → Int) (gb : Nat → Int) (lt : Nat → Int) (w : Nat) (x : Int) (hla : ∀ k, 0 ≤ la k ∧ la k ≤ 10) (hlt : ∀ k, 0 ≤ lt k ∧ lt k ≤ 10) (hok : w < 3 ∧ 0 ≤ x ∧ x < 26) (hf : la w = 10) : Mi l y_Mo_ask w_Mo_ask ({ frames := 1, cells := 0, slots := 0, locals := 22 }) false D classes [(cI, .int), (cZ, .boolean), (cJ, .long)] sz [.ref o, .int (J ((w : Nat) : Int)), .int (J x)] [(o, .inr (8, [.int (J th), .int (J ((n : Nat) : Int)), .ref p1, .ref p2, .ref p3, .ref p4, .ref p5, .ref p6, .int (J ap), .ref p7, .int (J ((fn : Nat) : Int)), .ref p8, .ref p9, .int (J wk), .ref pA, .ref pB, .ref pC])), (p5, ca cI 123 (cmb lt la 120)), (p6, ca cI 1230 (cmb gb ga 1200))] (0) (S := Unit) (fun _ => True) (fun u : Unit => [(o, .inr (8, [.int (J 0), .int (J ((n : Nat) : Int)), .ref p1, .ref p2, .ref p3, .ref p4, .ref p5, .ref p6, .int (J ap), .ref p7, .int (J ((fn : Nat) : Int)), .ref p8, .ref p9, .int (J wk), .ref pA, .ref pB, .ref pC])), (p5, ca cI 123 (cmb lt la 120)), (p6, ca cI 1230 (cmb gb ga 1200))]) 0 0 := by
  refine Mi_of (cc := b_Mo_ask) (maxL := 3) (by decide) rfl (Nat.le_of_ble_eq_true rfl) ?_
  intro p e s m args below meth c hx hb hr hml hts hown hlocks A hA hP hK hD hT hS Q hQ H hH ls hl
  subst hH
  have hl : lv_has ls 3 [(0, .ref o), (1, .int (J ((w : Nat) : Int))), (2, .int (J x))] := hl
  have hln : ∀ k, 0 ≤ (cmb lt la 120) k ∧ (cmb lt la 120) k ≤ 10 := fun k => cmb_P (P := fun x => 0 ≤ x ∧ x ≤ 10) 120 hlt hla k
  have el : (cmb lt la 120) (120 + w) = la w := cmb_hi _ _ _ _
  refine lv_aload_n hx hb d_Mo_ask_0 rfl (lv_at hl 0 rfl) ?_
  refine lv_iconst (v := J (0)) hx hb d_Mo_ask_1 rfl ?_
  refine va_put (D := D) (ci := 8) (v := .int (J 0)) (ty := .int) (C := R_Mo) (T := T_Mo) (N := 17) hx hb hts i_Mo t_Mo k_Mo n_Mo hown hK hP hD hS 0 rfl rfl 0 (by decide) (hts _ mw_551) (fun _ h9 => h9) rfl (by decide +kernel) rfl rfl (Nat.le_of_ble_eq_true rfl) d_Mo_ask_2 (fun H locs hP hD hS => ?_)
  have hP : va_P D classes [(o, .inr (8, [.int (J 0), .int (J ((n : Nat) : Int)), .ref p1, .ref p2, .ref p3, .ref p4, .ref p5, .ref p6, .int (J ap), .ref p7, .int (J ((fn : Nat) : Int)), .ref p8, .ref p9, .int (J wk), .ref pA, .ref pB, .ref pC])), (p5, ca cI 123 (cmb lt la 120)), (p6, ca cI 1230 (cmb gb ga 1200))] H := hP
  have hD : va_D A [(o, .inr (8, [.int (J 0), .int (J ((n : Nat) : Int)), .ref p1, .ref p2, .ref p3, .ref p4, .ref p5, .ref p6, .int (J ap), .ref p7, .int (J ((fn : Nat) : Int)), .ref p8, .ref p9, .int (J wk), .ref pA, .ref pB, .ref pC])), (p5, ca cI 123 (cmb lt la 120)), (p6, ca cI 1230 (cmb gb ga 1200))] := hD
  refine lv_iload_n hx hb d_Mo_ask_5 rfl (lv_at hl 1 rfl) ?_
  refine Ri_call (va_runS (As := [.int (J ((w : Nat) : Int))]) (rest := []) ⟨hx, hb, hml, hown, hts⟩ (c_Mo_isWord l D cI cZ cJ ((w : Nat) : Int) (by first | with_reducible assumption | omega)) (va_cwS 1 hts (g_S mw_619 mw_620 mw_33 mw_621) rfl rfl rfl (by decide +kernel) ⟨Nat.le_of_ble_eq_true rfl, Nat.le_of_ble_eq_true rfl⟩) (pre_RS hP hK [] rfl) rfl rfl hl.1 rfl (lv_room (Nat.le_of_ble_eq_true rfl)) d_Mo_ask_6 ⟨Nat.le_of_ble_eq_true rfl, Nat.le_of_ble_eq_true rfl⟩) ?_
  refine w_if_eq (tgt := 28) hx hb d_Mo_ask_9 (by decide) (rg_b2) (fun c_9 => ?_) (fun c_9 => ?_)
  · have c_9 := b2_0.mp c_9
    exfalso; omega
  · have c_9 := b2_n0.mp c_9
    refine lv_aload_n hx hb d_Mo_ask_12 rfl (lv_at hl 0 rfl) ?_
    refine lv_bipush (v := J (120)) hx hb d_Mo_ask_13 (by decide) ?_
    refine lv_iload_n hx hb d_Mo_ask_15 rfl (lv_at hl 1 rfl) ?_
    refine w_iadd hx hb d_Mo_ask_16 ((120 + w : Nat) : Int) (by omega) ?_
    refine lv_iload_n hx hb d_Mo_ask_17 rfl (lv_at hl 2 rfl) ?_
    refine Ri_call (va_runV (As := [.int (J ((120 + w : Nat) : Int)), .int (J x)]) (rest := []) ⟨hx, hb, hml, hown, hts⟩ (c_Mo_add_no l D cI cZ cJ o p1 p2 p3 p4 p5 p6 p7 p8 p9 pA pB pC 0 n ap fn wk (cmb lt la 120) (120 + w) x (by first | with_reducible assumption | omega) (by first | with_reducible assumption | omega) (by first | with_reducible assumption | omega) (by first | with_reducible assumption | omega)) (cwV 2 hts (g_V mw_622 mw_624 mw_11 mw_33 mw_625) rfl rfl rfl (by decide +kernel) ⟨Nat.le_of_ble_eq_true rfl, Nat.le_of_ble_eq_true rfl⟩) (pre_RV hP hK [0, 1] rfl 8 0 rfl rfl) rfl rfl hl.1 rfl (lv_room (Nat.le_of_ble_eq_true rfl)) d_Mo_ask_18 ⟨Nat.le_of_ble_eq_true rfl, Nat.le_of_ble_eq_true rfl⟩) ?_
    refine w_if_eq (tgt := 28) hx hb d_Mo_ask_21 (by decide) (by omega) (fun c_21 => ?_) (fun c_21 => ?_)
    · refine lv_iconst (v := J (0)) hx hb d_Mo_ask_28 rfl ?_
      exact Mi_ret hx hb hr hlocks hQ d_Mo_ask_29 hP hK hD hS (nb_z (by omega)) (by omega) () (trivial) [0, 1, 2] rfl (by decide)
    · exfalso; omega
set_option maxHeartbeats 4000000 in
set_option maxRecDepth 100000 in
theorem c_Mo_ask (l : Launch) (D : va_G) (cI cZ cJ : ClassId) (sz : Nat) (o : Nat) (p1 : Nat) (p2 : Nat) (p3 : Nat) (p4 : Nat) (p5 : Nat) (p6 : Nat) (p7 : Nat) (p8 : Nat) (p9 : Nat) (pA : Nat) (pB : Nat) (pC : Nat) (th : Int) (n : Nat) (ap : Int) (fn : Nat) (wk : Int) (ga : Nat → Int) (la : Nat → Int) (gb : Nat → Int) (lt : Nat → Int) (w : Nat) (x : Int) (hla : ∀ k, 0 ≤ la k ∧ la k ≤ 10) (hlt : ∀ k, 0 ≤ lt k ∧ lt k ≤ 10) (hok : w < 3 ∧ 0 ≤ x ∧ x < 26) (hf : la w < 10) : Mi l y_Mo_ask w_Mo_ask ({ frames := 1, cells := 0, slots := 0, locals := 22 }) false D classes [(cI, .int), (cZ, .boolean), (cJ, .long)] sz [.ref o, .int (J ((w : Nat) : Int)), .int (J x)] [(o, .inr (8, [.int (J th), .int (J ((n : Nat) : Int)), .ref p1, .ref p2, .ref p3, .ref p4, .ref p5, .ref p6, .int (J ap), .ref p7, .int (J ((fn : Nat) : Int)), .ref p8, .ref p9, .int (J wk), .ref pA, .ref pB, .ref pC])), (p5, ca cI 123 (cmb lt la 120)), (p6, ca cI 1230 (cmb gb ga 1200))] (1) (S := Unit) (fun _ => True) (fun u : Unit => [(o, .inr (8, [.int (J 0), .int (J ((n : Nat) : Int)), .ref p1, .ref p2, .ref p3, .ref p4, .ref p5, .ref p6, .int (J ap), .ref p7, .int (J ((fn : Nat) : Int)), .ref p8, .ref p9, .int (J wk), .ref pA, .ref pB, .ref pC])), (p5, ca cI 123 (cmb lt (iu la w (la w + 1)) 120)), (p6, ca cI 1230 (cmb gb (iu ga (w * 10 + (la w).toNat) x) 1200))]) 0 0 := by
  refine Mi_of (cc := b_Mo_ask) (maxL := 3) (by decide) rfl (Nat.le_of_ble_eq_true rfl) ?_
  intro p e s m args below meth c hx hb hr hml hts hown hlocks A hA hP hK hD hT hS Q hQ H hH ls hl
  subst hH
  have hl : lv_has ls 3 [(0, .ref o), (1, .int (J ((w : Nat) : Int))), (2, .int (J x))] := hl
  have hln : ∀ k, 0 ≤ (cmb lt la 120) k ∧ (cmb lt la 120) k ≤ 10 := fun k => cmb_P (P := fun x => 0 ≤ x ∧ x ≤ 10) 120 hlt hla k
  have el : (cmb lt la 120) (120 + w) = la w := cmb_hi _ _ _ _
  refine lv_aload_n hx hb d_Mo_ask_0 rfl (lv_at hl 0 rfl) ?_
  refine lv_iconst (v := J (0)) hx hb d_Mo_ask_1 rfl ?_
  refine va_put (D := D) (ci := 8) (v := .int (J 0)) (ty := .int) (C := R_Mo) (T := T_Mo) (N := 17) hx hb hts i_Mo t_Mo k_Mo n_Mo hown hK hP hD hS 0 rfl rfl 0 (by decide) (hts _ mw_551) (fun _ h9 => h9) rfl (by decide +kernel) rfl rfl (Nat.le_of_ble_eq_true rfl) d_Mo_ask_2 (fun H locs hP hD hS => ?_)
  have hP : va_P D classes [(o, .inr (8, [.int (J 0), .int (J ((n : Nat) : Int)), .ref p1, .ref p2, .ref p3, .ref p4, .ref p5, .ref p6, .int (J ap), .ref p7, .int (J ((fn : Nat) : Int)), .ref p8, .ref p9, .int (J wk), .ref pA, .ref pB, .ref pC])), (p5, ca cI 123 (cmb lt la 120)), (p6, ca cI 1230 (cmb gb ga 1200))] H := hP
  have hD : va_D A [(o, .inr (8, [.int (J 0), .int (J ((n : Nat) : Int)), .ref p1, .ref p2, .ref p3, .ref p4, .ref p5, .ref p6, .int (J ap), .ref p7, .int (J ((fn : Nat) : Int)), .ref p8, .ref p9, .int (J wk), .ref pA, .ref pB, .ref pC])), (p5, ca cI 123 (cmb lt la 120)), (p6, ca cI 1230 (cmb gb ga 1200))] := hD
  refine lv_iload_n hx hb d_Mo_ask_5 rfl (lv_at hl 1 rfl) ?_
  refine Ri_call (va_runS (As := [.int (J ((w : Nat) : Int))]) (rest := []) ⟨hx, hb, hml, hown, hts⟩ (c_Mo_isWord l D cI cZ cJ ((w : Nat) : Int) (by first | with_reducible assumption | omega)) (va_cwS 1 hts (g_S mw_619 mw_620 mw_33 mw_621) rfl rfl rfl (by decide +kernel) ⟨Nat.le_of_ble_eq_true rfl, Nat.le_of_ble_eq_true rfl⟩) (pre_RS hP hK [] rfl) rfl rfl hl.1 rfl (lv_room (Nat.le_of_ble_eq_true rfl)) d_Mo_ask_6 ⟨Nat.le_of_ble_eq_true rfl, Nat.le_of_ble_eq_true rfl⟩) ?_
  refine w_if_eq (tgt := 28) hx hb d_Mo_ask_9 (by decide) (rg_b2) (fun c_9 => ?_) (fun c_9 => ?_)
  · have c_9 := b2_0.mp c_9
    exfalso; omega
  · have c_9 := b2_n0.mp c_9
    refine lv_aload_n hx hb d_Mo_ask_12 rfl (lv_at hl 0 rfl) ?_
    refine lv_bipush (v := J (120)) hx hb d_Mo_ask_13 (by decide) ?_
    refine lv_iload_n hx hb d_Mo_ask_15 rfl (lv_at hl 1 rfl) ?_
    refine w_iadd hx hb d_Mo_ask_16 ((120 + w : Nat) : Int) (by omega) ?_
    refine lv_iload_n hx hb d_Mo_ask_17 rfl (lv_at hl 2 rfl) ?_
    refine Mi_call (wr := []) (va_runV (As := [.int (J ((120 + w : Nat) : Int)), .int (J x)]) (rest := []) ⟨hx, hb, hml, hown, hts⟩ (c_Mo_add l D cI cZ cJ H.size o p1 p2 p3 p4 p5 p6 p7 p8 p9 pA pB pC 0 n ap fn wk (cmb lt la 120) (cmb gb ga 1200) (120 + w) x (by first | with_reducible assumption | omega) (by first | with_reducible assumption | omega) (by first | with_reducible assumption | omega)) (cwV 2 hts (g_V mw_622 mw_624 mw_11 mw_33 mw_625) rfl rfl rfl (by decide +kernel) ⟨Nat.le_of_ble_eq_true rfl, Nat.le_of_ble_eq_true rfl⟩) (pre_WV hP hK hD [0, 1, 2] rfl (by decide) 8 0 rfl rfl (fun h => Bool.noConfusion h)) rfl rfl hl.1 rfl (lv_room (Nat.le_of_ble_eq_true rfl)) d_Mo_ask_18 ⟨Nat.le_of_ble_eq_true rfl, Nat.le_of_ble_eq_true rfl⟩) hP hD hS hA [0, 1, 2] [] rfl rfl (by decide) (by decide) (fun _u H locs _hu hP hD hS => ?_)
    have hP : va_P D classes [(o, .inr (8, [.int (J 0), .int (J ((n : Nat) : Int)), .ref p1, .ref p2, .ref p3, .ref p4, .ref p5, .ref p6, .int (J ap), .ref p7, .int (J ((fn : Nat) : Int)), .ref p8, .ref p9, .int (J wk), .ref pA, .ref pB, .ref pC])), (p5, ca cI 123 (iu (cmb lt la 120) (120 + w) ((cmb lt la 120) (120 + w) + 1))), (p6, ca cI 1230 (iu (cmb gb ga 1200) (10 * (120 + w) + ((cmb lt la 120) (120 + w)).toNat) x))] H := hP
    have hD : va_D A [(o, .inr (8, [.int (J 0), .int (J ((n : Nat) : Int)), .ref p1, .ref p2, .ref p3, .ref p4, .ref p5, .ref p6, .int (J ap), .ref p7, .int (J ((fn : Nat) : Int)), .ref p8, .ref p9, .int (J wk), .ref pA, .ref pB, .ref pC])), (p5, ca cI 123 (iu (cmb lt la 120) (120 + w) ((cmb lt la 120) (120 + w) + 1))), (p6, ca cI 1230 (iu (cmb gb ga 1200) (10 * (120 + w) + ((cmb lt la 120) (120 + w)).toNat) x))] := hD
    have hl2 := hla w
    have eg : iu (cmb lt la 120) (120 + w) ((cmb lt la 120) (120 + w) + 1) = cmb lt (iu la w (la w + 1)) 120 := by rw [el, cmb_uh]
    rw [eg] at hP hD
    clear eg
    have eg : iu (cmb gb ga 1200) (10 * (120 + w) + ((cmb lt la 120) (120 + w)).toNat) x = cmb gb (iu ga (w * 10 + (la w).toNat) x) 1200 := by rw [el, show 10 * (120 + w) + (la w).toNat = 1200 + (w * 10 + (la w).toNat) by omega, cmb_uh]
    rw [eg] at hP hD
    clear eg
    refine w_if_eq (tgt := 28) hx hb d_Mo_ask_21 (by decide) (by omega) (fun c_21 => ?_) (fun c_21 => ?_)
    · exfalso; omega
    · refine lv_iconst (v := J (1)) hx hb d_Mo_ask_24 rfl ?_
      refine lv_goto (tgt := 29) hx hb d_Mo_ask_25 (by decide) ?_
      exact Mi_ret hx hb hr hlocks hQ d_Mo_ask_29 hP hK hD hS (nb_z (by omega)) (by omega) () (trivial) [0, 1, 2] rfl (by decide)
set_option maxHeartbeats 4000000 in
set_option maxRecDepth 100000 in
theorem c_Mo_asked_bad (l : Launch) (D : va_G) (cI cZ cJ : ClassId) (sz : Nat) (o : Nat) (p1 : Nat) (p2 : Nat) (p3 : Nat) (p4 : Nat) (p5 : Nat) (p6 : Nat) (p7 : Nat) (p8 : Nat) (p9 : Nat) (pA : Nat) (pB : Nat) (pC : Nat) (th : Int) (n : Nat) (ap : Int) (fn : Nat) (wk : Int) (z : Int) (hz : rg z) (hno : z < -1 ∨ 1000 ≤ z) : Mi l y_Mo_asked w_Mo_asked ({ frames := 0, cells := 0, slots := 0, locals := 0 }) false D classes [(cI, .int), (cZ, .boolean), (cJ, .long)] sz [.ref o, .int (J z)] [(o, .inr (8, [.int (J th), .int (J ((n : Nat) : Int)), .ref p1, .ref p2, .ref p3, .ref p4, .ref p5, .ref p6, .int (J ap), .ref p7, .int (J ((fn : Nat) : Int)), .ref p8, .ref p9, .int (J wk), .ref pA, .ref pB, .ref pC]))] (0) (S := Unit) (fun _ => True) (fun u : Unit => [(o, .inr (8, [.int (J 0), .int (J ((n : Nat) : Int)), .ref p1, .ref p2, .ref p3, .ref p4, .ref p5, .ref p6, .int (J ap), .ref p7, .int (J ((fn : Nat) : Int)), .ref p8, .ref p9, .int (J wk), .ref pA, .ref pB, .ref pC]))]) 0 0 := by
  refine Mi_of (cc := b_Mo_asked) (maxL := 2) (by decide) rfl (Nat.le_of_ble_eq_true rfl) ?_
  intro p e s m args below meth c hx hb hr hml hts hown hlocks A hA hP hK hD hT hS Q hQ H hH ls hl
  subst hH
  have hl : lv_has ls 2 [(0, .ref o), (1, .int (J z))] := hl
  refine lv_aload_n hx hb d_Mo_asked_0 rfl (lv_at hl 0 rfl) ?_
  refine lv_iconst (v := J (0)) hx hb d_Mo_asked_1 rfl ?_
  refine va_put (D := D) (ci := 8) (v := .int (J 0)) (ty := .int) (C := R_Mo) (T := T_Mo) (N := 17) hx hb hts i_Mo t_Mo k_Mo n_Mo hown hK hP hD hS 0 rfl rfl 0 (by decide) (hts _ mw_551) (fun _ h9 => h9) rfl (by decide +kernel) rfl rfl (Nat.le_of_ble_eq_true rfl) d_Mo_asked_2 (fun H locs hP hD hS => ?_)
  have hP : va_P D classes [(o, .inr (8, [.int (J 0), .int (J ((n : Nat) : Int)), .ref p1, .ref p2, .ref p3, .ref p4, .ref p5, .ref p6, .int (J ap), .ref p7, .int (J ((fn : Nat) : Int)), .ref p8, .ref p9, .int (J wk), .ref pA, .ref pB, .ref pC]))] H := hP
  have hD : va_D A [(o, .inr (8, [.int (J 0), .int (J ((n : Nat) : Int)), .ref p1, .ref p2, .ref p3, .ref p4, .ref p5, .ref p6, .int (J ap), .ref p7, .int (J ((fn : Nat) : Int)), .ref p8, .ref p9, .int (J wk), .ref pA, .ref pB, .ref pC]))] := hD
  refine lv_iload_n hx hb d_Mo_asked_5 rfl (lv_at hl 1 rfl) ?_
  refine lv_iconst (v := J (-1)) hx hb d_Mo_asked_6 rfl ?_
  refine w_icmp_lt (tgt := 17) hx hb d_Mo_asked_7 (by decide) (by omega) (by omega) (fun c_7 => ?_) (fun c_7 => ?_)
  · refine lv_iconst (v := J (0)) hx hb d_Mo_asked_17 rfl ?_
    exact Mi_ret hx hb hr hlocks hQ d_Mo_asked_18 hP hK hD hS (nb_z (by omega)) (by omega) () (trivial) [0] rfl (by decide)
  · refine lv_iload_n hx hb d_Mo_asked_10 rfl (lv_at hl 1 rfl) ?_
    refine lv_sipush (v := J (999)) hx hb d_Mo_asked_11 (by decide) ?_
    refine w_icmp_le (tgt := 19) hx hb d_Mo_asked_14 (by decide) (by omega) (by omega) (fun c_14 => ?_) (fun c_14 => ?_)
    · exfalso; omega
    · refine lv_iconst (v := J (0)) hx hb d_Mo_asked_17 rfl ?_
      exact Mi_ret hx hb hr hlocks hQ d_Mo_asked_18 hP hK hD hS (nb_z (by omega)) (by omega) () (trivial) [0] rfl (by decide)
theorem zr3 (f g : Nat → Int) : iu (iu (iu (cmb f g 120) 120 0) 121 0) 122 0 = cmb f (zr g 3) 120 := by
  rw [show (120 : Nat) = 120 + 0 from rfl, cmb_uh, show (121 : Nat) = 120 + 1 from rfl, cmb_uh, show (122 : Nat) = 120 + 2 from rfl, cmb_uh]
  congr 1
  rw [← zr_s, ← zr_s, ← zr_s, zr_0]
set_option maxHeartbeats 4000000 in
set_option maxRecDepth 100000 in
theorem c_Mo_asked (l : Launch) (D : va_G) (cI cZ cJ : ClassId) (sz : Nat) (o : Nat) (p1 : Nat) (p2 : Nat) (p3 : Nat) (p4 : Nat) (p5 : Nat) (p6 : Nat) (p7 : Nat) (p8 : Nat) (p9 : Nat) (pA : Nat) (pB : Nat) (pC : Nat) (th : Int) (n : Nat) (ap : Int) (fn : Nat) (wk : Int) (la : Nat → Int) (lt : Nat → Int) (z : Int) (hok : -1 ≤ z ∧ z < 1000) : Mi l y_Mo_asked w_Mo_asked ({ frames := 0, cells := 0, slots := 0, locals := 0 }) false D classes [(cI, .int), (cZ, .boolean), (cJ, .long)] sz [.ref o, .int (J z)] [(o, .inr (8, [.int (J th), .int (J ((n : Nat) : Int)), .ref p1, .ref p2, .ref p3, .ref p4, .ref p5, .ref p6, .int (J ap), .ref p7, .int (J ((fn : Nat) : Int)), .ref p8, .ref p9, .int (J wk), .ref pA, .ref pB, .ref pC])), (p5, ca cI 123 (cmb lt la 120))] (1) (S := Unit) (fun _ => True) (fun u : Unit => [(o, .inr (8, [.int (J 0), .int (J ((n : Nat) : Int)), .ref p1, .ref p2, .ref p3, .ref p4, .ref p5, .ref p6, .int (J z), .ref p7, .int (J ((fn : Nat) : Int)), .ref p8, .ref p9, .int (J wk), .ref pA, .ref pB, .ref pC])), (p5, ca cI 123 (cmb lt (zr la 3) 120))]) 0 0 := by
  refine Mi_of (cc := b_Mo_asked) (maxL := 2) (by decide) rfl (Nat.le_of_ble_eq_true rfl) ?_
  intro p e s m args below meth c hx hb hr hml hts hown hlocks A hA hP hK hD hT hS Q hQ H hH ls hl
  subst hH
  have hl : lv_has ls 2 [(0, .ref o), (1, .int (J z))] := hl
  refine lv_aload_n hx hb d_Mo_asked_0 rfl (lv_at hl 0 rfl) ?_
  refine lv_iconst (v := J (0)) hx hb d_Mo_asked_1 rfl ?_
  refine va_put (D := D) (ci := 8) (v := .int (J 0)) (ty := .int) (C := R_Mo) (T := T_Mo) (N := 17) hx hb hts i_Mo t_Mo k_Mo n_Mo hown hK hP hD hS 0 rfl rfl 0 (by decide) (hts _ mw_551) (fun _ h9 => h9) rfl (by decide +kernel) rfl rfl (Nat.le_of_ble_eq_true rfl) d_Mo_asked_2 (fun H locs hP hD hS => ?_)
  have hP : va_P D classes [(o, .inr (8, [.int (J 0), .int (J ((n : Nat) : Int)), .ref p1, .ref p2, .ref p3, .ref p4, .ref p5, .ref p6, .int (J ap), .ref p7, .int (J ((fn : Nat) : Int)), .ref p8, .ref p9, .int (J wk), .ref pA, .ref pB, .ref pC])), (p5, ca cI 123 (cmb lt la 120))] H := hP
  have hD : va_D A [(o, .inr (8, [.int (J 0), .int (J ((n : Nat) : Int)), .ref p1, .ref p2, .ref p3, .ref p4, .ref p5, .ref p6, .int (J ap), .ref p7, .int (J ((fn : Nat) : Int)), .ref p8, .ref p9, .int (J wk), .ref pA, .ref pB, .ref pC])), (p5, ca cI 123 (cmb lt la 120))] := hD
  refine lv_iload_n hx hb d_Mo_asked_5 rfl (lv_at hl 1 rfl) ?_
  refine lv_iconst (v := J (-1)) hx hb d_Mo_asked_6 rfl ?_
  refine w_icmp_lt (tgt := 17) hx hb d_Mo_asked_7 (by decide) (by omega) (by omega) (fun c_7 => ?_) (fun c_7 => ?_)
  · exfalso; omega
  · refine lv_iload_n hx hb d_Mo_asked_10 rfl (lv_at hl 1 rfl) ?_
    refine lv_sipush (v := J (999)) hx hb d_Mo_asked_11 (by decide) ?_
    refine w_icmp_le (tgt := 19) hx hb d_Mo_asked_14 (by decide) (by omega) (by omega) (fun c_14 => ?_) (fun c_14 => ?_)
    · refine lv_aload_n hx hb d_Mo_asked_19 rfl (lv_at hl 0 rfl) ?_
      refine lv_iload_n hx hb d_Mo_asked_20 rfl (lv_at hl 1 rfl) ?_
      refine va_put (D := D) (ci := 8) (v := .int (J z)) (ty := .int) (C := R_Mo) (T := T_Mo) (N := 17) hx hb hts i_Mo t_Mo k_Mo n_Mo hown hK hP hD hS 0 rfl rfl 8 (by decide) (hts _ mw_559) (fun _ h9 => h9) rfl (by decide +kernel) rfl rfl (Nat.le_of_ble_eq_true rfl) d_Mo_asked_21 (fun H locs hP hD hS => ?_)
      have hP : va_P D classes [(o, .inr (8, [.int (J 0), .int (J ((n : Nat) : Int)), .ref p1, .ref p2, .ref p3, .ref p4, .ref p5, .ref p6, .int (J z), .ref p7, .int (J ((fn : Nat) : Int)), .ref p8, .ref p9, .int (J wk), .ref pA, .ref pB, .ref pC])), (p5, ca cI 123 (cmb lt la 120))] H := hP
      have hD : va_D A [(o, .inr (8, [.int (J 0), .int (J ((n : Nat) : Int)), .ref p1, .ref p2, .ref p3, .ref p4, .ref p5, .ref p6, .int (J z), .ref p7, .int (J ((fn : Nat) : Int)), .ref p8, .ref p9, .int (J wk), .ref pA, .ref pB, .ref pC])), (p5, ca cI 123 (cmb lt la 120))] := hD
      refine lv_aload_n hx hb d_Mo_asked_24 rfl (lv_at hl 0 rfl) ?_
      refine va_get (D := D) (ci := 8) (v := .ref p5) (C := R_Mo) (T := T_Mo) (N := 17) hx hb hts i_Mo hown hK hP 0 rfl rfl 6 (by decide) (hts _ mw_557) (fun _ h9 => h9) rfl d_Mo_asked_25 ?_
      refine lv_bipush (v := J (120)) hx hb d_Mo_asked_28 (by decide) ?_
      refine lv_iconst (v := J (0)) hx hb d_Mo_asked_30 rfl ?_
      refine w_iast hx hb hK hP hD hS 1 0 rfl rfl 120 (by omega) (by omega) (by omega) d_Mo_asked_31 (fun H locs hP hD hS => ?_)
      have hP : va_P D classes [(o, .inr (8, [.int (J 0), .int (J ((n : Nat) : Int)), .ref p1, .ref p2, .ref p3, .ref p4, .ref p5, .ref p6, .int (J z), .ref p7, .int (J ((fn : Nat) : Int)), .ref p8, .ref p9, .int (J wk), .ref pA, .ref pB, .ref pC])), (p5, ca cI 123 (iu (cmb lt la 120) 120 0))] H := hP
      have hD : va_D A [(o, .inr (8, [.int (J 0), .int (J ((n : Nat) : Int)), .ref p1, .ref p2, .ref p3, .ref p4, .ref p5, .ref p6, .int (J z), .ref p7, .int (J ((fn : Nat) : Int)), .ref p8, .ref p9, .int (J wk), .ref pA, .ref pB, .ref pC])), (p5, ca cI 123 (iu (cmb lt la 120) 120 0))] := hD
      refine lv_aload_n hx hb d_Mo_asked_32 rfl (lv_at hl 0 rfl) ?_
      refine va_get (D := D) (ci := 8) (v := .ref p5) (C := R_Mo) (T := T_Mo) (N := 17) hx hb hts i_Mo hown hK hP 0 rfl rfl 6 (by decide) (hts _ mw_557) (fun _ h9 => h9) rfl d_Mo_asked_33 ?_
      refine lv_bipush (v := J (121)) hx hb d_Mo_asked_36 (by decide) ?_
      refine lv_iconst (v := J (0)) hx hb d_Mo_asked_38 rfl ?_
      refine w_iast hx hb hK hP hD hS 1 0 rfl rfl 121 (by omega) (by omega) (by omega) d_Mo_asked_39 (fun H locs hP hD hS => ?_)
      have hP : va_P D classes [(o, .inr (8, [.int (J 0), .int (J ((n : Nat) : Int)), .ref p1, .ref p2, .ref p3, .ref p4, .ref p5, .ref p6, .int (J z), .ref p7, .int (J ((fn : Nat) : Int)), .ref p8, .ref p9, .int (J wk), .ref pA, .ref pB, .ref pC])), (p5, ca cI 123 (iu (iu (cmb lt la 120) 120 0) 121 0))] H := hP
      have hD : va_D A [(o, .inr (8, [.int (J 0), .int (J ((n : Nat) : Int)), .ref p1, .ref p2, .ref p3, .ref p4, .ref p5, .ref p6, .int (J z), .ref p7, .int (J ((fn : Nat) : Int)), .ref p8, .ref p9, .int (J wk), .ref pA, .ref pB, .ref pC])), (p5, ca cI 123 (iu (iu (cmb lt la 120) 120 0) 121 0))] := hD
      refine lv_aload_n hx hb d_Mo_asked_40 rfl (lv_at hl 0 rfl) ?_
      refine va_get (D := D) (ci := 8) (v := .ref p5) (C := R_Mo) (T := T_Mo) (N := 17) hx hb hts i_Mo hown hK hP 0 rfl rfl 6 (by decide) (hts _ mw_557) (fun _ h9 => h9) rfl d_Mo_asked_41 ?_
      refine lv_bipush (v := J (122)) hx hb d_Mo_asked_44 (by decide) ?_
      refine lv_iconst (v := J (0)) hx hb d_Mo_asked_46 rfl ?_
      refine w_iast hx hb hK hP hD hS 1 0 rfl rfl 122 (by omega) (by omega) (by omega) d_Mo_asked_47 (fun H locs hP hD hS => ?_)
      have hP : va_P D classes [(o, .inr (8, [.int (J 0), .int (J ((n : Nat) : Int)), .ref p1, .ref p2, .ref p3, .ref p4, .ref p5, .ref p6, .int (J z), .ref p7, .int (J ((fn : Nat) : Int)), .ref p8, .ref p9, .int (J wk), .ref pA, .ref pB, .ref pC])), (p5, ca cI 123 (iu (iu (iu (cmb lt la 120) 120 0) 121 0) 122 0))] H := hP
      have hD : va_D A [(o, .inr (8, [.int (J 0), .int (J ((n : Nat) : Int)), .ref p1, .ref p2, .ref p3, .ref p4, .ref p5, .ref p6, .int (J z), .ref p7, .int (J ((fn : Nat) : Int)), .ref p8, .ref p9, .int (J wk), .ref pA, .ref pB, .ref pC])), (p5, ca cI 123 (iu (iu (iu (cmb lt la 120) 120 0) 121 0) 122 0))] := hD
      have eg : iu (iu (iu (cmb lt la 120) 120 0) 121 0) 122 0 = cmb lt (zr la 3) 120 := zr3 lt la
      rw [eg] at hP hD
      clear eg
      refine lv_iconst (v := J (1)) hx hb d_Mo_asked_48 rfl ?_
      exact Mi_ret hx hb hr hlocks hQ d_Mo_asked_49 hP hK hD hS (nb_z (by omega)) (by omega) () (trivial) [0, 1] rfl (by decide)
    · exfalso; omega
set_option maxHeartbeats 4000000 in
set_option maxRecDepth 100000 in
theorem c_Mo_weight_bad (l : Launch) (D : va_G) (cI cZ cJ : ClassId) (sz : Nat) (o : Nat) (p1 : Nat) (p2 : Nat) (p3 : Nat) (p4 : Nat) (p5 : Nat) (p6 : Nat) (p7 : Nat) (p8 : Nat) (p9 : Nat) (pA : Nat) (pB : Nat) (pC : Nat) (th : Int) (n : Nat) (ap : Int) (fn : Nat) (wk : Int) (z : Int) (y : Int) (hz : rg z) (hy : rg y) (hno : z < 0 ∨ 6 ≤ z ∨ y < 0 ∨ 1000 < y) : Mi l y_Mo_weight w_Mo_weight ({ frames := 0, cells := 0, slots := 0, locals := 0 }) false D classes [(cI, .int), (cZ, .boolean), (cJ, .long)] sz [.ref o, .int (J z), .int (J y)] [(o, .inr (8, [.int (J th), .int (J ((n : Nat) : Int)), .ref p1, .ref p2, .ref p3, .ref p4, .ref p5, .ref p6, .int (J ap), .ref p7, .int (J ((fn : Nat) : Int)), .ref p8, .ref p9, .int (J wk), .ref pA, .ref pB, .ref pC]))] (-1) (S := Unit) (fun _ => True) (fun u : Unit => [(o, .inr (8, [.int (J 0), .int (J ((n : Nat) : Int)), .ref p1, .ref p2, .ref p3, .ref p4, .ref p5, .ref p6, .int (J ap), .ref p7, .int (J ((fn : Nat) : Int)), .ref p8, .ref p9, .int (J wk), .ref pA, .ref pB, .ref pC]))]) 0 0 := by
  refine Mi_of (cc := b_Mo_weight) (maxL := 4) (by decide) rfl (Nat.le_of_ble_eq_true rfl) ?_
  intro p e s m args below meth c hx hb hr hml hts hown hlocks A hA hP hK hD hT hS Q hQ H hH ls hl
  subst hH
  have hl : lv_has ls 4 [(0, .ref o), (1, .int (J z)), (2, .int (J y))] := hl
  refine lv_aload_n hx hb d_Mo_weight_0 rfl (lv_at hl 0 rfl) ?_
  refine lv_iconst (v := J (0)) hx hb d_Mo_weight_1 rfl ?_
  refine va_put (D := D) (ci := 8) (v := .int (J 0)) (ty := .int) (C := R_Mo) (T := T_Mo) (N := 17) hx hb hts i_Mo t_Mo k_Mo n_Mo hown hK hP hD hS 0 rfl rfl 0 (by decide) (hts _ mw_551) (fun _ h9 => h9) rfl (by decide +kernel) rfl rfl (Nat.le_of_ble_eq_true rfl) d_Mo_weight_2 (fun H locs hP hD hS => ?_)
  have hP : va_P D classes [(o, .inr (8, [.int (J 0), .int (J ((n : Nat) : Int)), .ref p1, .ref p2, .ref p3, .ref p4, .ref p5, .ref p6, .int (J ap), .ref p7, .int (J ((fn : Nat) : Int)), .ref p8, .ref p9, .int (J wk), .ref pA, .ref pB, .ref pC]))] H := hP
  have hD : va_D A [(o, .inr (8, [.int (J 0), .int (J ((n : Nat) : Int)), .ref p1, .ref p2, .ref p3, .ref p4, .ref p5, .ref p6, .int (J ap), .ref p7, .int (J ((fn : Nat) : Int)), .ref p8, .ref p9, .int (J wk), .ref pA, .ref pB, .ref pC]))] := hD
  refine lv_iload_n hx hb d_Mo_weight_5 rfl (lv_at hl 1 rfl) ?_
  refine w_if_lt (tgt := 25) hx hb d_Mo_weight_6 (by decide) (by omega) (fun c_6 => ?_) (fun c_6 => ?_)
  · refine lv_iconst (v := J (-1)) hx hb d_Mo_weight_25 rfl ?_
    exact Mi_ret hx hb hr hlocks hQ d_Mo_weight_26 hP hK hD hS nb_i (by omega) () (trivial) [0] rfl (by decide)
  · refine lv_iload_n hx hb d_Mo_weight_9 rfl (lv_at hl 1 rfl) ?_
    refine lv_iconst (v := J (5)) hx hb d_Mo_weight_10 rfl ?_
    refine w_icmp_gt (tgt := 25) hx hb d_Mo_weight_11 (by decide) (by omega) (by omega) (fun c_11 => ?_) (fun c_11 => ?_)
    · refine lv_iconst (v := J (-1)) hx hb d_Mo_weight_25 rfl ?_
      exact Mi_ret hx hb hr hlocks hQ d_Mo_weight_26 hP hK hD hS nb_i (by omega) () (trivial) [0] rfl (by decide)
    · refine lv_iload_n hx hb d_Mo_weight_14 rfl (lv_at hl 2 rfl) ?_
      refine w_if_lt (tgt := 25) hx hb d_Mo_weight_15 (by decide) (by omega) (fun c_15 => ?_) (fun c_15 => ?_)
      · refine lv_iconst (v := J (-1)) hx hb d_Mo_weight_25 rfl ?_
        exact Mi_ret hx hb hr hlocks hQ d_Mo_weight_26 hP hK hD hS nb_i (by omega) () (trivial) [0] rfl (by decide)
      · refine lv_iload_n hx hb d_Mo_weight_18 rfl (lv_at hl 2 rfl) ?_
        refine lv_sipush (v := J (1000)) hx hb d_Mo_weight_19 (by decide) ?_
        refine w_icmp_le (tgt := 27) hx hb d_Mo_weight_22 (by decide) (by omega) (by omega) (fun c_22 => ?_) (fun c_22 => ?_)
        · exfalso; omega
        · refine lv_iconst (v := J (-1)) hx hb d_Mo_weight_25 rfl ?_
          exact Mi_ret hx hb hr hlocks hQ d_Mo_weight_26 hP hK hD hS nb_i (by omega) () (trivial) [0] rfl (by decide)
set_option maxHeartbeats 4000000 in
set_option maxRecDepth 100000 in
theorem c_Mo_weight (l : Launch) (D : va_G) (cI cZ cJ : ClassId) (sz : Nat) (o : Nat) (p1 : Nat) (p2 : Nat) (p3 : Nat) (p4 : Nat) (p5 : Nat) (p6 : Nat) (p7 : Nat) (p8 : Nat) (p9 : Nat) (pA : Nat) (pB : Nat) (pC : Nat) (th : Int) (n : Nat) (ap : Int) (fn : Nat) (wk : Int) (wt : Nat → Int) (k : Nat) (y : Int) (hok : k < 6 ∧ 0 ≤ y ∧ y ≤ 1000) : Mi l y_Mo_weight w_Mo_weight ({ frames := 0, cells := 0, slots := 0, locals := 0 }) false D classes [(cI, .int), (cZ, .boolean), (cJ, .long)] sz [.ref o, .int (J ((k : Nat) : Int)), .int (J y)] [(o, .inr (8, [.int (J th), .int (J ((n : Nat) : Int)), .ref p1, .ref p2, .ref p3, .ref p4, .ref p5, .ref p6, .int (J ap), .ref p7, .int (J ((fn : Nat) : Int)), .ref p8, .ref p9, .int (J wk), .ref pA, .ref pB, .ref pC])), (p7, ca cI 6 wt)] (wt k) (S := Unit) (fun _ => True) (fun u : Unit => [(o, .inr (8, [.int (J 0), .int (J ((n : Nat) : Int)), .ref p1, .ref p2, .ref p3, .ref p4, .ref p5, .ref p6, .int (J ap), .ref p7, .int (J ((fn : Nat) : Int)), .ref p8, .ref p9, .int (J wk), .ref pA, .ref pB, .ref pC])), (p7, ca cI 6 (iu wt k y))]) 0 0 := by
  refine Mi_of (cc := b_Mo_weight) (maxL := 4) (by decide) rfl (Nat.le_of_ble_eq_true rfl) ?_
  intro p e s m args below meth c hx hb hr hml hts hown hlocks A hA hP hK hD hT hS Q hQ H hH ls hl
  subst hH
  have hl : lv_has ls 4 [(0, .ref o), (1, .int (J ((k : Nat) : Int))), (2, .int (J y))] := hl
  refine lv_aload_n hx hb d_Mo_weight_0 rfl (lv_at hl 0 rfl) ?_
  refine lv_iconst (v := J (0)) hx hb d_Mo_weight_1 rfl ?_
  refine va_put (D := D) (ci := 8) (v := .int (J 0)) (ty := .int) (C := R_Mo) (T := T_Mo) (N := 17) hx hb hts i_Mo t_Mo k_Mo n_Mo hown hK hP hD hS 0 rfl rfl 0 (by decide) (hts _ mw_551) (fun _ h9 => h9) rfl (by decide +kernel) rfl rfl (Nat.le_of_ble_eq_true rfl) d_Mo_weight_2 (fun H locs hP hD hS => ?_)
  have hP : va_P D classes [(o, .inr (8, [.int (J 0), .int (J ((n : Nat) : Int)), .ref p1, .ref p2, .ref p3, .ref p4, .ref p5, .ref p6, .int (J ap), .ref p7, .int (J ((fn : Nat) : Int)), .ref p8, .ref p9, .int (J wk), .ref pA, .ref pB, .ref pC])), (p7, ca cI 6 wt)] H := hP
  have hD : va_D A [(o, .inr (8, [.int (J 0), .int (J ((n : Nat) : Int)), .ref p1, .ref p2, .ref p3, .ref p4, .ref p5, .ref p6, .int (J ap), .ref p7, .int (J ((fn : Nat) : Int)), .ref p8, .ref p9, .int (J wk), .ref pA, .ref pB, .ref pC])), (p7, ca cI 6 wt)] := hD
  refine lv_iload_n hx hb d_Mo_weight_5 rfl (lv_at hl 1 rfl) ?_
  refine w_if_lt (tgt := 25) hx hb d_Mo_weight_6 (by decide) (by omega) (fun c_6 => ?_) (fun c_6 => ?_)
  · exfalso; omega
  · refine lv_iload_n hx hb d_Mo_weight_9 rfl (lv_at hl 1 rfl) ?_
    refine lv_iconst (v := J (5)) hx hb d_Mo_weight_10 rfl ?_
    refine w_icmp_gt (tgt := 25) hx hb d_Mo_weight_11 (by decide) (by omega) (by omega) (fun c_11 => ?_) (fun c_11 => ?_)
    · exfalso; omega
    · refine lv_iload_n hx hb d_Mo_weight_14 rfl (lv_at hl 2 rfl) ?_
      refine w_if_lt (tgt := 25) hx hb d_Mo_weight_15 (by decide) (by omega) (fun c_15 => ?_) (fun c_15 => ?_)
      · exfalso; omega
      · refine lv_iload_n hx hb d_Mo_weight_18 rfl (lv_at hl 2 rfl) ?_
        refine lv_sipush (v := J (1000)) hx hb d_Mo_weight_19 (by decide) ?_
        refine w_icmp_le (tgt := 27) hx hb d_Mo_weight_22 (by decide) (by omega) (by omega) (fun c_22 => ?_) (fun c_22 => ?_)
        · refine lv_aload_n hx hb d_Mo_weight_27 rfl (lv_at hl 0 rfl) ?_
          refine va_get (D := D) (ci := 8) (v := .ref p7) (C := R_Mo) (T := T_Mo) (N := 17) hx hb hts i_Mo hown hK hP 0 rfl rfl 9 (by decide) (hts _ mw_560) (fun _ h9 => h9) rfl d_Mo_weight_28 ?_
          refine lv_iload_n hx hb d_Mo_weight_31 rfl (lv_at hl 1 rfl) ?_
          refine w_iald hx hb hK hP 1 0 rfl rfl k (by omega) (by omega) (by omega) d_Mo_weight_32 ?_
          refine lv_istore_n (lv' := [(3, .int (J (wt k))), (0, .ref o), (1, .int (J ((k : Nat) : Int))), (2, .int (J y))]) hx hb d_Mo_weight_33 rfl hl (by decide) rfl (fun ls hl => ?_)
          refine lv_aload_n hx hb d_Mo_weight_34 rfl (lv_at hl 1 rfl) ?_
          refine va_get (D := D) (ci := 8) (v := .ref p7) (C := R_Mo) (T := T_Mo) (N := 17) hx hb hts i_Mo hown hK hP 0 rfl rfl 9 (by decide) (hts _ mw_560) (fun _ h9 => h9) rfl d_Mo_weight_35 ?_
          refine lv_iload_n hx hb d_Mo_weight_38 rfl (lv_at hl 2 rfl) ?_
          refine lv_iload_n hx hb d_Mo_weight_39 rfl (lv_at hl 3 rfl) ?_
          refine w_iast hx hb hK hP hD hS 1 0 rfl rfl k (by omega) (by omega) (by omega) d_Mo_weight_40 (fun H locs hP hD hS => ?_)
          have hP : va_P D classes [(o, .inr (8, [.int (J 0), .int (J ((n : Nat) : Int)), .ref p1, .ref p2, .ref p3, .ref p4, .ref p5, .ref p6, .int (J ap), .ref p7, .int (J ((fn : Nat) : Int)), .ref p8, .ref p9, .int (J wk), .ref pA, .ref pB, .ref pC])), (p7, ca cI 6 (iu wt k y))] H := hP
          have hD : va_D A [(o, .inr (8, [.int (J 0), .int (J ((n : Nat) : Int)), .ref p1, .ref p2, .ref p3, .ref p4, .ref p5, .ref p6, .int (J ap), .ref p7, .int (J ((fn : Nat) : Int)), .ref p8, .ref p9, .int (J wk), .ref pA, .ref pB, .ref pC])), (p7, ca cI 6 (iu wt k y))] := hD
          refine lv_iload_n hx hb d_Mo_weight_41 rfl (lv_at hl 0 rfl) ?_
          exact Mi_ret hx hb hr hlocks hQ d_Mo_weight_42 hP hK hD hS nb_i (rfl) () (trivial) [0, 1] rfl (by decide)
        · exfalso; omega
set_option maxHeartbeats 4000000 in
set_option maxRecDepth 100000 in
theorem c_Mo_worked (l : Launch) (D : va_G) (cI cZ cJ : ClassId) (sz : Nat) (o : Nat) (p1 : Nat) (p2 : Nat) (p3 : Nat) (p4 : Nat) (p5 : Nat) (p6 : Nat) (p7 : Nat) (p8 : Nat) (p9 : Nat) (pA : Nat) (pB : Nat) (pC : Nat) (th : Int) (n : Nat) (ap : Int) (fn : Nat) (wk : Int)  : Mi l y_Mo_worked w_Mo_worked ({ frames := 0, cells := 0, slots := 0, locals := 0 }) false D classes [(cI, .int), (cZ, .boolean), (cJ, .long)] sz [.ref o] [(o, .inr (8, [.int (J th), .int (J ((n : Nat) : Int)), .ref p1, .ref p2, .ref p3, .ref p4, .ref p5, .ref p6, .int (J ap), .ref p7, .int (J ((fn : Nat) : Int)), .ref p8, .ref p9, .int (J wk), .ref pA, .ref pB, .ref pC]))] (wk) (S := Unit) (fun _ => True) (fun u : Unit => [(o, .inr (8, [.int (J 0), .int (J ((n : Nat) : Int)), .ref p1, .ref p2, .ref p3, .ref p4, .ref p5, .ref p6, .int (J ap), .ref p7, .int (J ((fn : Nat) : Int)), .ref p8, .ref p9, .int (J wk), .ref pA, .ref pB, .ref pC]))]) 0 0 := by
  refine Mi_of (cc := b_Mo_worked) (maxL := 1) (by decide) rfl (Nat.le_of_ble_eq_true rfl) ?_
  intro p e s m args below meth c hx hb hr hml hts hown hlocks A hA hP hK hD hT hS Q hQ H hH ls hl
  subst hH
  have hl : lv_has ls 1 [(0, .ref o)] := hl
  refine lv_aload_n hx hb d_Mo_worked_0 rfl (lv_at hl 0 rfl) ?_
  refine lv_iconst (v := J (0)) hx hb d_Mo_worked_1 rfl ?_
  refine va_put (D := D) (ci := 8) (v := .int (J 0)) (ty := .int) (C := R_Mo) (T := T_Mo) (N := 17) hx hb hts i_Mo t_Mo k_Mo n_Mo hown hK hP hD hS 0 rfl rfl 0 (by decide) (hts _ mw_551) (fun _ h9 => h9) rfl (by decide +kernel) rfl rfl (Nat.le_of_ble_eq_true rfl) d_Mo_worked_2 (fun H locs hP hD hS => ?_)
  have hP : va_P D classes [(o, .inr (8, [.int (J 0), .int (J ((n : Nat) : Int)), .ref p1, .ref p2, .ref p3, .ref p4, .ref p5, .ref p6, .int (J ap), .ref p7, .int (J ((fn : Nat) : Int)), .ref p8, .ref p9, .int (J wk), .ref pA, .ref pB, .ref pC]))] H := hP
  have hD : va_D A [(o, .inr (8, [.int (J 0), .int (J ((n : Nat) : Int)), .ref p1, .ref p2, .ref p3, .ref p4, .ref p5, .ref p6, .int (J ap), .ref p7, .int (J ((fn : Nat) : Int)), .ref p8, .ref p9, .int (J wk), .ref pA, .ref pB, .ref pC]))] := hD
  refine lv_aload_n hx hb d_Mo_worked_5 rfl (lv_at hl 0 rfl) ?_
  refine va_get (D := D) (ci := 8) (v := .int (J wk)) (C := R_Mo) (T := T_Mo) (N := 17) hx hb hts i_Mo hown hK hP 0 rfl rfl 13 (by decide) (hts _ mw_564) (fun _ h9 => h9) rfl d_Mo_worked_6 ?_
  exact Mi_ret hx hb hr hlocks hQ d_Mo_worked_9 hP hK hD hS nb_i (rfl) () (trivial) [0] rfl (by decide)
set_option maxHeartbeats 4000000 in
set_option maxRecDepth 100000 in
theorem c_Mo_found (l : Launch) (D : va_G) (cI cZ cJ : ClassId) (sz : Nat) (o : Nat) (p1 : Nat) (p2 : Nat) (p3 : Nat) (p4 : Nat) (p5 : Nat) (p6 : Nat) (p7 : Nat) (p8 : Nat) (p9 : Nat) (pA : Nat) (pB : Nat) (pC : Nat) (th : Int) (n : Nat) (ap : Int) (fn : Nat) (wk : Int) (fe : Nat → Int) (z : Int) (hz : rg z) (hfn : fn ≤ 40) : Mi l y_Mo_found w_Mo_found ({ frames := 0, cells := 0, slots := 0, locals := 0 }) false D classes [(cI, .int), (cZ, .boolean), (cJ, .long)] sz [.ref o, .int (J z)] [(o, .inr (8, [.int (J th), .int (J ((n : Nat) : Int)), .ref p1, .ref p2, .ref p3, .ref p4, .ref p5, .ref p6, .int (J ap), .ref p7, .int (J ((fn : Nat) : Int)), .ref p8, .ref p9, .int (J wk), .ref pA, .ref pB, .ref pC])), (p8, ca cI 40 fe)] (if 0 ≤ z ∧ z < (fn : Int) then fe z.toNat else -1) (S := Unit) (fun _ => True) (fun u : Unit => [(o, .inr (8, [.int (J 0), .int (J ((n : Nat) : Int)), .ref p1, .ref p2, .ref p3, .ref p4, .ref p5, .ref p6, .int (J ap), .ref p7, .int (J ((fn : Nat) : Int)), .ref p8, .ref p9, .int (J wk), .ref pA, .ref pB, .ref pC])), (p8, ca cI 40 fe)]) 0 0 := by
  refine Mi_of (cc := b_Mo_found) (maxL := 2) (by decide) rfl (Nat.le_of_ble_eq_true rfl) ?_
  intro p e s m args below meth c hx hb hr hml hts hown hlocks A hA hP hK hD hT hS Q hQ H hH ls hl
  subst hH
  have hl : lv_has ls 2 [(0, .ref o), (1, .int (J z))] := hl
  refine lv_aload_n hx hb d_Mo_found_0 rfl (lv_at hl 0 rfl) ?_
  refine lv_iconst (v := J (0)) hx hb d_Mo_found_1 rfl ?_
  refine va_put (D := D) (ci := 8) (v := .int (J 0)) (ty := .int) (C := R_Mo) (T := T_Mo) (N := 17) hx hb hts i_Mo t_Mo k_Mo n_Mo hown hK hP hD hS 0 rfl rfl 0 (by decide) (hts _ mw_551) (fun _ h9 => h9) rfl (by decide +kernel) rfl rfl (Nat.le_of_ble_eq_true rfl) d_Mo_found_2 (fun H locs hP hD hS => ?_)
  have hP : va_P D classes [(o, .inr (8, [.int (J 0), .int (J ((n : Nat) : Int)), .ref p1, .ref p2, .ref p3, .ref p4, .ref p5, .ref p6, .int (J ap), .ref p7, .int (J ((fn : Nat) : Int)), .ref p8, .ref p9, .int (J wk), .ref pA, .ref pB, .ref pC])), (p8, ca cI 40 fe)] H := hP
  have hD : va_D A [(o, .inr (8, [.int (J 0), .int (J ((n : Nat) : Int)), .ref p1, .ref p2, .ref p3, .ref p4, .ref p5, .ref p6, .int (J ap), .ref p7, .int (J ((fn : Nat) : Int)), .ref p8, .ref p9, .int (J wk), .ref pA, .ref pB, .ref pC])), (p8, ca cI 40 fe)] := hD
  refine lv_iload_n hx hb d_Mo_found_5 rfl (lv_at hl 1 rfl) ?_
  refine w_if_lt (tgt := 26) hx hb d_Mo_found_6 (by decide) (by omega) (fun c_6 => ?_) (fun c_6 => ?_)
  · refine lv_iconst (v := J (-1)) hx hb d_Mo_found_26 rfl ?_
    exact Mi_ret hx hb hr hlocks hQ d_Mo_found_27 hP hK hD hS nb_i (by rw [if_neg (by omega)]) () (trivial) [0, 1] rfl (by decide)
  · refine lv_iload_n hx hb d_Mo_found_9 rfl (lv_at hl 1 rfl) ?_
    refine lv_aload_n hx hb d_Mo_found_10 rfl (lv_at hl 0 rfl) ?_
    refine va_get (D := D) (ci := 8) (v := .int (J ((fn : Nat) : Int))) (C := R_Mo) (T := T_Mo) (N := 17) hx hb hts i_Mo hown hK hP 0 rfl rfl 10 (by decide) (hts _ mw_561) (fun _ h9 => h9) rfl d_Mo_found_11 ?_
    refine w_icmp_ge (tgt := 26) hx hb d_Mo_found_14 (by decide) (by omega) (by omega) (fun c_14 => ?_) (fun c_14 => ?_)
    · refine lv_iconst (v := J (-1)) hx hb d_Mo_found_26 rfl ?_
      exact Mi_ret hx hb hr hlocks hQ d_Mo_found_27 hP hK hD hS nb_i (by rw [if_neg (by omega)]) () (trivial) [0, 1] rfl (by decide)
    · refine lv_aload_n hx hb d_Mo_found_17 rfl (lv_at hl 0 rfl) ?_
      refine va_get (D := D) (ci := 8) (v := .ref p8) (C := R_Mo) (T := T_Mo) (N := 17) hx hb hts i_Mo hown hK hP 0 rfl rfl 11 (by decide) (hts _ mw_562) (fun _ h9 => h9) rfl d_Mo_found_18 ?_
      refine lv_iload_n hx hb d_Mo_found_21 rfl (lv_at hl 1 rfl) ?_
      refine w_iald hx hb hK hP 1 0 rfl rfl ((z).toNat) (by omega) (by omega) (by omega) d_Mo_found_22 ?_
      refine lv_goto (tgt := 27) hx hb d_Mo_found_23 (by decide) ?_
      exact Mi_ret hx hb hr hlocks hQ d_Mo_found_27 hP hK hD hS nb_i (by rw [if_pos (by omega)]) () (trivial) [0, 1] rfl (by decide)
set_option maxHeartbeats 4000000 in
set_option maxRecDepth 100000 in
theorem c_Mo_sum (l : Launch) (D : va_G) (cI cZ cJ : ClassId) (sz : Nat) (o : Nat) (p1 : Nat) (p2 : Nat) (p3 : Nat) (p4 : Nat) (p5 : Nat) (p6 : Nat) (p7 : Nat) (p8 : Nat) (p9 : Nat) (pA : Nat) (pB : Nat) (pC : Nat) (th : Int) (n : Nat) (ap : Int) (fn : Nat) (wk : Int) (fs : Nat → Int) (z : Int) (hz : rg z) (hfn : fn ≤ 40) : Mi l y_Mo_sum w_Mo_sum ({ frames := 0, cells := 0, slots := 0, locals := 0 }) false D classes [(cI, .int), (cZ, .boolean), (cJ, .long)] sz [.ref o, .int (J z)] [(o, .inr (8, [.int (J th), .int (J ((n : Nat) : Int)), .ref p1, .ref p2, .ref p3, .ref p4, .ref p5, .ref p6, .int (J ap), .ref p7, .int (J ((fn : Nat) : Int)), .ref p8, .ref p9, .int (J wk), .ref pA, .ref pB, .ref pC])), (p9, ca cI 40 fs)] (if 0 ≤ z ∧ z < (fn : Int) then fs z.toNat else -1) (S := Unit) (fun _ => True) (fun u : Unit => [(o, .inr (8, [.int (J 0), .int (J ((n : Nat) : Int)), .ref p1, .ref p2, .ref p3, .ref p4, .ref p5, .ref p6, .int (J ap), .ref p7, .int (J ((fn : Nat) : Int)), .ref p8, .ref p9, .int (J wk), .ref pA, .ref pB, .ref pC])), (p9, ca cI 40 fs)]) 0 0 := by
  refine Mi_of (cc := b_Mo_sum) (maxL := 2) (by decide) rfl (Nat.le_of_ble_eq_true rfl) ?_
  intro p e s m args below meth c hx hb hr hml hts hown hlocks A hA hP hK hD hT hS Q hQ H hH ls hl
  subst hH
  have hl : lv_has ls 2 [(0, .ref o), (1, .int (J z))] := hl
  refine lv_aload_n hx hb d_Mo_sum_0 rfl (lv_at hl 0 rfl) ?_
  refine lv_iconst (v := J (0)) hx hb d_Mo_sum_1 rfl ?_
  refine va_put (D := D) (ci := 8) (v := .int (J 0)) (ty := .int) (C := R_Mo) (T := T_Mo) (N := 17) hx hb hts i_Mo t_Mo k_Mo n_Mo hown hK hP hD hS 0 rfl rfl 0 (by decide) (hts _ mw_551) (fun _ h9 => h9) rfl (by decide +kernel) rfl rfl (Nat.le_of_ble_eq_true rfl) d_Mo_sum_2 (fun H locs hP hD hS => ?_)
  have hP : va_P D classes [(o, .inr (8, [.int (J 0), .int (J ((n : Nat) : Int)), .ref p1, .ref p2, .ref p3, .ref p4, .ref p5, .ref p6, .int (J ap), .ref p7, .int (J ((fn : Nat) : Int)), .ref p8, .ref p9, .int (J wk), .ref pA, .ref pB, .ref pC])), (p9, ca cI 40 fs)] H := hP
  have hD : va_D A [(o, .inr (8, [.int (J 0), .int (J ((n : Nat) : Int)), .ref p1, .ref p2, .ref p3, .ref p4, .ref p5, .ref p6, .int (J ap), .ref p7, .int (J ((fn : Nat) : Int)), .ref p8, .ref p9, .int (J wk), .ref pA, .ref pB, .ref pC])), (p9, ca cI 40 fs)] := hD
  refine lv_iload_n hx hb d_Mo_sum_5 rfl (lv_at hl 1 rfl) ?_
  refine w_if_lt (tgt := 26) hx hb d_Mo_sum_6 (by decide) (by omega) (fun c_6 => ?_) (fun c_6 => ?_)
  · refine lv_iconst (v := J (-1)) hx hb d_Mo_sum_26 rfl ?_
    exact Mi_ret hx hb hr hlocks hQ d_Mo_sum_27 hP hK hD hS nb_i (by rw [if_neg (by omega)]) () (trivial) [0, 1] rfl (by decide)
  · refine lv_iload_n hx hb d_Mo_sum_9 rfl (lv_at hl 1 rfl) ?_
    refine lv_aload_n hx hb d_Mo_sum_10 rfl (lv_at hl 0 rfl) ?_
    refine va_get (D := D) (ci := 8) (v := .int (J ((fn : Nat) : Int))) (C := R_Mo) (T := T_Mo) (N := 17) hx hb hts i_Mo hown hK hP 0 rfl rfl 10 (by decide) (hts _ mw_561) (fun _ h9 => h9) rfl d_Mo_sum_11 ?_
    refine w_icmp_ge (tgt := 26) hx hb d_Mo_sum_14 (by decide) (by omega) (by omega) (fun c_14 => ?_) (fun c_14 => ?_)
    · refine lv_iconst (v := J (-1)) hx hb d_Mo_sum_26 rfl ?_
      exact Mi_ret hx hb hr hlocks hQ d_Mo_sum_27 hP hK hD hS nb_i (by rw [if_neg (by omega)]) () (trivial) [0, 1] rfl (by decide)
    · refine lv_aload_n hx hb d_Mo_sum_17 rfl (lv_at hl 0 rfl) ?_
      refine va_get (D := D) (ci := 8) (v := .ref p9) (C := R_Mo) (T := T_Mo) (N := 17) hx hb hts i_Mo hown hK hP 0 rfl rfl 12 (by decide) (hts _ mw_563) (fun _ h9 => h9) rfl d_Mo_sum_18 ?_
      refine lv_iload_n hx hb d_Mo_sum_21 rfl (lv_at hl 1 rfl) ?_
      refine w_iald hx hb hK hP 1 0 rfl rfl ((z).toNat) (by omega) (by omega) (by omega) d_Mo_sum_22 ?_
      refine lv_goto (tgt := 27) hx hb d_Mo_sum_23 (by decide) ?_
      exact Mi_ret hx hb hr hlocks hQ d_Mo_sum_27 hP hK hD hS nb_i (by rw [if_pos (by omega)]) () (trivial) [0, 1] rfl (by decide)
set_option maxHeartbeats 4000000 in
set_option maxRecDepth 100000 in
theorem c_Mo_learned_bad (l : Launch) (D : va_G) (cI cZ cJ : ClassId) (sz : Nat) (o : Nat) (p1 : Nat) (p2 : Nat) (p3 : Nat) (p4 : Nat) (p5 : Nat) (p6 : Nat) (p7 : Nat) (p8 : Nat) (p9 : Nat) (pA : Nat) (pB : Nat) (pC : Nat) (th : Int) (n : Nat) (ap : Int) (fn : Nat) (wk : Int) (z : Int) (y : Int) (hz : rg z) (hy : rg y) (hn : n ≤ 40) (hno : z < 0 ∨ (n : Int) ≤ z ∨ y < 0 ∨ 100000 < y) : Mi l y_Mo_learned w_Mo_learned ({ frames := 1, cells := 0, slots := 0, locals := 21 }) false D classes [(cI, .int), (cZ, .boolean), (cJ, .long)] sz [.ref o, .int (J z), .int (J y)] [(o, .inr (8, [.int (J th), .int (J ((n : Nat) : Int)), .ref p1, .ref p2, .ref p3, .ref p4, .ref p5, .ref p6, .int (J ap), .ref p7, .int (J ((fn : Nat) : Int)), .ref p8, .ref p9, .int (J wk), .ref pA, .ref pB, .ref pC]))] (-1) (S := Unit) (fun _ => True) (fun u : Unit => [(o, .inr (8, [.int (J 0), .int (J ((n : Nat) : Int)), .ref p1, .ref p2, .ref p3, .ref p4, .ref p5, .ref p6, .int (J ap), .ref p7, .int (J ((fn : Nat) : Int)), .ref p8, .ref p9, .int (J wk), .ref pA, .ref pB, .ref pC]))]) 0 0 := by
  refine Mi_of (cc := b_Mo_learned) (maxL := 3) (by decide) rfl (Nat.le_of_ble_eq_true rfl) ?_
  intro p e s m args below meth c hx hb hr hml hts hown hlocks A hA hP hK hD hT hS Q hQ H hH ls hl
  subst hH
  have hl : lv_has ls 3 [(0, .ref o), (1, .int (J z)), (2, .int (J y))] := hl
  refine lv_aload_n hx hb d_Mo_learned_0 rfl (lv_at hl 0 rfl) ?_
  refine lv_iconst (v := J (0)) hx hb d_Mo_learned_1 rfl ?_
  refine va_put (D := D) (ci := 8) (v := .int (J 0)) (ty := .int) (C := R_Mo) (T := T_Mo) (N := 17) hx hb hts i_Mo t_Mo k_Mo n_Mo hown hK hP hD hS 0 rfl rfl 0 (by decide) (hts _ mw_551) (fun _ h9 => h9) rfl (by decide +kernel) rfl rfl (Nat.le_of_ble_eq_true rfl) d_Mo_learned_2 (fun H locs hP hD hS => ?_)
  have hP : va_P D classes [(o, .inr (8, [.int (J 0), .int (J ((n : Nat) : Int)), .ref p1, .ref p2, .ref p3, .ref p4, .ref p5, .ref p6, .int (J ap), .ref p7, .int (J ((fn : Nat) : Int)), .ref p8, .ref p9, .int (J wk), .ref pA, .ref pB, .ref pC]))] H := hP
  have hD : va_D A [(o, .inr (8, [.int (J 0), .int (J ((n : Nat) : Int)), .ref p1, .ref p2, .ref p3, .ref p4, .ref p5, .ref p6, .int (J ap), .ref p7, .int (J ((fn : Nat) : Int)), .ref p8, .ref p9, .int (J wk), .ref pA, .ref pB, .ref pC]))] := hD
  refine lv_aload_n hx hb d_Mo_learned_5 rfl (lv_at hl 0 rfl) ?_
  refine lv_iload_n hx hb d_Mo_learned_6 rfl (lv_at hl 1 rfl) ?_
  refine Ri_call (va_runV (As := [.int (J z)]) (rest := []) ⟨hx, hb, hml, hown, hts⟩ (c_Mo_isEntry l D cI cZ cJ o p1 p2 p3 p4 p5 p6 p7 p8 p9 pA pB pC 0 n ap fn wk z (by first | with_reducible assumption | omega) (by first | with_reducible assumption | omega)) (cwV 1 hts (g_V mw_615 mw_617 mw_10 mw_33 mw_618) rfl rfl rfl (by decide +kernel) ⟨Nat.le_of_ble_eq_true rfl, Nat.le_of_ble_eq_true rfl⟩) (pre_RV hP hK [0] rfl 8 0 rfl rfl) rfl rfl hl.1 rfl (lv_room (Nat.le_of_ble_eq_true rfl)) d_Mo_learned_7 ⟨Nat.le_of_ble_eq_true rfl, Nat.le_of_ble_eq_true rfl⟩) ?_
  refine w_if_eq (tgt := 23) hx hb d_Mo_learned_10 (by decide) (rg_b2) (fun c_10 => ?_) (fun c_10 => ?_)
  · have c_10 := b2_0.mp c_10
    refine lv_iconst (v := J (-1)) hx hb d_Mo_learned_23 rfl ?_
    exact Mi_ret hx hb hr hlocks hQ d_Mo_learned_24 hP hK hD hS nb_i (by omega) () (trivial) [0] rfl (by decide)
  · have c_10 := b2_n0.mp c_10
    refine lv_iload_n hx hb d_Mo_learned_13 rfl (lv_at hl 2 rfl) ?_
    refine w_if_lt (tgt := 23) hx hb d_Mo_learned_14 (by decide) (by omega) (fun c_14 => ?_) (fun c_14 => ?_)
    · refine lv_iconst (v := J (-1)) hx hb d_Mo_learned_23 rfl ?_
      exact Mi_ret hx hb hr hlocks hQ d_Mo_learned_24 hP hK hD hS nb_i (by omega) () (trivial) [0] rfl (by decide)
    · refine lv_iload_n hx hb d_Mo_learned_17 rfl (lv_at hl 2 rfl) ?_
      refine lv_ldc (v := J (100000)) hx hb hown (hts _ mw_732) d_Mo_learned_18 ?_
      refine w_icmp_le (tgt := 25) hx hb d_Mo_learned_20 (by decide) (by omega) (by omega) (fun c_20 => ?_) (fun c_20 => ?_)
      · exfalso; omega
      · refine lv_iconst (v := J (-1)) hx hb d_Mo_learned_23 rfl ?_
        exact Mi_ret hx hb hr hlocks hQ d_Mo_learned_24 hP hK hD hS nb_i (by omega) () (trivial) [0] rfl (by decide)
set_option maxHeartbeats 4000000 in
set_option maxRecDepth 100000 in
theorem c_Mo_learned (l : Launch) (D : va_G) (cI cZ cJ : ClassId) (sz : Nat) (o : Nat) (p1 : Nat) (p2 : Nat) (p3 : Nat) (p4 : Nat) (p5 : Nat) (p6 : Nat) (p7 : Nat) (p8 : Nat) (p9 : Nat) (pA : Nat) (pB : Nat) (pC : Nat) (th : Int) (n : Nat) (ap : Int) (fn : Nat) (wk : Int) (dy : Nat → Int) (tm : Nat → Int) (en : Nat) (y : Int) (hn : n ≤ 40) (hok : en < n ∧ 0 ≤ y ∧ y ≤ 100000) : Mi l y_Mo_learned w_Mo_learned ({ frames := 1, cells := 0, slots := 0, locals := 21 }) false D classes [(cI, .int), (cZ, .boolean), (cJ, .long)] sz [.ref o, .int (J ((en : Nat) : Int)), .int (J y)] [(o, .inr (8, [.int (J th), .int (J ((n : Nat) : Int)), .ref p1, .ref p2, .ref p3, .ref p4, .ref p5, .ref p6, .int (J ap), .ref p7, .int (J ((fn : Nat) : Int)), .ref p8, .ref p9, .int (J wk), .ref pA, .ref pB, .ref pC])), (p2, ca cI 40 dy), (p3, ca cI 40 tm)] (tm en + 1) (S := Unit) (fun _ => True) (fun u : Unit => [(o, .inr (8, [.int (J 0), .int (J ((n : Nat) : Int)), .ref p1, .ref p2, .ref p3, .ref p4, .ref p5, .ref p6, .int (J ap), .ref p7, .int (J ((fn : Nat) : Int)), .ref p8, .ref p9, .int (J wk), .ref pA, .ref pB, .ref pC])), (p2, ca cI 40 (iu dy en y)), (p3, ca cI 40 (iu tm en (tm en + 1)))]) 0 0 := by
  refine Mi_of (cc := b_Mo_learned) (maxL := 3) (by decide) rfl (Nat.le_of_ble_eq_true rfl) ?_
  intro p e s m args below meth c hx hb hr hml hts hown hlocks A hA hP hK hD hT hS Q hQ H hH ls hl
  subst hH
  have hl : lv_has ls 3 [(0, .ref o), (1, .int (J ((en : Nat) : Int))), (2, .int (J y))] := hl
  refine lv_aload_n hx hb d_Mo_learned_0 rfl (lv_at hl 0 rfl) ?_
  refine lv_iconst (v := J (0)) hx hb d_Mo_learned_1 rfl ?_
  refine va_put (D := D) (ci := 8) (v := .int (J 0)) (ty := .int) (C := R_Mo) (T := T_Mo) (N := 17) hx hb hts i_Mo t_Mo k_Mo n_Mo hown hK hP hD hS 0 rfl rfl 0 (by decide) (hts _ mw_551) (fun _ h9 => h9) rfl (by decide +kernel) rfl rfl (Nat.le_of_ble_eq_true rfl) d_Mo_learned_2 (fun H locs hP hD hS => ?_)
  have hP : va_P D classes [(o, .inr (8, [.int (J 0), .int (J ((n : Nat) : Int)), .ref p1, .ref p2, .ref p3, .ref p4, .ref p5, .ref p6, .int (J ap), .ref p7, .int (J ((fn : Nat) : Int)), .ref p8, .ref p9, .int (J wk), .ref pA, .ref pB, .ref pC])), (p2, ca cI 40 dy), (p3, ca cI 40 tm)] H := hP
  have hD : va_D A [(o, .inr (8, [.int (J 0), .int (J ((n : Nat) : Int)), .ref p1, .ref p2, .ref p3, .ref p4, .ref p5, .ref p6, .int (J ap), .ref p7, .int (J ((fn : Nat) : Int)), .ref p8, .ref p9, .int (J wk), .ref pA, .ref pB, .ref pC])), (p2, ca cI 40 dy), (p3, ca cI 40 tm)] := hD
  refine lv_aload_n hx hb d_Mo_learned_5 rfl (lv_at hl 0 rfl) ?_
  refine lv_iload_n hx hb d_Mo_learned_6 rfl (lv_at hl 1 rfl) ?_
  refine Ri_call (va_runV (As := [.int (J ((en : Nat) : Int))]) (rest := []) ⟨hx, hb, hml, hown, hts⟩ (c_Mo_isEntry l D cI cZ cJ o p1 p2 p3 p4 p5 p6 p7 p8 p9 pA pB pC 0 n ap fn wk ((en : Nat) : Int) (by first | with_reducible assumption | omega) (by first | with_reducible assumption | omega)) (cwV 1 hts (g_V mw_615 mw_617 mw_10 mw_33 mw_618) rfl rfl rfl (by decide +kernel) ⟨Nat.le_of_ble_eq_true rfl, Nat.le_of_ble_eq_true rfl⟩) (pre_RV hP hK [0] rfl 8 0 rfl rfl) rfl rfl hl.1 rfl (lv_room (Nat.le_of_ble_eq_true rfl)) d_Mo_learned_7 ⟨Nat.le_of_ble_eq_true rfl, Nat.le_of_ble_eq_true rfl⟩) ?_
  refine w_if_eq (tgt := 23) hx hb d_Mo_learned_10 (by decide) (rg_b2) (fun c_10 => ?_) (fun c_10 => ?_)
  · have c_10 := b2_0.mp c_10
    exfalso; omega
  · have c_10 := b2_n0.mp c_10
    refine lv_iload_n hx hb d_Mo_learned_13 rfl (lv_at hl 2 rfl) ?_
    refine w_if_lt (tgt := 23) hx hb d_Mo_learned_14 (by decide) (by omega) (fun c_14 => ?_) (fun c_14 => ?_)
    · exfalso; omega
    · refine lv_iload_n hx hb d_Mo_learned_17 rfl (lv_at hl 2 rfl) ?_
      refine lv_ldc (v := J (100000)) hx hb hown (hts _ mw_732) d_Mo_learned_18 ?_
      refine w_icmp_le (tgt := 25) hx hb d_Mo_learned_20 (by decide) (by omega) (by omega) (fun c_20 => ?_) (fun c_20 => ?_)
      · refine lv_aload_n hx hb d_Mo_learned_25 rfl (lv_at hl 0 rfl) ?_
        refine va_get (D := D) (ci := 8) (v := .ref p2) (C := R_Mo) (T := T_Mo) (N := 17) hx hb hts i_Mo hown hK hP 0 rfl rfl 3 (by decide) (hts _ mw_554) (fun _ h9 => h9) rfl d_Mo_learned_26 ?_
        refine lv_iload_n hx hb d_Mo_learned_29 rfl (lv_at hl 1 rfl) ?_
        refine lv_iload_n hx hb d_Mo_learned_30 rfl (lv_at hl 2 rfl) ?_
        refine w_iast hx hb hK hP hD hS 1 0 rfl rfl en (by omega) (by omega) (by omega) d_Mo_learned_31 (fun H locs hP hD hS => ?_)
        have hP : va_P D classes [(o, .inr (8, [.int (J 0), .int (J ((n : Nat) : Int)), .ref p1, .ref p2, .ref p3, .ref p4, .ref p5, .ref p6, .int (J ap), .ref p7, .int (J ((fn : Nat) : Int)), .ref p8, .ref p9, .int (J wk), .ref pA, .ref pB, .ref pC])), (p2, ca cI 40 (iu dy en y)), (p3, ca cI 40 tm)] H := hP
        have hD : va_D A [(o, .inr (8, [.int (J 0), .int (J ((n : Nat) : Int)), .ref p1, .ref p2, .ref p3, .ref p4, .ref p5, .ref p6, .int (J ap), .ref p7, .int (J ((fn : Nat) : Int)), .ref p8, .ref p9, .int (J wk), .ref pA, .ref pB, .ref pC])), (p2, ca cI 40 (iu dy en y)), (p3, ca cI 40 tm)] := hD
        refine lv_aload_n hx hb d_Mo_learned_32 rfl (lv_at hl 0 rfl) ?_
        refine va_get (D := D) (ci := 8) (v := .ref p3) (C := R_Mo) (T := T_Mo) (N := 17) hx hb hts i_Mo hown hK hP 0 rfl rfl 4 (by decide) (hts _ mw_555) (fun _ h9 => h9) rfl d_Mo_learned_33 ?_
        refine lv_iload_n hx hb d_Mo_learned_36 rfl (lv_at hl 1 rfl) ?_
        refine lv_dup2_11 hx hb d_Mo_learned_37 rfl rfl ?_
        refine w_iald hx hb hK hP 2 0 rfl rfl en (by omega) (by omega) (by omega) d_Mo_learned_38 ?_
        refine lv_iconst (v := J (1)) hx hb d_Mo_learned_39 rfl ?_
        refine w_iadd hx hb d_Mo_learned_40 ((tm en) + 1) (rfl) ?_
        refine w_iast hx hb hK hP hD hS 2 0 rfl rfl en (by omega) (by omega) (by omega) d_Mo_learned_41 (fun H locs hP hD hS => ?_)
        have hP : va_P D classes [(o, .inr (8, [.int (J 0), .int (J ((n : Nat) : Int)), .ref p1, .ref p2, .ref p3, .ref p4, .ref p5, .ref p6, .int (J ap), .ref p7, .int (J ((fn : Nat) : Int)), .ref p8, .ref p9, .int (J wk), .ref pA, .ref pB, .ref pC])), (p2, ca cI 40 (iu dy en y)), (p3, ca cI 40 (iu tm en ((tm en) + 1)))] H := hP
        have hD : va_D A [(o, .inr (8, [.int (J 0), .int (J ((n : Nat) : Int)), .ref p1, .ref p2, .ref p3, .ref p4, .ref p5, .ref p6, .int (J ap), .ref p7, .int (J ((fn : Nat) : Int)), .ref p8, .ref p9, .int (J wk), .ref pA, .ref pB, .ref pC])), (p2, ca cI 40 (iu dy en y)), (p3, ca cI 40 (iu tm en ((tm en) + 1)))] := hD
        refine lv_aload_n hx hb d_Mo_learned_42 rfl (lv_at hl 0 rfl) ?_
        refine va_get (D := D) (ci := 8) (v := .ref p3) (C := R_Mo) (T := T_Mo) (N := 17) hx hb hts i_Mo hown hK hP 0 rfl rfl 4 (by decide) (hts _ mw_555) (fun _ h9 => h9) rfl d_Mo_learned_43 ?_
        refine lv_iload_n hx hb d_Mo_learned_46 rfl (lv_at hl 1 rfl) ?_
        refine w_iald hx hb hK hP 2 0 rfl rfl en (by omega) (by omega) (by omega) d_Mo_learned_47 ?_
        exact Mi_ret hx hb hr hlocks hQ d_Mo_learned_48 hP hK hD hS nb_i (iu_s _ _ _) () (trivial) [0, 1, 2] rfl (by decide)
      · exfalso; omega
set_option maxHeartbeats 4000000 in
set_option maxRecDepth 100000 in
theorem c_Mo_drop_bad (l : Launch) (D : va_G) (cI cZ cJ : ClassId) (sz : Nat) (o : Nat) (p1 : Nat) (p2 : Nat) (p3 : Nat) (p4 : Nat) (p5 : Nat) (p6 : Nat) (p7 : Nat) (p8 : Nat) (p9 : Nat) (pA : Nat) (pB : Nat) (pC : Nat) (th : Int) (n : Nat) (ap : Int) (fn : Nat) (wk : Int) (z : Int) (y : Int) (hz : rg z) (hn : n ≤ 40) (hno : z < 0 ∨ (n : Int) ≤ z) : Mi l y_Mo_drop w_Mo_drop ({ frames := 1, cells := 0, slots := 0, locals := 21 }) false D classes [(cI, .int), (cZ, .boolean), (cJ, .long)] sz [.ref o, .int (J z), .int (J y)] [(o, .inr (8, [.int (J th), .int (J ((n : Nat) : Int)), .ref p1, .ref p2, .ref p3, .ref p4, .ref p5, .ref p6, .int (J ap), .ref p7, .int (J ((fn : Nat) : Int)), .ref p8, .ref p9, .int (J wk), .ref pA, .ref pB, .ref pC]))] (-1) (S := Unit) (fun _ => True) (fun u : Unit => [(o, .inr (8, [.int (J 0), .int (J ((n : Nat) : Int)), .ref p1, .ref p2, .ref p3, .ref p4, .ref p5, .ref p6, .int (J ap), .ref p7, .int (J ((fn : Nat) : Int)), .ref p8, .ref p9, .int (J wk), .ref pA, .ref pB, .ref pC]))]) 0 0 := by
  refine Mi_of (cc := b_Mo_drop) (maxL := 4) (by decide) rfl (Nat.le_of_ble_eq_true rfl) ?_
  intro p e s m args below meth c hx hb hr hml hts hown hlocks A hA hP hK hD hT hS Q hQ H hH ls hl
  subst hH
  have hl : lv_has ls 4 [(0, .ref o), (1, .int (J z)), (2, .int (J y))] := hl
  refine lv_aload_n hx hb d_Mo_drop_0 rfl (lv_at hl 0 rfl) ?_
  refine lv_iconst (v := J (0)) hx hb d_Mo_drop_1 rfl ?_
  refine va_put (D := D) (ci := 8) (v := .int (J 0)) (ty := .int) (C := R_Mo) (T := T_Mo) (N := 17) hx hb hts i_Mo t_Mo k_Mo n_Mo hown hK hP hD hS 0 rfl rfl 0 (by decide) (hts _ mw_551) (fun _ h9 => h9) rfl (by decide +kernel) rfl rfl (Nat.le_of_ble_eq_true rfl) d_Mo_drop_2 (fun H locs hP hD hS => ?_)
  have hP : va_P D classes [(o, .inr (8, [.int (J 0), .int (J ((n : Nat) : Int)), .ref p1, .ref p2, .ref p3, .ref p4, .ref p5, .ref p6, .int (J ap), .ref p7, .int (J ((fn : Nat) : Int)), .ref p8, .ref p9, .int (J wk), .ref pA, .ref pB, .ref pC]))] H := hP
  have hD : va_D A [(o, .inr (8, [.int (J 0), .int (J ((n : Nat) : Int)), .ref p1, .ref p2, .ref p3, .ref p4, .ref p5, .ref p6, .int (J ap), .ref p7, .int (J ((fn : Nat) : Int)), .ref p8, .ref p9, .int (J wk), .ref pA, .ref pB, .ref pC]))] := hD
  refine lv_aload_n hx hb d_Mo_drop_5 rfl (lv_at hl 0 rfl) ?_
  refine lv_iload_n hx hb d_Mo_drop_6 rfl (lv_at hl 1 rfl) ?_
  refine Ri_call (va_runV (As := [.int (J z)]) (rest := []) ⟨hx, hb, hml, hown, hts⟩ (c_Mo_isEntry l D cI cZ cJ o p1 p2 p3 p4 p5 p6 p7 p8 p9 pA pB pC 0 n ap fn wk z (by first | with_reducible assumption | omega) (by first | with_reducible assumption | omega)) (cwV 1 hts (g_V mw_615 mw_617 mw_10 mw_33 mw_618) rfl rfl rfl (by decide +kernel) ⟨Nat.le_of_ble_eq_true rfl, Nat.le_of_ble_eq_true rfl⟩) (pre_RV hP hK [0] rfl 8 0 rfl rfl) rfl rfl hl.1 rfl (lv_room (Nat.le_of_ble_eq_true rfl)) d_Mo_drop_7 ⟨Nat.le_of_ble_eq_true rfl, Nat.le_of_ble_eq_true rfl⟩) ?_
  refine w_if_ne (tgt := 15) hx hb d_Mo_drop_10 (by decide) (rg_b2) (fun c_10 => ?_) (fun c_10 => ?_)
  · have c_10 := b2_n0.mp c_10
    exfalso; omega
  · have c_10 := b2_0.mp c_10
    refine lv_iconst (v := J (-1)) hx hb d_Mo_drop_13 rfl ?_
    exact Mi_ret hx hb hr hlocks hQ d_Mo_drop_14 hP hK hD hS nb_i (by omega) () (trivial) [0] rfl (by decide)
set_option maxHeartbeats 4000000 in
set_option maxRecDepth 100000 in
theorem c_Mo_drop (l : Launch) (D : va_G) (cI cZ cJ : ClassId) (sz : Nat) (o : Nat) (p1 : Nat) (p2 : Nat) (p3 : Nat) (p4 : Nat) (p5 : Nat) (p6 : Nat) (p7 : Nat) (p8 : Nat) (p9 : Nat) (pA : Nat) (pB : Nat) (pC : Nat) (th : Int) (n : Nat) (ap : Int) (fn : Nat) (wk : Int) (dr : Nat → Int) (en : Nat) (y : Int) (hn : n ≤ 40) (hdr : ∀ k, 0 ≤ dr k ∧ dr k ≤ 1) (hok : en < n ∧ 0 ≤ y ∧ y ≤ 1) : Mi l y_Mo_drop w_Mo_drop ({ frames := 1, cells := 0, slots := 0, locals := 21 }) false D classes [(cI, .int), (cZ, .boolean), (cJ, .long)] sz [.ref o, .int (J ((en : Nat) : Int)), .int (J y)] [(o, .inr (8, [.int (J th), .int (J ((n : Nat) : Int)), .ref p1, .ref p2, .ref p3, .ref p4, .ref p5, .ref p6, .int (J ap), .ref p7, .int (J ((fn : Nat) : Int)), .ref p8, .ref p9, .int (J wk), .ref pA, .ref pB, .ref pC])), (p4, ca cZ 40 dr)] (dr en) (S := Unit) (fun _ => True) (fun u : Unit => [(o, .inr (8, [.int (J 0), .int (J ((n : Nat) : Int)), .ref p1, .ref p2, .ref p3, .ref p4, .ref p5, .ref p6, .int (J ap), .ref p7, .int (J ((fn : Nat) : Int)), .ref p8, .ref p9, .int (J wk), .ref pA, .ref pB, .ref pC])), (p4, ca cZ 40 (iu dr en y))]) 0 0 := by
  refine Mi_of (cc := b_Mo_drop) (maxL := 4) (by decide) rfl (Nat.le_of_ble_eq_true rfl) ?_
  intro p e s m args below meth c hx hb hr hml hts hown hlocks A hA hP hK hD hT hS Q hQ H hH ls hl
  subst hH
  have hl : lv_has ls 4 [(0, .ref o), (1, .int (J ((en : Nat) : Int))), (2, .int (J y))] := hl
  have r1 := hdr en
  refine lv_aload_n hx hb d_Mo_drop_0 rfl (lv_at hl 0 rfl) ?_
  refine lv_iconst (v := J (0)) hx hb d_Mo_drop_1 rfl ?_
  refine va_put (D := D) (ci := 8) (v := .int (J 0)) (ty := .int) (C := R_Mo) (T := T_Mo) (N := 17) hx hb hts i_Mo t_Mo k_Mo n_Mo hown hK hP hD hS 0 rfl rfl 0 (by decide) (hts _ mw_551) (fun _ h9 => h9) rfl (by decide +kernel) rfl rfl (Nat.le_of_ble_eq_true rfl) d_Mo_drop_2 (fun H locs hP hD hS => ?_)
  have hP : va_P D classes [(o, .inr (8, [.int (J 0), .int (J ((n : Nat) : Int)), .ref p1, .ref p2, .ref p3, .ref p4, .ref p5, .ref p6, .int (J ap), .ref p7, .int (J ((fn : Nat) : Int)), .ref p8, .ref p9, .int (J wk), .ref pA, .ref pB, .ref pC])), (p4, ca cZ 40 dr)] H := hP
  have hD : va_D A [(o, .inr (8, [.int (J 0), .int (J ((n : Nat) : Int)), .ref p1, .ref p2, .ref p3, .ref p4, .ref p5, .ref p6, .int (J ap), .ref p7, .int (J ((fn : Nat) : Int)), .ref p8, .ref p9, .int (J wk), .ref pA, .ref pB, .ref pC])), (p4, ca cZ 40 dr)] := hD
  refine lv_aload_n hx hb d_Mo_drop_5 rfl (lv_at hl 0 rfl) ?_
  refine lv_iload_n hx hb d_Mo_drop_6 rfl (lv_at hl 1 rfl) ?_
  refine Ri_call (va_runV (As := [.int (J ((en : Nat) : Int))]) (rest := []) ⟨hx, hb, hml, hown, hts⟩ (c_Mo_isEntry l D cI cZ cJ o p1 p2 p3 p4 p5 p6 p7 p8 p9 pA pB pC 0 n ap fn wk ((en : Nat) : Int) (by first | with_reducible assumption | omega) (by first | with_reducible assumption | omega)) (cwV 1 hts (g_V mw_615 mw_617 mw_10 mw_33 mw_618) rfl rfl rfl (by decide +kernel) ⟨Nat.le_of_ble_eq_true rfl, Nat.le_of_ble_eq_true rfl⟩) (pre_RV hP hK [0] rfl 8 0 rfl rfl) rfl rfl hl.1 rfl (lv_room (Nat.le_of_ble_eq_true rfl)) d_Mo_drop_7 ⟨Nat.le_of_ble_eq_true rfl, Nat.le_of_ble_eq_true rfl⟩) ?_
  refine w_if_ne (tgt := 15) hx hb d_Mo_drop_10 (by decide) (rg_b2) (fun c_10 => ?_) (fun c_10 => ?_)
  · have c_10 := b2_n0.mp c_10
    refine lv_aload_n hx hb d_Mo_drop_15 rfl (lv_at hl 0 rfl) ?_
    refine va_get (D := D) (ci := 8) (v := .ref p4) (C := R_Mo) (T := T_Mo) (N := 17) hx hb hts i_Mo hown hK hP 0 rfl rfl 5 (by decide) (hts _ mw_556) (fun _ h9 => h9) rfl d_Mo_drop_16 ?_
    refine lv_iload_n hx hb d_Mo_drop_19 rfl (lv_at hl 1 rfl) ?_
    refine w_zald hx hb hK hP 1 1 rfl rfl en (by omega) (by omega) (by omega) d_Mo_drop_20 ?_
    refine w_if_eq (tgt := 28) hx hb d_Mo_drop_21 (by decide) (by omega) (fun c_21 => ?_) (fun c_21 => ?_)
    · refine lv_iconst (v := J (0)) hx hb d_Mo_drop_28 rfl ?_
      refine lv_istore_n (lv' := [(3, .int (J 0)), (0, .ref o), (1, .int (J ((en : Nat) : Int))), (2, .int (J y))]) hx hb d_Mo_drop_29 rfl hl (by decide) rfl (fun ls hl => ?_)
      refine lv_aload_n hx hb d_Mo_drop_30 rfl (lv_at hl 1 rfl) ?_
      refine va_get (D := D) (ci := 8) (v := .ref p4) (C := R_Mo) (T := T_Mo) (N := 17) hx hb hts i_Mo hown hK hP 0 rfl rfl 5 (by decide) (hts _ mw_556) (fun _ h9 => h9) rfl d_Mo_drop_31 ?_
      refine lv_iload_n hx hb d_Mo_drop_34 rfl (lv_at hl 2 rfl) ?_
      refine lv_iload_n hx hb d_Mo_drop_35 rfl (lv_at hl 3 rfl) ?_
      refine w_zast hx hb hK hP hD hS 1 1 rfl rfl en (by omega) (by omega) (by omega) (by omega) d_Mo_drop_36 (fun H locs hP hD hS => ?_)
      have hP : va_P D classes [(o, .inr (8, [.int (J 0), .int (J ((n : Nat) : Int)), .ref p1, .ref p2, .ref p3, .ref p4, .ref p5, .ref p6, .int (J ap), .ref p7, .int (J ((fn : Nat) : Int)), .ref p8, .ref p9, .int (J wk), .ref pA, .ref pB, .ref pC])), (p4, ca cZ 40 (iu dr en y))] H := hP
      have hD : va_D A [(o, .inr (8, [.int (J 0), .int (J ((n : Nat) : Int)), .ref p1, .ref p2, .ref p3, .ref p4, .ref p5, .ref p6, .int (J ap), .ref p7, .int (J ((fn : Nat) : Int)), .ref p8, .ref p9, .int (J wk), .ref pA, .ref pB, .ref pC])), (p4, ca cZ 40 (iu dr en y))] := hD
      refine lv_iload_n hx hb d_Mo_drop_37 rfl (lv_at hl 0 rfl) ?_
      exact Mi_ret hx hb hr hlocks hQ d_Mo_drop_38 hP hK hD hS nb_i (by omega) () (trivial) [0, 1] rfl (by decide)
    · refine lv_iconst (v := J (1)) hx hb d_Mo_drop_24 rfl ?_
      refine lv_goto (tgt := 29) hx hb d_Mo_drop_25 (by decide) ?_
      refine lv_istore_n (lv' := [(3, .int (J 1)), (0, .ref o), (1, .int (J ((en : Nat) : Int))), (2, .int (J y))]) hx hb d_Mo_drop_29 rfl hl (by decide) rfl (fun ls hl => ?_)
      refine lv_aload_n hx hb d_Mo_drop_30 rfl (lv_at hl 1 rfl) ?_
      refine va_get (D := D) (ci := 8) (v := .ref p4) (C := R_Mo) (T := T_Mo) (N := 17) hx hb hts i_Mo hown hK hP 0 rfl rfl 5 (by decide) (hts _ mw_556) (fun _ h9 => h9) rfl d_Mo_drop_31 ?_
      refine lv_iload_n hx hb d_Mo_drop_34 rfl (lv_at hl 2 rfl) ?_
      refine lv_iload_n hx hb d_Mo_drop_35 rfl (lv_at hl 3 rfl) ?_
      refine w_zast hx hb hK hP hD hS 1 1 rfl rfl en (by omega) (by omega) (by omega) (by omega) d_Mo_drop_36 (fun H locs hP hD hS => ?_)
      have hP : va_P D classes [(o, .inr (8, [.int (J 0), .int (J ((n : Nat) : Int)), .ref p1, .ref p2, .ref p3, .ref p4, .ref p5, .ref p6, .int (J ap), .ref p7, .int (J ((fn : Nat) : Int)), .ref p8, .ref p9, .int (J wk), .ref pA, .ref pB, .ref pC])), (p4, ca cZ 40 (iu dr en y))] H := hP
      have hD : va_D A [(o, .inr (8, [.int (J 0), .int (J ((n : Nat) : Int)), .ref p1, .ref p2, .ref p3, .ref p4, .ref p5, .ref p6, .int (J ap), .ref p7, .int (J ((fn : Nat) : Int)), .ref p8, .ref p9, .int (J wk), .ref pA, .ref pB, .ref pC])), (p4, ca cZ 40 (iu dr en y))] := hD
      refine lv_iload_n hx hb d_Mo_drop_37 rfl (lv_at hl 0 rfl) ?_
      exact Mi_ret hx hb hr hlocks hQ d_Mo_drop_38 hP hK hD hS nb_i (by omega) () (trivial) [0, 1] rfl (by decide)
  · have c_10 := b2_0.mp c_10
    exfalso; omega
