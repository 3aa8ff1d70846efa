set_option maxHeartbeats 1000000 in
set_option maxRecDepth 100000 in
theorem c_Mo_thrown (l : Launch) (D : va_G) (cI cZ cJ : ClassId) (o : Nat) (p1 : Nat) (p2 : Nat) (p3 : Nat) (p4 : Nat) (p5 : Nat) (p6 : Nat) (p7 : Nat) (p8 : Nat) (p9 : Nat) (pA : Nat) (pB : Nat) (pC : Nat) (th : Int) (n : Nat) (ap : Int) (fn : Nat) (wk : Int)  : Ri l y_Mo_thrown w_Mo_thrown ({ frames := 0, cells := 0, slots := 0, locals := 0 }) D classes [(cI, .int), (cZ, .boolean), (cJ, .long)] [.ref o] [(o, .inr (8, [.int (J th), .int (J ((n : Nat) : Int)), .ref p1, .ref p2, .ref p3, .ref p4, .ref p5, .ref p6, .int (J ap), .ref p7, .int (J ((fn : Nat) : Int)), .ref p8, .ref p9, .int (J wk), .ref pA, .ref pB, .ref pC]))] (th) := by
  refine Ri_of (cc := b_Mo_thrown) (maxL := 1) (by decide) rfl (Nat.le_of_ble_eq_true rfl) ?_
  intro p e s m args below meth c hx hb hr hml hts hown hlocks hP hK Q hQ H hH ls hl
  rw [← hH] at hP
  have hl : lv_has ls 1 [(0, .ref o)] := hl
  refine lv_aload_n hx hb d_Mo_thrown_0 rfl (lv_at hl 0 rfl) ?_
  refine va_get (D := D) (ci := 8) (v := .int (J th)) (C := R_Mo) (T := T_Mo) (N := 17) hx hb hts i_Mo hown hK hP 0 rfl rfl 0 (by decide) (hts _ mw_551) (fun _ h9 => h9) rfl d_Mo_thrown_1 ?_
  exact Ri_ret hx hb hr hlocks hQ hH d_Mo_thrown_4 nb_i (rfl)
set_option maxHeartbeats 1000000 in
set_option maxRecDepth 100000 in
theorem c_Mo_isEntry (l : Launch) (D : va_G) (cI cZ cJ : ClassId) (o : Nat) (p1 : Nat) (p2 : Nat) (p3 : Nat) (p4 : Nat) (p5 : Nat) (p6 : Nat) (p7 : Nat) (p8 : Nat) (p9 : Nat) (pA : Nat) (pB : Nat) (pC : Nat) (th : Int) (n : Nat) (ap : Int) (fn : Nat) (wk : Int) (z : Int) (hz : rg z) (hn : n ≤ 40) : Ri l y_Mo_isEntry w_Mo_isEntry ({ frames := 0, cells := 0, slots := 0, locals := 0 }) D classes [(cI, .int), (cZ, .boolean), (cJ, .long)] [.ref o, .int (J z)] [(o, .inr (8, [.int (J th), .int (J ((n : Nat) : Int)), .ref p1, .ref p2, .ref p3, .ref p4, .ref p5, .ref p6, .int (J ap), .ref p7, .int (J ((fn : Nat) : Int)), .ref p8, .ref p9, .int (J wk), .ref pA, .ref pB, .ref pC]))] (b2 (0 ≤ z ∧ z < (n : Int))) := by
  refine Ri_of (cc := b_Mo_isEntry) (maxL := 2) (by decide) rfl (Nat.le_of_ble_eq_true rfl) ?_
  intro p e s m args below meth c hx hb hr hml hts hown hlocks hP hK Q hQ H hH ls hl
  rw [← hH] at hP
  have hl : lv_has ls 2 [(0, .ref o), (1, .int (J z))] := hl
  refine lv_iload_n hx hb d_Mo_isEntry_0 rfl (lv_at hl 1 rfl) ?_
  refine w_if_lt (tgt := 16) hx hb d_Mo_isEntry_1 (by decide) (by omega) (fun c_1 => ?_) (fun c_1 => ?_)
  · refine lv_iconst (v := J (0)) hx hb d_Mo_isEntry_16 rfl ?_
    exact Ri_ret hx hb hr hlocks hQ hH d_Mo_isEntry_17 (nb_z (by omega)) (by unfold b2; split <;> omega)
  · refine lv_iload_n hx hb d_Mo_isEntry_4 rfl (lv_at hl 1 rfl) ?_
    refine lv_aload_n hx hb d_Mo_isEntry_5 rfl (lv_at hl 0 rfl) ?_
    refine va_get (D := D) (ci := 8) (v := .int (J ((n : Nat) : Int))) (C := R_Mo) (T := T_Mo) (N := 17) hx hb hts i_Mo hown hK hP 0 rfl rfl 1 (by decide) (hts _ mw_552) (fun _ h9 => h9) rfl d_Mo_isEntry_6 ?_
    refine w_icmp_ge (tgt := 16) hx hb d_Mo_isEntry_9 (by decide) (by omega) (by omega) (fun c_9 => ?_) (fun c_9 => ?_)
    · refine lv_iconst (v := J (0)) hx hb d_Mo_isEntry_16 rfl ?_
      exact Ri_ret hx hb hr hlocks hQ hH d_Mo_isEntry_17 (nb_z (by omega)) (by unfold b2; split <;> omega)
    · refine lv_iconst (v := J (1)) hx hb d_Mo_isEntry_12 rfl ?_
      refine lv_goto (tgt := 17) hx hb d_Mo_isEntry_13 (by decide) ?_
      exact Ri_ret hx hb hr hlocks hQ hH d_Mo_isEntry_17 (nb_z (by omega)) (by unfold b2; split <;> omega)
set_option maxHeartbeats 1000000 in
set_option maxRecDepth 100000 in
theorem c_Mo_add_no (l : Launch) (D : va_G) (cI cZ cJ : ClassId) (o : Nat) (p1 : Nat) (p2 : Nat) (p3 : Nat) (p4 : Nat) (p5 : Nat) (p6 : Nat) (p7 : Nat) (p8 : Nat) (p9 : Nat) (pA : Nat) (pB : Nat) (pC : Nat) (th : Int) (n : Nat) (ap : Int) (fn : Nat) (wk : Int) (ln : Nat → Int) (w : Nat) (x : Int) (hln : ∀ k, 0 ≤ ln k ∧ ln k ≤ 10) (hwn : w < 123) (hx9 : rg x) (hno : x < 0 ∨ 26 ≤ x ∨ ln w = 10) : Ri l y_Mo_add w_Mo_add ({ frames := 0, cells := 0, slots := 0, locals := 0 }) D classes [(cI, .int), (cZ, .boolean), (cJ, .long)] [.ref o, .int (J ((w : Nat) : Int)), .int (J x)] [(o, .inr (8, [.int (J th), .int (J ((n : Nat) : Int)), .ref p1, .ref p2, .ref p3, .ref p4, .ref p5, .ref p6, .int (J ap), .ref p7, .int (J ((fn : Nat) : Int)), .ref p8, .ref p9, .int (J wk), .ref pA, .ref pB, .ref pC])), (p5, ca cI 123 ln)] (0) := by
  refine Ri_of (cc := b_Mo_add) (maxL := 3) (by decide) rfl (Nat.le_of_ble_eq_true rfl) ?_
  intro p e s m args below meth c hx hb hr hml hts hown hlocks hP hK Q hQ H hH ls hl
  rw [← hH] at hP
  have hl : lv_has ls 3 [(0, .ref o), (1, .int (J ((w : Nat) : Int))), (2, .int (J x))] := hl
  have b1 := hln w
  refine lv_iload_n hx hb d_Mo_add_0 rfl (lv_at hl 2 rfl) ?_
  refine w_if_lt (tgt := 21) hx hb d_Mo_add_1 (by decide) (by omega) (fun c_1 => ?_) (fun c_1 => ?_)
  · refine lv_iconst (v := J (0)) hx hb d_Mo_add_21 rfl ?_
    exact Ri_ret hx hb hr hlocks hQ hH d_Mo_add_22 (nb_z (by omega)) (by omega)
  · refine lv_iload_n hx hb d_Mo_add_4 rfl (lv_at hl 2 rfl) ?_
    refine lv_bipush (v := J (25)) hx hb d_Mo_add_5 (by decide) ?_
    refine w_icmp_gt (tgt := 21) hx hb d_Mo_add_7 (by decide) (by omega) (by omega) (fun c_7 => ?_) (fun c_7 => ?_)
    · refine lv_iconst (v := J (0)) hx hb d_Mo_add_21 rfl ?_
      exact Ri_ret hx hb hr hlocks hQ hH d_Mo_add_22 (nb_z (by omega)) (by omega)
    · refine lv_aload_n hx hb d_Mo_add_10 rfl (lv_at hl 0 rfl) ?_
      refine va_get (D := D) (ci := 8) (v := .ref p5) (C := R_Mo) (T := T_Mo) (N := 17) hx hb hts i_Mo hown hK hP 0 rfl rfl 6 (by decide) (hts _ mw_557) (fun _ h9 => h9) rfl d_Mo_add_11 ?_
      refine lv_iload_n hx hb d_Mo_add_14 rfl (lv_at hl 1 rfl) ?_
      refine w_iald hx hb hK hP 1 0 rfl rfl w (by omega) (by omega) (by omega) d_Mo_add_15 ?_
      refine lv_bipush (v := J (10)) hx hb d_Mo_add_16 (by decide) ?_
      refine w_icmp_ne (tgt := 23) hx hb d_Mo_add_18 (by decide) (by omega) (by omega) (fun c_18 => ?_) (fun c_18 => ?_)
      · exfalso; omega
      · refine lv_iconst (v := J (0)) hx hb d_Mo_add_21 rfl ?_
        exact Ri_ret hx hb hr hlocks hQ hH d_Mo_add_22 (nb_z (by omega)) (by omega)
set_option maxHeartbeats 1000000 in
set_option maxRecDepth 100000 in
theorem c_Mo_add (l : Launch) (D : va_G) (cI cZ cJ : ClassId) (sz : Nat) (o : Nat) (p1 : Nat) (p2 : Nat) (p3 : Nat) (p4 : Nat) (p5 : Nat) (p6 : Nat) (p7 : Nat) (p8 : Nat) (p9 : Nat) (pA : Nat) (pB : Nat) (pC : Nat) (th : Int) (n : Nat) (ap : Int) (fn : Nat) (wk : Int) (ln : Nat → Int) (gl : Nat → Int) (w : Nat) (x : Int) (hln : ∀ k, 0 ≤ ln k ∧ ln k ≤ 10) (hwn : w < 123) (hok : 0 ≤ x ∧ x < 26 ∧ ln w < 10) : Mi l y_Mo_add w_Mo_add ({ frames := 0, cells := 0, slots := 0, locals := 0 }) false D classes [(cI, .int), (cZ, .boolean), (cJ, .long)] sz [.ref o, .int (J ((w : Nat) : Int)), .int (J x)] [(o, .inr (8, [.int (J th), .int (J ((n : Nat) : Int)), .ref p1, .ref p2, .ref p3, .ref p4, .ref p5, .ref p6, .int (J ap), .ref p7, .int (J ((fn : Nat) : Int)), .ref p8, .ref p9, .int (J wk), .ref pA, .ref pB, .ref pC])), (p5, ca cI 123 ln), (p6, ca cI 1230 gl)] (1) (S := Unit) (fun _ => True) (fun u : Unit => [(o, .inr (8, [.int (J th), .int (J ((n : Nat) : Int)), .ref p1, .ref p2, .ref p3, .ref p4, .ref p5, .ref p6, .int (J ap), .ref p7, .int (J ((fn : Nat) : Int)), .ref p8, .ref p9, .int (J wk), .ref pA, .ref pB, .ref pC])), (p5, ca cI 123 (iu ln w (ln w + 1))), (p6, ca cI 1230 (iu gl (10 * w + (ln w).toNat) x))]) 0 0 := by
  refine Mi_of (cc := b_Mo_add) (maxL := 3) (by decide) rfl (Nat.le_of_ble_eq_true rfl) ?_
  intro p e s m args below meth c hx hb hr hml hts hown hlocks A hA hP hK hD hT hS Q hQ H hH ls hl
  subst hH
  have hl : lv_has ls 3 [(0, .ref o), (1, .int (J ((w : Nat) : Int))), (2, .int (J x))] := hl
  have b1 := hln w
  refine lv_iload_n hx hb d_Mo_add_0 rfl (lv_at hl 2 rfl) ?_
  refine w_if_lt (tgt := 21) hx hb d_Mo_add_1 (by decide) (by omega) (fun c_1 => ?_) (fun c_1 => ?_)
  · exfalso; omega
  · refine lv_iload_n hx hb d_Mo_add_4 rfl (lv_at hl 2 rfl) ?_
    refine lv_bipush (v := J (25)) hx hb d_Mo_add_5 (by decide) ?_
    refine w_icmp_gt (tgt := 21) hx hb d_Mo_add_7 (by decide) (by omega) (by omega) (fun c_7 => ?_) (fun c_7 => ?_)
    · exfalso; omega
    · refine lv_aload_n hx hb d_Mo_add_10 rfl (lv_at hl 0 rfl) ?_
      refine va_get (D := D) (ci := 8) (v := .ref p5) (C := R_Mo) (T := T_Mo) (N := 17) hx hb hts i_Mo hown hK hP 0 rfl rfl 6 (by decide) (hts _ mw_557) (fun _ h9 => h9) rfl d_Mo_add_11 ?_
      refine lv_iload_n hx hb d_Mo_add_14 rfl (lv_at hl 1 rfl) ?_
      refine w_iald hx hb hK hP 1 0 rfl rfl w (by omega) (by omega) (by omega) d_Mo_add_15 ?_
      refine lv_bipush (v := J (10)) hx hb d_Mo_add_16 (by decide) ?_
      refine w_icmp_ne (tgt := 23) hx hb d_Mo_add_18 (by decide) (by omega) (by omega) (fun c_18 => ?_) (fun c_18 => ?_)
      · refine lv_aload_n hx hb d_Mo_add_23 rfl (lv_at hl 0 rfl) ?_
        refine va_get (D := D) (ci := 8) (v := .ref p6) (C := R_Mo) (T := T_Mo) (N := 17) hx hb hts i_Mo hown hK hP 0 rfl rfl 7 (by decide) (hts _ mw_558) (fun _ h9 => h9) rfl d_Mo_add_24 ?_
        refine lv_bipush (v := J (10)) hx hb d_Mo_add_27 (by decide) ?_
        refine lv_iload_n hx hb d_Mo_add_29 rfl (lv_at hl 1 rfl) ?_
        refine w_imul hx hb d_Mo_add_30 ((10 * w : Nat) : Int) (by omega) ?_
        refine lv_aload_n hx hb d_Mo_add_31 rfl (lv_at hl 0 rfl) ?_
        refine va_get (D := D) (ci := 8) (v := .ref p5) (C := R_Mo) (T := T_Mo) (N := 17) hx hb hts i_Mo hown hK hP 0 rfl rfl 6 (by decide) (hts _ mw_557) (fun _ h9 => h9) rfl d_Mo_add_32 ?_
        refine lv_iload_n hx hb d_Mo_add_35 rfl (lv_at hl 1 rfl) ?_
        refine w_iald hx hb hK hP 1 0 rfl rfl w (by omega) (by omega) (by omega) d_Mo_add_36 ?_
        refine w_iadd hx hb d_Mo_add_37 ((10 * w + (ln w).toNat : Nat) : Int) (by omega) ?_
        refine lv_iload_n hx hb d_Mo_add_38 rfl (lv_at hl 2 rfl) ?_
        refine w_iast hx hb hK hP hD hS 2 0 rfl rfl (10 * w + (ln w).toNat) (by omega) (by omega) (by omega) d_Mo_add_39 (fun H locs hP hD hS => ?_)
        have hP : va_P D classes [(o, .inr (8, [.int (J th), .int (J ((n : Nat) : Int)), .ref p1, .ref p2, .ref p3, .ref p4, .ref p5, .ref p6, .int (J ap), .ref p7, .int (J ((fn : Nat) : Int)), .ref p8, .ref p9, .int (J wk), .ref pA, .ref pB, .ref pC])), (p5, ca cI 123 ln), (p6, ca cI 1230 (iu gl (10 * w + (ln w).toNat) x))] H := hP
        have hD : va_D A [(o, .inr (8, [.int (J th), .int (J ((n : Nat) : Int)), .ref p1, .ref p2, .ref p3, .ref p4, .ref p5, .ref p6, .int (J ap), .ref p7, .int (J ((fn : Nat) : Int)), .ref p8, .ref p9, .int (J wk), .ref pA, .ref pB, .ref pC])), (p5, ca cI 123 ln), (p6, ca cI 1230 (iu gl (10 * w + (ln w).toNat) x))] := hD
        refine lv_aload_n hx hb d_Mo_add_40 rfl (lv_at hl 0 rfl) ?_
        refine va_get (D := D) (ci := 8) (v := .ref p5) (C := R_Mo) (T := T_Mo) (N := 17) hx hb hts i_Mo hown hK hP 0 rfl rfl 6 (by decide) (hts _ mw_557) (fun _ h9 => h9) rfl d_Mo_add_41 ?_
        refine lv_iload_n hx hb d_Mo_add_44 rfl (lv_at hl 1 rfl) ?_
        refine lv_dup2_11 hx hb d_Mo_add_45 rfl rfl ?_
        refine w_iald hx hb hK hP 1 0 rfl rfl w (by omega) (by omega) (by omega) d_Mo_add_46 ?_
        refine lv_iconst (v := J (1)) hx hb d_Mo_add_47 rfl ?_
        refine w_iadd hx hb d_Mo_add_48 ((ln w) + 1) (rfl) ?_
        refine w_iast hx hb hK hP hD hS 1 0 rfl rfl w (by omega) (by omega) (by omega) d_Mo_add_49 (fun H locs hP hD hS => ?_)
        have hP : va_P D classes [(o, .inr (8, [.int (J th), .int (J ((n : Nat) : Int)), .ref p1, .ref p2, .ref p3, .ref p4, .ref p5, .ref p6, .int (J ap), .ref p7, .int (J ((fn : Nat) : Int)), .ref p8, .ref p9, .int (J wk), .ref pA, .ref pB, .ref pC])), (p5, ca cI 123 (iu ln w ((ln w) + 1))), (p6, ca cI 1230 (iu gl (10 * w + (ln w).toNat) x))] H := hP
        have hD : va_D A [(o, .inr (8, [.int (J th), .int (J ((n : Nat) : Int)), .ref p1, .ref p2, .ref p3, .ref p4, .ref p5, .ref p6, .int (J ap), .ref p7, .int (J ((fn : Nat) : Int)), .ref p8, .ref p9, .int (J wk), .ref pA, .ref pB, .ref pC])), (p5, ca cI 123 (iu ln w ((ln w) + 1))), (p6, ca cI 1230 (iu gl (10 * w + (ln w).toNat) x))] := hD
        refine lv_iconst (v := J (1)) hx hb d_Mo_add_50 rfl ?_
        exact Mi_ret hx hb hr hlocks hQ d_Mo_add_51 hP hK hD hS (nb_z (by omega)) (by omega) () (trivial) [0, 1, 2] rfl (by decide)
      · exfalso; omega
set_option maxHeartbeats 1000000 in
set_option maxRecDepth 100000 in
theorem c_Mo_lesser (l : Launch) (D : va_G) (cI cZ cJ : ClassId) (a : Int) (b : Int) (ha : rg a) (hbb : rg b) : Ri l y_Mo_lesser w_Mo_lesser ({ frames := 0, cells := 0, slots := 0, locals := 0 }) D classes [(cI, .int), (cZ, .boolean), (cJ, .long)] [.int (J a), .int (J b)] [] (min a b) := by
  refine Ri_of (cc := b_Mo_lesser) (maxL := 2) (by decide) rfl (Nat.le_of_ble_eq_true rfl) ?_
  intro p e s m args below meth c hx hb hr hml hts hown hlocks hP hK Q hQ H hH ls hl
  rw [← hH] at hP
  have hl : lv_has ls 2 [(0, .int (J a)), (1, .int (J b))] := hl
  refine lv_iload_n hx hb d_Mo_lesser_0 rfl (lv_at hl 0 rfl) ?_
  refine lv_iload_n hx hb d_Mo_lesser_1 rfl (lv_at hl 1 rfl) ?_
  refine w_icmp_ge (tgt := 9) hx hb d_Mo_lesser_2 (by decide) (by omega) (by omega) (fun c_2 => ?_) (fun c_2 => ?_)
  · refine lv_iload_n hx hb d_Mo_lesser_9 rfl (lv_at hl 1 rfl) ?_
    exact Ri_ret hx hb hr hlocks hQ hH d_Mo_lesser_10 nb_i (by omega)
  · refine lv_iload_n hx hb d_Mo_lesser_5 rfl (lv_at hl 0 rfl) ?_
    refine lv_goto (tgt := 10) hx hb d_Mo_lesser_6 (by decide) ?_
    exact Ri_ret hx hb hr hlocks hQ hH d_Mo_lesser_10 nb_i (by omega)
def snM (c : Nat) : Int := ([-1, 1, 2, 3, -5, 1, 2, -8, -9, 2, 2, -12, 4, 4, -15, 1, 2, -18, 2, 3, -21, 1, -23, 2, -25, 2] : List Int).getD c 0
set_option maxHeartbeats 1000000 in
set_option maxRecDepth 100000 in
theorem c_Mo_sound (l : Launch) (D : va_G) (cI cZ cJ : ClassId) (z : Nat) (hz : z < 26) : Ri l y_Mo_sound w_Mo_sound ({ frames := 0, cells := 0, slots := 0, locals := 0 }) D classes [(cI, .int), (cZ, .boolean), (cJ, .long)] [.int (J ((z : Nat) : Int))] [] (snM z) := by
  refine Ri_of (cc := b_Mo_sound) (maxL := 1) (by decide) rfl (Nat.le_of_ble_eq_true rfl) ?_
  intro p e s m args below meth c hx hb hr hml hts hown hlocks hP hK Q hQ H hH ls hl
  rw [← hH] at hP
  have hl : lv_has ls 1 [(0, .int (J ((z : Nat) : Int)))] := hl
  refine lv_iload_n hx hb d_Mo_sound_0 rfl (lv_at hl 0 rfl) ?_
  rcases (show z = 1 ∨ z = 2 ∨ z = 3 ∨ z = 4 ∨ z = 5 ∨ z = 6 ∨ z = 7 ∨ z = 8 ∨ z = 9 ∨ z = 10 ∨ z = 11 ∨ z = 12 ∨ z = 13 ∨ z = 14 ∨ z = 15 ∨ z = 16 ∨ z = 17 ∨ z = 18 ∨ z = 19 ∨ z = 20 ∨ z = 21 ∨ z = 22 ∨ z = 23 ∨ z = 24 ∨ z = 25 ∨ (z < 1 ∨ 25 < z) by omega) with rfl | rfl | rfl | rfl | rfl | rfl | rfl | rfl | rfl | rfl | rfl | rfl | rfl | rfl | rfl | rfl | rfl | rfl | rfl | rfl | rfl | rfl | rfl | rfl | rfl | hz9
  · refine lv_tableIn (off := 115) (tgt := 116) hx hb d_Mo_sound_1 (by decide) (by decide) (by decide) (by decide) ?_
    refine lv_iconst (v := J (1)) hx hb d_Mo_sound_116 rfl ?_
    exact Ri_ret hx hb hr hlocks hQ hH d_Mo_sound_117 nb_i (rfl)
  · refine lv_tableIn (off := 117) (tgt := 118) hx hb d_Mo_sound_1 (by decide) (by decide) (by decide) (by decide) ?_
    refine lv_iconst (v := J (2)) hx hb d_Mo_sound_118 rfl ?_
    exact Ri_ret hx hb hr hlocks hQ hH d_Mo_sound_119 nb_i (rfl)
  · refine lv_tableIn (off := 119) (tgt := 120) hx hb d_Mo_sound_1 (by decide) (by decide) (by decide) (by decide) ?_
    refine lv_iconst (v := J (3)) hx hb d_Mo_sound_120 rfl ?_
    exact Ri_ret hx hb hr hlocks hQ hH d_Mo_sound_121 nb_i (rfl)
  · refine lv_tableIn (off := 123) (tgt := 124) hx hb d_Mo_sound_1 (by decide) (by decide) (by decide) (by decide) ?_
    refine lv_iconst (v := J (-1)) hx hb d_Mo_sound_124 rfl ?_
    refine lv_iload_n hx hb d_Mo_sound_125 rfl (lv_at hl 0 rfl) ?_
    refine w_isub hx hb d_Mo_sound_126 ((-1) - 4) (rfl) ?_
    exact Ri_ret hx hb hr hlocks hQ hH d_Mo_sound_127 nb_i (rfl)
  · refine lv_tableIn (off := 115) (tgt := 116) hx hb d_Mo_sound_1 (by decide) (by decide) (by decide) (by decide) ?_
    refine lv_iconst (v := J (1)) hx hb d_Mo_sound_116 rfl ?_
    exact Ri_ret hx hb hr hlocks hQ hH d_Mo_sound_117 nb_i (rfl)
  · refine lv_tableIn (off := 117) (tgt := 118) hx hb d_Mo_sound_1 (by decide) (by decide) (by decide) (by decide) ?_
    refine lv_iconst (v := J (2)) hx hb d_Mo_sound_118 rfl ?_
    exact Ri_ret hx hb hr hlocks hQ hH d_Mo_sound_119 nb_i (rfl)
  · refine lv_tableIn (off := 123) (tgt := 124) hx hb d_Mo_sound_1 (by decide) (by decide) (by decide) (by decide) ?_
    refine lv_iconst (v := J (-1)) hx hb d_Mo_sound_124 rfl ?_
    refine lv_iload_n hx hb d_Mo_sound_125 rfl (lv_at hl 0 rfl) ?_
    refine w_isub hx hb d_Mo_sound_126 ((-1) - 7) (rfl) ?_
    exact Ri_ret hx hb hr hlocks hQ hH d_Mo_sound_127 nb_i (rfl)
  · refine lv_tableIn (off := 123) (tgt := 124) hx hb d_Mo_sound_1 (by decide) (by decide) (by decide) (by decide) ?_
    refine lv_iconst (v := J (-1)) hx hb d_Mo_sound_124 rfl ?_
    refine lv_iload_n hx hb d_Mo_sound_125 rfl (lv_at hl 0 rfl) ?_
    refine w_isub hx hb d_Mo_sound_126 ((-1) - 8) (rfl) ?_
    exact Ri_ret hx hb hr hlocks hQ hH d_Mo_sound_127 nb_i (rfl)
  · refine lv_tableIn (off := 117) (tgt := 118) hx hb d_Mo_sound_1 (by decide) (by decide) (by decide) (by decide) ?_
    refine lv_iconst (v := J (2)) hx hb d_Mo_sound_118 rfl ?_
    exact Ri_ret hx hb hr hlocks hQ hH d_Mo_sound_119 nb_i (rfl)
  · refine lv_tableIn (off := 117) (tgt := 118) hx hb d_Mo_sound_1 (by decide) (by decide) (by decide) (by decide) ?_
    refine lv_iconst (v := J (2)) hx hb d_Mo_sound_118 rfl ?_
    exact Ri_ret hx hb hr hlocks hQ hH d_Mo_sound_119 nb_i (rfl)
  · refine lv_tableIn (off := 123) (tgt := 124) hx hb d_Mo_sound_1 (by decide) (by decide) (by decide) (by decide) ?_
    refine lv_iconst (v := J (-1)) hx hb d_Mo_sound_124 rfl ?_
    refine lv_iload_n hx hb d_Mo_sound_125 rfl (lv_at hl 0 rfl) ?_
    refine w_isub hx hb d_Mo_sound_126 ((-1) - 11) (rfl) ?_
    exact Ri_ret hx hb hr hlocks hQ hH d_Mo_sound_127 nb_i (rfl)
  · refine lv_tableIn (off := 121) (tgt := 122) hx hb d_Mo_sound_1 (by decide) (by decide) (by decide) (by decide) ?_
    refine lv_iconst (v := J (4)) hx hb d_Mo_sound_122 rfl ?_
    exact Ri_ret hx hb hr hlocks hQ hH d_Mo_sound_123 nb_i (rfl)
  · refine lv_tableIn (off := 121) (tgt := 122) hx hb d_Mo_sound_1 (by decide) (by decide) (by decide) (by decide) ?_
    refine lv_iconst (v := J (4)) hx hb d_Mo_sound_122 rfl ?_
    exact Ri_ret hx hb hr hlocks hQ hH d_Mo_sound_123 nb_i (rfl)
  · refine lv_tableIn (off := 123) (tgt := 124) hx hb d_Mo_sound_1 (by decide) (by decide) (by decide) (by decide) ?_
    refine lv_iconst (v := J (-1)) hx hb d_Mo_sound_124 rfl ?_
    refine lv_iload_n hx hb d_Mo_sound_125 rfl (lv_at hl 0 rfl) ?_
    refine w_isub hx hb d_Mo_sound_126 ((-1) - 14) (rfl) ?_
    exact Ri_ret hx hb hr hlocks hQ hH d_Mo_sound_127 nb_i (rfl)
  · refine lv_tableIn (off := 115) (tgt := 116) hx hb d_Mo_sound_1 (by decide) (by decide) (by decide) (by decide) ?_
    refine lv_iconst (v := J (1)) hx hb d_Mo_sound_116 rfl ?_
    exact Ri_ret hx hb hr hlocks hQ hH d_Mo_sound_117 nb_i (rfl)
  · refine lv_tableIn (off := 117) (tgt := 118) hx hb d_Mo_sound_1 (by decide) (by decide) (by decide) (by decide) ?_
    refine lv_iconst (v := J (2)) hx hb d_Mo_sound_118 rfl ?_
    exact Ri_ret hx hb hr hlocks hQ hH d_Mo_sound_119 nb_i (rfl)
  · refine lv_tableIn (off := 123) (tgt := 124) hx hb d_Mo_sound_1 (by decide) (by decide) (by decide) (by decide) ?_
    refine lv_iconst (v := J (-1)) hx hb d_Mo_sound_124 rfl ?_
    refine lv_iload_n hx hb d_Mo_sound_125 rfl (lv_at hl 0 rfl) ?_
    refine w_isub hx hb d_Mo_sound_126 ((-1) - 17) (rfl) ?_
    exact Ri_ret hx hb hr hlocks hQ hH d_Mo_sound_127 nb_i (rfl)
  · refine lv_tableIn (off := 117) (tgt := 118) hx hb d_Mo_sound_1 (by decide) (by decide) (by decide) (by decide) ?_
    refine lv_iconst (v := J (2)) hx hb d_Mo_sound_118 rfl ?_
    exact Ri_ret hx hb hr hlocks hQ hH d_Mo_sound_119 nb_i (rfl)
  · refine lv_tableIn (off := 119) (tgt := 120) hx hb d_Mo_sound_1 (by decide) (by decide) (by decide) (by decide) ?_
    refine lv_iconst (v := J (3)) hx hb d_Mo_sound_120 rfl ?_
    exact Ri_ret hx hb hr hlocks hQ hH d_Mo_sound_121 nb_i (rfl)
  · refine lv_tableIn (off := 123) (tgt := 124) hx hb d_Mo_sound_1 (by decide) (by decide) (by decide) (by decide) ?_
    refine lv_iconst (v := J (-1)) hx hb d_Mo_sound_124 rfl ?_
    refine lv_iload_n hx hb d_Mo_sound_125 rfl (lv_at hl 0 rfl) ?_
    refine w_isub hx hb d_Mo_sound_126 ((-1) - 20) (rfl) ?_
    exact Ri_ret hx hb hr hlocks hQ hH d_Mo_sound_127 nb_i (rfl)
  · refine lv_tableIn (off := 115) (tgt := 116) hx hb d_Mo_sound_1 (by decide) (by decide) (by decide) (by decide) ?_
    refine lv_iconst (v := J (1)) hx hb d_Mo_sound_116 rfl ?_
    exact Ri_ret hx hb hr hlocks hQ hH d_Mo_sound_117 nb_i (rfl)
  · refine lv_tableIn (off := 123) (tgt := 124) hx hb d_Mo_sound_1 (by decide) (by decide) (by decide) (by decide) ?_
    refine lv_iconst (v := J (-1)) hx hb d_Mo_sound_124 rfl ?_
    refine lv_iload_n hx hb d_Mo_sound_125 rfl (lv_at hl 0 rfl) ?_
    refine w_isub hx hb d_Mo_sound_126 ((-1) - 22) (rfl) ?_
    exact Ri_ret hx hb hr hlocks hQ hH d_Mo_sound_127 nb_i (rfl)
  · refine lv_tableIn (off := 117) (tgt := 118) hx hb d_Mo_sound_1 (by decide) (by decide) (by decide) (by decide) ?_
    refine lv_iconst (v := J (2)) hx hb d_Mo_sound_118 rfl ?_
    exact Ri_ret hx hb hr hlocks hQ hH d_Mo_sound_119 nb_i (rfl)
  · refine lv_tableIn (off := 123) (tgt := 124) hx hb d_Mo_sound_1 (by decide) (by decide) (by decide) (by decide) ?_
    refine lv_iconst (v := J (-1)) hx hb d_Mo_sound_124 rfl ?_
    refine lv_iload_n hx hb d_Mo_sound_125 rfl (lv_at hl 0 rfl) ?_
    refine w_isub hx hb d_Mo_sound_126 ((-1) - 24) (rfl) ?_
    exact Ri_ret hx hb hr hlocks hQ hH d_Mo_sound_127 nb_i (rfl)
  · refine lv_tableIn (off := 117) (tgt := 118) hx hb d_Mo_sound_1 (by decide) (by decide) (by decide) (by decide) ?_
    refine lv_iconst (v := J (2)) hx hb d_Mo_sound_118 rfl ?_
    exact Ri_ret hx hb hr hlocks hQ hH d_Mo_sound_119 nb_i (rfl)
  · refine lv_tableOut (tgt := 124) hx hb d_Mo_sound_1 (by rw [J_toInt (by omega)]; omega) (by decide) ?_
    refine lv_iconst (v := J (-1)) hx hb d_Mo_sound_124 rfl ?_
    refine lv_iload_n hx hb d_Mo_sound_125 rfl (lv_at hl 0 rfl) ?_
    refine w_isub hx hb d_Mo_sound_126 ((-1) - ((z : Nat) : Int)) (rfl) ?_
    exact Ri_ret hx hb hr hlocks hQ hH d_Mo_sound_127 nb_i (by have e : z = 0 := (by omega); subst e; rfl)
theorem sn_sd : ∀ a, a < 26 → ∀ b, b < 26 → (snM a = snM b ↔ sd a = sd b) := by decide +kernel
theorem sn_rg : ∀ a, a < 26 → -100 ≤ snM a ∧ snM a ≤ 100 := by decide +kernel
theorem xc_e (wt : Nat → Int) (a : Nat) : xc wt (a : Int) (a : Int) = 0 := if_pos rfl
theorem xc_m (wt : Nat → Int) {a b : Nat} (h : ¬ (a : Int) = (b : Int)) (h2 : sd a = sd b) : xc wt (a : Int) (b : Int) = min (wt 2) (wt 3) := by
  unfold xc
  rw [if_neg h, Int.toNat_natCast, Int.toNat_natCast, if_pos h2]
theorem xc_w (wt : Nat → Int) {a b : Nat} (h : ¬ (a : Int) = (b : Int)) (h2 : ¬ sd a = sd b) : xc wt (a : Int) (b : Int) = wt 2 := by
  unfold xc
  rw [if_neg h, Int.toNat_natCast, Int.toNat_natCast, if_neg h2]
set_option maxHeartbeats 1000000 in
set_option maxRecDepth 100000 in
theorem c_Mo_exchange (l : Launch) (D : va_G) (cI cZ cJ : ClassId) (o : Nat) (p1 : Nat) (p2 : Nat) (p3 : Nat) (p4 : Nat) (p5 : Nat) (p6 : Nat) (p7 : Nat) (p8 : Nat) (p9 : Nat) (pA : Nat) (pB : Nat) (pC : Nat) (th : Int) (n : Nat) (ap : Int) (fn : Nat) (wk : Int) (wt : Nat → Int) (a : Nat) (b : Nat) (hw : ∀ k, 0 ≤ wt k ∧ wt k ≤ 1000) (hab : a < 26 ∧ b < 26) : Ri l y_Mo_exchange w_Mo_exchange ({ frames := 1, cells := 0, slots := 0, locals := 21 }) D classes [(cI, .int), (cZ, .boolean), (cJ, .long)] [.ref o, .int (J ((a : Nat) : Int)), .int (J ((b : Nat) : Int))] [(o, .inr (8, [.int (J th), .int (J ((n : Nat) : Int)), .ref p1, .ref p2, .ref p3, .ref p4, .ref p5, .ref p6, .int (J ap), .ref p7, .int (J ((fn : Nat) : Int)), .ref p8, .ref p9, .int (J wk), .ref pA, .ref pB, .ref pC])), (p7, ca cI 6 wt)] (xc wt ((a : Nat) : Int) ((b : Nat) : Int)) := by
  refine Ri_of (cc := b_Mo_exchange) (maxL := 3) (by decide) rfl (Nat.le_of_ble_eq_true rfl) ?_
  intro p e s m args below meth c hx hb hr hml hts hown hlocks hP hK Q hQ H hH ls hl
  rw [← hH] at hP
  have hl : lv_has ls 3 [(0, .ref o), (1, .int (J ((a : Nat) : Int))), (2, .int (J ((b : Nat) : Int)))] := hl
  have w2 := hw 2
  have w3 := hw 3
  have s1 := sn_rg a hab.1
  have s2 := sn_rg b hab.2
  refine lv_iload_n hx hb d_Mo_exchange_0 rfl (lv_at hl 1 rfl) ?_
  refine lv_iload_n hx hb d_Mo_exchange_1 rfl (lv_at hl 2 rfl) ?_
  refine w_icmp_ne (tgt := 9) hx hb d_Mo_exchange_2 (by decide) (by omega) (by omega) (fun c_2 => ?_) (fun c_2 => ?_)
  · refine lv_iload_n hx hb d_Mo_exchange_9 rfl (lv_at hl 1 rfl) ?_
    refine Ri_call (va_runS (As := [.int (J ((a : Nat) : Int))]) (rest := []) ⟨hx, hb, hml, hown, hts⟩ (c_Mo_sound l D cI cZ cJ a (by first | with_reducible assumption | omega)) (va_cwS 1 hts (g_S mw_678 mw_679 mw_33 mw_680) rfl rfl rfl (by decide +kernel) ⟨Nat.le_of_ble_eq_true rfl, Nat.le_of_ble_eq_true rfl⟩) (pre_RS hP hK [] rfl) rfl rfl hl.1 rfl (lv_room (Nat.le_of_ble_eq_true rfl)) d_Mo_exchange_10 ⟨Nat.le_of_ble_eq_true rfl, Nat.le_of_ble_eq_true rfl⟩) ?_
    refine lv_iload_n hx hb d_Mo_exchange_13 rfl (lv_at hl 2 rfl) ?_
    refine Ri_call (va_runS (As := [.int (J ((b : Nat) : Int))]) (rest := [.int (J (snM a))]) ⟨hx, hb, hml, hown, hts⟩ (c_Mo_sound l D cI cZ cJ b (by first | with_reducible assumption | omega)) (va_cwS 1 hts (g_S mw_678 mw_679 mw_33 mw_680) rfl rfl rfl (by decide +kernel) ⟨Nat.le_of_ble_eq_true rfl, Nat.le_of_ble_eq_true rfl⟩) (pre_RS hP hK [] rfl) rfl rfl hl.1 rfl (lv_room (Nat.le_of_ble_eq_true rfl)) d_Mo_exchange_14 ⟨Nat.le_of_ble_eq_true rfl, Nat.le_of_ble_eq_true rfl⟩) ?_
    refine w_icmp_ne (tgt := 38) hx hb d_Mo_exchange_17 (by decide) (by omega) (by omega) (fun c_17 => ?_) (fun c_17 => ?_)
    · refine lv_aload_n hx hb d_Mo_exchange_38 rfl (lv_at hl 0 rfl) ?_
      refine va_get (D := D) (ci := 8) (v := .ref p7) (C := R_Mo) (T := T_Mo) (N := 17) hx hb hts i_Mo hown hK hP 0 rfl rfl 9 (by decide) (hts _ mw_560) (fun _ h9 => h9) rfl d_Mo_exchange_39 ?_
      refine lv_iconst (v := J (2)) hx hb d_Mo_exchange_42 rfl ?_
      refine w_iald hx hb hK hP 1 0 rfl rfl 2 (by omega) (by omega) (by omega) d_Mo_exchange_43 ?_
      exact Ri_ret hx hb hr hlocks hQ hH d_Mo_exchange_44 nb_i ((xc_w wt c_2 (fun z => c_17 ((sn_sd a hab.1 b hab.2).mpr z))).symm)
    · refine lv_aload_n hx hb d_Mo_exchange_20 rfl (lv_at hl 0 rfl) ?_
      refine va_get (D := D) (ci := 8) (v := .ref p7) (C := R_Mo) (T := T_Mo) (N := 17) hx hb hts i_Mo hown hK hP 0 rfl rfl 9 (by decide) (hts _ mw_560) (fun _ h9 => h9) rfl d_Mo_exchange_21 ?_
      refine lv_iconst (v := J (2)) hx hb d_Mo_exchange_24 rfl ?_
      refine w_iald hx hb hK hP 1 0 rfl rfl 2 (by omega) (by omega) (by omega) d_Mo_exchange_25 ?_
      refine lv_aload_n hx hb d_Mo_exchange_26 rfl (lv_at hl 0 rfl) ?_
      refine va_get (D := D) (ci := 8) (v := .ref p7) (C := R_Mo) (T := T_Mo) (N := 17) hx hb hts i_Mo hown hK hP 0 rfl rfl 9 (by decide) (hts _ mw_560) (fun _ h9 => h9) rfl d_Mo_exchange_27 ?_
      refine lv_iconst (v := J (3)) hx hb d_Mo_exchange_30 rfl ?_
      refine w_iald hx hb hK hP 1 0 rfl rfl 3 (by omega) (by omega) (by omega) d_Mo_exchange_31 ?_
      refine Ri_call (va_runS (As := [.int (J (wt 2)), .int (J (wt 3))]) (rest := []) ⟨hx, hb, hml, hown, hts⟩ (c_Mo_lesser l D cI cZ cJ (wt 2) (wt 3) (by first | with_reducible assumption | omega) (by first | with_reducible assumption | omega)) (va_cwS 2 hts (g_S mw_662 mw_663 mw_33 mw_664) rfl rfl rfl (by decide +kernel) ⟨Nat.le_of_ble_eq_true rfl, Nat.le_of_ble_eq_true rfl⟩) (pre_RS hP hK [] rfl) rfl rfl hl.1 rfl (lv_room (Nat.le_of_ble_eq_true rfl)) d_Mo_exchange_32 ⟨Nat.le_of_ble_eq_true rfl, Nat.le_of_ble_eq_true rfl⟩) ?_
      refine lv_goto (tgt := 44) hx hb d_Mo_exchange_35 (by decide) ?_
      exact Ri_ret hx hb hr hlocks hQ hH d_Mo_exchange_44 nb_i ((xc_m wt c_2 ((sn_sd a hab.1 b hab.2).mp c_17)).symm)
  · refine lv_iconst (v := J (0)) hx hb d_Mo_exchange_5 rfl ?_
    refine lv_goto (tgt := 44) hx hb d_Mo_exchange_6 (by decide) ?_
    exact Ri_ret hx hb hr hlocks hQ hH d_Mo_exchange_44 nb_i (by rw [show a = b by omega]; exact (xc_e wt b).symm)
set_option maxHeartbeats 1000000 in
set_option maxRecDepth 100000 in
theorem c_Mo_may (l : Launch) (D : va_G) (cI cZ cJ : ClassId) (o : Nat) (p1 : Nat) (p2 : Nat) (p3 : Nat) (p4 : Nat) (p5 : Nat) (p6 : Nat) (p7 : Nat) (p8 : Nat) (p9 : Nat) (pA : Nat) (pB : Nat) (pC : Nat) (th : Int) (n : Nat) (ap : Int) (fn : Nat) (wk : Int) (ln : Nat → Int) (en : Nat) (w : Nat) (d : Int) (hln : ∀ k, 0 ≤ ln k ∧ ln k ≤ 10) (hok : en < 40 ∧ w < 3 ∧ -1 ≤ d ∧ d ≤ 2) : Ri l y_Mo_may w_Mo_may ({ frames := 0, cells := 0, slots := 0, locals := 0 }) D classes [(cI, .int), (cZ, .boolean), (cJ, .long)] [.ref o, .int (J ((en : Nat) : Int)), .int (J ((w : Nat) : Int)), .int (J d)] [(o, .inr (8, [.int (J th), .int (J ((n : Nat) : Int)), .ref p1, .ref p2, .ref p3, .ref p4, .ref p5, .ref p6, .int (J ap), .ref p7, .int (J ((fn : Nat) : Int)), .ref p8, .ref p9, .int (J wk), .ref pA, .ref pB, .ref pC])), (p5, ca cI 123 ln)] (b2 (may (shf ln 120) (shf ln (3 * en)) w d)) := by
  refine Ri_of (cc := b_Mo_may) (maxL := 4) (by decide) rfl (Nat.le_of_ble_eq_true rfl) ?_
  intro p e s m args below meth c hx hb hr hml hts hown hlocks hP hK Q hQ H hH ls hl
  rw [← hH] at hP
  have hl : lv_has ls 4 [(0, .ref o), (1, .int (J ((en : Nat) : Int))), (2, .int (J ((w : Nat) : Int))), (3, .int (J d))] := hl
  have b1 := hln (120 + w)
  have b3 := hln (3 * en + d.toNat)
  refine lv_iload_n hx hb d_Mo_may_0 rfl (lv_at hl 3 rfl) ?_
  refine w_if_lt (tgt := 29) hx hb d_Mo_may_1 (by decide) (by omega) (fun c_1 => ?_) (fun c_1 => ?_)
  · refine lv_iconst (v := J (1)) hx hb d_Mo_may_29 rfl ?_
    refine lv_goto (tgt := 34) hx hb d_Mo_may_30 (by decide) ?_
    exact Ri_ret hx hb hr hlocks hQ hH d_Mo_may_34 (nb_z (by omega)) (by unfold b2 may shf; split <;> omega)
  · refine lv_aload_n hx hb d_Mo_may_4 rfl (lv_at hl 0 rfl) ?_
    refine va_get (D := D) (ci := 8) (v := .ref p5) (C := R_Mo) (T := T_Mo) (N := 17) hx hb hts i_Mo hown hK hP 0 rfl rfl 6 (by decide) (hts _ mw_557) (fun _ h9 => h9) rfl d_Mo_may_5 ?_
    refine lv_bipush (v := J (120)) hx hb d_Mo_may_8 (by decide) ?_
    refine lv_iload_n hx hb d_Mo_may_10 rfl (lv_at hl 2 rfl) ?_
    refine w_iadd hx hb d_Mo_may_11 ((120 + w : Nat) : Int) (by omega) ?_
    refine w_iald hx hb hK hP 1 0 rfl rfl (120 + w) (by omega) (by omega) (by omega) d_Mo_may_12 ?_
    refine w_if_le (tgt := 33) hx hb d_Mo_may_13 (by decide) (by omega) (fun c_13 => ?_) (fun c_13 => ?_)
    · refine lv_iconst (v := J (0)) hx hb d_Mo_may_33 rfl ?_
      exact Ri_ret hx hb hr hlocks hQ hH d_Mo_may_34 (nb_z (by omega)) (by unfold b2 may shf; split <;> omega)
    · refine lv_aload_n hx hb d_Mo_may_16 rfl (lv_at hl 0 rfl) ?_
      refine va_get (D := D) (ci := 8) (v := .ref p5) (C := R_Mo) (T := T_Mo) (N := 17) hx hb hts i_Mo hown hK hP 0 rfl rfl 6 (by decide) (hts _ mw_557) (fun _ h9 => h9) rfl d_Mo_may_17 ?_
      refine lv_iconst (v := J (3)) hx hb d_Mo_may_20 rfl ?_
      refine lv_iload_n hx hb d_Mo_may_21 rfl (lv_at hl 1 rfl) ?_
      refine w_imul hx hb d_Mo_may_22 ((3 * en : Nat) : Int) (by omega) ?_
      refine lv_iload_n hx hb d_Mo_may_23 rfl (lv_at hl 3 rfl) ?_
      refine w_iadd hx hb d_Mo_may_24 ((3 * en + d.toNat : Nat) : Int) (by omega) ?_
      refine w_iald hx hb hK hP 1 0 rfl rfl (3 * en + d.toNat) (by omega) (by omega) (by omega) d_Mo_may_25 ?_
      refine w_if_le (tgt := 33) hx hb d_Mo_may_26 (by decide) (by omega) (fun c_26 => ?_) (fun c_26 => ?_)
      · refine lv_iconst (v := J (0)) hx hb d_Mo_may_33 rfl ?_
        exact Ri_ret hx hb hr hlocks hQ hH d_Mo_may_34 (nb_z (by omega)) (by unfold b2 may shf; split <;> omega)
      · refine lv_iconst (v := J (1)) hx hb d_Mo_may_29 rfl ?_
        refine lv_goto (tgt := 34) hx hb d_Mo_may_30 (by decide) ?_
        exact Ri_ret hx hb hr hlocks hQ hH d_Mo_may_34 (nb_z (by omega)) (by unfold b2 may shf; split <;> omega)
set_option maxHeartbeats 1000000 in
set_option maxRecDepth 100000 in
theorem c_Mo_words (l : Launch) (D : va_G) (cI cZ cJ : ClassId) (o : Nat) (p1 : Nat) (p2 : Nat) (p3 : Nat) (p4 : Nat) (p5 : Nat) (p6 : Nat) (p7 : Nat) (p8 : Nat) (p9 : Nat) (pA : Nat) (pB : Nat) (pC : Nat) (th : Int) (n : Nat) (ap : Int) (fn : Nat) (wk : Int) (ln : Nat → Int) (f : Nat) (hln : ∀ k, 0 ≤ ln k ∧ ln k ≤ 10) (hf : f < 121) : Ri l y_Mo_words w_Mo_words ({ frames := 0, cells := 0, slots := 0, locals := 0 }) D classes [(cI, .int), (cZ, .boolean), (cJ, .long)] [.ref o, .int (J ((f : Nat) : Int))] [(o, .inr (8, [.int (J th), .int (J ((n : Nat) : Int)), .ref p1, .ref p2, .ref p3, .ref p4, .ref p5, .ref p6, .int (J ap), .ref p7, .int (J ((fn : Nat) : Int)), .ref p8, .ref p9, .int (J wk), .ref pA, .ref pB, .ref pC])), (p5, ca cI 123 ln)] (nw (shf ln f)) := by
  refine Ri_of (cc := b_Mo_words) (maxL := 2) (by decide) rfl (Nat.le_of_ble_eq_true rfl) ?_
  intro p e s m args below meth c hx hb hr hml hts hown hlocks hP hK Q hQ H hH ls hl
  rw [← hH] at hP
  have hl : lv_has ls 2 [(0, .ref o), (1, .int (J ((f : Nat) : Int)))] := hl
  have b0 := hln f
  have b1 := hln (f + 1)
  have b3 := hln (f + 2)
  refine lv_aload_n hx hb d_Mo_words_0 rfl (lv_at hl 0 rfl) ?_
  refine va_get (D := D) (ci := 8) (v := .ref p5) (C := R_Mo) (T := T_Mo) (N := 17) hx hb hts i_Mo hown hK hP 0 rfl rfl 6 (by decide) (hts _ mw_557) (fun _ h9 => h9) rfl d_Mo_words_1 ?_
  refine lv_iload_n hx hb d_Mo_words_4 rfl (lv_at hl 1 rfl) ?_
  refine w_iald hx hb hK hP 1 0 rfl rfl f (by omega) (by omega) (by omega) d_Mo_words_5 ?_
  refine w_if_le (tgt := 13) hx hb d_Mo_words_6 (by decide) (by omega) (fun c_6 => ?_) (fun c_6 => ?_)
  · refine lv_iconst (v := J (0)) hx hb d_Mo_words_13 rfl ?_
    refine lv_aload_n hx hb d_Mo_words_14 rfl (lv_at hl 0 rfl) ?_
    refine va_get (D := D) (ci := 8) (v := .ref p5) (C := R_Mo) (T := T_Mo) (N := 17) hx hb hts i_Mo hown hK hP 0 rfl rfl 6 (by decide) (hts _ mw_557) (fun _ h9 => h9) rfl d_Mo_words_15 ?_
    refine lv_iload_n hx hb d_Mo_words_18 rfl (lv_at hl 1 rfl) ?_
    refine lv_iconst (v := J (1)) hx hb d_Mo_words_19 rfl ?_
    refine w_iadd hx hb d_Mo_words_20 ((f + 1 : Nat) : Int) (by omega) ?_
    refine w_iald hx hb hK hP 1 0 rfl rfl (f + 1) (by omega) (by omega) (by omega) d_Mo_words_21 ?_
    refine w_if_le (tgt := 29) hx hb d_Mo_words_22 (by decide) (by omega) (fun c_22 => ?_) (fun c_22 => ?_)
    · refine lv_iconst (v := J (0)) hx hb d_Mo_words_29 rfl ?_
      refine w_iadd hx hb d_Mo_words_30 0 (by decide) ?_
      refine lv_aload_n hx hb d_Mo_words_31 rfl (lv_at hl 0 rfl) ?_
      refine va_get (D := D) (ci := 8) (v := .ref p5) (C := R_Mo) (T := T_Mo) (N := 17) hx hb hts i_Mo hown hK hP 0 rfl rfl 6 (by decide) (hts _ mw_557) (fun _ h9 => h9) rfl d_Mo_words_32 ?_
      refine lv_iload_n hx hb d_Mo_words_35 rfl (lv_at hl 1 rfl) ?_
      refine lv_iconst (v := J (2)) hx hb d_Mo_words_36 rfl ?_
      refine w_iadd hx hb d_Mo_words_37 ((f + 2 : Nat) : Int) (by omega) ?_
      refine w_iald hx hb hK hP 1 0 rfl rfl (f + 2) (by omega) (by omega) (by omega) d_Mo_words_38 ?_
      refine w_if_le (tgt := 46) hx hb d_Mo_words_39 (by decide) (by omega) (fun c_39 => ?_) (fun c_39 => ?_)
      · refine lv_iconst (v := J (0)) hx hb d_Mo_words_46 rfl ?_
        refine w_iadd hx hb d_Mo_words_47 0 (by decide) ?_
        exact Ri_ret hx hb hr hlocks hQ hH d_Mo_words_48 nb_i (by unfold nw b2 shf; rw [Nat.add_zero]; (repeat' split) <;> omega)
      · refine lv_iconst (v := J (1)) hx hb d_Mo_words_42 rfl ?_
        refine lv_goto (tgt := 47) hx hb d_Mo_words_43 (by decide) ?_
        refine w_iadd hx hb d_Mo_words_47 1 (by decide) ?_
        exact Ri_ret hx hb hr hlocks hQ hH d_Mo_words_48 nb_i (by unfold nw b2 shf; rw [Nat.add_zero]; (repeat' split) <;> omega)
    · refine lv_iconst (v := J (1)) hx hb d_Mo_words_25 rfl ?_
      refine lv_goto (tgt := 30) hx hb d_Mo_words_26 (by decide) ?_
      refine w_iadd hx hb d_Mo_words_30 1 (by decide) ?_
      refine lv_aload_n hx hb d_Mo_words_31 rfl (lv_at hl 0 rfl) ?_
      refine va_get (D := D) (ci := 8) (v := .ref p5) (C := R_Mo) (T := T_Mo) (N := 17) hx hb hts i_Mo hown hK hP 0 rfl rfl 6 (by decide) (hts _ mw_557) (fun _ h9 => h9) rfl d_Mo_words_32 ?_
      refine lv_iload_n hx hb d_Mo_words_35 rfl (lv_at hl 1 rfl) ?_
      refine lv_iconst (v := J (2)) hx hb d_Mo_words_36 rfl ?_
      refine w_iadd hx hb d_Mo_words_37 ((f + 2 : Nat) : Int) (by omega) ?_
      refine w_iald hx hb hK hP 1 0 rfl rfl (f + 2) (by omega) (by omega) (by omega) d_Mo_words_38 ?_
      refine w_if_le (tgt := 46) hx hb d_Mo_words_39 (by decide) (by omega) (fun c_39 => ?_) (fun c_39 => ?_)
      · refine lv_iconst (v := J (0)) hx hb d_Mo_words_46 rfl ?_
        refine w_iadd hx hb d_Mo_words_47 1 (by decide) ?_
        exact Ri_ret hx hb hr hlocks hQ hH d_Mo_words_48 nb_i (by unfold nw b2 shf; rw [Nat.add_zero]; (repeat' split) <;> omega)
      · refine lv_iconst (v := J (1)) hx hb d_Mo_words_42 rfl ?_
        refine lv_goto (tgt := 47) hx hb d_Mo_words_43 (by decide) ?_
        refine w_iadd hx hb d_Mo_words_47 2 (by decide) ?_
        exact Ri_ret hx hb hr hlocks hQ hH d_Mo_words_48 nb_i (by unfold nw b2 shf; rw [Nat.add_zero]; (repeat' split) <;> omega)
  · refine lv_iconst (v := J (1)) hx hb d_Mo_words_9 rfl ?_
    refine lv_goto (tgt := 14) hx hb d_Mo_words_10 (by decide) ?_
    refine lv_aload_n hx hb d_Mo_words_14 rfl (lv_at hl 0 rfl) ?_
    refine va_get (D := D) (ci := 8) (v := .ref p5) (C := R_Mo) (T := T_Mo) (N := 17) hx hb hts i_Mo hown hK hP 0 rfl rfl 6 (by decide) (hts _ mw_557) (fun _ h9 => h9) rfl d_Mo_words_15 ?_
    refine lv_iload_n hx hb d_Mo_words_18 rfl (lv_at hl 1 rfl) ?_
    refine lv_iconst (v := J (1)) hx hb d_Mo_words_19 rfl ?_
    refine w_iadd hx hb d_Mo_words_20 ((f + 1 : Nat) : Int) (by omega) ?_
    refine w_iald hx hb hK hP 1 0 rfl rfl (f + 1) (by omega) (by omega) (by omega) d_Mo_words_21 ?_
    refine w_if_le (tgt := 29) hx hb d_Mo_words_22 (by decide) (by omega) (fun c_22 => ?_) (fun c_22 => ?_)
    · refine lv_iconst (v := J (0)) hx hb d_Mo_words_29 rfl ?_
      refine w_iadd hx hb d_Mo_words_30 1 (by decide) ?_
      refine lv_aload_n hx hb d_Mo_words_31 rfl (lv_at hl 0 rfl) ?_
      refine va_get (D := D) (ci := 8) (v := .ref p5) (C := R_Mo) (T := T_Mo) (N := 17) hx hb hts i_Mo hown hK hP 0 rfl rfl 6 (by decide) (hts _ mw_557) (fun _ h9 => h9) rfl d_Mo_words_32 ?_
      refine lv_iload_n hx hb d_Mo_words_35 rfl (lv_at hl 1 rfl) ?_
      refine lv_iconst (v := J (2)) hx hb d_Mo_words_36 rfl ?_
      refine w_iadd hx hb d_Mo_words_37 ((f + 2 : Nat) : Int) (by omega) ?_
      refine w_iald hx hb hK hP 1 0 rfl rfl (f + 2) (by omega) (by omega) (by omega) d_Mo_words_38 ?_
      refine w_if_le (tgt := 46) hx hb d_Mo_words_39 (by decide) (by omega) (fun c_39 => ?_) (fun c_39 => ?_)
      · refine lv_iconst (v := J (0)) hx hb d_Mo_words_46 rfl ?_
        refine w_iadd hx hb d_Mo_words_47 1 (by decide) ?_
        exact Ri_ret hx hb hr hlocks hQ hH d_Mo_words_48 nb_i (by unfold nw b2 shf; rw [Nat.add_zero]; (repeat' split) <;> omega)
      · refine lv_iconst (v := J (1)) hx hb d_Mo_words_42 rfl ?_
        refine lv_goto (tgt := 47) hx hb d_Mo_words_43 (by decide) ?_
        refine w_iadd hx hb d_Mo_words_47 2 (by decide) ?_
        exact Ri_ret hx hb hr hlocks hQ hH d_Mo_words_48 nb_i (by unfold nw b2 shf; rw [Nat.add_zero]; (repeat' split) <;> omega)
    · refine lv_iconst (v := J (1)) hx hb d_Mo_words_25 rfl ?_
      refine lv_goto (tgt := 30) hx hb d_Mo_words_26 (by decide) ?_
      refine w_iadd hx hb d_Mo_words_30 2 (by decide) ?_
      refine lv_aload_n hx hb d_Mo_words_31 rfl (lv_at hl 0 rfl) ?_
      refine va_get (D := D) (ci := 8) (v := .ref p5) (C := R_Mo) (T := T_Mo) (N := 17) hx hb hts i_Mo hown hK hP 0 rfl rfl 6 (by decide) (hts _ mw_557) (fun _ h9 => h9) rfl d_Mo_words_32 ?_
      refine lv_iload_n hx hb d_Mo_words_35 rfl (lv_at hl 1 rfl) ?_
      refine lv_iconst (v := J (2)) hx hb d_Mo_words_36 rfl ?_
      refine w_iadd hx hb d_Mo_words_37 ((f + 2 : Nat) : Int) (by omega) ?_
      refine w_iald hx hb hK hP 1 0 rfl rfl (f + 2) (by omega) (by omega) (by omega) d_Mo_words_38 ?_
      refine w_if_le (tgt := 46) hx hb d_Mo_words_39 (by decide) (by omega) (fun c_39 => ?_) (fun c_39 => ?_)
      · refine lv_iconst (v := J (0)) hx hb d_Mo_words_46 rfl ?_
        refine w_iadd hx hb d_Mo_words_47 2 (by decide) ?_
        exact Ri_ret hx hb hr hlocks hQ hH d_Mo_words_48 nb_i (by unfold nw b2 shf; rw [Nat.add_zero]; (repeat' split) <;> omega)
      · refine lv_iconst (v := J (1)) hx hb d_Mo_words_42 rfl ?_
        refine lv_goto (tgt := 47) hx hb d_Mo_words_43 (by decide) ?_
        refine w_iadd hx hb d_Mo_words_47 3 (by decide) ?_
        exact Ri_ret hx hb hr hlocks hQ hH d_Mo_words_48 nb_i (by unfold nw b2 shf; rw [Nat.add_zero]; (repeat' split) <;> omega)
set_option maxHeartbeats 1000000 in
set_option maxRecDepth 100000 in
theorem c_Mo_cost (l : Launch) (D : va_G) (cI cZ cJ : ClassId) (o : Nat) (p1 : Nat) (p2 : Nat) (p3 : Nat) (p4 : Nat) (p5 : Nat) (p6 : Nat) (p7 : Nat) (p8 : Nat) (p9 : Nat) (pA : Nat) (pB : Nat) (pC : Nat) (th : Int) (n : Nat) (ap : Int) (fn : Nat) (wk : Int) (cm : Nat → Int) (w : Nat) (d : Int) (hok : w < 3 ∧ -1 ≤ d ∧ d ≤ 2) : Ri l y_Mo_cost w_Mo_cost ({ frames := 0, cells := 0, slots := 0, locals := 0 }) D classes [(cI, .int), (cZ, .boolean), (cJ, .long)] [.ref o, .int (J ((w : Nat) : Int)), .int (J d)] [(o, .inr (8, [.int (J th), .int (J ((n : Nat) : Int)), .ref p1, .ref p2, .ref p3, .ref p4, .ref p5, .ref p6, .int (J ap), .ref p7, .int (J ((fn : Nat) : Int)), .ref p8, .ref p9, .int (J wk), .ref pA, .ref pB, .ref pC])), (pB, ca cI 9 cm)] (csv cm w d) := by
  refine Ri_of (cc := b_Mo_cost) (maxL := 3) (by decide) rfl (Nat.le_of_ble_eq_true rfl) ?_
  intro p e s m args below meth c hx hb hr hml hts hown hlocks hP hK Q hQ H hH ls hl
  rw [← hH] at hP
  have hl : lv_has ls 3 [(0, .ref o), (1, .int (J ((w : Nat) : Int))), (2, .int (J d))] := hl
  refine lv_iload_n hx hb d_Mo_cost_0 rfl (lv_at hl 2 rfl) ?_
  refine w_if_ge (tgt := 8) hx hb d_Mo_cost_1 (by decide) (by omega) (fun c_1 => ?_) (fun c_1 => ?_)
  · refine lv_aload_n hx hb d_Mo_cost_8 rfl (lv_at hl 0 rfl) ?_
    refine va_get (D := D) (ci := 8) (v := .ref pB) (C := R_Mo) (T := T_Mo) (N := 17) hx hb hts i_Mo hown hK hP 0 rfl rfl 15 (by decide) (hts _ mw_566) (fun _ h9 => h9) rfl d_Mo_cost_9 ?_
    refine lv_iconst (v := J (3)) hx hb d_Mo_cost_12 rfl ?_
    refine lv_iload_n hx hb d_Mo_cost_13 rfl (lv_at hl 1 rfl) ?_
    refine w_imul hx hb d_Mo_cost_14 ((3 * w : Nat) : Int) (by omega) ?_
    refine lv_iload_n hx hb d_Mo_cost_15 rfl (lv_at hl 2 rfl) ?_
    refine w_iadd hx hb d_Mo_cost_16 ((3 * w + d.toNat : Nat) : Int) (by omega) ?_
    refine w_iald hx hb hK hP 1 0 rfl rfl (3 * w + d.toNat) (by omega) (by omega) (by omega) d_Mo_cost_17 ?_
    exact Ri_ret hx hb hr hlocks hQ hH d_Mo_cost_18 nb_i ((csv_p (by omega)).symm)
  · refine lv_iconst (v := J (0)) hx hb d_Mo_cost_4 rfl ?_
    refine lv_goto (tgt := 18) hx hb d_Mo_cost_5 (by decide) ?_
    exact Ri_ret hx hb hr hlocks hQ hH d_Mo_cost_18 nb_i ((csv_n (by omega)).symm)
set_option maxHeartbeats 1000000 in
set_option maxRecDepth 100000 in
theorem c_Mo_turned (l : Launch) (D : va_G) (cI cZ cJ : ClassId) (a : Int) (b : Int) (ha : rg a) (hbb : rg b) : Ri l y_Mo_turned w_Mo_turned ({ frames := 0, cells := 0, slots := 0, locals := 0 }) D classes [(cI, .int), (cZ, .boolean), (cJ, .long)] [.int (J a), .int (J b)] [] (trn a b) := by
  refine Ri_of (cc := b_Mo_turned) (maxL := 2) (by decide) rfl (Nat.le_of_ble_eq_true rfl) ?_
  intro p e s m args below meth c hx hb hr hml hts hown hlocks hP hK Q hQ H hH ls hl
  rw [← hH] at hP
  have hl : lv_has ls 2 [(0, .int (J a)), (1, .int (J b))] := hl
  refine lv_iload_n hx hb d_Mo_turned_0 rfl (lv_at hl 0 rfl) ?_
  refine w_if_lt (tgt := 17) hx hb d_Mo_turned_1 (by decide) (by omega) (fun c_1 => ?_) (fun c_1 => ?_)
  · refine lv_iconst (v := J (0)) hx hb d_Mo_turned_17 rfl ?_
    exact Ri_ret hx hb hr hlocks hQ hH d_Mo_turned_18 nb_i (by unfold trn; split <;> omega)
  · refine lv_iload_n hx hb d_Mo_turned_4 rfl (lv_at hl 1 rfl) ?_
    refine w_if_lt (tgt := 17) hx hb d_Mo_turned_5 (by decide) (by omega) (fun c_5 => ?_) (fun c_5 => ?_)
    · refine lv_iconst (v := J (0)) hx hb d_Mo_turned_17 rfl ?_
      exact Ri_ret hx hb hr hlocks hQ hH d_Mo_turned_18 nb_i (by unfold trn; split <;> omega)
    · refine lv_iload_n hx hb d_Mo_turned_8 rfl (lv_at hl 0 rfl) ?_
      refine lv_iload_n hx hb d_Mo_turned_9 rfl (lv_at hl 1 rfl) ?_
      refine w_icmp_le (tgt := 17) hx hb d_Mo_turned_10 (by decide) (by omega) (by omega) (fun c_10 => ?_) (fun c_10 => ?_)
      · refine lv_iconst (v := J (0)) hx hb d_Mo_turned_17 rfl ?_
        exact Ri_ret hx hb hr hlocks hQ hH d_Mo_turned_18 nb_i (by unfold trn; split <;> omega)
      · refine lv_iconst (v := J (1)) hx hb d_Mo_turned_13 rfl ?_
        refine lv_goto (tgt := 18) hx hb d_Mo_turned_14 (by decide) ?_
        exact Ri_ret hx hb hr hlocks hQ hH d_Mo_turned_18 nb_i (by unfold trn; split <;> omega)
set_option maxHeartbeats 1000000 in
set_option maxRecDepth 100000 in
theorem c_Mo_isAsked (l : Launch) (D : va_G) (cI cZ cJ : ClassId) (o : Nat) (p1 : Nat) (p2 : Nat) (p3 : Nat) (p4 : Nat) (p5 : Nat) (p6 : Nat) (p7 : Nat) (p8 : Nat) (p9 : Nat) (pA : Nat) (pB : Nat) (pC : Nat) (th : Int) (n : Nat) (ap : Int) (fn : Nat) (wk : Int) (pl : Nat → Int) (dr : Nat → Int) (en : Nat) (hen : en < 40) (hdr : ∀ k, 0 ≤ dr k ∧ dr k ≤ 1) (hpl : ∀ k, 0 ≤ pl k ∧ pl k < 1000) (hap : -1 ≤ ap ∧ ap < 1000) : Ri l y_Mo_isAsked w_Mo_isAsked ({ frames := 0, cells := 0, slots := 0, locals := 0 }) D classes [(cI, .int), (cZ, .boolean), (cJ, .long)] [.ref o, .int (J ((en : Nat) : Int))] [(o, .inr (8, [.int (J th), .int (J ((n : Nat) : Int)), .ref p1, .ref p2, .ref p3, .ref p4, .ref p5, .ref p6, .int (J ap), .ref p7, .int (J ((fn : Nat) : Int)), .ref p8, .ref p9, .int (J wk), .ref pA, .ref pB, .ref pC])), (p1, ca cI 40 pl), (p4, ca cZ 40 dr)] (b2 (dr en = 0 ∧ (ap = -1 ∨ ap = pl en))) := by
  refine Ri_of (cc := b_Mo_isAsked) (maxL := 2) (by decide) rfl (Nat.le_of_ble_eq_true rfl) ?_
  intro p e s m args below meth c hx hb hr hml hts hown hlocks hP hK Q hQ H hH ls hl
  rw [← hH] at hP
  have hl : lv_has ls 2 [(0, .ref o), (1, .int (J ((en : Nat) : Int)))] := hl
  have r1 := hdr en
  have r2 := hpl en
  refine lv_aload_n hx hb d_Mo_isAsked_0 rfl (lv_at hl 0 rfl) ?_
  refine va_get (D := D) (ci := 8) (v := .ref p4) (C := R_Mo) (T := T_Mo) (N := 17) hx hb hts i_Mo hown hK hP 0 rfl rfl 5 (by decide) (hts _ mw_556) (fun _ h9 => h9) rfl d_Mo_isAsked_1 ?_
  refine lv_iload_n hx hb d_Mo_isAsked_4 rfl (lv_at hl 1 rfl) ?_
  refine w_zald hx hb hK hP 2 1 rfl rfl en (by omega) (by omega) (by omega) d_Mo_isAsked_5 ?_
  refine w_if_ne (tgt := 33) hx hb d_Mo_isAsked_6 (by decide) (by omega) (fun c_6 => ?_) (fun c_6 => ?_)
  · refine lv_iconst (v := J (0)) hx hb d_Mo_isAsked_33 rfl ?_
    exact Ri_ret hx hb hr hlocks hQ hH d_Mo_isAsked_34 (nb_z (by omega)) (by unfold b2; split <;> omega)
  · refine lv_aload_n hx hb d_Mo_isAsked_9 rfl (lv_at hl 0 rfl) ?_
    refine va_get (D := D) (ci := 8) (v := .int (J ap)) (C := R_Mo) (T := T_Mo) (N := 17) hx hb hts i_Mo hown hK hP 0 rfl rfl 8 (by decide) (hts _ mw_559) (fun _ h9 => h9) rfl d_Mo_isAsked_10 ?_
    refine w_if_lt (tgt := 29) hx hb d_Mo_isAsked_13 (by decide) (by omega) (fun c_13 => ?_) (fun c_13 => ?_)
    · refine lv_iconst (v := J (1)) hx hb d_Mo_isAsked_29 rfl ?_
      refine lv_goto (tgt := 34) hx hb d_Mo_isAsked_30 (by decide) ?_
      exact Ri_ret hx hb hr hlocks hQ hH d_Mo_isAsked_34 (nb_z (by omega)) (by unfold b2; split <;> omega)
    · refine lv_aload_n hx hb d_Mo_isAsked_16 rfl (lv_at hl 0 rfl) ?_
      refine va_get (D := D) (ci := 8) (v := .ref p1) (C := R_Mo) (T := T_Mo) (N := 17) hx hb hts i_Mo hown hK hP 0 rfl rfl 2 (by decide) (hts _ mw_553) (fun _ h9 => h9) rfl d_Mo_isAsked_17 ?_
      refine lv_iload_n hx hb d_Mo_isAsked_20 rfl (lv_at hl 1 rfl) ?_
      refine w_iald hx hb hK hP 1 0 rfl rfl en (by omega) (by omega) (by omega) d_Mo_isAsked_21 ?_
      refine lv_aload_n hx hb d_Mo_isAsked_22 rfl (lv_at hl 0 rfl) ?_
      refine va_get (D := D) (ci := 8) (v := .int (J ap)) (C := R_Mo) (T := T_Mo) (N := 17) hx hb hts i_Mo hown hK hP 0 rfl rfl 8 (by decide) (hts _ mw_559) (fun _ h9 => h9) rfl d_Mo_isAsked_23 ?_
      refine w_icmp_ne (tgt := 33) hx hb d_Mo_isAsked_26 (by decide) (by omega) (by omega) (fun c_26 => ?_) (fun c_26 => ?_)
      · refine lv_iconst (v := J (0)) hx hb d_Mo_isAsked_33 rfl ?_
        exact Ri_ret hx hb hr hlocks hQ hH d_Mo_isAsked_34 (nb_z (by omega)) (by unfold b2; split <;> omega)
      · refine lv_iconst (v := J (1)) hx hb d_Mo_isAsked_29 rfl ?_
        refine lv_goto (tgt := 34) hx hb d_Mo_isAsked_30 (by decide) ?_
        exact Ri_ret hx hb hr hlocks hQ hH d_Mo_isAsked_34 (nb_z (by omega)) (by unfold b2; split <;> omega)
set_option maxHeartbeats 1000000 in
set_option maxRecDepth 100000 in
theorem c_Mo_isBefore (l : Launch) (D : va_G) (cI cZ cJ : ClassId) (o : Nat) (p1 : Nat) (p2 : Nat) (p3 : Nat) (p4 : Nat) (p5 : Nat) (p6 : Nat) (p7 : Nat) (p8 : Nat) (p9 : Nat) (pA : Nat) (pB : Nat) (pC : Nat) (th : Int) (n : Nat) (ap : Int) (fn : Nat) (wk : Int) (dy : Nat → Int) (fe : Nat → Int) (fs : Nat → Int) (en : Nat) (z : Int) (i : Nat) (hen : en < 40) (hz : rg z) (hi : i < 40) (hdy : ∀ j, -1 ≤ dy j ∧ dy j ≤ 100000) (hfe : 0 ≤ fe i ∧ fe i < (en : Int)) (hfs : ∀ j, rg (fs j)) : Ri l y_Mo_isBefore w_Mo_isBefore ({ frames := 0, cells := 0, slots := 0, locals := 0 }) D classes [(cI, .int), (cZ, .boolean), (cJ, .long)] [.ref o, .int (J ((en : Nat) : Int)), .int (J z), .int (J ((i : Nat) : Int))] [(o, .inr (8, [.int (J th), .int (J ((n : Nat) : Int)), .ref p1, .ref p2, .ref p3, .ref p4, .ref p5, .ref p6, .int (J ap), .ref p7, .int (J ((fn : Nat) : Int)), .ref p8, .ref p9, .int (J wk), .ref pA, .ref pB, .ref pC])), (p2, ca cI 40 dy), (p8, ca cI 40 fe), (p9, ca cI 40 fs)] (b2 (nr fs (fun t => dy (fe t).toNat) z (dy en) i)) := by
  refine Ri_of (cc := b_Mo_isBefore) (maxL := 5) (by decide) rfl (Nat.le_of_ble_eq_true rfl) ?_
  intro p e s m args below meth c hx hb hr hml hts hown hlocks hP hK Q hQ H hH ls hl
  rw [← hH] at hP
  have hl : lv_has ls 5 [(0, .ref o), (1, .int (J ((en : Nat) : Int))), (2, .int (J z)), (3, .int (J ((i : Nat) : Int)))] := hl
  have r1 := hdy en
  have r2 := hdy (fe i).toNat
  have r3 := hfs i
  refine lv_aload_n hx hb d_Mo_isBefore_0 rfl (lv_at hl 0 rfl) ?_
  refine va_get (D := D) (ci := 8) (v := .ref p8) (C := R_Mo) (T := T_Mo) (N := 17) hx hb hts i_Mo hown hK hP 0 rfl rfl 11 (by decide) (hts _ mw_562) (fun _ h9 => h9) rfl d_Mo_isBefore_1 ?_
  refine lv_iload_n hx hb d_Mo_isBefore_4 rfl (lv_at hl 3 rfl) ?_
  refine w_iald hx hb hK hP 2 0 rfl rfl i (by omega) (by omega) (by omega) d_Mo_isBefore_5 ?_
  refine lv_istore (lv' := [(4, .int (J (fe i))), (0, .ref o), (1, .int (J ((en : Nat) : Int))), (2, .int (J z)), (3, .int (J ((i : Nat) : Int)))]) hx hb d_Mo_isBefore_6 hl (by decide) rfl (fun ls hl => ?_)
  refine lv_iload_n hx hb d_Mo_isBefore_8 rfl (lv_at hl 3 rfl) ?_
  refine lv_aload_n hx hb d_Mo_isBefore_9 rfl (lv_at hl 1 rfl) ?_
  refine va_get (D := D) (ci := 8) (v := .ref p9) (C := R_Mo) (T := T_Mo) (N := 17) hx hb hts i_Mo hown hK hP 0 rfl rfl 12 (by decide) (hts _ mw_563) (fun _ h9 => h9) rfl d_Mo_isBefore_10 ?_
  refine lv_iload_n hx hb d_Mo_isBefore_13 rfl (lv_at hl 4 rfl) ?_
  refine w_iald hx hb hK hP 3 0 rfl rfl i (by omega) (by omega) (by omega) d_Mo_isBefore_14 ?_
  refine w_icmp_eq (tgt := 34) hx hb d_Mo_isBefore_15 (by decide) (by omega) (by omega) (fun c_15 => ?_) (fun c_15 => ?_)
  · refine lv_aload_n hx hb d_Mo_isBefore_34 rfl (lv_at hl 1 rfl) ?_
    refine va_get (D := D) (ci := 8) (v := .ref p2) (C := R_Mo) (T := T_Mo) (N := 17) hx hb hts i_Mo hown hK hP 0 rfl rfl 3 (by decide) (hts _ mw_554) (fun _ h9 => h9) rfl d_Mo_isBefore_35 ?_
    refine lv_iload_n hx hb d_Mo_isBefore_38 rfl (lv_at hl 2 rfl) ?_
    refine w_iald hx hb hK hP 1 0 rfl rfl en (by omega) (by omega) (by omega) d_Mo_isBefore_39 ?_
    refine lv_aload_n hx hb d_Mo_isBefore_40 rfl (lv_at hl 1 rfl) ?_
    refine va_get (D := D) (ci := 8) (v := .ref p2) (C := R_Mo) (T := T_Mo) (N := 17) hx hb hts i_Mo hown hK hP 0 rfl rfl 3 (by decide) (hts _ mw_554) (fun _ h9 => h9) rfl d_Mo_isBefore_41 ?_
    refine lv_iload hx hb d_Mo_isBefore_44 (lv_at hl 0 rfl) ?_
    refine w_iald hx hb hK hP 1 0 rfl rfl ((fe i).toNat) (by omega) (by omega) (by omega) d_Mo_isBefore_46 ?_
    refine w_icmp_eq (tgt := 74) hx hb d_Mo_isBefore_47 (by decide) (by omega) (by omega) (fun c_47 => ?_) (fun c_47 => ?_)
    · refine lv_iload_n hx hb d_Mo_isBefore_74 rfl (lv_at hl 2 rfl) ?_
      refine lv_iload hx hb d_Mo_isBefore_75 (lv_at hl 0 rfl) ?_
      refine w_icmp_ge (tgt := 84) hx hb d_Mo_isBefore_77 (by decide) (by omega) (by omega) (fun c_77 => ?_) (fun c_77 => ?_)
      · refine lv_iconst (v := J (0)) hx hb d_Mo_isBefore_84 rfl ?_
        exact Ri_ret hx hb hr hlocks hQ hH d_Mo_isBefore_85 (nb_z (by omega)) (by unfold b2 nr; dsimp only; split <;> omega)
      · refine lv_iconst (v := J (1)) hx hb d_Mo_isBefore_80 rfl ?_
        refine lv_goto (tgt := 85) hx hb d_Mo_isBefore_81 (by decide) ?_
        exact Ri_ret hx hb hr hlocks hQ hH d_Mo_isBefore_85 (nb_z (by omega)) (by unfold b2 nr; dsimp only; split <;> omega)
    · refine lv_aload_n hx hb d_Mo_isBefore_50 rfl (lv_at hl 1 rfl) ?_
      refine va_get (D := D) (ci := 8) (v := .ref p2) (C := R_Mo) (T := T_Mo) (N := 17) hx hb hts i_Mo hown hK hP 0 rfl rfl 3 (by decide) (hts _ mw_554) (fun _ h9 => h9) rfl d_Mo_isBefore_51 ?_
      refine lv_iload_n hx hb d_Mo_isBefore_54 rfl (lv_at hl 2 rfl) ?_
      refine w_iald hx hb hK hP 1 0 rfl rfl en (by omega) (by omega) (by omega) d_Mo_isBefore_55 ?_
      refine lv_aload_n hx hb d_Mo_isBefore_56 rfl (lv_at hl 1 rfl) ?_
      refine va_get (D := D) (ci := 8) (v := .ref p2) (C := R_Mo) (T := T_Mo) (N := 17) hx hb hts i_Mo hown hK hP 0 rfl rfl 3 (by decide) (hts _ mw_554) (fun _ h9 => h9) rfl d_Mo_isBefore_57 ?_
      refine lv_iload hx hb d_Mo_isBefore_60 (lv_at hl 0 rfl) ?_
      refine w_iald hx hb hK hP 1 0 rfl rfl ((fe i).toNat) (by omega) (by omega) (by omega) d_Mo_isBefore_62 ?_
      refine w_icmp_le (tgt := 70) hx hb d_Mo_isBefore_63 (by decide) (by omega) (by omega) (fun c_63 => ?_) (fun c_63 => ?_)
      · refine lv_iconst (v := J (0)) hx hb d_Mo_isBefore_70 rfl ?_
        refine lv_goto (tgt := 85) hx hb d_Mo_isBefore_71 (by decide) ?_
        exact Ri_ret hx hb hr hlocks hQ hH d_Mo_isBefore_85 (nb_z (by omega)) (by unfold b2 nr; dsimp only; split <;> omega)
      · refine lv_iconst (v := J (1)) hx hb d_Mo_isBefore_66 rfl ?_
        refine lv_goto (tgt := 85) hx hb d_Mo_isBefore_67 (by decide) ?_
        exact Ri_ret hx hb hr hlocks hQ hH d_Mo_isBefore_85 (nb_z (by omega)) (by unfold b2 nr; dsimp only; split <;> omega)
  · refine lv_iload_n hx hb d_Mo_isBefore_18 rfl (lv_at hl 3 rfl) ?_
    refine lv_aload_n hx hb d_Mo_isBefore_19 rfl (lv_at hl 1 rfl) ?_
    refine va_get (D := D) (ci := 8) (v := .ref p9) (C := R_Mo) (T := T_Mo) (N := 17) hx hb hts i_Mo hown hK hP 0 rfl rfl 12 (by decide) (hts _ mw_563) (fun _ h9 => h9) rfl d_Mo_isBefore_20 ?_
    refine lv_iload_n hx hb d_Mo_isBefore_23 rfl (lv_at hl 4 rfl) ?_
    refine w_iald hx hb hK hP 3 0 rfl rfl i (by omega) (by omega) (by omega) d_Mo_isBefore_24 ?_
    refine w_icmp_ge (tgt := 32) hx hb d_Mo_isBefore_25 (by decide) (by omega) (by omega) (fun c_25 => ?_) (fun c_25 => ?_)
    · refine lv_iconst (v := J (0)) hx hb d_Mo_isBefore_32 rfl ?_
      exact Ri_ret hx hb hr hlocks hQ hH d_Mo_isBefore_33 (nb_z (by omega)) (by unfold b2 nr; dsimp only; split <;> omega)
    · refine lv_iconst (v := J (1)) hx hb d_Mo_isBefore_28 rfl ?_
      refine lv_goto (tgt := 33) hx hb d_Mo_isBefore_29 (by decide) ?_
      exact Ri_ret hx hb hr hlocks hQ hH d_Mo_isBefore_33 (nb_z (by omega)) (by unfold b2 nr; dsimp only; split <;> omega)
