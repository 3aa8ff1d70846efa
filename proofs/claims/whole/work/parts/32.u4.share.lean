set_option maxHeartbeats 4000000 in
set_option maxRecDepth 100000 in
theorem c_Nf_share (l : Launch) (D : va_G) (cI cZ cJ : ClassId) (o : Nat) (bk : Nat) (wA : Nat) (wo : Nat) (m1 : Nat) (m2 : Nat) (pa : Nat) (hi : Nat) (ap : Int) (sw : Int) (z1 : Int) (z2 : Int) (hz2 : rg z2) (h0 : ¬ z2 = 0) : Rl l y_Nf_share w_Nf_share ({ frames := 0, cells := 0, slots := 0, locals := 0 }) D classes [(cI, .int), (cZ, .boolean), (cJ, .long)] [.ref o, .int (J z1), .int (J z2)] [(o, .inr (7, [.ref bk, .ref wA, .ref wo, .ref m1, .ref m2, .ref pa, .ref hi, .int (J ap), .int (J sw)]))] ((J z1).toInt64 * 1000 / (J z2).toInt64) := by
  refine Rl_of (cc := b_Nf_share) (maxL := 3) (by decide) rfl (Nat.le_of_ble_eq_true rfl) ?_
  intro p e s m args below meth c hx hb hr hml hts hown hlocks hP hK Q hQ H hH ls hl
  rw [← hH] at hP
  have hl : lv_has ls 3 [(0, .ref o), (1, .int (J z1)), (2, .int (J z2))] := hl
  refine lv_iload_n hx hb d_Nf_share_0 rfl (lv_at hl 2 rfl) ?_
  refine w_if_ne (tgt := 14) hx hb d_Nf_share_1 (by decide) (hz2) (fun c_1 => ?_) (fun c_1 => ?_)
  · refine lv_iload_n hx hb d_Nf_share_14 rfl (lv_at hl 1 rfl) ?_
    refine lv_i2l (v := (J z1).toInt64) hx hb d_Nf_share_15 rfl ?_
    refine lv_ldc2 (v := 1000) hx hb hown (hts _ mw_544) d_Nf_share_16 ?_
    refine lv_lmul hx hb d_Nf_share_19 ?_
    refine lv_iload_n hx hb d_Nf_share_20 rfl (lv_at hl 2 rfl) ?_
    refine lv_i2l (v := (J z2).toInt64) hx hb d_Nf_share_21 rfl ?_
    refine lv_ldiv hx hb d_Nf_share_22 (J_l0 hz2 h0) ?_
    exact Rl_ret hx hb hr hlocks hQ hH d_Nf_share_23 (rfl)
  · exfalso; omega
set_option maxHeartbeats 4000000 in
set_option maxRecDepth 100000 in
theorem c_Mo_share (l : Launch) (D : va_G) (cI cZ cJ : ClassId) (sz : Nat) (o : Nat) (p1 : Nat) (p2 : Nat) (p3 : Nat) (p4 : Nat) (p5 : Nat) (p6 : Nat) (p7 : Nat) (p8 : Nat) (p9 : Nat) (pA : Nat) (pB : Nat) (pC : Nat) (th : Int) (n : Nat) (ap : Int) (fn : Nat) (wk : Int) (z1 : Int) (z2 : Int) (hz2 : rg z2) (h0 : ¬ z2 = 0) : Ml l y_Mo_share w_Mo_share ({ frames := 0, cells := 0, slots := 0, locals := 0 }) false D classes [(cI, .int), (cZ, .boolean), (cJ, .long)] sz [.ref o, .int (J z1), .int (J z2)] [(o, .inr (8, [.int (J th), .int (J ((n : Nat) : Int)), .ref p1, .ref p2, .ref p3, .ref p4, .ref p5, .ref p6, .int (J ap), .ref p7, .int (J ((fn : Nat) : Int)), .ref p8, .ref p9, .int (J wk), .ref pA, .ref pB, .ref pC]))] ((J z1).toInt64 * 1000 / (J z2).toInt64) (S := Unit) (fun _ => True) (fun u : Unit => [(o, .inr (8, [.int (J 0), .int (J ((n : Nat) : Int)), .ref p1, .ref p2, .ref p3, .ref p4, .ref p5, .ref p6, .int (J ap), .ref p7, .int (J ((fn : Nat) : Int)), .ref p8, .ref p9, .int (J wk), .ref pA, .ref pB, .ref pC]))]) 0 0 := by
  refine Ml_of (cc := b_Mo_share) (maxL := 3) (by decide) rfl (Nat.le_of_ble_eq_true rfl) ?_
  intro p e s m args below meth c hx hb hr hml hts hown hlocks A hA hP hK hD hT hS Q hQ H hH ls hl
  subst hH
  have hl : lv_has ls 3 [(0, .ref o), (1, .int (J z1)), (2, .int (J z2))] := hl
  refine lv_aload_n hx hb d_Mo_share_0 rfl (lv_at hl 0 rfl) ?_
  refine lv_iload_n hx hb d_Mo_share_1 rfl (lv_at hl 2 rfl) ?_
  refine w_if_ne (tgt := 9) hx hb d_Mo_share_2 (by decide) (hz2) (fun c_2 => ?_) (fun c_2 => ?_)
  · refine lv_iconst (v := J (0)) hx hb d_Mo_share_9 rfl ?_
    refine va_put (D := D) (ci := 8) (v := .int (J 0)) (ty := .int) (C := R_Mo) (T := T_Mo) (N := 17) hx hb hts i_Mo t_Mo k_Mo n_Mo hown hK hP hD hS 0 rfl rfl 0 (by decide) (hts _ mw_551) (fun _ h9 => h9) rfl (by decide +kernel) rfl rfl (Nat.le_of_ble_eq_true rfl) d_Mo_share_10 (fun H locs hP hD hS => ?_)
    have hP : va_P D classes [(o, .inr (8, [.int (J 0), .int (J ((n : Nat) : Int)), .ref p1, .ref p2, .ref p3, .ref p4, .ref p5, .ref p6, .int (J ap), .ref p7, .int (J ((fn : Nat) : Int)), .ref p8, .ref p9, .int (J wk), .ref pA, .ref pB, .ref pC]))] H := hP
    have hD : va_D A [(o, .inr (8, [.int (J 0), .int (J ((n : Nat) : Int)), .ref p1, .ref p2, .ref p3, .ref p4, .ref p5, .ref p6, .int (J ap), .ref p7, .int (J ((fn : Nat) : Int)), .ref p8, .ref p9, .int (J wk), .ref pA, .ref pB, .ref pC]))] := hD
    refine lv_aload_n hx hb d_Mo_share_13 rfl (lv_at hl 0 rfl) ?_
    refine va_get (D := D) (ci := 8) (v := .int (J 0)) (C := R_Mo) (T := T_Mo) (N := 17) hx hb hts i_Mo hown hK hP 0 rfl rfl 0 (by decide) (hts _ mw_551) (fun _ h9 => h9) rfl d_Mo_share_14 ?_
    refine lv_iconst (v := J (1)) hx hb d_Mo_share_17 rfl ?_
    refine w_icmp_ne (tgt := 25) hx hb d_Mo_share_18 (by decide) (by omega) (by omega) (fun c_18 => ?_) (fun c_18 => ?_)
    · refine lv_ldc2 (v := 1000) hx hb hown (hts _ mw_741) d_Mo_share_25 ?_
      refine lv_iload_n hx hb d_Mo_share_28 rfl (lv_at hl 1 rfl) ?_
      refine lv_i2l (v := (J z1).toInt64) hx hb d_Mo_share_29 rfl ?_
      refine lv_lmul hx hb d_Mo_share_30 ?_
      refine lv_iload_n hx hb d_Mo_share_31 rfl (lv_at hl 2 rfl) ?_
      refine lv_i2l (v := (J z2).toInt64) hx hb d_Mo_share_32 rfl ?_
      refine lv_ldiv hx hb d_Mo_share_33 (J_l0 hz2 h0) ?_
      exact Ml_ret hx hb hr hlocks hQ d_Mo_share_34 hP hK hD hS (by rw [Int64.mul_comm]) () (trivial) [0] rfl (by decide)
    · exfalso; omega
  · exfalso; omega
set_option maxHeartbeats 4000000 in
set_option maxRecDepth 100000 in
theorem c_Mo_share_0 (l : Launch) (D : va_G) (cI cZ cJ : ClassId) (sz : Nat) (o : Nat) (p1 : Nat) (p2 : Nat) (p3 : Nat) (p4 : Nat) (p5 : Nat) (p6 : Nat) (p7 : Nat) (p8 : Nat) (p9 : Nat) (pA : Nat) (pB : Nat) (pC : Nat) (th : Int) (n : Nat) (ap : Int) (fn : Nat) (wk : Int) (z1 : Int)  : Ml l y_Mo_share w_Mo_share ({ frames := 0, cells := 0, slots := 0, locals := 0 }) false D classes [(cI, .int), (cZ, .boolean), (cJ, .long)] sz [.ref o, .int (J z1), .int (J 0)] [(o, .inr (8, [.int (J th), .int (J ((n : Nat) : Int)), .ref p1, .ref p2, .ref p3, .ref p4, .ref p5, .ref p6, .int (J ap), .ref p7, .int (J ((fn : Nat) : Int)), .ref p8, .ref p9, .int (J wk), .ref pA, .ref pB, .ref pC]))] (0) (S := Unit) (fun _ => True) (fun u : Unit => [(o, .inr (8, [.int (J 1), .int (J ((n : Nat) : Int)), .ref p1, .ref p2, .ref p3, .ref p4, .ref p5, .ref p6, .int (J ap), .ref p7, .int (J ((fn : Nat) : Int)), .ref p8, .ref p9, .int (J wk), .ref pA, .ref pB, .ref pC]))]) 0 0 := by
  refine Ml_of (cc := b_Mo_share) (maxL := 3) (by decide) rfl (Nat.le_of_ble_eq_true rfl) ?_
  intro p e s m args below meth c hx hb hr hml hts hown hlocks A hA hP hK hD hT hS Q hQ H hH ls hl
  subst hH
  have hl : lv_has ls 3 [(0, .ref o), (1, .int (J z1)), (2, .int (J 0))] := hl
  refine lv_aload_n hx hb d_Mo_share_0 rfl (lv_at hl 0 rfl) ?_
  refine lv_iload_n hx hb d_Mo_share_1 rfl (lv_at hl 2 rfl) ?_
  refine w_if_ne (tgt := 9) hx hb d_Mo_share_2 (by decide) (by omega) (fun c_2 => ?_) (fun c_2 => ?_)
  · exfalso; omega
  · refine lv_iconst (v := J (1)) hx hb d_Mo_share_5 rfl ?_
    refine lv_goto (tgt := 10) hx hb d_Mo_share_6 (by decide) ?_
    refine va_put (D := D) (ci := 8) (v := .int (J 1)) (ty := .int) (C := R_Mo) (T := T_Mo) (N := 17) hx hb hts i_Mo t_Mo k_Mo n_Mo hown hK hP hD hS 0 rfl rfl 0 (by decide) (hts _ mw_551) (fun _ h9 => h9) rfl (by decide +kernel) rfl rfl (Nat.le_of_ble_eq_true rfl) d_Mo_share_10 (fun H locs hP hD hS => ?_)
    have hP : va_P D classes [(o, .inr (8, [.int (J 1), .int (J ((n : Nat) : Int)), .ref p1, .ref p2, .ref p3, .ref p4, .ref p5, .ref p6, .int (J ap), .ref p7, .int (J ((fn : Nat) : Int)), .ref p8, .ref p9, .int (J wk), .ref pA, .ref pB, .ref pC]))] H := hP
    have hD : va_D A [(o, .inr (8, [.int (J 1), .int (J ((n : Nat) : Int)), .ref p1, .ref p2, .ref p3, .ref p4, .ref p5, .ref p6, .int (J ap), .ref p7, .int (J ((fn : Nat) : Int)), .ref p8, .ref p9, .int (J wk), .ref pA, .ref pB, .ref pC]))] := hD
    refine lv_aload_n hx hb d_Mo_share_13 rfl (lv_at hl 0 rfl) ?_
    refine va_get (D := D) (ci := 8) (v := .int (J 1)) (C := R_Mo) (T := T_Mo) (N := 17) hx hb hts i_Mo hown hK hP 0 rfl rfl 0 (by decide) (hts _ mw_551) (fun _ h9 => h9) rfl d_Mo_share_14 ?_
    refine lv_iconst (v := J (1)) hx hb d_Mo_share_17 rfl ?_
    refine w_icmp_ne (tgt := 25) hx hb d_Mo_share_18 (by decide) (by omega) (by omega) (fun c_18 => ?_) (fun c_18 => ?_)
    · exfalso; omega
    · refine lv_lconst (v := 0) hx hb d_Mo_share_21 (by decide) ?_
      refine lv_goto (tgt := 34) hx hb d_Mo_share_22 (by decide) ?_
      exact Ml_ret hx hb hr hlocks hQ d_Mo_share_34 hP hK hD hS (rfl) () (trivial) [0] rfl (by decide)
set_option maxHeartbeats 4000000 in
set_option maxRecDepth 100000 in
theorem c_La_share (l : Launch) (D : va_G) (cI cZ cJ : ClassId) (sz : Nat) (o : Nat) (bk : Nat) (wA : Nat) (wo : Nat) (m1 : Nat) (m2 : Nat) (pa : Nat) (hi : Nat) (ou : Nat) (ap : Int) (sw : Int) (z1 : Int) (z2 : Int) (og : Nat → Int64) (hz2 : rg z2) (h0 : ¬ z2 = 0) : MT l ({ frames := 1, cells := 0, slots := 0, locals := 22 }) D classes [(cI, .int), (cZ, .boolean), (cJ, .long)] sz [.ref o, .int (J z1), .int (J z2), .ref ou] [(o, .inr (7, [.ref bk, .ref wA, .ref wo, .ref m1, .ref m2, .ref pa, .ref hi, .int (J ap), .int (J sw)])), (ou, .inl (cJ, 1, .inr (.inl og)))] (0) (S := Unit) (fun _ => True) (fun u : Unit => [(o, .inr (7, [.ref bk, .ref wA, .ref wo, .ref m1, .ref m2, .ref pa, .ref hi, .int (J ap), .int (J sw)])), (ou, .inl (cJ, 1, .inr (.inl (vp_updL og 0 ((J z1).toInt64 * 1000 / (J z2).toInt64)))))]) 0 0 := by
  refine MT_of (Nat.le_of_ble_eq_true rfl) ?_
  intro p e s m args below meth c hx hb hr hml htab hts hown hlocks A hA hP hK hD hT hS Q hQ H hH ls hl
  subst hH
  have hl : lv_has ls 5 [(0, .ref o), (1, .int (J z1)), (2, .int (J z2)), (3, .ref ou)] := hl
  refine lv_aload_n hx hb d_La_share_0 rfl (lv_at hl 3 rfl) ?_
  refine lv_iconst (v := J (0)) hx hb d_La_share_1 rfl ?_
  refine lv_aload_n hx hb d_La_share_2 rfl (lv_at hl 0 rfl) ?_
  refine lv_iload_n hx hb d_La_share_3 rfl (lv_at hl 1 rfl) ?_
  refine lv_iload_n hx hb d_La_share_4 rfl (lv_at hl 2 rfl) ?_
  refine Rl_call (va_runV (As := [.int (J z1), .int (J z2)]) (rest := [.int (J 0), .ref ou]) ⟨hx, hb, hml, hown, hts⟩ (c_Nf_share l D cI cZ cJ o bk wA wo m1 m2 pa hi ap sw z1 z2 (by first | with_reducible assumption | omega) (by first | with_reducible assumption | omega)) (cwV 2 hts (g_V mw_474 mw_475 mw_476 mw_25 mw_477) rfl rfl rfl (by decide +kernel) ⟨Nat.le_of_ble_eq_true rfl, Nat.le_of_ble_eq_true rfl⟩) (pre_RV hP hK [0] rfl 7 0 rfl rfl) rfl rfl hl.1 rfl (lv_room (Nat.le_of_ble_eq_true rfl)) d_La_share_5 ⟨Nat.le_of_ble_eq_true rfl, Nat.le_of_ble_eq_true rfl⟩) ?_
  refine w_last0 hx hb hK hP hD hS 1 2 rfl rfl d_La_share_8 (fun H locs hP hD hS => ?_)
  have hP : va_P D classes [(o, .inr (7, [.ref bk, .ref wA, .ref wo, .ref m1, .ref m2, .ref pa, .ref hi, .int (J ap), .int (J sw)])), (ou, .inl (cJ, 1, .inr (.inl (vp_updL og 0 ((J z1).toInt64 * 1000 / (J z2).toInt64)))))] H := hP
  have hD : va_D A [(o, .inr (7, [.ref bk, .ref wA, .ref wo, .ref m1, .ref m2, .ref pa, .ref hi, .int (J ap), .int (J sw)])), (ou, .inl (cJ, 1, .inr (.inl (vp_updL og 0 ((J z1).toInt64 * 1000 / (J z2).toInt64)))))] := hD
  refine lv_goto (tgt := 16) hx hb d_La_share_9 (by decide) ?_
  refine lv_iconst (v := J (0)) hx hb d_La_share_16 rfl ?_
  exact Mi_ret hx hb hr hlocks hQ d_La_share_17 hP hK hD hS nb_i (rfl) () (trivial) [0, 1] rfl (by decide)
set_option maxHeartbeats 4000000 in
theorem c_La_share_0 (l : Launch) (hl0 : l.stackTraces = false) (D : va_G) (cI cZ cJ : ClassId) (sz : Nat) (o bk wA wo m1 m2 pa hi ou : Nat) (ap sw z1 : Int) (og : Nat → Int64) : MT l ({ frames := 7, cells := 1, slots := 6, locals := 122 }) D classes [(cI, .int), (cZ, .boolean), (cJ, .long)] sz [.ref o, .int (J z1), .int (J 0), .ref ou] [(o, .inr (7, [.ref bk, .ref wA, .ref wo, .ref m1, .ref m2, .ref pa, .ref hi, .int (J ap), .int (J sw)])), (ou, .inl (cJ, 1, .inr (.inl og)))] (1) (S := Unit) (fun _ => True) (fun u : Unit => [(o, .inr (7, [.ref bk, .ref wA, .ref wo, .ref m1, .ref m2, .ref pa, .ref hi, .int (J ap), .int (J sw)])), (ou, .inl (cJ, 1, .inr (.inl og)))]) 1 6 := by
  refine MT_of (Nat.le_of_ble_eq_true rfl) ?_
  intro p e s m args below meth c hx hb hr hml htab hts hown hlocks A hA hP hK hD hT hS Q hQ H hH ls hl
  subst hH
  have hl : lv_has ls 5 [(0, .ref o), (1, .int (J z1)), (2, .int (J 0)), (3, .ref ou)] := hl
  refine lv_aload_n hx hb d_La_share_0 rfl (lv_at hl 3 rfl) ?_
  refine lv_iconst (v := J (0)) hx hb d_La_share_1 rfl ?_
  refine lv_aload_n hx hb d_La_share_2 rfl (lv_at hl 0 rfl) ?_
  refine lv_iload_n hx hb d_La_share_3 rfl (lv_at hl 1 rfl) ?_
  refine lv_iload_n hx hb d_La_share_4 rfl (lv_at hl 2 rfl) ?_
  refine tp_i (y := 0) (by decide) ?_
  refine sh_caught (x := ⟨0, 9, 12, 13⟩) (z := J z1) (rest := [.int (J 0), .ref ou]) ⟨hx, hb, hml, hown, hts⟩ hl0 hT htab (by decide) rfl (va_recv hK hP (show classes[7]? = some _ from rfl) (show ([(o, .inr (7, [.ref bk, .ref wA, .ref wo, .ref m1, .ref m2, .ref pa, .ref hi, .int (J ap), .int (J sw)])), (ou, .inl (cJ, 1, .inr (.inl og)))] : va_W)[0]? = some (o, .inr (7, _)) from rfl)) hl.1 (Nat.le_of_ble_eq_true rfl) d_La_share_5 ⟨Nat.le_refl _, Nat.le_refl _⟩ ⟨Nat.le_refl _, Nat.le_refl _⟩ (fun H1 q hz1 hz2 => ?_)
  have hP1 : va_P D classes [(o, .inr (7, [.ref bk, .ref wA, .ref wo, .ref m1, .ref m2, .ref pa, .ref hi, .int (J ap), .int (J sw)])), (ou, .inl (cJ, 1, .inr (.inl og)))] H1 := hP.kept (fun k q hq => hz2 q.1 (hP k q hq).lt)
  have hS1 : va_S A s.heap H1 [] := ⟨hz1, fun q h _ => hz2 q h, fun _ h => by cases h⟩
  refine lv_astore (lv' := [(4, .ref q), (0, .ref o), (1, .int (J z1)), (2, .int (J 0)), (3, .ref ou)]) hx hb d_La_share_12 hl (by decide) rfl (fun ls hl => ?_)
  refine lv_iconst (v := J (1)) hx hb d_La_share_14 rfl ?_
  exact Mi_ret hx hb hr hlocks hQ d_La_share_15 hP1 hK hD hS1 nb_i rfl () trivial [0, 1] rfl (by decide)
