theorem dv_Bk : ∀ j, j < 6 → defaultValue (t_Bk j) = vp_V [.null, .null, .null, .null, .null, .int (J 0)] j := fun j hj => by
  match j, hj with
  | 0, _ => rfl
  | 1, _ => rfl
  | 2, _ => rfl
  | 3, _ => rfl
  | 4, _ => rfl
  | 5, _ => rfl
  | j + 6, h => exact absurd h (by omega)
theorem dv_Bc : ∀ j, j < 2 → defaultValue (t_Bc j) = vp_V [.null, .null] j := fun j hj => by
  match j, hj with
  | 0, _ => rfl
  | 1, _ => rfl
  | j + 2, h => exact absurd h (by omega)
theorem dv_Bn : ∀ j, j < 2 → defaultValue (t_Bn j) = vp_V [.null, .null] j := fun j hj => by
  match j, hj with
  | 0, _ => rfl
  | 1, _ => rfl
  | j + 2, h => exact absurd h (by omega)
theorem dv_Hi : ∀ j, j < 6 → defaultValue (t_Hi j) = vp_V [.null, .null, .null, .int (J 0), .int (J 0), .int (J 0)] j := fun j hj => by
  match j, hj with
  | 0, _ => rfl
  | 1, _ => rfl
  | 2, _ => rfl
  | 3, _ => rfl
  | 4, _ => rfl
  | 5, _ => rfl
  | j + 6, h => exact absurd h (by omega)
theorem dv_Pa : ∀ j, j < 4 → defaultValue (t_Pa j) = vp_V [.null, .null, .int (J 0), .int (J 0)] j := fun j hj => by
  match j, hj with
  | 0, _ => rfl
  | 1, _ => rfl
  | 2, _ => rfl
  | 3, _ => rfl
  | j + 4, h => exact absurd h (by omega)
theorem dv_We : ∀ j, j < 1 → defaultValue (t_We j) = vp_V [.null] j := fun j hj => by
  match j, hj with
  | 0, _ => rfl
  | j + 1, h => exact absurd h (by omega)
theorem dv_Wo : ∀ j, j < 3 → defaultValue (t_Wo j) = vp_V [.null, .null, .int (J 0)] j := fun j hj => by
  match j, hj with
  | 0, _ => rfl
  | 1, _ => rfl
  | 2, _ => rfl
  | j + 3, h => exact absurd h (by omega)
theorem dv_Nf : ∀ j, j < 9 → defaultValue (t_Nf j) = vp_V [.null, .null, .null, .null, .null, .null, .null, .int (J 0), .int (J 0)] j := fun j hj => by
  match j, hj with
  | 0, _ => rfl
  | 1, _ => rfl
  | 2, _ => rfl
  | 3, _ => rfl
  | 4, _ => rfl
  | 5, _ => rfl
  | 6, _ => rfl
  | 7, _ => rfl
  | 8, _ => rfl
  | j + 9, h => exact absurd h (by omega)
theorem dv_Mo : ∀ j, j < 17 → defaultValue (t_Mo j) = vp_V [.int (J 0), .int (J 0), .null, .null, .null, .null, .null, .null, .int (J 0), .null, .int (J 0), .null, .null, .int (J 0), .null, .null, .null] j := fun j hj => by
  match j, hj with
  | 0, _ => rfl
  | 1, _ => rfl
  | 2, _ => rfl
  | 3, _ => rfl
  | 4, _ => rfl
  | 5, _ => rfl
  | 6, _ => rfl
  | 7, _ => rfl
  | 8, _ => rfl
  | 9, _ => rfl
  | 10, _ => rfl
  | 11, _ => rfl
  | 12, _ => rfl
  | 13, _ => rfl
  | 14, _ => rfl
  | 15, _ => rfl
  | 16, _ => rfl
  | j + 17, h => exact absurd h (by omega)
set_option maxHeartbeats 1000000 in
set_option maxRecDepth 100000 in
theorem c_Wo_init_120 (l : Launch) (D : va_G) (cI cZ cJ : ClassId) (sz : Nat) (o : Nat)  : Mv l y_Wo_init w_Wo_init ({ frames := 1, cells := 2, slots := 1320, locals := 12 }) false D classes [(cI, .int), (cZ, .boolean), (cJ, .long)] sz [.ref o, .int (J 120)] [(o, .inr (6, [.null, .null, .int (J 0)]))] (S := Nat → Nat) (fun _ => True) (fun u : Nat → Nat => [(o, .inr (6, [.ref (u 0), .ref (u 1), .int (J 0)])), (u 0, ca cI 1200 (fun _ => 0)), (u 1, ca cI 120 (fun _ => 0))]) 2 1320 := by
  refine Mv_of (cc := b_Wo_init) (maxL := 2) (by decide) rfl (Nat.le_of_ble_eq_true rfl) ?_
  intro p e s m args below meth c hx hb hr hml hts hown hlocks hin A hA hP hK hD hT hS Q hQ H hH ls hl
  subst hH
  have hl : lv_has ls 2 [(0, .ref o), (1, .int (J 120))] := hl
  refine lv_aload_n hx hb d_Wo_init_0 rfl (lv_at hl 0 rfl) ?_
  refine W.objInit hx hb hown (hts _ mw_58) (hts _ mw_45) (hts _ mw_46) rfl (by rw [hml]; exact hl.1) rfl d_Wo_init_1 (Nat.le_of_ble_eq_true rfl) (Nat.le_of_ble_eq_true rfl) ?_
  refine W.eq (g2 := F0 m 4 ls []) rfl ?_
  refine lv_aload_n hx hb d_Wo_init_4 rfl (lv_at hl 0 rfl) ?_
  refine lv_iload_n hx hb d_Wo_init_5 rfl (lv_at hl 1 rfl) ?_
  refine lv_bipush (v := J (10)) hx hb d_Wo_init_6 (by decide) ?_
  refine w_imul hx hb d_Wo_init_8 1200 (by decide) ?_
  refine w_newi hx hb (hts _ mw_74) hK hP hD hS hA 0 rfl rfl 1200 (by omega) (by omega) (by decide) (by decide) d_Wo_init_9 (fun q9 H hP hD hS => ?_)
  have hP : va_P D classes [(o, .inr (6, [.null, .null, .int (J 0)])), (q9, ca cI 1200 (fun _ => 0))] H := hP
  have hD : va_D A [(o, .inr (6, [.null, .null, .int (J 0)])), (q9, ca cI 1200 (fun _ => 0))] := hD
  refine W.widen (k := 1) (n := 1200) (by decide) (by decide) ?_
  refine va_putF (D := D) (ci := 6) (v := .ref q9) (ty := (.array .int)) (C := R_Wo) (T := T_Wo) (N := 3) hx hb hts i_Wo t_Wo k_Wo n_Wo hown hK hP hD hS 0 rfl rfl 0 (by decide) (hts _ mw_59) (fun _ h9 => h9) rfl hin rfl (by decide +kernel) rfl rfl (Nat.le_of_ble_eq_true rfl) d_Wo_init_11 (fun H locs hP hD hS => ?_)
  have hP : va_P D classes [(o, .inr (6, [.ref q9, .null, .int (J 0)])), (q9, ca cI 1200 (fun _ => 0))] H := hP
  have hD : va_D A [(o, .inr (6, [.ref q9, .null, .int (J 0)])), (q9, ca cI 1200 (fun _ => 0))] := hD
  refine lv_aload_n hx hb d_Wo_init_14 rfl (lv_at hl 0 rfl) ?_
  refine lv_iload_n hx hb d_Wo_init_15 rfl (lv_at hl 1 rfl) ?_
  refine w_newi hx hb (hts _ mw_74) hK hP hD hS hA 0 rfl rfl 120 (by omega) (by omega) (by decide) (by decide) d_Wo_init_16 (fun q16 H hP hD hS => ?_)
  have hP : va_P D classes [(o, .inr (6, [.ref q9, .null, .int (J 0)])), (q9, ca cI 1200 (fun _ => 0)), (q16, ca cI 120 (fun _ => 0))] H := hP
  have hD : va_D A [(o, .inr (6, [.ref q9, .null, .int (J 0)])), (q9, ca cI 1200 (fun _ => 0)), (q16, ca cI 120 (fun _ => 0))] := hD
  refine W.widen (k := 2) (n := 1320) (by decide) (by decide) ?_
  refine va_putF (D := D) (ci := 6) (v := .ref q16) (ty := (.array .int)) (C := R_Wo) (T := T_Wo) (N := 3) hx hb hts i_Wo t_Wo k_Wo n_Wo hown hK hP hD hS 0 rfl rfl 1 (by decide) (hts _ mw_62) (fun _ h9 => h9) rfl hin rfl (by decide +kernel) rfl rfl (Nat.le_of_ble_eq_true rfl) d_Wo_init_18 (fun H locs hP hD hS => ?_)
  have hP : va_P D classes [(o, .inr (6, [.ref q9, .ref q16, .int (J 0)])), (q9, ca cI 1200 (fun _ => 0)), (q16, ca cI 120 (fun _ => 0))] H := hP
  have hD : va_D A [(o, .inr (6, [.ref q9, .ref q16, .int (J 0)])), (q9, ca cI 1200 (fun _ => 0)), (q16, ca cI 120 (fun _ => 0))] := hD
  refine lv_aload_n hx hb d_Wo_init_21 rfl (lv_at hl 0 rfl) ?_
  refine lv_iconst (v := J (0)) hx hb d_Wo_init_22 rfl ?_
  refine va_put (D := D) (ci := 6) (v := .int (J 0)) (ty := .int) (C := R_Wo) (T := T_Wo) (N := 3) hx hb hts i_Wo t_Wo k_Wo n_Wo hown hK hP hD hS 0 rfl rfl 2 (by decide) (hts _ mw_65) (fun _ h9 => h9) rfl (by decide +kernel) rfl rfl (Nat.le_of_ble_eq_true rfl) d_Wo_init_23 (fun H locs hP hD hS => ?_)
  have hP : va_P D classes [(o, .inr (6, [.ref q9, .ref q16, .int (J 0)])), (q9, ca cI 1200 (fun _ => 0)), (q16, ca cI 120 (fun _ => 0))] H := hP
  have hD : va_D A [(o, .inr (6, [.ref q9, .ref q16, .int (J 0)])), (q9, ca cI 1200 (fun _ => 0)), (q16, ca cI 120 (fun _ => 0))] := hD
  exact Mv_ret hx hb hr hlocks hQ d_Wo_init_26 hP hK hD hS (fun t => ([q9, q16] : List Nat).getD t 0) (trivial) [0, 1, 2] rfl (by decide)
set_option maxHeartbeats 1000000 in
set_option maxRecDepth 100000 in
theorem c_Wo_init_3 (l : Launch) (D : va_G) (cI cZ cJ : ClassId) (sz : Nat) (o : Nat)  : Mv l y_Wo_init w_Wo_init ({ frames := 1, cells := 2, slots := 33, locals := 12 }) false D classes [(cI, .int), (cZ, .boolean), (cJ, .long)] sz [.ref o, .int (J 3)] [(o, .inr (6, [.null, .null, .int (J 0)]))] (S := Nat → Nat) (fun _ => True) (fun u : Nat → Nat => [(o, .inr (6, [.ref (u 0), .ref (u 1), .int (J 0)])), (u 0, ca cI 30 (fun _ => 0)), (u 1, ca cI 3 (fun _ => 0))]) 2 33 := by
  refine Mv_of (cc := b_Wo_init) (maxL := 2) (by decide) rfl (Nat.le_of_ble_eq_true rfl) ?_
  intro p e s m args below meth c hx hb hr hml hts hown hlocks hin A hA hP hK hD hT hS Q hQ H hH ls hl
  subst hH
  have hl : lv_has ls 2 [(0, .ref o), (1, .int (J 3))] := hl
  refine lv_aload_n hx hb d_Wo_init_0 rfl (lv_at hl 0 rfl) ?_
  refine W.objInit hx hb hown (hts _ mw_58) (hts _ mw_45) (hts _ mw_46) rfl (by rw [hml]; exact hl.1) rfl d_Wo_init_1 (Nat.le_of_ble_eq_true rfl) (Nat.le_of_ble_eq_true rfl) ?_
  refine W.eq (g2 := F0 m 4 ls []) rfl ?_
  refine lv_aload_n hx hb d_Wo_init_4 rfl (lv_at hl 0 rfl) ?_
  refine lv_iload_n hx hb d_Wo_init_5 rfl (lv_at hl 1 rfl) ?_
  refine lv_bipush (v := J (10)) hx hb d_Wo_init_6 (by decide) ?_
  refine w_imul hx hb d_Wo_init_8 30 (by decide) ?_
  refine w_newi hx hb (hts _ mw_74) hK hP hD hS hA 0 rfl rfl 30 (by omega) (by omega) (by decide) (by decide) d_Wo_init_9 (fun q9 H hP hD hS => ?_)
  have hP : va_P D classes [(o, .inr (6, [.null, .null, .int (J 0)])), (q9, ca cI 30 (fun _ => 0))] H := hP
  have hD : va_D A [(o, .inr (6, [.null, .null, .int (J 0)])), (q9, ca cI 30 (fun _ => 0))] := hD
  refine W.widen (k := 1) (n := 30) (by decide) (by decide) ?_
  refine va_putF (D := D) (ci := 6) (v := .ref q9) (ty := (.array .int)) (C := R_Wo) (T := T_Wo) (N := 3) hx hb hts i_Wo t_Wo k_Wo n_Wo hown hK hP hD hS 0 rfl rfl 0 (by decide) (hts _ mw_59) (fun _ h9 => h9) rfl hin rfl (by decide +kernel) rfl rfl (Nat.le_of_ble_eq_true rfl) d_Wo_init_11 (fun H locs hP hD hS => ?_)
  have hP : va_P D classes [(o, .inr (6, [.ref q9, .null, .int (J 0)])), (q9, ca cI 30 (fun _ => 0))] H := hP
  have hD : va_D A [(o, .inr (6, [.ref q9, .null, .int (J 0)])), (q9, ca cI 30 (fun _ => 0))] := hD
  refine lv_aload_n hx hb d_Wo_init_14 rfl (lv_at hl 0 rfl) ?_
  refine lv_iload_n hx hb d_Wo_init_15 rfl (lv_at hl 1 rfl) ?_
  refine w_newi hx hb (hts _ mw_74) hK hP hD hS hA 0 rfl rfl 3 (by omega) (by omega) (by decide) (by decide) d_Wo_init_16 (fun q16 H hP hD hS => ?_)
  have hP : va_P D classes [(o, .inr (6, [.ref q9, .null, .int (J 0)])), (q9, ca cI 30 (fun _ => 0)), (q16, ca cI 3 (fun _ => 0))] H := hP
  have hD : va_D A [(o, .inr (6, [.ref q9, .null, .int (J 0)])), (q9, ca cI 30 (fun _ => 0)), (q16, ca cI 3 (fun _ => 0))] := hD
  refine W.widen (k := 2) (n := 33) (by decide) (by decide) ?_
  refine va_putF (D := D) (ci := 6) (v := .ref q16) (ty := (.array .int)) (C := R_Wo) (T := T_Wo) (N := 3) hx hb hts i_Wo t_Wo k_Wo n_Wo hown hK hP hD hS 0 rfl rfl 1 (by decide) (hts _ mw_62) (fun _ h9 => h9) rfl hin rfl (by decide +kernel) rfl rfl (Nat.le_of_ble_eq_true rfl) d_Wo_init_18 (fun H locs hP hD hS => ?_)
  have hP : va_P D classes [(o, .inr (6, [.ref q9, .ref q16, .int (J 0)])), (q9, ca cI 30 (fun _ => 0)), (q16, ca cI 3 (fun _ => 0))] H := hP
  have hD : va_D A [(o, .inr (6, [.ref q9, .ref q16, .int (J 0)])), (q9, ca cI 30 (fun _ => 0)), (q16, ca cI 3 (fun _ => 0))] := hD
  refine lv_aload_n hx hb d_Wo_init_21 rfl (lv_at hl 0 rfl) ?_
  refine lv_iconst (v := J (0)) hx hb d_Wo_init_22 rfl ?_
  refine va_put (D := D) (ci := 6) (v := .int (J 0)) (ty := .int) (C := R_Wo) (T := T_Wo) (N := 3) hx hb hts i_Wo t_Wo k_Wo n_Wo hown hK hP hD hS 0 rfl rfl 2 (by decide) (hts _ mw_65) (fun _ h9 => h9) rfl (by decide +kernel) rfl rfl (Nat.le_of_ble_eq_true rfl) d_Wo_init_23 (fun H locs hP hD hS => ?_)
  have hP : va_P D classes [(o, .inr (6, [.ref q9, .ref q16, .int (J 0)])), (q9, ca cI 30 (fun _ => 0)), (q16, ca cI 3 (fun _ => 0))] H := hP
  have hD : va_D A [(o, .inr (6, [.ref q9, .ref q16, .int (J 0)])), (q9, ca cI 30 (fun _ => 0)), (q16, ca cI 3 (fun _ => 0))] := hD
  exact Mv_ret hx hb hr hlocks hQ d_Wo_init_26 hP hK hD hS (fun t => ([q9, q16] : List Nat).getD t 0) (trivial) [0, 1, 2] rfl (by decide)
set_option maxHeartbeats 1000000 in
set_option maxRecDepth 100000 in
theorem c_We_init (l : Launch) (D : va_G) (cI cZ cJ : ClassId) (sz : Nat) (o : Nat)  : Mv l y_We_init w_We_init ({ frames := 1, cells := 1, slots := 6, locals := 12 }) false D classes [(cI, .int), (cZ, .boolean), (cJ, .long)] sz [.ref o] [(o, .inr (5, [.null]))] (S := Nat → Nat) (fun _ => True) (fun u : Nat → Nat => [(o, .inr (5, [.ref (u 0)])), (u 0, ca cI 6 (iu (iu (iu (iu (iu (iu (fun _ => 0) 0 10) 1 10) 2 15) 3 5) 4 60) 5 20))]) 1 6 := by
  refine Mv_of (cc := b_We_init) (maxL := 1) (by decide) rfl (Nat.le_of_ble_eq_true rfl) ?_
  intro p e s m args below meth c hx hb hr hml hts hown hlocks hin A hA hP hK hD hT hS Q hQ H hH ls hl
  subst hH
  have hl : lv_has ls 1 [(0, .ref o)] := hl
  refine lv_aload_n hx hb d_We_init_0 rfl (lv_at hl 0 rfl) ?_
  refine W.objInit hx hb hown (hts _ mw_107) (hts _ mw_45) (hts _ mw_46) rfl (by rw [hml]; exact hl.1) rfl d_We_init_1 (Nat.le_of_ble_eq_true rfl) (Nat.le_of_ble_eq_true rfl) ?_
  refine W.eq (g2 := F0 m 4 ls []) rfl ?_
  refine lv_aload_n hx hb d_We_init_4 rfl (lv_at hl 0 rfl) ?_
  refine lv_bipush (v := J (6)) hx hb d_We_init_5 (by decide) ?_
  refine w_newi hx hb (hts _ mw_74) hK hP hD hS hA 0 rfl rfl 6 (by omega) (by omega) (by decide) (by decide) d_We_init_7 (fun q7 H hP hD hS => ?_)
  have hP : va_P D classes [(o, .inr (5, [.null])), (q7, ca cI 6 (fun _ => 0))] H := hP
  have hD : va_D A [(o, .inr (5, [.null])), (q7, ca cI 6 (fun _ => 0))] := hD
  refine W.widen (k := 1) (n := 6) (by decide) (by decide) ?_
  refine lv_dup hx hb d_We_init_9 rfl ?_
  refine lv_iconst (v := J (0)) hx hb d_We_init_10 rfl ?_
  refine lv_bipush (v := J (10)) hx hb d_We_init_11 (by decide) ?_
  refine w_iast hx hb hK hP hD hS 1 0 rfl rfl 0 (by omega) (by omega) (by omega) d_We_init_13 (fun H locs hP hD hS => ?_)
  have hP : va_P D classes [(o, .inr (5, [.null])), (q7, ca cI 6 (iu (fun _ => 0) 0 10))] H := hP
  have hD : va_D A [(o, .inr (5, [.null])), (q7, ca cI 6 (iu (fun _ => 0) 0 10))] := hD
  refine lv_dup hx hb d_We_init_14 rfl ?_
  refine lv_iconst (v := J (1)) hx hb d_We_init_15 rfl ?_
  refine lv_bipush (v := J (10)) hx hb d_We_init_16 (by decide) ?_
  refine w_iast hx hb hK hP hD hS 1 0 rfl rfl 1 (by omega) (by omega) (by omega) d_We_init_18 (fun H locs hP hD hS => ?_)
  have hP : va_P D classes [(o, .inr (5, [.null])), (q7, ca cI 6 (iu (iu (fun _ => 0) 0 10) 1 10))] H := hP
  have hD : va_D A [(o, .inr (5, [.null])), (q7, ca cI 6 (iu (iu (fun _ => 0) 0 10) 1 10))] := hD
  refine lv_dup hx hb d_We_init_19 rfl ?_
  refine lv_iconst (v := J (2)) hx hb d_We_init_20 rfl ?_
  refine lv_bipush (v := J (15)) hx hb d_We_init_21 (by decide) ?_
  refine w_iast hx hb hK hP hD hS 1 0 rfl rfl 2 (by omega) (by omega) (by omega) d_We_init_23 (fun H locs hP hD hS => ?_)
  have hP : va_P D classes [(o, .inr (5, [.null])), (q7, ca cI 6 (iu (iu (iu (fun _ => 0) 0 10) 1 10) 2 15))] H := hP
  have hD : va_D A [(o, .inr (5, [.null])), (q7, ca cI 6 (iu (iu (iu (fun _ => 0) 0 10) 1 10) 2 15))] := hD
  refine lv_dup hx hb d_We_init_24 rfl ?_
  refine lv_iconst (v := J (3)) hx hb d_We_init_25 rfl ?_
  refine lv_iconst (v := J (5)) hx hb d_We_init_26 rfl ?_
  refine w_iast hx hb hK hP hD hS 1 0 rfl rfl 3 (by omega) (by omega) (by omega) d_We_init_27 (fun H locs hP hD hS => ?_)
  have hP : va_P D classes [(o, .inr (5, [.null])), (q7, ca cI 6 (iu (iu (iu (iu (fun _ => 0) 0 10) 1 10) 2 15) 3 5))] H := hP
  have hD : va_D A [(o, .inr (5, [.null])), (q7, ca cI 6 (iu (iu (iu (iu (fun _ => 0) 0 10) 1 10) 2 15) 3 5))] := hD
  refine lv_dup hx hb d_We_init_28 rfl ?_
  refine lv_iconst (v := J (4)) hx hb d_We_init_29 rfl ?_
  refine lv_bipush (v := J (60)) hx hb d_We_init_30 (by decide) ?_
  refine w_iast hx hb hK hP hD hS 1 0 rfl rfl 4 (by omega) (by omega) (by omega) d_We_init_32 (fun H locs hP hD hS => ?_)
  have hP : va_P D classes [(o, .inr (5, [.null])), (q7, ca cI 6 (iu (iu (iu (iu (iu (fun _ => 0) 0 10) 1 10) 2 15) 3 5) 4 60))] H := hP
  have hD : va_D A [(o, .inr (5, [.null])), (q7, ca cI 6 (iu (iu (iu (iu (iu (fun _ => 0) 0 10) 1 10) 2 15) 3 5) 4 60))] := hD
  refine lv_dup hx hb d_We_init_33 rfl ?_
  refine lv_iconst (v := J (5)) hx hb d_We_init_34 rfl ?_
  refine lv_bipush (v := J (20)) hx hb d_We_init_35 (by decide) ?_
  refine w_iast hx hb hK hP hD hS 1 0 rfl rfl 5 (by omega) (by omega) (by omega) d_We_init_37 (fun H locs hP hD hS => ?_)
  have hP : va_P D classes [(o, .inr (5, [.null])), (q7, ca cI 6 (iu (iu (iu (iu (iu (iu (fun _ => 0) 0 10) 1 10) 2 15) 3 5) 4 60) 5 20))] H := hP
  have hD : va_D A [(o, .inr (5, [.null])), (q7, ca cI 6 (iu (iu (iu (iu (iu (iu (fun _ => 0) 0 10) 1 10) 2 15) 3 5) 4 60) 5 20))] := hD
  refine va_putF (D := D) (ci := 5) (v := .ref q7) (ty := (.array .int)) (C := R_We) (T := T_We) (N := 1) hx hb hts i_We t_We k_We n_We hown hK hP hD hS 0 rfl rfl 0 (by decide) (hts _ mw_108) (fun _ h9 => h9) rfl hin rfl (by decide +kernel) rfl rfl (Nat.le_of_ble_eq_true rfl) d_We_init_38 (fun H locs hP hD hS => ?_)
  have hP : va_P D classes [(o, .inr (5, [.ref q7])), (q7, ca cI 6 (iu (iu (iu (iu (iu (iu (fun _ => 0) 0 10) 1 10) 2 15) 3 5) 4 60) 5 20))] H := hP
  have hD : va_D A [(o, .inr (5, [.ref q7])), (q7, ca cI 6 (iu (iu (iu (iu (iu (iu (fun _ => 0) 0 10) 1 10) 2 15) 3 5) 4 60) 5 20))] := hD
  exact Mv_ret hx hb hr hlocks hQ d_We_init_41 hP hK hD hS (fun t => ([q7] : List Nat).getD t 0) (trivial) [0, 1] rfl (by decide)
set_option maxHeartbeats 1000000 in
set_option maxRecDepth 100000 in
theorem c_Bc_init (l : Launch) (D : va_G) (cI cZ cJ : ClassId) (sz : Nat) (o : Nat) (wo : Nat)  : Mv l y_Bc_init w_Bc_init ({ frames := 1, cells := 1, slots := 11, locals := 12 }) false D classes [(cI, .int), (cZ, .boolean), (cJ, .long)] sz [.ref o, .ref wo] [(o, .inr (1, [.null, .null]))] (S := Nat → Nat) (fun _ => True) (fun u : Nat → Nat => [(o, .inr (1, [.ref wo, .ref (u 0)])), (u 0, ca cI 11 (fun _ => 0))]) 1 11 := by
  refine Mv_of (cc := b_Bc_init) (maxL := 2) (by decide) rfl (Nat.le_of_ble_eq_true rfl) ?_
  intro p e s m args below meth c hx hb hr hml hts hown hlocks hin A hA hP hK hD hT hS Q hQ H hH ls hl
  subst hH
  have hl : lv_has ls 2 [(0, .ref o), (1, .ref wo)] := hl
  refine lv_aload_n hx hb d_Bc_init_0 rfl (lv_at hl 0 rfl) ?_
  refine W.objInit hx hb hown (hts _ mw_117) (hts _ mw_45) (hts _ mw_46) rfl (by rw [hml]; exact hl.1) rfl d_Bc_init_1 (Nat.le_of_ble_eq_true rfl) (Nat.le_of_ble_eq_true rfl) ?_
  refine W.eq (g2 := F0 m 4 ls []) rfl ?_
  refine lv_aload_n hx hb d_Bc_init_4 rfl (lv_at hl 0 rfl) ?_
  refine lv_aload_n hx hb d_Bc_init_5 rfl (lv_at hl 1 rfl) ?_
  refine va_putF (D := D) (ci := 1) (v := .ref wo) (ty := (.object "NearFinder$Weights")) (C := R_Bc) (T := T_Bc) (N := 2) hx hb hts i_Bc t_Bc k_Bc n_Bc hown hK hP hD hS 0 rfl rfl 0 (by decide) (hts _ mw_118) (fun _ h9 => h9) rfl hin rfl (by decide +kernel) rfl rfl (Nat.le_of_ble_eq_true rfl) d_Bc_init_6 (fun H locs hP hD hS => ?_)
  have hP : va_P D classes [(o, .inr (1, [.ref wo, .null]))] H := hP
  have hD : va_D A [(o, .inr (1, [.ref wo, .null]))] := hD
  refine lv_aload_n hx hb d_Bc_init_9 rfl (lv_at hl 0 rfl) ?_
  refine lv_bipush (v := J (11)) hx hb d_Bc_init_10 (by decide) ?_
  refine w_newi hx hb (hts _ mw_74) hK hP hD hS hA 0 rfl rfl 11 (by omega) (by omega) (by decide) (by decide) d_Bc_init_12 (fun q12 H hP hD hS => ?_)
  have hP : va_P D classes [(o, .inr (1, [.ref wo, .null])), (q12, ca cI 11 (fun _ => 0))] H := hP
  have hD : va_D A [(o, .inr (1, [.ref wo, .null])), (q12, ca cI 11 (fun _ => 0))] := hD
  refine W.widen (k := 1) (n := 11) (by decide) (by decide) ?_
  refine va_putF (D := D) (ci := 1) (v := .ref q12) (ty := (.array .int)) (C := R_Bc) (T := T_Bc) (N := 2) hx hb hts i_Bc t_Bc k_Bc n_Bc hown hK hP hD hS 0 rfl rfl 1 (by decide) (hts _ mw_119) (fun _ h9 => h9) rfl hin rfl (by decide +kernel) rfl rfl (Nat.le_of_ble_eq_true rfl) d_Bc_init_14 (fun H locs hP hD hS => ?_)
  have hP : va_P D classes [(o, .inr (1, [.ref wo, .ref q12])), (q12, ca cI 11 (fun _ => 0))] H := hP
  have hD : va_D A [(o, .inr (1, [.ref wo, .ref q12])), (q12, ca cI 11 (fun _ => 0))] := hD
  exact Mv_ret hx hb hr hlocks hQ d_Bc_init_17 hP hK hD hS (fun t => ([q12] : List Nat).getD t 0) (trivial) [0, 1] rfl (by decide)
set_option maxHeartbeats 1000000 in
set_option maxRecDepth 100000 in
theorem c_Bn_init (l : Launch) (D : va_G) (cI cZ cJ : ClassId) (sz : Nat) (o : Nat) (wo : Nat)  : Mv l y_Bn_init w_Bn_init ({ frames := 1, cells := 1, slots := 26, locals := 12 }) false D classes [(cI, .int), (cZ, .boolean), (cJ, .long)] sz [.ref o, .ref wo] [(o, .inr (2, [.null, .null]))] (S := Nat → Nat) (fun _ => True) (fun u : Nat → Nat => [(o, .inr (2, [.ref wo, .ref (u 0)])), (u 0, ca cI 26 (fun _ => 0))]) 1 26 := by
  refine Mv_of (cc := b_Bn_init) (maxL := 2) (by decide) rfl (Nat.le_of_ble_eq_true rfl) ?_
  intro p e s m args below meth c hx hb hr hml hts hown hlocks hin A hA hP hK hD hT hS Q hQ H hH ls hl
  subst hH
  have hl : lv_has ls 2 [(0, .ref o), (1, .ref wo)] := hl
  refine lv_aload_n hx hb d_Bn_init_0 rfl (lv_at hl 0 rfl) ?_
  refine W.objInit hx hb hown (hts _ mw_130) (hts _ mw_45) (hts _ mw_46) rfl (by rw [hml]; exact hl.1) rfl d_Bn_init_1 (Nat.le_of_ble_eq_true rfl) (Nat.le_of_ble_eq_true rfl) ?_
  refine W.eq (g2 := F0 m 4 ls []) rfl ?_
  refine lv_aload_n hx hb d_Bn_init_4 rfl (lv_at hl 0 rfl) ?_
  refine lv_aload_n hx hb d_Bn_init_5 rfl (lv_at hl 1 rfl) ?_
  refine va_putF (D := D) (ci := 2) (v := .ref wo) (ty := (.object "NearFinder$Weights")) (C := R_Bn) (T := T_Bn) (N := 2) hx hb hts i_Bn t_Bn k_Bn n_Bn hown hK hP hD hS 0 rfl rfl 0 (by decide) (hts _ mw_131) (fun _ h9 => h9) rfl hin rfl (by decide +kernel) rfl rfl (Nat.le_of_ble_eq_true rfl) d_Bn_init_6 (fun H locs hP hD hS => ?_)
  have hP : va_P D classes [(o, .inr (2, [.ref wo, .null]))] H := hP
  have hD : va_D A [(o, .inr (2, [.ref wo, .null]))] := hD
  refine lv_aload_n hx hb d_Bn_init_9 rfl (lv_at hl 0 rfl) ?_
  refine lv_bipush (v := J (26)) hx hb d_Bn_init_10 (by decide) ?_
  refine w_newi hx hb (hts _ mw_74) hK hP hD hS hA 0 rfl rfl 26 (by omega) (by omega) (by decide) (by decide) d_Bn_init_12 (fun q12 H hP hD hS => ?_)
  have hP : va_P D classes [(o, .inr (2, [.ref wo, .null])), (q12, ca cI 26 (fun _ => 0))] H := hP
  have hD : va_D A [(o, .inr (2, [.ref wo, .null])), (q12, ca cI 26 (fun _ => 0))] := hD
  refine W.widen (k := 1) (n := 26) (by decide) (by decide) ?_
  refine va_putF (D := D) (ci := 2) (v := .ref q12) (ty := (.array .int)) (C := R_Bn) (T := T_Bn) (N := 2) hx hb hts i_Bn t_Bn k_Bn n_Bn hown hK hP hD hS 0 rfl rfl 1 (by decide) (hts _ mw_132) (fun _ h9 => h9) rfl hin rfl (by decide +kernel) rfl rfl (Nat.le_of_ble_eq_true rfl) d_Bn_init_14 (fun H locs hP hD hS => ?_)
  have hP : va_P D classes [(o, .inr (2, [.ref wo, .ref q12])), (q12, ca cI 26 (fun _ => 0))] H := hP
  have hD : va_D A [(o, .inr (2, [.ref wo, .ref q12])), (q12, ca cI 26 (fun _ => 0))] := hD
  exact Mv_ret hx hb hr hlocks hQ d_Bn_init_17 hP hK hD hS (fun t => ([q12] : List Nat).getD t 0) (trivial) [0, 1] rfl (by decide)
set_option maxHeartbeats 1000000 in
set_option maxRecDepth 100000 in
theorem c_Pa_init (l : Launch) (D : va_G) (cI cZ cJ : ClassId) (sz : Nat) (o : Nat) (wo : Nat)  : Mv l y_Pa_init w_Pa_init ({ frames := 1, cells := 1, slots := 9, locals := 12 }) false D classes [(cI, .int), (cZ, .boolean), (cJ, .long)] sz [.ref o, .ref wo] [(o, .inr (4, [.null, .null, .int (J 0), .int (J 0)]))] (S := Nat → Nat) (fun _ => True) (fun u : Nat → Nat => [(o, .inr (4, [.ref wo, .ref (u 0), .int (J 0), .int (J 0)])), (u 0, ca cI 9 (fun _ => 0))]) 1 9 := by
  refine Mv_of (cc := b_Pa_init) (maxL := 2) (by decide) rfl (Nat.le_of_ble_eq_true rfl) ?_
  intro p e s m args below meth c hx hb hr hml hts hown hlocks hin A hA hP hK hD hT hS Q hQ H hH ls hl
  subst hH
  have hl : lv_has ls 2 [(0, .ref o), (1, .ref wo)] := hl
  refine lv_aload_n hx hb d_Pa_init_0 rfl (lv_at hl 0 rfl) ?_
  refine W.objInit hx hb hown (hts _ mw_143) (hts _ mw_45) (hts _ mw_46) rfl (by rw [hml]; exact hl.1) rfl d_Pa_init_1 (Nat.le_of_ble_eq_true rfl) (Nat.le_of_ble_eq_true rfl) ?_
  refine W.eq (g2 := F0 m 4 ls []) rfl ?_
  refine lv_aload_n hx hb d_Pa_init_4 rfl (lv_at hl 0 rfl) ?_
  refine lv_aload_n hx hb d_Pa_init_5 rfl (lv_at hl 1 rfl) ?_
  refine va_putF (D := D) (ci := 4) (v := .ref wo) (ty := (.object "NearFinder$Weights")) (C := R_Pa) (T := T_Pa) (N := 4) hx hb hts i_Pa t_Pa k_Pa n_Pa hown hK hP hD hS 0 rfl rfl 0 (by decide) (hts _ mw_144) (fun _ h9 => h9) rfl hin rfl (by decide +kernel) rfl rfl (Nat.le_of_ble_eq_true rfl) d_Pa_init_6 (fun H locs hP hD hS => ?_)
  have hP : va_P D classes [(o, .inr (4, [.ref wo, .null, .int (J 0), .int (J 0)]))] H := hP
  have hD : va_D A [(o, .inr (4, [.ref wo, .null, .int (J 0), .int (J 0)]))] := hD
  refine lv_aload_n hx hb d_Pa_init_9 rfl (lv_at hl 0 rfl) ?_
  refine lv_bipush (v := J (9)) hx hb d_Pa_init_10 (by decide) ?_
  refine w_newi hx hb (hts _ mw_74) hK hP hD hS hA 0 rfl rfl 9 (by omega) (by omega) (by decide) (by decide) d_Pa_init_12 (fun q12 H hP hD hS => ?_)
  have hP : va_P D classes [(o, .inr (4, [.ref wo, .null, .int (J 0), .int (J 0)])), (q12, ca cI 9 (fun _ => 0))] H := hP
  have hD : va_D A [(o, .inr (4, [.ref wo, .null, .int (J 0), .int (J 0)])), (q12, ca cI 9 (fun _ => 0))] := hD
  refine W.widen (k := 1) (n := 9) (by decide) (by decide) ?_
  refine va_putF (D := D) (ci := 4) (v := .ref q12) (ty := (.array .int)) (C := R_Pa) (T := T_Pa) (N := 4) hx hb hts i_Pa t_Pa k_Pa n_Pa hown hK hP hD hS 0 rfl rfl 1 (by decide) (hts _ mw_145) (fun _ h9 => h9) rfl hin rfl (by decide +kernel) rfl rfl (Nat.le_of_ble_eq_true rfl) d_Pa_init_14 (fun H locs hP hD hS => ?_)
  have hP : va_P D classes [(o, .inr (4, [.ref wo, .ref q12, .int (J 0), .int (J 0)])), (q12, ca cI 9 (fun _ => 0))] H := hP
  have hD : va_D A [(o, .inr (4, [.ref wo, .ref q12, .int (J 0), .int (J 0)])), (q12, ca cI 9 (fun _ => 0))] := hD
  refine lv_aload_n hx hb d_Pa_init_17 rfl (lv_at hl 0 rfl) ?_
  refine lv_iconst (v := J (0)) hx hb d_Pa_init_18 rfl ?_
  refine va_put (D := D) (ci := 4) (v := .int (J 0)) (ty := .int) (C := R_Pa) (T := T_Pa) (N := 4) hx hb hts i_Pa t_Pa k_Pa n_Pa hown hK hP hD hS 0 rfl rfl 2 (by decide) (hts _ mw_146) (fun _ h9 => h9) rfl (by decide +kernel) rfl rfl (Nat.le_of_ble_eq_true rfl) d_Pa_init_19 (fun H locs hP hD hS => ?_)
  have hP : va_P D classes [(o, .inr (4, [.ref wo, .ref q12, .int (J 0), .int (J 0)])), (q12, ca cI 9 (fun _ => 0))] H := hP
  have hD : va_D A [(o, .inr (4, [.ref wo, .ref q12, .int (J 0), .int (J 0)])), (q12, ca cI 9 (fun _ => 0))] := hD
  refine lv_aload_n hx hb d_Pa_init_22 rfl (lv_at hl 0 rfl) ?_
  refine lv_iconst (v := J (0)) hx hb d_Pa_init_23 rfl ?_
  refine va_put (D := D) (ci := 4) (v := .int (J 0)) (ty := .int) (C := R_Pa) (T := T_Pa) (N := 4) hx hb hts i_Pa t_Pa k_Pa n_Pa hown hK hP hD hS 0 rfl rfl 3 (by decide) (hts _ mw_147) (fun _ h9 => h9) rfl (by decide +kernel) rfl rfl (Nat.le_of_ble_eq_true rfl) d_Pa_init_24 (fun H locs hP hD hS => ?_)
  have hP : va_P D classes [(o, .inr (4, [.ref wo, .ref q12, .int (J 0), .int (J 0)])), (q12, ca cI 9 (fun _ => 0))] H := hP
  have hD : va_D A [(o, .inr (4, [.ref wo, .ref q12, .int (J 0), .int (J 0)])), (q12, ca cI 9 (fun _ => 0))] := hD
  exact Mv_ret hx hb hr hlocks hQ d_Pa_init_27 hP hK hD hS (fun t => ([q12] : List Nat).getD t 0) (trivial) [0, 1] rfl (by decide)
set_option maxHeartbeats 1000000 in
set_option maxRecDepth 100000 in
theorem c_Hi_init (l : Launch) (D : va_G) (cI cZ cJ : ClassId) (sz : Nat) (o : Nat)  : Mv l y_Hi_init w_Hi_init ({ frames := 1, cells := 3, slots := 120, locals := 12 }) false D classes [(cI, .int), (cZ, .boolean), (cJ, .long)] sz [.ref o] [(o, .inr (3, [.null, .null, .null, .int (J 0), .int (J 0), .int (J 0)]))] (S := Nat → Nat) (fun _ => True) (fun u : Nat → Nat => [(o, .inr (3, [.ref (u 0), .ref (u 1), .ref (u 2), .int (J 0), .int (J 0), .int (J 0)])), (u 0, ca cI 40 (fun _ => 0)), (u 1, ca cI 40 (fun _ => 0)), (u 2, ca cI 40 (fun _ => 0))]) 3 120 := by
  refine Mv_of (cc := b_Hi_init) (maxL := 1) (by decide) rfl (Nat.le_of_ble_eq_true rfl) ?_
  intro p e s m args below meth c hx hb hr hml hts hown hlocks hin A hA hP hK hD hT hS Q hQ H hH ls hl
  subst hH
  have hl : lv_has ls 1 [(0, .ref o)] := hl
  refine lv_aload_n hx hb d_Hi_init_0 rfl (lv_at hl 0 rfl) ?_
  refine W.objInit hx hb hown (hts _ mw_163) (hts _ mw_45) (hts _ mw_46) rfl (by rw [hml]; exact hl.1) rfl d_Hi_init_1 (Nat.le_of_ble_eq_true rfl) (Nat.le_of_ble_eq_true rfl) ?_
  refine W.eq (g2 := F0 m 4 ls []) rfl ?_
  refine lv_aload_n hx hb d_Hi_init_4 rfl (lv_at hl 0 rfl) ?_
  refine lv_bipush (v := J (40)) hx hb d_Hi_init_5 (by decide) ?_
  refine w_newi hx hb (hts _ mw_74) hK hP hD hS hA 0 rfl rfl 40 (by omega) (by omega) (by decide) (by decide) d_Hi_init_7 (fun q7 H hP hD hS => ?_)
  have hP : va_P D classes [(o, .inr (3, [.null, .null, .null, .int (J 0), .int (J 0), .int (J 0)])), (q7, ca cI 40 (fun _ => 0))] H := hP
  have hD : va_D A [(o, .inr (3, [.null, .null, .null, .int (J 0), .int (J 0), .int (J 0)])), (q7, ca cI 40 (fun _ => 0))] := hD
  refine W.widen (k := 1) (n := 40) (by decide) (by decide) ?_
  refine va_putF (D := D) (ci := 3) (v := .ref q7) (ty := (.array .int)) (C := R_Hi) (T := T_Hi) (N := 6) hx hb hts i_Hi t_Hi k_Hi n_Hi hown hK hP hD hS 0 rfl rfl 0 (by decide) (hts _ mw_164) (fun _ h9 => h9) rfl hin rfl (by decide +kernel) rfl rfl (Nat.le_of_ble_eq_true rfl) d_Hi_init_9 (fun H locs hP hD hS => ?_)
  have hP : va_P D classes [(o, .inr (3, [.ref q7, .null, .null, .int (J 0), .int (J 0), .int (J 0)])), (q7, ca cI 40 (fun _ => 0))] H := hP
  have hD : va_D A [(o, .inr (3, [.ref q7, .null, .null, .int (J 0), .int (J 0), .int (J 0)])), (q7, ca cI 40 (fun _ => 0))] := hD
  refine lv_aload_n hx hb d_Hi_init_12 rfl (lv_at hl 0 rfl) ?_
  refine lv_bipush (v := J (40)) hx hb d_Hi_init_13 (by decide) ?_
  refine w_newi hx hb (hts _ mw_74) hK hP hD hS hA 0 rfl rfl 40 (by omega) (by omega) (by decide) (by decide) d_Hi_init_15 (fun q15 H hP hD hS => ?_)
  have hP : va_P D classes [(o, .inr (3, [.ref q7, .null, .null, .int (J 0), .int (J 0), .int (J 0)])), (q7, ca cI 40 (fun _ => 0)), (q15, ca cI 40 (fun _ => 0))] H := hP
  have hD : va_D A [(o, .inr (3, [.ref q7, .null, .null, .int (J 0), .int (J 0), .int (J 0)])), (q7, ca cI 40 (fun _ => 0)), (q15, ca cI 40 (fun _ => 0))] := hD
  refine W.widen (k := 2) (n := 80) (by decide) (by decide) ?_
  refine va_putF (D := D) (ci := 3) (v := .ref q15) (ty := (.array .int)) (C := R_Hi) (T := T_Hi) (N := 6) hx hb hts i_Hi t_Hi k_Hi n_Hi hown hK hP hD hS 0 rfl rfl 1 (by decide) (hts _ mw_166) (fun _ h9 => h9) rfl hin rfl (by decide +kernel) rfl rfl (Nat.le_of_ble_eq_true rfl) d_Hi_init_17 (fun H locs hP hD hS => ?_)
  have hP : va_P D classes [(o, .inr (3, [.ref q7, .ref q15, .null, .int (J 0), .int (J 0), .int (J 0)])), (q7, ca cI 40 (fun _ => 0)), (q15, ca cI 40 (fun _ => 0))] H := hP
  have hD : va_D A [(o, .inr (3, [.ref q7, .ref q15, .null, .int (J 0), .int (J 0), .int (J 0)])), (q7, ca cI 40 (fun _ => 0)), (q15, ca cI 40 (fun _ => 0))] := hD
  refine lv_aload_n hx hb d_Hi_init_20 rfl (lv_at hl 0 rfl) ?_
  refine lv_bipush (v := J (40)) hx hb d_Hi_init_21 (by decide) ?_
  refine w_newi hx hb (hts _ mw_74) hK hP hD hS hA 0 rfl rfl 40 (by omega) (by omega) (by decide) (by decide) d_Hi_init_23 (fun q23 H hP hD hS => ?_)
  have hP : va_P D classes [(o, .inr (3, [.ref q7, .ref q15, .null, .int (J 0), .int (J 0), .int (J 0)])), (q7, ca cI 40 (fun _ => 0)), (q15, ca cI 40 (fun _ => 0)), (q23, ca cI 40 (fun _ => 0))] H := hP
  have hD : va_D A [(o, .inr (3, [.ref q7, .ref q15, .null, .int (J 0), .int (J 0), .int (J 0)])), (q7, ca cI 40 (fun _ => 0)), (q15, ca cI 40 (fun _ => 0)), (q23, ca cI 40 (fun _ => 0))] := hD
  refine W.widen (k := 3) (n := 120) (by decide) (by decide) ?_
  refine va_putF (D := D) (ci := 3) (v := .ref q23) (ty := (.array .int)) (C := R_Hi) (T := T_Hi) (N := 6) hx hb hts i_Hi t_Hi k_Hi n_Hi hown hK hP hD hS 0 rfl rfl 2 (by decide) (hts _ mw_168) (fun _ h9 => h9) rfl hin rfl (by decide +kernel) rfl rfl (Nat.le_of_ble_eq_true rfl) d_Hi_init_25 (fun H locs hP hD hS => ?_)
  have hP : va_P D classes [(o, .inr (3, [.ref q7, .ref q15, .ref q23, .int (J 0), .int (J 0), .int (J 0)])), (q7, ca cI 40 (fun _ => 0)), (q15, ca cI 40 (fun _ => 0)), (q23, ca cI 40 (fun _ => 0))] H := hP
  have hD : va_D A [(o, .inr (3, [.ref q7, .ref q15, .ref q23, .int (J 0), .int (J 0), .int (J 0)])), (q7, ca cI 40 (fun _ => 0)), (q15, ca cI 40 (fun _ => 0)), (q23, ca cI 40 (fun _ => 0))] := hD
  refine lv_aload_n hx hb d_Hi_init_28 rfl (lv_at hl 0 rfl) ?_
  refine lv_iconst (v := J (0)) hx hb d_Hi_init_29 rfl ?_
  refine va_put (D := D) (ci := 3) (v := .int (J 0)) (ty := .int) (C := R_Hi) (T := T_Hi) (N := 6) hx hb hts i_Hi t_Hi k_Hi n_Hi hown hK hP hD hS 0 rfl rfl 3 (by decide) (hts _ mw_169) (fun _ h9 => h9) rfl (by decide +kernel) rfl rfl (Nat.le_of_ble_eq_true rfl) d_Hi_init_30 (fun H locs hP hD hS => ?_)
  have hP : va_P D classes [(o, .inr (3, [.ref q7, .ref q15, .ref q23, .int (J 0), .int (J 0), .int (J 0)])), (q7, ca cI 40 (fun _ => 0)), (q15, ca cI 40 (fun _ => 0)), (q23, ca cI 40 (fun _ => 0))] H := hP
  have hD : va_D A [(o, .inr (3, [.ref q7, .ref q15, .ref q23, .int (J 0), .int (J 0), .int (J 0)])), (q7, ca cI 40 (fun _ => 0)), (q15, ca cI 40 (fun _ => 0)), (q23, ca cI 40 (fun _ => 0))] := hD
  refine lv_aload_n hx hb d_Hi_init_33 rfl (lv_at hl 0 rfl) ?_
  refine lv_iconst (v := J (0)) hx hb d_Hi_init_34 rfl ?_
  refine va_put (D := D) (ci := 3) (v := .int (J 0)) (ty := .int) (C := R_Hi) (T := T_Hi) (N := 6) hx hb hts i_Hi t_Hi k_Hi n_Hi hown hK hP hD hS 0 rfl rfl 4 (by decide) (hts _ mw_170) (fun _ h9 => h9) rfl (by decide +kernel) rfl rfl (Nat.le_of_ble_eq_true rfl) d_Hi_init_35 (fun H locs hP hD hS => ?_)
  have hP : va_P D classes [(o, .inr (3, [.ref q7, .ref q15, .ref q23, .int (J 0), .int (J 0), .int (J 0)])), (q7, ca cI 40 (fun _ => 0)), (q15, ca cI 40 (fun _ => 0)), (q23, ca cI 40 (fun _ => 0))] H := hP
  have hD : va_D A [(o, .inr (3, [.ref q7, .ref q15, .ref q23, .int (J 0), .int (J 0), .int (J 0)])), (q7, ca cI 40 (fun _ => 0)), (q15, ca cI 40 (fun _ => 0)), (q23, ca cI 40 (fun _ => 0))] := hD
  refine lv_aload_n hx hb d_Hi_init_38 rfl (lv_at hl 0 rfl) ?_
  refine lv_iconst (v := J (0)) hx hb d_Hi_init_39 rfl ?_
  refine va_put (D := D) (ci := 3) (v := .int (J 0)) (ty := .int) (C := R_Hi) (T := T_Hi) (N := 6) hx hb hts i_Hi t_Hi k_Hi n_Hi hown hK hP hD hS 0 rfl rfl 5 (by decide) (hts _ mw_171) (fun _ h9 => h9) rfl (by decide +kernel) rfl rfl (Nat.le_of_ble_eq_true rfl) d_Hi_init_40 (fun H locs hP hD hS => ?_)
  have hP : va_P D classes [(o, .inr (3, [.ref q7, .ref q15, .ref q23, .int (J 0), .int (J 0), .int (J 0)])), (q7, ca cI 40 (fun _ => 0)), (q15, ca cI 40 (fun _ => 0)), (q23, ca cI 40 (fun _ => 0))] H := hP
  have hD : va_D A [(o, .inr (3, [.ref q7, .ref q15, .ref q23, .int (J 0), .int (J 0), .int (J 0)])), (q7, ca cI 40 (fun _ => 0)), (q15, ca cI 40 (fun _ => 0)), (q23, ca cI 40 (fun _ => 0))] := hD
  exact Mv_ret hx hb hr hlocks hQ d_Hi_init_43 hP hK hD hS (fun t => ([q7, q15, q23] : List Nat).getD t 0) (trivial) [0, 1, 2, 3] rfl (by decide)
set_option maxHeartbeats 1000000 in
set_option maxRecDepth 100000 in
theorem c_Bk_init (l : Launch) (D : va_G) (cI cZ cJ : ClassId) (sz : Nat) (o : Nat)  : Mv l y_Bk_init w_Bk_init ({ frames := 2, cells := 7, slots := 1483, locals := 33 }) false D classes [(cI, .int), (cZ, .boolean), (cJ, .long)] sz [.ref o] [(o, .inr (0, [.null, .null, .null, .null, .null, .int (J 0)]))] (S := Nat → Nat) (fun _ => True) (fun u : Nat → Nat => [(o, .inr (0, [.ref (u 0), .ref (u 3), .ref (u 4), .ref (u 5), .ref (u 6), .int (J 0)])), (u 0, .inr (6, [.ref (u 1), .ref (u 2), .int (J 0)])), (u 1, ca cI 1200 (fun _ => 0)), (u 2, ca cI 120 (fun _ => 0)), (u 3, ca cI 40 (fun _ => 0)), (u 4, ca cI 40 (fun _ => 0)), (u 5, ca cI 40 (fun _ => 0)), (u 6, ca cZ 40 (fun _ => 0))]) 7 1483 := by
  refine Mv_of (cc := b_Bk_init) (maxL := 1) (by decide) rfl (Nat.le_of_ble_eq_true rfl) ?_
  intro p e s m args below meth c hx hb hr hml hts hown hlocks hin A hA hP hK hD hT hS Q hQ H hH ls hl
  subst hH
  have hl : lv_has ls 1 [(0, .ref o)] := hl
  refine lv_aload_n hx hb d_Bk_init_0 rfl (lv_at hl 0 rfl) ?_
  refine W.objInit hx hb hown (hts _ mw_52) (hts _ mw_45) (hts _ mw_46) rfl (by rw [hml]; exact hl.1) rfl d_Bk_init_1 (Nat.le_of_ble_eq_true rfl) (Nat.le_of_ble_eq_true rfl) ?_
  refine W.eq (g2 := F0 m 4 ls []) rfl ?_
  refine lv_aload_n hx hb d_Bk_init_4 rfl (lv_at hl 0 rfl) ?_
  refine va_new (ci := 6) (fs := [.null, .null, .int (J 0)]) (C := R_Wo) (T := T_Wo) (N := 3) hx hb hts i_Wo t_Wo k_Wo hown (hts _ mw_53) (hts _ mw_54) (hts _ mw_27) hK hP hD hS hA rfl (dv_Wo) (by decide) (by decide) d_Bk_init_5 (fun q5 H hP hD hS => ?_)
  have hP : va_P D classes [(o, .inr (0, [.null, .null, .null, .null, .null, .int (J 0)])), (q5, .inr (6, [.null, .null, .int (J 0)]))] H := hP
  have hD : va_D A [(o, .inr (0, [.null, .null, .null, .null, .null, .int (J 0)])), (q5, .inr (6, [.null, .null, .int (J 0)]))] := hD
  refine W.widen (k := 1) (n := 3) (by decide) (by decide) ?_
  refine lv_dup hx hb d_Bk_init_8 rfl ?_
  refine lv_bipush (v := J (120)) hx hb d_Bk_init_9 (by decide) ?_
  refine Mv_call (wr := [(o, .inr (0, [.null, .null, .null, .null, .null, .int (J 0)]))]) (va_runI (As := [.int (J 120)]) (rest := [.ref q5, .ref o]) ⟨hx, hb, hml, hown, hts⟩ (c_Wo_init_120 l D cI cZ cJ H.size q5 ) (cwI 1 hts (BW_cons mw_57) rfl rfl rfl (hts _ mw_27) (hts _ mw_55) (hts _ mw_56) rfl (by decide +kernel) ⟨Nat.le_of_ble_eq_true rfl, Nat.le_of_ble_eq_true rfl⟩) (pre_WS hP hK hD [1] rfl (by decide) (fun h => Bool.noConfusion h)) rfl rfl hl.1 rfl (lv_room (Nat.le_of_ble_eq_true rfl)) d_Bk_init_11 ⟨Nat.le_of_ble_eq_true rfl, Nat.le_of_ble_eq_true rfl⟩) hP hD hS hA [1] [0] rfl rfl (by decide) (by decide) (fun u_11 H locs hu_11 hP hD hS => ?_)
  have hP : va_P D classes [(o, .inr (0, [.null, .null, .null, .null, .null, .int (J 0)])), (q5, .inr (6, [.ref (u_11 0), .ref (u_11 1), .int (J 0)])), (u_11 0, ca cI 1200 (fun _ => 0)), (u_11 1, ca cI 120 (fun _ => 0))] H := hP
  have hD : va_D A [(o, .inr (0, [.null, .null, .null, .null, .null, .int (J 0)])), (q5, .inr (6, [.ref (u_11 0), .ref (u_11 1), .int (J 0)])), (u_11 0, ca cI 1200 (fun _ => 0)), (u_11 1, ca cI 120 (fun _ => 0))] := hD
  refine W.widen (k := 3) (n := 1323) (by decide) (by decide) ?_
  refine va_putF (D := D) (ci := 0) (v := .ref q5) (ty := (.object "NearFinder$Words")) (C := R_Bk) (T := T_Bk) (N := 6) hx hb hts i_Bk t_Bk k_Bk n_Bk hown hK hP hD hS 0 rfl rfl 0 (by decide) (hts _ mw_75) (fun _ h9 => h9) rfl hin rfl (by decide +kernel) rfl rfl (Nat.le_of_ble_eq_true rfl) d_Bk_init_14 (fun H locs hP hD hS => ?_)
  have hP : va_P D classes [(o, .inr (0, [.ref q5, .null, .null, .null, .null, .int (J 0)])), (q5, .inr (6, [.ref (u_11 0), .ref (u_11 1), .int (J 0)])), (u_11 0, ca cI 1200 (fun _ => 0)), (u_11 1, ca cI 120 (fun _ => 0))] H := hP
  have hD : va_D A [(o, .inr (0, [.ref q5, .null, .null, .null, .null, .int (J 0)])), (q5, .inr (6, [.ref (u_11 0), .ref (u_11 1), .int (J 0)])), (u_11 0, ca cI 1200 (fun _ => 0)), (u_11 1, ca cI 120 (fun _ => 0))] := hD
  refine lv_aload_n hx hb d_Bk_init_17 rfl (lv_at hl 0 rfl) ?_
  refine lv_bipush (v := J (40)) hx hb d_Bk_init_18 (by decide) ?_
  refine w_newi hx hb (hts _ mw_74) hK hP hD hS hA 0 rfl rfl 40 (by omega) (by omega) (by decide) (by decide) d_Bk_init_20 (fun q20 H hP hD hS => ?_)
  have hP : va_P D classes [(o, .inr (0, [.ref q5, .null, .null, .null, .null, .int (J 0)])), (q5, .inr (6, [.ref (u_11 0), .ref (u_11 1), .int (J 0)])), (u_11 0, ca cI 1200 (fun _ => 0)), (u_11 1, ca cI 120 (fun _ => 0)), (q20, ca cI 40 (fun _ => 0))] H := hP
  have hD : va_D A [(o, .inr (0, [.ref q5, .null, .null, .null, .null, .int (J 0)])), (q5, .inr (6, [.ref (u_11 0), .ref (u_11 1), .int (J 0)])), (u_11 0, ca cI 1200 (fun _ => 0)), (u_11 1, ca cI 120 (fun _ => 0)), (q20, ca cI 40 (fun _ => 0))] := hD
  refine W.widen (k := 4) (n := 1363) (by decide) (by decide) ?_
  refine va_putF (D := D) (ci := 0) (v := .ref q20) (ty := (.array .int)) (C := R_Bk) (T := T_Bk) (N := 6) hx hb hts i_Bk t_Bk k_Bk n_Bk hown hK hP hD hS 0 rfl rfl 1 (by decide) (hts _ mw_77) (fun _ h9 => h9) rfl hin rfl (by decide +kernel) rfl rfl (Nat.le_of_ble_eq_true rfl) d_Bk_init_22 (fun H locs hP hD hS => ?_)
  have hP : va_P D classes [(o, .inr (0, [.ref q5, .ref q20, .null, .null, .null, .int (J 0)])), (q5, .inr (6, [.ref (u_11 0), .ref (u_11 1), .int (J 0)])), (u_11 0, ca cI 1200 (fun _ => 0)), (u_11 1, ca cI 120 (fun _ => 0)), (q20, ca cI 40 (fun _ => 0))] H := hP
  have hD : va_D A [(o, .inr (0, [.ref q5, .ref q20, .null, .null, .null, .int (J 0)])), (q5, .inr (6, [.ref (u_11 0), .ref (u_11 1), .int (J 0)])), (u_11 0, ca cI 1200 (fun _ => 0)), (u_11 1, ca cI 120 (fun _ => 0)), (q20, ca cI 40 (fun _ => 0))] := hD
  refine lv_aload_n hx hb d_Bk_init_25 rfl (lv_at hl 0 rfl) ?_
  refine lv_bipush (v := J (40)) hx hb d_Bk_init_26 (by decide) ?_
  refine w_newi hx hb (hts _ mw_74) hK hP hD hS hA 0 rfl rfl 40 (by omega) (by omega) (by decide) (by decide) d_Bk_init_28 (fun q28 H hP hD hS => ?_)
  have hP : va_P D classes [(o, .inr (0, [.ref q5, .ref q20, .null, .null, .null, .int (J 0)])), (q5, .inr (6, [.ref (u_11 0), .ref (u_11 1), .int (J 0)])), (u_11 0, ca cI 1200 (fun _ => 0)), (u_11 1, ca cI 120 (fun _ => 0)), (q20, ca cI 40 (fun _ => 0)), (q28, ca cI 40 (fun _ => 0))] H := hP
  have hD : va_D A [(o, .inr (0, [.ref q5, .ref q20, .null, .null, .null, .int (J 0)])), (q5, .inr (6, [.ref (u_11 0), .ref (u_11 1), .int (J 0)])), (u_11 0, ca cI 1200 (fun _ => 0)), (u_11 1, ca cI 120 (fun _ => 0)), (q20, ca cI 40 (fun _ => 0)), (q28, ca cI 40 (fun _ => 0))] := hD
  refine W.widen (k := 5) (n := 1403) (by decide) (by decide) ?_
  refine va_putF (D := D) (ci := 0) (v := .ref q28) (ty := (.array .int)) (C := R_Bk) (T := T_Bk) (N := 6) hx hb hts i_Bk t_Bk k_Bk n_Bk hown hK hP hD hS 0 rfl rfl 2 (by decide) (hts _ mw_79) (fun _ h9 => h9) rfl hin rfl (by decide +kernel) rfl rfl (Nat.le_of_ble_eq_true rfl) d_Bk_init_30 (fun H locs hP hD hS => ?_)
  have hP : va_P D classes [(o, .inr (0, [.ref q5, .ref q20, .ref q28, .null, .null, .int (J 0)])), (q5, .inr (6, [.ref (u_11 0), .ref (u_11 1), .int (J 0)])), (u_11 0, ca cI 1200 (fun _ => 0)), (u_11 1, ca cI 120 (fun _ => 0)), (q20, ca cI 40 (fun _ => 0)), (q28, ca cI 40 (fun _ => 0))] H := hP
  have hD : va_D A [(o, .inr (0, [.ref q5, .ref q20, .ref q28, .null, .null, .int (J 0)])), (q5, .inr (6, [.ref (u_11 0), .ref (u_11 1), .int (J 0)])), (u_11 0, ca cI 1200 (fun _ => 0)), (u_11 1, ca cI 120 (fun _ => 0)), (q20, ca cI 40 (fun _ => 0)), (q28, ca cI 40 (fun _ => 0))] := hD
  refine lv_aload_n hx hb d_Bk_init_33 rfl (lv_at hl 0 rfl) ?_
  refine lv_bipush (v := J (40)) hx hb d_Bk_init_34 (by decide) ?_
  refine w_newi hx hb (hts _ mw_74) hK hP hD hS hA 0 rfl rfl 40 (by omega) (by omega) (by decide) (by decide) d_Bk_init_36 (fun q36 H hP hD hS => ?_)
  have hP : va_P D classes [(o, .inr (0, [.ref q5, .ref q20, .ref q28, .null, .null, .int (J 0)])), (q5, .inr (6, [.ref (u_11 0), .ref (u_11 1), .int (J 0)])), (u_11 0, ca cI 1200 (fun _ => 0)), (u_11 1, ca cI 120 (fun _ => 0)), (q20, ca cI 40 (fun _ => 0)), (q28, ca cI 40 (fun _ => 0)), (q36, ca cI 40 (fun _ => 0))] H := hP
  have hD : va_D A [(o, .inr (0, [.ref q5, .ref q20, .ref q28, .null, .null, .int (J 0)])), (q5, .inr (6, [.ref (u_11 0), .ref (u_11 1), .int (J 0)])), (u_11 0, ca cI 1200 (fun _ => 0)), (u_11 1, ca cI 120 (fun _ => 0)), (q20, ca cI 40 (fun _ => 0)), (q28, ca cI 40 (fun _ => 0)), (q36, ca cI 40 (fun _ => 0))] := hD
  refine W.widen (k := 6) (n := 1443) (by decide) (by decide) ?_
  refine va_putF (D := D) (ci := 0) (v := .ref q36) (ty := (.array .int)) (C := R_Bk) (T := T_Bk) (N := 6) hx hb hts i_Bk t_Bk k_Bk n_Bk hown hK hP hD hS 0 rfl rfl 3 (by decide) (hts _ mw_81) (fun _ h9 => h9) rfl hin rfl (by decide +kernel) rfl rfl (Nat.le_of_ble_eq_true rfl) d_Bk_init_38 (fun H locs hP hD hS => ?_)
  have hP : va_P D classes [(o, .inr (0, [.ref q5, .ref q20, .ref q28, .ref q36, .null, .int (J 0)])), (q5, .inr (6, [.ref (u_11 0), .ref (u_11 1), .int (J 0)])), (u_11 0, ca cI 1200 (fun _ => 0)), (u_11 1, ca cI 120 (fun _ => 0)), (q20, ca cI 40 (fun _ => 0)), (q28, ca cI 40 (fun _ => 0)), (q36, ca cI 40 (fun _ => 0))] H := hP
  have hD : va_D A [(o, .inr (0, [.ref q5, .ref q20, .ref q28, .ref q36, .null, .int (J 0)])), (q5, .inr (6, [.ref (u_11 0), .ref (u_11 1), .int (J 0)])), (u_11 0, ca cI 1200 (fun _ => 0)), (u_11 1, ca cI 120 (fun _ => 0)), (q20, ca cI 40 (fun _ => 0)), (q28, ca cI 40 (fun _ => 0)), (q36, ca cI 40 (fun _ => 0))] := hD
  refine lv_aload_n hx hb d_Bk_init_41 rfl (lv_at hl 0 rfl) ?_
  refine lv_bipush (v := J (40)) hx hb d_Bk_init_42 (by decide) ?_
  refine w_newz hx hb (hts _ mw_99) hK hP hD hS hA 1 rfl rfl 40 (by omega) (by omega) (by decide) (by decide) d_Bk_init_44 (fun q44 H hP hD hS => ?_)
  have hP : va_P D classes [(o, .inr (0, [.ref q5, .ref q20, .ref q28, .ref q36, .null, .int (J 0)])), (q5, .inr (6, [.ref (u_11 0), .ref (u_11 1), .int (J 0)])), (u_11 0, ca cI 1200 (fun _ => 0)), (u_11 1, ca cI 120 (fun _ => 0)), (q20, ca cI 40 (fun _ => 0)), (q28, ca cI 40 (fun _ => 0)), (q36, ca cI 40 (fun _ => 0)), (q44, ca cZ 40 (fun _ => 0))] H := hP
  have hD : va_D A [(o, .inr (0, [.ref q5, .ref q20, .ref q28, .ref q36, .null, .int (J 0)])), (q5, .inr (6, [.ref (u_11 0), .ref (u_11 1), .int (J 0)])), (u_11 0, ca cI 1200 (fun _ => 0)), (u_11 1, ca cI 120 (fun _ => 0)), (q20, ca cI 40 (fun _ => 0)), (q28, ca cI 40 (fun _ => 0)), (q36, ca cI 40 (fun _ => 0)), (q44, ca cZ 40 (fun _ => 0))] := hD
  refine W.widen (k := 7) (n := 1483) (by decide) (by decide) ?_
  refine va_putF (D := D) (ci := 0) (v := .ref q44) (ty := (.array .boolean)) (C := R_Bk) (T := T_Bk) (N := 6) hx hb hts i_Bk t_Bk k_Bk n_Bk hown hK hP hD hS 0 rfl rfl 4 (by decide) (hts _ mw_82) (fun _ h9 => h9) rfl hin rfl (by decide +kernel) rfl rfl (Nat.le_of_ble_eq_true rfl) d_Bk_init_46 (fun H locs hP hD hS => ?_)
  have hP : va_P D classes [(o, .inr (0, [.ref q5, .ref q20, .ref q28, .ref q36, .ref q44, .int (J 0)])), (q5, .inr (6, [.ref (u_11 0), .ref (u_11 1), .int (J 0)])), (u_11 0, ca cI 1200 (fun _ => 0)), (u_11 1, ca cI 120 (fun _ => 0)), (q20, ca cI 40 (fun _ => 0)), (q28, ca cI 40 (fun _ => 0)), (q36, ca cI 40 (fun _ => 0)), (q44, ca cZ 40 (fun _ => 0))] H := hP
  have hD : va_D A [(o, .inr (0, [.ref q5, .ref q20, .ref q28, .ref q36, .ref q44, .int (J 0)])), (q5, .inr (6, [.ref (u_11 0), .ref (u_11 1), .int (J 0)])), (u_11 0, ca cI 1200 (fun _ => 0)), (u_11 1, ca cI 120 (fun _ => 0)), (q20, ca cI 40 (fun _ => 0)), (q28, ca cI 40 (fun _ => 0)), (q36, ca cI 40 (fun _ => 0)), (q44, ca cZ 40 (fun _ => 0))] := hD
  refine lv_aload_n hx hb d_Bk_init_49 rfl (lv_at hl 0 rfl) ?_
  refine lv_iconst (v := J (0)) hx hb d_Bk_init_50 rfl ?_
  refine va_put (D := D) (ci := 0) (v := .int (J 0)) (ty := .int) (C := R_Bk) (T := T_Bk) (N := 6) hx hb hts i_Bk t_Bk k_Bk n_Bk hown hK hP hD hS 0 rfl rfl 5 (by decide) (hts _ mw_84) (fun _ h9 => h9) rfl (by decide +kernel) rfl rfl (Nat.le_of_ble_eq_true rfl) d_Bk_init_51 (fun H locs hP hD hS => ?_)
  have hP : va_P D classes [(o, .inr (0, [.ref q5, .ref q20, .ref q28, .ref q36, .ref q44, .int (J 0)])), (q5, .inr (6, [.ref (u_11 0), .ref (u_11 1), .int (J 0)])), (u_11 0, ca cI 1200 (fun _ => 0)), (u_11 1, ca cI 120 (fun _ => 0)), (q20, ca cI 40 (fun _ => 0)), (q28, ca cI 40 (fun _ => 0)), (q36, ca cI 40 (fun _ => 0)), (q44, ca cZ 40 (fun _ => 0))] H := hP
  have hD : va_D A [(o, .inr (0, [.ref q5, .ref q20, .ref q28, .ref q36, .ref q44, .int (J 0)])), (q5, .inr (6, [.ref (u_11 0), .ref (u_11 1), .int (J 0)])), (u_11 0, ca cI 1200 (fun _ => 0)), (u_11 1, ca cI 120 (fun _ => 0)), (q20, ca cI 40 (fun _ => 0)), (q28, ca cI 40 (fun _ => 0)), (q36, ca cI 40 (fun _ => 0)), (q44, ca cZ 40 (fun _ => 0))] := hD
  exact Mv_ret hx hb hr hlocks hQ d_Bk_init_54 hP hK hD hS (fun t => ([q5, u_11 0, u_11 1, q20, q28, q36, q44] : List Nat).getD t 0) (trivial) [0, 1, 2, 3, 4, 5, 6, 7] rfl (by decide)
set_option maxHeartbeats 1000000 in
set_option maxRecDepth 100000 in
theorem c_Nf_init (l : Launch) (D : va_G) (cI cZ cJ : ClassId) (sz : Nat) (o : Nat)  : Mv l y_Nf_init w_Nf_init ({ frames := 3, cells := 23, slots := 1712, locals := 53 }) false D classes [(cI, .int), (cZ, .boolean), (cJ, .long)] sz [.ref o] [(o, .inr (7, [.null, .null, .null, .null, .null, .null, .null, .int (J 0), .int (J 0)]))] (S := Nat → Nat) (fun _ => True) (fun u : Nat → Nat => [(o, .inr (7, [.ref (u 0), .ref (u 8), .ref (u 11), .ref (u 13), .ref (u 15), .ref (u 17), .ref (u 19), .int (J (-1)), .int (J 0)])), (u 0, .inr (0, [.ref (u 1), .ref (u 4), .ref (u 5), .ref (u 6), .ref (u 7), .int (J 0)])), (u 1, .inr (6, [.ref (u 2), .ref (u 3), .int (J 0)])), (u 2, ca cI 1200 (fun _ => 0)), (u 3, ca cI 120 (fun _ => 0)), (u 4, ca cI 40 (fun _ => 0)), (u 5, ca cI 40 (fun _ => 0)), (u 6, ca cI 40 (fun _ => 0)), (u 7, ca cZ 40 (fun _ => 0)), (u 8, .inr (6, [.ref (u 9), .ref (u 10), .int (J 0)])), (u 9, ca cI 30 (fun _ => 0)), (u 10, ca cI 3 (fun _ => 0)), (u 11, .inr (5, [.ref (u 12)])), (u 12, ca cI 6 (iu (iu (iu (iu (iu (iu (fun _ => 0) 0 10) 1 10) 2 15) 3 5) 4 60) 5 20)), (u 13, .inr (1, [.ref (u 11), .ref (u 14)])), (u 14, ca cI 11 (fun _ => 0)), (u 15, .inr (2, [.ref (u 11), .ref (u 16)])), (u 16, ca cI 26 (fun _ => 0)), (u 17, .inr (4, [.ref (u 11), .ref (u 18), .int (J 0), .int (J 0)])), (u 18, ca cI 9 (fun _ => 0)), (u 19, .inr (3, [.ref (u 20), .ref (u 21), .ref (u 22), .int (J 0), .int (J 0), .int (J 0)])), (u 20, ca cI 40 (fun _ => 0)), (u 21, ca cI 40 (fun _ => 0)), (u 22, ca cI 40 (fun _ => 0))]) 23 1712 := by
  refine Mv_of (cc := b_Nf_init) (maxL := 1) (by decide) rfl (Nat.le_of_ble_eq_true rfl) ?_
  intro p e s m args below meth c hx hb hr hml hts hown hlocks hin A hA hP hK hD hT hS Q hQ H hH ls hl
  subst hH
  have hl : lv_has ls 1 [(0, .ref o)] := hl
  refine lv_aload_n hx hb d_Nf_init_0 rfl (lv_at hl 0 rfl) ?_
  refine W.objInit hx hb hown (hts _ mw_44) (hts _ mw_45) (hts _ mw_46) rfl (by rw [hml]; exact hl.1) rfl d_Nf_init_1 (Nat.le_of_ble_eq_true rfl) (Nat.le_of_ble_eq_true rfl) ?_
  refine W.eq (g2 := F0 m 4 ls []) rfl ?_
  refine lv_aload_n hx hb d_Nf_init_4 rfl (lv_at hl 0 rfl) ?_
  refine va_new (ci := 0) (fs := [.null, .null, .null, .null, .null, .int (J 0)]) (C := R_Bk) (T := T_Bk) (N := 6) hx hb hts i_Bk t_Bk k_Bk hown (hts _ mw_47) (hts _ mw_48) (hts _ mw_26) hK hP hD hS hA rfl (dv_Bk) (by decide) (by decide) d_Nf_init_5 (fun q5 H hP hD hS => ?_)
  have hP : va_P D classes [(o, .inr (7, [.null, .null, .null, .null, .null, .null, .null, .int (J 0), .int (J 0)])), (q5, .inr (0, [.null, .null, .null, .null, .null, .int (J 0)]))] H := hP
  have hD : va_D A [(o, .inr (7, [.null, .null, .null, .null, .null, .null, .null, .int (J 0), .int (J 0)])), (q5, .inr (0, [.null, .null, .null, .null, .null, .int (J 0)]))] := hD
  refine W.widen (k := 1) (n := 6) (by decide) (by decide) ?_
  refine lv_dup hx hb d_Nf_init_8 rfl ?_
  refine Mv_call (wr := [(o, .inr (7, [.null, .null, .null, .null, .null, .null, .null, .int (J 0), .int (J 0)]))]) (va_runI (As := []) (rest := [.ref q5, .ref o]) ⟨hx, hb, hml, hown, hts⟩ (c_Bk_init l D cI cZ cJ H.size q5 ) (cwI 0 hts (BW_cons mw_51) rfl rfl rfl (hts _ mw_26) (hts _ mw_49) (hts _ mw_50) rfl (by decide +kernel) ⟨Nat.le_of_ble_eq_true rfl, Nat.le_of_ble_eq_true rfl⟩) (pre_WS hP hK hD [1] rfl (by decide) (fun h => Bool.noConfusion h)) rfl rfl hl.1 rfl (lv_room (Nat.le_of_ble_eq_true rfl)) d_Nf_init_9 ⟨Nat.le_of_ble_eq_true rfl, Nat.le_of_ble_eq_true rfl⟩) hP hD hS hA [1] [0] rfl rfl (by decide) (by decide) (fun u_9 H locs hu_9 hP hD hS => ?_)
  have hP : va_P D classes [(o, .inr (7, [.null, .null, .null, .null, .null, .null, .null, .int (J 0), .int (J 0)])), (q5, .inr (0, [.ref (u_9 0), .ref (u_9 3), .ref (u_9 4), .ref (u_9 5), .ref (u_9 6), .int (J 0)])), (u_9 0, .inr (6, [.ref (u_9 1), .ref (u_9 2), .int (J 0)])), (u_9 1, ca cI 1200 (fun _ => 0)), (u_9 2, ca cI 120 (fun _ => 0)), (u_9 3, ca cI 40 (fun _ => 0)), (u_9 4, ca cI 40 (fun _ => 0)), (u_9 5, ca cI 40 (fun _ => 0)), (u_9 6, ca cZ 40 (fun _ => 0))] H := hP
  have hD : va_D A [(o, .inr (7, [.null, .null, .null, .null, .null, .null, .null, .int (J 0), .int (J 0)])), (q5, .inr (0, [.ref (u_9 0), .ref (u_9 3), .ref (u_9 4), .ref (u_9 5), .ref (u_9 6), .int (J 0)])), (u_9 0, .inr (6, [.ref (u_9 1), .ref (u_9 2), .int (J 0)])), (u_9 1, ca cI 1200 (fun _ => 0)), (u_9 2, ca cI 120 (fun _ => 0)), (u_9 3, ca cI 40 (fun _ => 0)), (u_9 4, ca cI 40 (fun _ => 0)), (u_9 5, ca cI 40 (fun _ => 0)), (u_9 6, ca cZ 40 (fun _ => 0))] := hD
  refine W.widen (k := 8) (n := 1489) (by decide) (by decide) ?_
  refine va_putF (D := D) (ci := 7) (v := .ref q5) (ty := (.object "NearFinder$Book")) (C := R_Nf) (T := T_Nf) (N := 9) hx hb hts i_Nf t_Nf k_Nf n_Nf hown hK hP hD hS 0 rfl rfl 0 (by decide) (hts _ mw_186) (fun _ h9 => h9) rfl hin rfl (by decide +kernel) rfl rfl (Nat.le_of_ble_eq_true rfl) d_Nf_init_12 (fun H locs hP hD hS => ?_)
  have hP : va_P D classes [(o, .inr (7, [.ref q5, .null, .null, .null, .null, .null, .null, .int (J 0), .int (J 0)])), (q5, .inr (0, [.ref (u_9 0), .ref (u_9 3), .ref (u_9 4), .ref (u_9 5), .ref (u_9 6), .int (J 0)])), (u_9 0, .inr (6, [.ref (u_9 1), .ref (u_9 2), .int (J 0)])), (u_9 1, ca cI 1200 (fun _ => 0)), (u_9 2, ca cI 120 (fun _ => 0)), (u_9 3, ca cI 40 (fun _ => 0)), (u_9 4, ca cI 40 (fun _ => 0)), (u_9 5, ca cI 40 (fun _ => 0)), (u_9 6, ca cZ 40 (fun _ => 0))] H := hP
  have hD : va_D A [(o, .inr (7, [.ref q5, .null, .null, .null, .null, .null, .null, .int (J 0), .int (J 0)])), (q5, .inr (0, [.ref (u_9 0), .ref (u_9 3), .ref (u_9 4), .ref (u_9 5), .ref (u_9 6), .int (J 0)])), (u_9 0, .inr (6, [.ref (u_9 1), .ref (u_9 2), .int (J 0)])), (u_9 1, ca cI 1200 (fun _ => 0)), (u_9 2, ca cI 120 (fun _ => 0)), (u_9 3, ca cI 40 (fun _ => 0)), (u_9 4, ca cI 40 (fun _ => 0)), (u_9 5, ca cI 40 (fun _ => 0)), (u_9 6, ca cZ 40 (fun _ => 0))] := hD
  refine lv_aload_n hx hb d_Nf_init_15 rfl (lv_at hl 0 rfl) ?_
  refine va_new (ci := 6) (fs := [.null, .null, .int (J 0)]) (C := R_Wo) (T := T_Wo) (N := 3) hx hb hts i_Wo t_Wo k_Wo hown (hts _ mw_100) (hts _ mw_54) (hts _ mw_27) hK hP hD hS hA rfl (dv_Wo) (by decide) (by decide) d_Nf_init_16 (fun q16 H hP hD hS => ?_)
  have hP : va_P D classes [(o, .inr (7, [.ref q5, .null, .null, .null, .null, .null, .null, .int (J 0), .int (J 0)])), (q5, .inr (0, [.ref (u_9 0), .ref (u_9 3), .ref (u_9 4), .ref (u_9 5), .ref (u_9 6), .int (J 0)])), (u_9 0, .inr (6, [.ref (u_9 1), .ref (u_9 2), .int (J 0)])), (u_9 1, ca cI 1200 (fun _ => 0)), (u_9 2, ca cI 120 (fun _ => 0)), (u_9 3, ca cI 40 (fun _ => 0)), (u_9 4, ca cI 40 (fun _ => 0)), (u_9 5, ca cI 40 (fun _ => 0)), (u_9 6, ca cZ 40 (fun _ => 0)), (q16, .inr (6, [.null, .null, .int (J 0)]))] H := hP
  have hD : va_D A [(o, .inr (7, [.ref q5, .null, .null, .null, .null, .null, .null, .int (J 0), .int (J 0)])), (q5, .inr (0, [.ref (u_9 0), .ref (u_9 3), .ref (u_9 4), .ref (u_9 5), .ref (u_9 6), .int (J 0)])), (u_9 0, .inr (6, [.ref (u_9 1), .ref (u_9 2), .int (J 0)])), (u_9 1, ca cI 1200 (fun _ => 0)), (u_9 2, ca cI 120 (fun _ => 0)), (u_9 3, ca cI 40 (fun _ => 0)), (u_9 4, ca cI 40 (fun _ => 0)), (u_9 5, ca cI 40 (fun _ => 0)), (u_9 6, ca cZ 40 (fun _ => 0)), (q16, .inr (6, [.null, .null, .int (J 0)]))] := hD
  refine W.widen (k := 9) (n := 1492) (by decide) (by decide) ?_
  refine lv_dup hx hb d_Nf_init_19 rfl ?_
  refine lv_iconst (v := J (3)) hx hb d_Nf_init_20 rfl ?_
  refine Mv_call (wr := [(o, .inr (7, [.ref q5, .null, .null, .null, .null, .null, .null, .int (J 0), .int (J 0)])), (q5, .inr (0, [.ref (u_9 0), .ref (u_9 3), .ref (u_9 4), .ref (u_9 5), .ref (u_9 6), .int (J 0)])), (u_9 0, .inr (6, [.ref (u_9 1), .ref (u_9 2), .int (J 0)])), (u_9 1, ca cI 1200 (fun _ => 0)), (u_9 2, ca cI 120 (fun _ => 0)), (u_9 3, ca cI 40 (fun _ => 0)), (u_9 4, ca cI 40 (fun _ => 0)), (u_9 5, ca cI 40 (fun _ => 0)), (u_9 6, ca cZ 40 (fun _ => 0))]) (va_runI (As := [.int (J 3)]) (rest := [.ref q16, .ref o]) ⟨hx, hb, hml, hown, hts⟩ (c_Wo_init_3 l D cI cZ cJ H.size q16 ) (cwI 1 hts (BW_cons mw_57) rfl rfl rfl (hts _ mw_27) (hts _ mw_101) (hts _ mw_56) rfl (by decide +kernel) ⟨Nat.le_of_ble_eq_true rfl, Nat.le_of_ble_eq_true rfl⟩) (pre_WS hP hK hD [9] rfl (by decide) (fun h => Bool.noConfusion h)) rfl rfl hl.1 rfl (lv_room (Nat.le_of_ble_eq_true rfl)) d_Nf_init_21 ⟨Nat.le_of_ble_eq_true rfl, Nat.le_of_ble_eq_true rfl⟩) hP hD hS hA [9] [0, 1, 2, 3, 4, 5, 6, 7, 8] rfl rfl (by decide) (by decide) (fun u_21 H locs hu_21 hP hD hS => ?_)
  have hP : va_P D classes [(o, .inr (7, [.ref q5, .null, .null, .null, .null, .null, .null, .int (J 0), .int (J 0)])), (q5, .inr (0, [.ref (u_9 0), .ref (u_9 3), .ref (u_9 4), .ref (u_9 5), .ref (u_9 6), .int (J 0)])), (u_9 0, .inr (6, [.ref (u_9 1), .ref (u_9 2), .int (J 0)])), (u_9 1, ca cI 1200 (fun _ => 0)), (u_9 2, ca cI 120 (fun _ => 0)), (u_9 3, ca cI 40 (fun _ => 0)), (u_9 4, ca cI 40 (fun _ => 0)), (u_9 5, ca cI 40 (fun _ => 0)), (u_9 6, ca cZ 40 (fun _ => 0)), (q16, .inr (6, [.ref (u_21 0), .ref (u_21 1), .int (J 0)])), (u_21 0, ca cI 30 (fun _ => 0)), (u_21 1, ca cI 3 (fun _ => 0))] H := hP
  have hD : va_D A [(o, .inr (7, [.ref q5, .null, .null, .null, .null, .null, .null, .int (J 0), .int (J 0)])), (q5, .inr (0, [.ref (u_9 0), .ref (u_9 3), .ref (u_9 4), .ref (u_9 5), .ref (u_9 6), .int (J 0)])), (u_9 0, .inr (6, [.ref (u_9 1), .ref (u_9 2), .int (J 0)])), (u_9 1, ca cI 1200 (fun _ => 0)), (u_9 2, ca cI 120 (fun _ => 0)), (u_9 3, ca cI 40 (fun _ => 0)), (u_9 4, ca cI 40 (fun _ => 0)), (u_9 5, ca cI 40 (fun _ => 0)), (u_9 6, ca cZ 40 (fun _ => 0)), (q16, .inr (6, [.ref (u_21 0), .ref (u_21 1), .int (J 0)])), (u_21 0, ca cI 30 (fun _ => 0)), (u_21 1, ca cI 3 (fun _ => 0))] := hD
  refine W.widen (k := 11) (n := 1525) (by decide) (by decide) ?_
  refine va_putF (D := D) (ci := 7) (v := .ref q16) (ty := (.object "NearFinder$Words")) (C := R_Nf) (T := T_Nf) (N := 9) hx hb hts i_Nf t_Nf k_Nf n_Nf hown hK hP hD hS 0 rfl rfl 1 (by decide) (hts _ mw_187) (fun _ h9 => h9) rfl hin rfl (by decide +kernel) rfl rfl (Nat.le_of_ble_eq_true rfl) d_Nf_init_24 (fun H locs hP hD hS => ?_)
  have hP : va_P D classes [(o, .inr (7, [.ref q5, .ref q16, .null, .null, .null, .null, .null, .int (J 0), .int (J 0)])), (q5, .inr (0, [.ref (u_9 0), .ref (u_9 3), .ref (u_9 4), .ref (u_9 5), .ref (u_9 6), .int (J 0)])), (u_9 0, .inr (6, [.ref (u_9 1), .ref (u_9 2), .int (J 0)])), (u_9 1, ca cI 1200 (fun _ => 0)), (u_9 2, ca cI 120 (fun _ => 0)), (u_9 3, ca cI 40 (fun _ => 0)), (u_9 4, ca cI 40 (fun _ => 0)), (u_9 5, ca cI 40 (fun _ => 0)), (u_9 6, ca cZ 40 (fun _ => 0)), (q16, .inr (6, [.ref (u_21 0), .ref (u_21 1), .int (J 0)])), (u_21 0, ca cI 30 (fun _ => 0)), (u_21 1, ca cI 3 (fun _ => 0))] H := hP
  have hD : va_D A [(o, .inr (7, [.ref q5, .ref q16, .null, .null, .null, .null, .null, .int (J 0), .int (J 0)])), (q5, .inr (0, [.ref (u_9 0), .ref (u_9 3), .ref (u_9 4), .ref (u_9 5), .ref (u_9 6), .int (J 0)])), (u_9 0, .inr (6, [.ref (u_9 1), .ref (u_9 2), .int (J 0)])), (u_9 1, ca cI 1200 (fun _ => 0)), (u_9 2, ca cI 120 (fun _ => 0)), (u_9 3, ca cI 40 (fun _ => 0)), (u_9 4, ca cI 40 (fun _ => 0)), (u_9 5, ca cI 40 (fun _ => 0)), (u_9 6, ca cZ 40 (fun _ => 0)), (q16, .inr (6, [.ref (u_21 0), .ref (u_21 1), .int (J 0)])), (u_21 0, ca cI 30 (fun _ => 0)), (u_21 1, ca cI 3 (fun _ => 0))] := hD
  refine lv_aload_n hx hb d_Nf_init_27 rfl (lv_at hl 0 rfl) ?_
  refine va_new (ci := 5) (fs := [.null]) (C := R_We) (T := T_We) (N := 1) hx hb hts i_We t_We k_We hown (hts _ mw_102) (hts _ mw_103) (hts _ mw_28) hK hP hD hS hA rfl (dv_We) (by decide) (by decide) d_Nf_init_28 (fun q28 H hP hD hS => ?_)
  have hP : va_P D classes [(o, .inr (7, [.ref q5, .ref q16, .null, .null, .null, .null, .null, .int (J 0), .int (J 0)])), (q5, .inr (0, [.ref (u_9 0), .ref (u_9 3), .ref (u_9 4), .ref (u_9 5), .ref (u_9 6), .int (J 0)])), (u_9 0, .inr (6, [.ref (u_9 1), .ref (u_9 2), .int (J 0)])), (u_9 1, ca cI 1200 (fun _ => 0)), (u_9 2, ca cI 120 (fun _ => 0)), (u_9 3, ca cI 40 (fun _ => 0)), (u_9 4, ca cI 40 (fun _ => 0)), (u_9 5, ca cI 40 (fun _ => 0)), (u_9 6, ca cZ 40 (fun _ => 0)), (q16, .inr (6, [.ref (u_21 0), .ref (u_21 1), .int (J 0)])), (u_21 0, ca cI 30 (fun _ => 0)), (u_21 1, ca cI 3 (fun _ => 0)), (q28, .inr (5, [.null]))] H := hP
  have hD : va_D A [(o, .inr (7, [.ref q5, .ref q16, .null, .null, .null, .null, .null, .int (J 0), .int (J 0)])), (q5, .inr (0, [.ref (u_9 0), .ref (u_9 3), .ref (u_9 4), .ref (u_9 5), .ref (u_9 6), .int (J 0)])), (u_9 0, .inr (6, [.ref (u_9 1), .ref (u_9 2), .int (J 0)])), (u_9 1, ca cI 1200 (fun _ => 0)), (u_9 2, ca cI 120 (fun _ => 0)), (u_9 3, ca cI 40 (fun _ => 0)), (u_9 4, ca cI 40 (fun _ => 0)), (u_9 5, ca cI 40 (fun _ => 0)), (u_9 6, ca cZ 40 (fun _ => 0)), (q16, .inr (6, [.ref (u_21 0), .ref (u_21 1), .int (J 0)])), (u_21 0, ca cI 30 (fun _ => 0)), (u_21 1, ca cI 3 (fun _ => 0)), (q28, .inr (5, [.null]))] := hD
  refine W.widen (k := 12) (n := 1526) (by decide) (by decide) ?_
  refine lv_dup hx hb d_Nf_init_31 rfl ?_
  refine Mv_call (wr := [(o, .inr (7, [.ref q5, .ref q16, .null, .null, .null, .null, .null, .int (J 0), .int (J 0)])), (q5, .inr (0, [.ref (u_9 0), .ref (u_9 3), .ref (u_9 4), .ref (u_9 5), .ref (u_9 6), .int (J 0)])), (u_9 0, .inr (6, [.ref (u_9 1), .ref (u_9 2), .int (J 0)])), (u_9 1, ca cI 1200 (fun _ => 0)), (u_9 2, ca cI 120 (fun _ => 0)), (u_9 3, ca cI 40 (fun _ => 0)), (u_9 4, ca cI 40 (fun _ => 0)), (u_9 5, ca cI 40 (fun _ => 0)), (u_9 6, ca cZ 40 (fun _ => 0)), (q16, .inr (6, [.ref (u_21 0), .ref (u_21 1), .int (J 0)])), (u_21 0, ca cI 30 (fun _ => 0)), (u_21 1, ca cI 3 (fun _ => 0))]) (va_runI (As := []) (rest := [.ref q28, .ref o]) ⟨hx, hb, hml, hown, hts⟩ (c_We_init l D cI cZ cJ H.size q28 ) (cwI 0 hts (BW_cons mw_106) rfl rfl rfl (hts _ mw_28) (hts _ mw_104) (hts _ mw_105) rfl (by decide +kernel) ⟨Nat.le_of_ble_eq_true rfl, Nat.le_of_ble_eq_true rfl⟩) (pre_WS hP hK hD [12] rfl (by decide) (fun h => Bool.noConfusion h)) rfl rfl hl.1 rfl (lv_room (Nat.le_of_ble_eq_true rfl)) d_Nf_init_32 ⟨Nat.le_of_ble_eq_true rfl, Nat.le_of_ble_eq_true rfl⟩) hP hD hS hA [12] [0, 1, 2, 3, 4, 5, 6, 7, 8, 9, 10, 11] rfl rfl (by decide) (by decide) (fun u_32 H locs hu_32 hP hD hS => ?_)
  have hP : va_P D classes [(o, .inr (7, [.ref q5, .ref q16, .null, .null, .null, .null, .null, .int (J 0), .int (J 0)])), (q5, .inr (0, [.ref (u_9 0), .ref (u_9 3), .ref (u_9 4), .ref (u_9 5), .ref (u_9 6), .int (J 0)])), (u_9 0, .inr (6, [.ref (u_9 1), .ref (u_9 2), .int (J 0)])), (u_9 1, ca cI 1200 (fun _ => 0)), (u_9 2, ca cI 120 (fun _ => 0)), (u_9 3, ca cI 40 (fun _ => 0)), (u_9 4, ca cI 40 (fun _ => 0)), (u_9 5, ca cI 40 (fun _ => 0)), (u_9 6, ca cZ 40 (fun _ => 0)), (q16, .inr (6, [.ref (u_21 0), .ref (u_21 1), .int (J 0)])), (u_21 0, ca cI 30 (fun _ => 0)), (u_21 1, ca cI 3 (fun _ => 0)), (q28, .inr (5, [.ref (u_32 0)])), (u_32 0, ca cI 6 (iu (iu (iu (iu (iu (iu (fun _ => 0) 0 10) 1 10) 2 15) 3 5) 4 60) 5 20))] H := hP
  have hD : va_D A [(o, .inr (7, [.ref q5, .ref q16, .null, .null, .null, .null, .null, .int (J 0), .int (J 0)])), (q5, .inr (0, [.ref (u_9 0), .ref (u_9 3), .ref (u_9 4), .ref (u_9 5), .ref (u_9 6), .int (J 0)])), (u_9 0, .inr (6, [.ref (u_9 1), .ref (u_9 2), .int (J 0)])), (u_9 1, ca cI 1200 (fun _ => 0)), (u_9 2, ca cI 120 (fun _ => 0)), (u_9 3, ca cI 40 (fun _ => 0)), (u_9 4, ca cI 40 (fun _ => 0)), (u_9 5, ca cI 40 (fun _ => 0)), (u_9 6, ca cZ 40 (fun _ => 0)), (q16, .inr (6, [.ref (u_21 0), .ref (u_21 1), .int (J 0)])), (u_21 0, ca cI 30 (fun _ => 0)), (u_21 1, ca cI 3 (fun _ => 0)), (q28, .inr (5, [.ref (u_32 0)])), (u_32 0, ca cI 6 (iu (iu (iu (iu (iu (iu (fun _ => 0) 0 10) 1 10) 2 15) 3 5) 4 60) 5 20))] := hD
  refine W.widen (k := 13) (n := 1532) (by decide) (by decide) ?_
  refine va_putF (D := D) (ci := 7) (v := .ref q28) (ty := (.object "NearFinder$Weights")) (C := R_Nf) (T := T_Nf) (N := 9) hx hb hts i_Nf t_Nf k_Nf n_Nf hown hK hP hD hS 0 rfl rfl 2 (by decide) (hts _ mw_188) (fun _ h9 => h9) rfl hin rfl (by decide +kernel) rfl rfl (Nat.le_of_ble_eq_true rfl) d_Nf_init_35 (fun H locs hP hD hS => ?_)
  have hP : va_P D classes [(o, .inr (7, [.ref q5, .ref q16, .ref q28, .null, .null, .null, .null, .int (J 0), .int (J 0)])), (q5, .inr (0, [.ref (u_9 0), .ref (u_9 3), .ref (u_9 4), .ref (u_9 5), .ref (u_9 6), .int (J 0)])), (u_9 0, .inr (6, [.ref (u_9 1), .ref (u_9 2), .int (J 0)])), (u_9 1, ca cI 1200 (fun _ => 0)), (u_9 2, ca cI 120 (fun _ => 0)), (u_9 3, ca cI 40 (fun _ => 0)), (u_9 4, ca cI 40 (fun _ => 0)), (u_9 5, ca cI 40 (fun _ => 0)), (u_9 6, ca cZ 40 (fun _ => 0)), (q16, .inr (6, [.ref (u_21 0), .ref (u_21 1), .int (J 0)])), (u_21 0, ca cI 30 (fun _ => 0)), (u_21 1, ca cI 3 (fun _ => 0)), (q28, .inr (5, [.ref (u_32 0)])), (u_32 0, ca cI 6 (iu (iu (iu (iu (iu (iu (fun _ => 0) 0 10) 1 10) 2 15) 3 5) 4 60) 5 20))] H := hP
  have hD : va_D A [(o, .inr (7, [.ref q5, .ref q16, .ref q28, .null, .null, .null, .null, .int (J 0), .int (J 0)])), (q5, .inr (0, [.ref (u_9 0), .ref (u_9 3), .ref (u_9 4), .ref (u_9 5), .ref (u_9 6), .int (J 0)])), (u_9 0, .inr (6, [.ref (u_9 1), .ref (u_9 2), .int (J 0)])), (u_9 1, ca cI 1200 (fun _ => 0)), (u_9 2, ca cI 120 (fun _ => 0)), (u_9 3, ca cI 40 (fun _ => 0)), (u_9 4, ca cI 40 (fun _ => 0)), (u_9 5, ca cI 40 (fun _ => 0)), (u_9 6, ca cZ 40 (fun _ => 0)), (q16, .inr (6, [.ref (u_21 0), .ref (u_21 1), .int (J 0)])), (u_21 0, ca cI 30 (fun _ => 0)), (u_21 1, ca cI 3 (fun _ => 0)), (q28, .inr (5, [.ref (u_32 0)])), (u_32 0, ca cI 6 (iu (iu (iu (iu (iu (iu (fun _ => 0) 0 10) 1 10) 2 15) 3 5) 4 60) 5 20))] := hD
  refine lv_aload_n hx hb d_Nf_init_38 rfl (lv_at hl 0 rfl) ?_
  refine va_new (ci := 1) (fs := [.null, .null]) (C := R_Bc) (T := T_Bc) (N := 2) hx hb hts i_Bc t_Bc k_Bc hown (hts _ mw_112) (hts _ mw_113) (hts _ mw_29) hK hP hD hS hA rfl (dv_Bc) (by decide) (by decide) d_Nf_init_39 (fun q39 H hP hD hS => ?_)
  have hP : va_P D classes [(o, .inr (7, [.ref q5, .ref q16, .ref q28, .null, .null, .null, .null, .int (J 0), .int (J 0)])), (q5, .inr (0, [.ref (u_9 0), .ref (u_9 3), .ref (u_9 4), .ref (u_9 5), .ref (u_9 6), .int (J 0)])), (u_9 0, .inr (6, [.ref (u_9 1), .ref (u_9 2), .int (J 0)])), (u_9 1, ca cI 1200 (fun _ => 0)), (u_9 2, ca cI 120 (fun _ => 0)), (u_9 3, ca cI 40 (fun _ => 0)), (u_9 4, ca cI 40 (fun _ => 0)), (u_9 5, ca cI 40 (fun _ => 0)), (u_9 6, ca cZ 40 (fun _ => 0)), (q16, .inr (6, [.ref (u_21 0), .ref (u_21 1), .int (J 0)])), (u_21 0, ca cI 30 (fun _ => 0)), (u_21 1, ca cI 3 (fun _ => 0)), (q28, .inr (5, [.ref (u_32 0)])), (u_32 0, ca cI 6 (iu (iu (iu (iu (iu (iu (fun _ => 0) 0 10) 1 10) 2 15) 3 5) 4 60) 5 20)), (q39, .inr (1, [.null, .null]))] H := hP
  have hD : va_D A [(o, .inr (7, [.ref q5, .ref q16, .ref q28, .null, .null, .null, .null, .int (J 0), .int (J 0)])), (q5, .inr (0, [.ref (u_9 0), .ref (u_9 3), .ref (u_9 4), .ref (u_9 5), .ref (u_9 6), .int (J 0)])), (u_9 0, .inr (6, [.ref (u_9 1), .ref (u_9 2), .int (J 0)])), (u_9 1, ca cI 1200 (fun _ => 0)), (u_9 2, ca cI 120 (fun _ => 0)), (u_9 3, ca cI 40 (fun _ => 0)), (u_9 4, ca cI 40 (fun _ => 0)), (u_9 5, ca cI 40 (fun _ => 0)), (u_9 6, ca cZ 40 (fun _ => 0)), (q16, .inr (6, [.ref (u_21 0), .ref (u_21 1), .int (J 0)])), (u_21 0, ca cI 30 (fun _ => 0)), (u_21 1, ca cI 3 (fun _ => 0)), (q28, .inr (5, [.ref (u_32 0)])), (u_32 0, ca cI 6 (iu (iu (iu (iu (iu (iu (fun _ => 0) 0 10) 1 10) 2 15) 3 5) 4 60) 5 20)), (q39, .inr (1, [.null, .null]))] := hD
  refine W.widen (k := 14) (n := 1534) (by decide) (by decide) ?_
  refine lv_dup hx hb d_Nf_init_42 rfl ?_
  refine lv_aload_n hx hb d_Nf_init_43 rfl (lv_at hl 0 rfl) ?_
  refine va_get (D := D) (ci := 7) (v := .ref q28) (C := R_Nf) (T := T_Nf) (N := 9) hx hb hts i_Nf hown hK hP 0 rfl rfl 2 (by decide) (hts _ mw_188) (fun _ h9 => h9) rfl d_Nf_init_44 ?_
  refine Mv_call (wr := [(o, .inr (7, [.ref q5, .ref q16, .ref q28, .null, .null, .null, .null, .int (J 0), .int (J 0)])), (q5, .inr (0, [.ref (u_9 0), .ref (u_9 3), .ref (u_9 4), .ref (u_9 5), .ref (u_9 6), .int (J 0)])), (u_9 0, .inr (6, [.ref (u_9 1), .ref (u_9 2), .int (J 0)])), (u_9 1, ca cI 1200 (fun _ => 0)), (u_9 2, ca cI 120 (fun _ => 0)), (u_9 3, ca cI 40 (fun _ => 0)), (u_9 4, ca cI 40 (fun _ => 0)), (u_9 5, ca cI 40 (fun _ => 0)), (u_9 6, ca cZ 40 (fun _ => 0)), (q16, .inr (6, [.ref (u_21 0), .ref (u_21 1), .int (J 0)])), (u_21 0, ca cI 30 (fun _ => 0)), (u_21 1, ca cI 3 (fun _ => 0)), (q28, .inr (5, [.ref (u_32 0)])), (u_32 0, ca cI 6 (iu (iu (iu (iu (iu (iu (fun _ => 0) 0 10) 1 10) 2 15) 3 5) 4 60) 5 20))]) (va_runI (As := [.ref q28]) (rest := [.ref q39, .ref o]) ⟨hx, hb, hml, hown, hts⟩ (c_Bc_init l D cI cZ cJ H.size q39 q28 ) (cwI 1 hts (BW_cons mw_116) rfl rfl rfl (hts _ mw_29) (hts _ mw_114) (hts _ mw_115) rfl (by decide +kernel) ⟨Nat.le_of_ble_eq_true rfl, Nat.le_of_ble_eq_true rfl⟩) (pre_WS hP hK hD [14] rfl (by decide) (fun h => Bool.noConfusion h)) rfl rfl hl.1 rfl (lv_room (Nat.le_of_ble_eq_true rfl)) d_Nf_init_47 ⟨Nat.le_of_ble_eq_true rfl, Nat.le_of_ble_eq_true rfl⟩) hP hD hS hA [14] [0, 1, 2, 3, 4, 5, 6, 7, 8, 9, 10, 11, 12, 13] rfl rfl (by decide) (by decide) (fun u_47 H locs hu_47 hP hD hS => ?_)
  have hP : va_P D classes [(o, .inr (7, [.ref q5, .ref q16, .ref q28, .null, .null, .null, .null, .int (J 0), .int (J 0)])), (q5, .inr (0, [.ref (u_9 0), .ref (u_9 3), .ref (u_9 4), .ref (u_9 5), .ref (u_9 6), .int (J 0)])), (u_9 0, .inr (6, [.ref (u_9 1), .ref (u_9 2), .int (J 0)])), (u_9 1, ca cI 1200 (fun _ => 0)), (u_9 2, ca cI 120 (fun _ => 0)), (u_9 3, ca cI 40 (fun _ => 0)), (u_9 4, ca cI 40 (fun _ => 0)), (u_9 5, ca cI 40 (fun _ => 0)), (u_9 6, ca cZ 40 (fun _ => 0)), (q16, .inr (6, [.ref (u_21 0), .ref (u_21 1), .int (J 0)])), (u_21 0, ca cI 30 (fun _ => 0)), (u_21 1, ca cI 3 (fun _ => 0)), (q28, .inr (5, [.ref (u_32 0)])), (u_32 0, ca cI 6 (iu (iu (iu (iu (iu (iu (fun _ => 0) 0 10) 1 10) 2 15) 3 5) 4 60) 5 20)), (q39, .inr (1, [.ref q28, .ref (u_47 0)])), (u_47 0, ca cI 11 (fun _ => 0))] H := hP
  have hD : va_D A [(o, .inr (7, [.ref q5, .ref q16, .ref q28, .null, .null, .null, .null, .int (J 0), .int (J 0)])), (q5, .inr (0, [.ref (u_9 0), .ref (u_9 3), .ref (u_9 4), .ref (u_9 5), .ref (u_9 6), .int (J 0)])), (u_9 0, .inr (6, [.ref (u_9 1), .ref (u_9 2), .int (J 0)])), (u_9 1, ca cI 1200 (fun _ => 0)), (u_9 2, ca cI 120 (fun _ => 0)), (u_9 3, ca cI 40 (fun _ => 0)), (u_9 4, ca cI 40 (fun _ => 0)), (u_9 5, ca cI 40 (fun _ => 0)), (u_9 6, ca cZ 40 (fun _ => 0)), (q16, .inr (6, [.ref (u_21 0), .ref (u_21 1), .int (J 0)])), (u_21 0, ca cI 30 (fun _ => 0)), (u_21 1, ca cI 3 (fun _ => 0)), (q28, .inr (5, [.ref (u_32 0)])), (u_32 0, ca cI 6 (iu (iu (iu (iu (iu (iu (fun _ => 0) 0 10) 1 10) 2 15) 3 5) 4 60) 5 20)), (q39, .inr (1, [.ref q28, .ref (u_47 0)])), (u_47 0, ca cI 11 (fun _ => 0))] := hD
  refine W.widen (k := 15) (n := 1545) (by decide) (by decide) ?_
  refine va_putF (D := D) (ci := 7) (v := .ref q39) (ty := (.object "NearFinder$Measure")) (C := R_Nf) (T := T_Nf) (N := 9) hx hb hts i_Nf t_Nf k_Nf n_Nf hown hK hP hD hS 0 rfl rfl 3 (by decide) (hts _ mw_189) (fun _ h9 => h9) rfl hin rfl (by decide +kernel) rfl rfl (Nat.le_of_ble_eq_true rfl) d_Nf_init_50 (fun H locs hP hD hS => ?_)
  have hP : va_P D classes [(o, .inr (7, [.ref q5, .ref q16, .ref q28, .ref q39, .null, .null, .null, .int (J 0), .int (J 0)])), (q5, .inr (0, [.ref (u_9 0), .ref (u_9 3), .ref (u_9 4), .ref (u_9 5), .ref (u_9 6), .int (J 0)])), (u_9 0, .inr (6, [.ref (u_9 1), .ref (u_9 2), .int (J 0)])), (u_9 1, ca cI 1200 (fun _ => 0)), (u_9 2, ca cI 120 (fun _ => 0)), (u_9 3, ca cI 40 (fun _ => 0)), (u_9 4, ca cI 40 (fun _ => 0)), (u_9 5, ca cI 40 (fun _ => 0)), (u_9 6, ca cZ 40 (fun _ => 0)), (q16, .inr (6, [.ref (u_21 0), .ref (u_21 1), .int (J 0)])), (u_21 0, ca cI 30 (fun _ => 0)), (u_21 1, ca cI 3 (fun _ => 0)), (q28, .inr (5, [.ref (u_32 0)])), (u_32 0, ca cI 6 (iu (iu (iu (iu (iu (iu (fun _ => 0) 0 10) 1 10) 2 15) 3 5) 4 60) 5 20)), (q39, .inr (1, [.ref q28, .ref (u_47 0)])), (u_47 0, ca cI 11 (fun _ => 0))] H := hP
  have hD : va_D A [(o, .inr (7, [.ref q5, .ref q16, .ref q28, .ref q39, .null, .null, .null, .int (J 0), .int (J 0)])), (q5, .inr (0, [.ref (u_9 0), .ref (u_9 3), .ref (u_9 4), .ref (u_9 5), .ref (u_9 6), .int (J 0)])), (u_9 0, .inr (6, [.ref (u_9 1), .ref (u_9 2), .int (J 0)])), (u_9 1, ca cI 1200 (fun _ => 0)), (u_9 2, ca cI 120 (fun _ => 0)), (u_9 3, ca cI 40 (fun _ => 0)), (u_9 4, ca cI 40 (fun _ => 0)), (u_9 5, ca cI 40 (fun _ => 0)), (u_9 6, ca cZ 40 (fun _ => 0)), (q16, .inr (6, [.ref (u_21 0), .ref (u_21 1), .int (J 0)])), (u_21 0, ca cI 30 (fun _ => 0)), (u_21 1, ca cI 3 (fun _ => 0)), (q28, .inr (5, [.ref (u_32 0)])), (u_32 0, ca cI 6 (iu (iu (iu (iu (iu (iu (fun _ => 0) 0 10) 1 10) 2 15) 3 5) 4 60) 5 20)), (q39, .inr (1, [.ref q28, .ref (u_47 0)])), (u_47 0, ca cI 11 (fun _ => 0))] := hD
  refine lv_aload_n hx hb d_Nf_init_53 rfl (lv_at hl 0 rfl) ?_
  refine va_new (ci := 2) (fs := [.null, .null]) (C := R_Bn) (T := T_Bn) (N := 2) hx hb hts i_Bn t_Bn k_Bn hown (hts _ mw_125) (hts _ mw_126) (hts _ mw_30) hK hP hD hS hA rfl (dv_Bn) (by decide) (by decide) d_Nf_init_54 (fun q54 H hP hD hS => ?_)
  have hP : va_P D classes [(o, .inr (7, [.ref q5, .ref q16, .ref q28, .ref q39, .null, .null, .null, .int (J 0), .int (J 0)])), (q5, .inr (0, [.ref (u_9 0), .ref (u_9 3), .ref (u_9 4), .ref (u_9 5), .ref (u_9 6), .int (J 0)])), (u_9 0, .inr (6, [.ref (u_9 1), .ref (u_9 2), .int (J 0)])), (u_9 1, ca cI 1200 (fun _ => 0)), (u_9 2, ca cI 120 (fun _ => 0)), (u_9 3, ca cI 40 (fun _ => 0)), (u_9 4, ca cI 40 (fun _ => 0)), (u_9 5, ca cI 40 (fun _ => 0)), (u_9 6, ca cZ 40 (fun _ => 0)), (q16, .inr (6, [.ref (u_21 0), .ref (u_21 1), .int (J 0)])), (u_21 0, ca cI 30 (fun _ => 0)), (u_21 1, ca cI 3 (fun _ => 0)), (q28, .inr (5, [.ref (u_32 0)])), (u_32 0, ca cI 6 (iu (iu (iu (iu (iu (iu (fun _ => 0) 0 10) 1 10) 2 15) 3 5) 4 60) 5 20)), (q39, .inr (1, [.ref q28, .ref (u_47 0)])), (u_47 0, ca cI 11 (fun _ => 0)), (q54, .inr (2, [.null, .null]))] H := hP
  have hD : va_D A [(o, .inr (7, [.ref q5, .ref q16, .ref q28, .ref q39, .null, .null, .null, .int (J 0), .int (J 0)])), (q5, .inr (0, [.ref (u_9 0), .ref (u_9 3), .ref (u_9 4), .ref (u_9 5), .ref (u_9 6), .int (J 0)])), (u_9 0, .inr (6, [.ref (u_9 1), .ref (u_9 2), .int (J 0)])), (u_9 1, ca cI 1200 (fun _ => 0)), (u_9 2, ca cI 120 (fun _ => 0)), (u_9 3, ca cI 40 (fun _ => 0)), (u_9 4, ca cI 40 (fun _ => 0)), (u_9 5, ca cI 40 (fun _ => 0)), (u_9 6, ca cZ 40 (fun _ => 0)), (q16, .inr (6, [.ref (u_21 0), .ref (u_21 1), .int (J 0)])), (u_21 0, ca cI 30 (fun _ => 0)), (u_21 1, ca cI 3 (fun _ => 0)), (q28, .inr (5, [.ref (u_32 0)])), (u_32 0, ca cI 6 (iu (iu (iu (iu (iu (iu (fun _ => 0) 0 10) 1 10) 2 15) 3 5) 4 60) 5 20)), (q39, .inr (1, [.ref q28, .ref (u_47 0)])), (u_47 0, ca cI 11 (fun _ => 0)), (q54, .inr (2, [.null, .null]))] := hD
  refine W.widen (k := 16) (n := 1547) (by decide) (by decide) ?_
  refine lv_dup hx hb d_Nf_init_57 rfl ?_
  refine lv_aload_n hx hb d_Nf_init_58 rfl (lv_at hl 0 rfl) ?_
  refine va_get (D := D) (ci := 7) (v := .ref q28) (C := R_Nf) (T := T_Nf) (N := 9) hx hb hts i_Nf hown hK hP 0 rfl rfl 2 (by decide) (hts _ mw_188) (fun _ h9 => h9) rfl d_Nf_init_59 ?_
  refine Mv_call (wr := [(o, .inr (7, [.ref q5, .ref q16, .ref q28, .ref q39, .null, .null, .null, .int (J 0), .int (J 0)])), (q5, .inr (0, [.ref (u_9 0), .ref (u_9 3), .ref (u_9 4), .ref (u_9 5), .ref (u_9 6), .int (J 0)])), (u_9 0, .inr (6, [.ref (u_9 1), .ref (u_9 2), .int (J 0)])), (u_9 1, ca cI 1200 (fun _ => 0)), (u_9 2, ca cI 120 (fun _ => 0)), (u_9 3, ca cI 40 (fun _ => 0)), (u_9 4, ca cI 40 (fun _ => 0)), (u_9 5, ca cI 40 (fun _ => 0)), (u_9 6, ca cZ 40 (fun _ => 0)), (q16, .inr (6, [.ref (u_21 0), .ref (u_21 1), .int (J 0)])), (u_21 0, ca cI 30 (fun _ => 0)), (u_21 1, ca cI 3 (fun _ => 0)), (q28, .inr (5, [.ref (u_32 0)])), (u_32 0, ca cI 6 (iu (iu (iu (iu (iu (iu (fun _ => 0) 0 10) 1 10) 2 15) 3 5) 4 60) 5 20)), (q39, .inr (1, [.ref q28, .ref (u_47 0)])), (u_47 0, ca cI 11 (fun _ => 0))]) (va_runI (As := [.ref q28]) (rest := [.ref q54, .ref o]) ⟨hx, hb, hml, hown, hts⟩ (c_Bn_init l D cI cZ cJ H.size q54 q28 ) (cwI 1 hts (BW_cons mw_129) rfl rfl rfl (hts _ mw_30) (hts _ mw_127) (hts _ mw_128) rfl (by decide +kernel) ⟨Nat.le_of_ble_eq_true rfl, Nat.le_of_ble_eq_true rfl⟩) (pre_WS hP hK hD [16] rfl (by decide) (fun h => Bool.noConfusion h)) rfl rfl hl.1 rfl (lv_room (Nat.le_of_ble_eq_true rfl)) d_Nf_init_62 ⟨Nat.le_of_ble_eq_true rfl, Nat.le_of_ble_eq_true rfl⟩) hP hD hS hA [16] [0, 1, 2, 3, 4, 5, 6, 7, 8, 9, 10, 11, 12, 13, 14, 15] rfl rfl (by decide) (by decide) (fun u_62 H locs hu_62 hP hD hS => ?_)
  have hP : va_P D classes [(o, .inr (7, [.ref q5, .ref q16, .ref q28, .ref q39, .null, .null, .null, .int (J 0), .int (J 0)])), (q5, .inr (0, [.ref (u_9 0), .ref (u_9 3), .ref (u_9 4), .ref (u_9 5), .ref (u_9 6), .int (J 0)])), (u_9 0, .inr (6, [.ref (u_9 1), .ref (u_9 2), .int (J 0)])), (u_9 1, ca cI 1200 (fun _ => 0)), (u_9 2, ca cI 120 (fun _ => 0)), (u_9 3, ca cI 40 (fun _ => 0)), (u_9 4, ca cI 40 (fun _ => 0)), (u_9 5, ca cI 40 (fun _ => 0)), (u_9 6, ca cZ 40 (fun _ => 0)), (q16, .inr (6, [.ref (u_21 0), .ref (u_21 1), .int (J 0)])), (u_21 0, ca cI 30 (fun _ => 0)), (u_21 1, ca cI 3 (fun _ => 0)), (q28, .inr (5, [.ref (u_32 0)])), (u_32 0, ca cI 6 (iu (iu (iu (iu (iu (iu (fun _ => 0) 0 10) 1 10) 2 15) 3 5) 4 60) 5 20)), (q39, .inr (1, [.ref q28, .ref (u_47 0)])), (u_47 0, ca cI 11 (fun _ => 0)), (q54, .inr (2, [.ref q28, .ref (u_62 0)])), (u_62 0, ca cI 26 (fun _ => 0))] H := hP
  have hD : va_D A [(o, .inr (7, [.ref q5, .ref q16, .ref q28, .ref q39, .null, .null, .null, .int (J 0), .int (J 0)])), (q5, .inr (0, [.ref (u_9 0), .ref (u_9 3), .ref (u_9 4), .ref (u_9 5), .ref (u_9 6), .int (J 0)])), (u_9 0, .inr (6, [.ref (u_9 1), .ref (u_9 2), .int (J 0)])), (u_9 1, ca cI 1200 (fun _ => 0)), (u_9 2, ca cI 120 (fun _ => 0)), (u_9 3, ca cI 40 (fun _ => 0)), (u_9 4, ca cI 40 (fun _ => 0)), (u_9 5, ca cI 40 (fun _ => 0)), (u_9 6, ca cZ 40 (fun _ => 0)), (q16, .inr (6, [.ref (u_21 0), .ref (u_21 1), .int (J 0)])), (u_21 0, ca cI 30 (fun _ => 0)), (u_21 1, ca cI 3 (fun _ => 0)), (q28, .inr (5, [.ref (u_32 0)])), (u_32 0, ca cI 6 (iu (iu (iu (iu (iu (iu (fun _ => 0) 0 10) 1 10) 2 15) 3 5) 4 60) 5 20)), (q39, .inr (1, [.ref q28, .ref (u_47 0)])), (u_47 0, ca cI 11 (fun _ => 0)), (q54, .inr (2, [.ref q28, .ref (u_62 0)])), (u_62 0, ca cI 26 (fun _ => 0))] := hD
  refine W.widen (k := 17) (n := 1573) (by decide) (by decide) ?_
  refine va_putF (D := D) (ci := 7) (v := .ref q54) (ty := (.object "NearFinder$Measure")) (C := R_Nf) (T := T_Nf) (N := 9) hx hb hts i_Nf t_Nf k_Nf n_Nf hown hK hP hD hS 0 rfl rfl 4 (by decide) (hts _ mw_190) (fun _ h9 => h9) rfl hin rfl (by decide +kernel) rfl rfl (Nat.le_of_ble_eq_true rfl) d_Nf_init_65 (fun H locs hP hD hS => ?_)
  have hP : va_P D classes [(o, .inr (7, [.ref q5, .ref q16, .ref q28, .ref q39, .ref q54, .null, .null, .int (J 0), .int (J 0)])), (q5, .inr (0, [.ref (u_9 0), .ref (u_9 3), .ref (u_9 4), .ref (u_9 5), .ref (u_9 6), .int (J 0)])), (u_9 0, .inr (6, [.ref (u_9 1), .ref (u_9 2), .int (J 0)])), (u_9 1, ca cI 1200 (fun _ => 0)), (u_9 2, ca cI 120 (fun _ => 0)), (u_9 3, ca cI 40 (fun _ => 0)), (u_9 4, ca cI 40 (fun _ => 0)), (u_9 5, ca cI 40 (fun _ => 0)), (u_9 6, ca cZ 40 (fun _ => 0)), (q16, .inr (6, [.ref (u_21 0), .ref (u_21 1), .int (J 0)])), (u_21 0, ca cI 30 (fun _ => 0)), (u_21 1, ca cI 3 (fun _ => 0)), (q28, .inr (5, [.ref (u_32 0)])), (u_32 0, ca cI 6 (iu (iu (iu (iu (iu (iu (fun _ => 0) 0 10) 1 10) 2 15) 3 5) 4 60) 5 20)), (q39, .inr (1, [.ref q28, .ref (u_47 0)])), (u_47 0, ca cI 11 (fun _ => 0)), (q54, .inr (2, [.ref q28, .ref (u_62 0)])), (u_62 0, ca cI 26 (fun _ => 0))] H := hP
  have hD : va_D A [(o, .inr (7, [.ref q5, .ref q16, .ref q28, .ref q39, .ref q54, .null, .null, .int (J 0), .int (J 0)])), (q5, .inr (0, [.ref (u_9 0), .ref (u_9 3), .ref (u_9 4), .ref (u_9 5), .ref (u_9 6), .int (J 0)])), (u_9 0, .inr (6, [.ref (u_9 1), .ref (u_9 2), .int (J 0)])), (u_9 1, ca cI 1200 (fun _ => 0)), (u_9 2, ca cI 120 (fun _ => 0)), (u_9 3, ca cI 40 (fun _ => 0)), (u_9 4, ca cI 40 (fun _ => 0)), (u_9 5, ca cI 40 (fun _ => 0)), (u_9 6, ca cZ 40 (fun _ => 0)), (q16, .inr (6, [.ref (u_21 0), .ref (u_21 1), .int (J 0)])), (u_21 0, ca cI 30 (fun _ => 0)), (u_21 1, ca cI 3 (fun _ => 0)), (q28, .inr (5, [.ref (u_32 0)])), (u_32 0, ca cI 6 (iu (iu (iu (iu (iu (iu (fun _ => 0) 0 10) 1 10) 2 15) 3 5) 4 60) 5 20)), (q39, .inr (1, [.ref q28, .ref (u_47 0)])), (u_47 0, ca cI 11 (fun _ => 0)), (q54, .inr (2, [.ref q28, .ref (u_62 0)])), (u_62 0, ca cI 26 (fun _ => 0))] := hD
  refine lv_aload_n hx hb d_Nf_init_68 rfl (lv_at hl 0 rfl) ?_
  refine va_new (ci := 4) (fs := [.null, .null, .int (J 0), .int (J 0)]) (C := R_Pa) (T := T_Pa) (N := 4) hx hb hts i_Pa t_Pa k_Pa hown (hts _ mw_138) (hts _ mw_139) (hts _ mw_31) hK hP hD hS hA rfl (dv_Pa) (by decide) (by decide) d_Nf_init_69 (fun q69 H hP hD hS => ?_)
  have hP : va_P D classes [(o, .inr (7, [.ref q5, .ref q16, .ref q28, .ref q39, .ref q54, .null, .null, .int (J 0), .int (J 0)])), (q5, .inr (0, [.ref (u_9 0), .ref (u_9 3), .ref (u_9 4), .ref (u_9 5), .ref (u_9 6), .int (J 0)])), (u_9 0, .inr (6, [.ref (u_9 1), .ref (u_9 2), .int (J 0)])), (u_9 1, ca cI 1200 (fun _ => 0)), (u_9 2, ca cI 120 (fun _ => 0)), (u_9 3, ca cI 40 (fun _ => 0)), (u_9 4, ca cI 40 (fun _ => 0)), (u_9 5, ca cI 40 (fun _ => 0)), (u_9 6, ca cZ 40 (fun _ => 0)), (q16, .inr (6, [.ref (u_21 0), .ref (u_21 1), .int (J 0)])), (u_21 0, ca cI 30 (fun _ => 0)), (u_21 1, ca cI 3 (fun _ => 0)), (q28, .inr (5, [.ref (u_32 0)])), (u_32 0, ca cI 6 (iu (iu (iu (iu (iu (iu (fun _ => 0) 0 10) 1 10) 2 15) 3 5) 4 60) 5 20)), (q39, .inr (1, [.ref q28, .ref (u_47 0)])), (u_47 0, ca cI 11 (fun _ => 0)), (q54, .inr (2, [.ref q28, .ref (u_62 0)])), (u_62 0, ca cI 26 (fun _ => 0)), (q69, .inr (4, [.null, .null, .int (J 0), .int (J 0)]))] H := hP
  have hD : va_D A [(o, .inr (7, [.ref q5, .ref q16, .ref q28, .ref q39, .ref q54, .null, .null, .int (J 0), .int (J 0)])), (q5, .inr (0, [.ref (u_9 0), .ref (u_9 3), .ref (u_9 4), .ref (u_9 5), .ref (u_9 6), .int (J 0)])), (u_9 0, .inr (6, [.ref (u_9 1), .ref (u_9 2), .int (J 0)])), (u_9 1, ca cI 1200 (fun _ => 0)), (u_9 2, ca cI 120 (fun _ => 0)), (u_9 3, ca cI 40 (fun _ => 0)), (u_9 4, ca cI 40 (fun _ => 0)), (u_9 5, ca cI 40 (fun _ => 0)), (u_9 6, ca cZ 40 (fun _ => 0)), (q16, .inr (6, [.ref (u_21 0), .ref (u_21 1), .int (J 0)])), (u_21 0, ca cI 30 (fun _ => 0)), (u_21 1, ca cI 3 (fun _ => 0)), (q28, .inr (5, [.ref (u_32 0)])), (u_32 0, ca cI 6 (iu (iu (iu (iu (iu (iu (fun _ => 0) 0 10) 1 10) 2 15) 3 5) 4 60) 5 20)), (q39, .inr (1, [.ref q28, .ref (u_47 0)])), (u_47 0, ca cI 11 (fun _ => 0)), (q54, .inr (2, [.ref q28, .ref (u_62 0)])), (u_62 0, ca cI 26 (fun _ => 0)), (q69, .inr (4, [.null, .null, .int (J 0), .int (J 0)]))] := hD
  refine W.widen (k := 18) (n := 1577) (by decide) (by decide) ?_
  refine lv_dup hx hb d_Nf_init_72 rfl ?_
  refine lv_aload_n hx hb d_Nf_init_73 rfl (lv_at hl 0 rfl) ?_
  refine va_get (D := D) (ci := 7) (v := .ref q28) (C := R_Nf) (T := T_Nf) (N := 9) hx hb hts i_Nf hown hK hP 0 rfl rfl 2 (by decide) (hts _ mw_188) (fun _ h9 => h9) rfl d_Nf_init_74 ?_
  refine Mv_call (wr := [(o, .inr (7, [.ref q5, .ref q16, .ref q28, .ref q39, .ref q54, .null, .null, .int (J 0), .int (J 0)])), (q5, .inr (0, [.ref (u_9 0), .ref (u_9 3), .ref (u_9 4), .ref (u_9 5), .ref (u_9 6), .int (J 0)])), (u_9 0, .inr (6, [.ref (u_9 1), .ref (u_9 2), .int (J 0)])), (u_9 1, ca cI 1200 (fun _ => 0)), (u_9 2, ca cI 120 (fun _ => 0)), (u_9 3, ca cI 40 (fun _ => 0)), (u_9 4, ca cI 40 (fun _ => 0)), (u_9 5, ca cI 40 (fun _ => 0)), (u_9 6, ca cZ 40 (fun _ => 0)), (q16, .inr (6, [.ref (u_21 0), .ref (u_21 1), .int (J 0)])), (u_21 0, ca cI 30 (fun _ => 0)), (u_21 1, ca cI 3 (fun _ => 0)), (q28, .inr (5, [.ref (u_32 0)])), (u_32 0, ca cI 6 (iu (iu (iu (iu (iu (iu (fun _ => 0) 0 10) 1 10) 2 15) 3 5) 4 60) 5 20)), (q39, .inr (1, [.ref q28, .ref (u_47 0)])), (u_47 0, ca cI 11 (fun _ => 0)), (q54, .inr (2, [.ref q28, .ref (u_62 0)])), (u_62 0, ca cI 26 (fun _ => 0))]) (va_runI (As := [.ref q28]) (rest := [.ref q69, .ref o]) ⟨hx, hb, hml, hown, hts⟩ (c_Pa_init l D cI cZ cJ H.size q69 q28 ) (cwI 1 hts (BW_cons mw_142) rfl rfl rfl (hts _ mw_31) (hts _ mw_140) (hts _ mw_141) rfl (by decide +kernel) ⟨Nat.le_of_ble_eq_true rfl, Nat.le_of_ble_eq_true rfl⟩) (pre_WS hP hK hD [18] rfl (by decide) (fun h => Bool.noConfusion h)) rfl rfl hl.1 rfl (lv_room (Nat.le_of_ble_eq_true rfl)) d_Nf_init_77 ⟨Nat.le_of_ble_eq_true rfl, Nat.le_of_ble_eq_true rfl⟩) hP hD hS hA [18] [0, 1, 2, 3, 4, 5, 6, 7, 8, 9, 10, 11, 12, 13, 14, 15, 16, 17] rfl rfl (by decide) (by decide) (fun u_77 H locs hu_77 hP hD hS => ?_)
  have hP : va_P D classes [(o, .inr (7, [.ref q5, .ref q16, .ref q28, .ref q39, .ref q54, .null, .null, .int (J 0), .int (J 0)])), (q5, .inr (0, [.ref (u_9 0), .ref (u_9 3), .ref (u_9 4), .ref (u_9 5), .ref (u_9 6), .int (J 0)])), (u_9 0, .inr (6, [.ref (u_9 1), .ref (u_9 2), .int (J 0)])), (u_9 1, ca cI 1200 (fun _ => 0)), (u_9 2, ca cI 120 (fun _ => 0)), (u_9 3, ca cI 40 (fun _ => 0)), (u_9 4, ca cI 40 (fun _ => 0)), (u_9 5, ca cI 40 (fun _ => 0)), (u_9 6, ca cZ 40 (fun _ => 0)), (q16, .inr (6, [.ref (u_21 0), .ref (u_21 1), .int (J 0)])), (u_21 0, ca cI 30 (fun _ => 0)), (u_21 1, ca cI 3 (fun _ => 0)), (q28, .inr (5, [.ref (u_32 0)])), (u_32 0, ca cI 6 (iu (iu (iu (iu (iu (iu (fun _ => 0) 0 10) 1 10) 2 15) 3 5) 4 60) 5 20)), (q39, .inr (1, [.ref q28, .ref (u_47 0)])), (u_47 0, ca cI 11 (fun _ => 0)), (q54, .inr (2, [.ref q28, .ref (u_62 0)])), (u_62 0, ca cI 26 (fun _ => 0)), (q69, .inr (4, [.ref q28, .ref (u_77 0), .int (J 0), .int (J 0)])), (u_77 0, ca cI 9 (fun _ => 0))] H := hP
  have hD : va_D A [(o, .inr (7, [.ref q5, .ref q16, .ref q28, .ref q39, .ref q54, .null, .null, .int (J 0), .int (J 0)])), (q5, .inr (0, [.ref (u_9 0), .ref (u_9 3), .ref (u_9 4), .ref (u_9 5), .ref (u_9 6), .int (J 0)])), (u_9 0, .inr (6, [.ref (u_9 1), .ref (u_9 2), .int (J 0)])), (u_9 1, ca cI 1200 (fun _ => 0)), (u_9 2, ca cI 120 (fun _ => 0)), (u_9 3, ca cI 40 (fun _ => 0)), (u_9 4, ca cI 40 (fun _ => 0)), (u_9 5, ca cI 40 (fun _ => 0)), (u_9 6, ca cZ 40 (fun _ => 0)), (q16, .inr (6, [.ref (u_21 0), .ref (u_21 1), .int (J 0)])), (u_21 0, ca cI 30 (fun _ => 0)), (u_21 1, ca cI 3 (fun _ => 0)), (q28, .inr (5, [.ref (u_32 0)])), (u_32 0, ca cI 6 (iu (iu (iu (iu (iu (iu (fun _ => 0) 0 10) 1 10) 2 15) 3 5) 4 60) 5 20)), (q39, .inr (1, [.ref q28, .ref (u_47 0)])), (u_47 0, ca cI 11 (fun _ => 0)), (q54, .inr (2, [.ref q28, .ref (u_62 0)])), (u_62 0, ca cI 26 (fun _ => 0)), (q69, .inr (4, [.ref q28, .ref (u_77 0), .int (J 0), .int (J 0)])), (u_77 0, ca cI 9 (fun _ => 0))] := hD
  refine W.widen (k := 19) (n := 1586) (by decide) (by decide) ?_
  refine va_putF (D := D) (ci := 7) (v := .ref q69) (ty := (.object "NearFinder$Pairing")) (C := R_Nf) (T := T_Nf) (N := 9) hx hb hts i_Nf t_Nf k_Nf n_Nf hown hK hP hD hS 0 rfl rfl 5 (by decide) (hts _ mw_191) (fun _ h9 => h9) rfl hin rfl (by decide +kernel) rfl rfl (Nat.le_of_ble_eq_true rfl) d_Nf_init_80 (fun H locs hP hD hS => ?_)
  have hP : va_P D classes [(o, .inr (7, [.ref q5, .ref q16, .ref q28, .ref q39, .ref q54, .ref q69, .null, .int (J 0), .int (J 0)])), (q5, .inr (0, [.ref (u_9 0), .ref (u_9 3), .ref (u_9 4), .ref (u_9 5), .ref (u_9 6), .int (J 0)])), (u_9 0, .inr (6, [.ref (u_9 1), .ref (u_9 2), .int (J 0)])), (u_9 1, ca cI 1200 (fun _ => 0)), (u_9 2, ca cI 120 (fun _ => 0)), (u_9 3, ca cI 40 (fun _ => 0)), (u_9 4, ca cI 40 (fun _ => 0)), (u_9 5, ca cI 40 (fun _ => 0)), (u_9 6, ca cZ 40 (fun _ => 0)), (q16, .inr (6, [.ref (u_21 0), .ref (u_21 1), .int (J 0)])), (u_21 0, ca cI 30 (fun _ => 0)), (u_21 1, ca cI 3 (fun _ => 0)), (q28, .inr (5, [.ref (u_32 0)])), (u_32 0, ca cI 6 (iu (iu (iu (iu (iu (iu (fun _ => 0) 0 10) 1 10) 2 15) 3 5) 4 60) 5 20)), (q39, .inr (1, [.ref q28, .ref (u_47 0)])), (u_47 0, ca cI 11 (fun _ => 0)), (q54, .inr (2, [.ref q28, .ref (u_62 0)])), (u_62 0, ca cI 26 (fun _ => 0)), (q69, .inr (4, [.ref q28, .ref (u_77 0), .int (J 0), .int (J 0)])), (u_77 0, ca cI 9 (fun _ => 0))] H := hP
  have hD : va_D A [(o, .inr (7, [.ref q5, .ref q16, .ref q28, .ref q39, .ref q54, .ref q69, .null, .int (J 0), .int (J 0)])), (q5, .inr (0, [.ref (u_9 0), .ref (u_9 3), .ref (u_9 4), .ref (u_9 5), .ref (u_9 6), .int (J 0)])), (u_9 0, .inr (6, [.ref (u_9 1), .ref (u_9 2), .int (J 0)])), (u_9 1, ca cI 1200 (fun _ => 0)), (u_9 2, ca cI 120 (fun _ => 0)), (u_9 3, ca cI 40 (fun _ => 0)), (u_9 4, ca cI 40 (fun _ => 0)), (u_9 5, ca cI 40 (fun _ => 0)), (u_9 6, ca cZ 40 (fun _ => 0)), (q16, .inr (6, [.ref (u_21 0), .ref (u_21 1), .int (J 0)])), (u_21 0, ca cI 30 (fun _ => 0)), (u_21 1, ca cI 3 (fun _ => 0)), (q28, .inr (5, [.ref (u_32 0)])), (u_32 0, ca cI 6 (iu (iu (iu (iu (iu (iu (fun _ => 0) 0 10) 1 10) 2 15) 3 5) 4 60) 5 20)), (q39, .inr (1, [.ref q28, .ref (u_47 0)])), (u_47 0, ca cI 11 (fun _ => 0)), (q54, .inr (2, [.ref q28, .ref (u_62 0)])), (u_62 0, ca cI 26 (fun _ => 0)), (q69, .inr (4, [.ref q28, .ref (u_77 0), .int (J 0), .int (J 0)])), (u_77 0, ca cI 9 (fun _ => 0))] := hD
  refine lv_aload_n hx hb d_Nf_init_83 rfl (lv_at hl 0 rfl) ?_
  refine va_new (ci := 3) (fs := [.null, .null, .null, .int (J 0), .int (J 0), .int (J 0)]) (C := R_Hi) (T := T_Hi) (N := 6) hx hb hts i_Hi t_Hi k_Hi hown (hts _ mw_158) (hts _ mw_159) (hts _ mw_32) hK hP hD hS hA rfl (dv_Hi) (by decide) (by decide) d_Nf_init_84 (fun q84 H hP hD hS => ?_)
  have hP : va_P D classes [(o, .inr (7, [.ref q5, .ref q16, .ref q28, .ref q39, .ref q54, .ref q69, .null, .int (J 0), .int (J 0)])), (q5, .inr (0, [.ref (u_9 0), .ref (u_9 3), .ref (u_9 4), .ref (u_9 5), .ref (u_9 6), .int (J 0)])), (u_9 0, .inr (6, [.ref (u_9 1), .ref (u_9 2), .int (J 0)])), (u_9 1, ca cI 1200 (fun _ => 0)), (u_9 2, ca cI 120 (fun _ => 0)), (u_9 3, ca cI 40 (fun _ => 0)), (u_9 4, ca cI 40 (fun _ => 0)), (u_9 5, ca cI 40 (fun _ => 0)), (u_9 6, ca cZ 40 (fun _ => 0)), (q16, .inr (6, [.ref (u_21 0), .ref (u_21 1), .int (J 0)])), (u_21 0, ca cI 30 (fun _ => 0)), (u_21 1, ca cI 3 (fun _ => 0)), (q28, .inr (5, [.ref (u_32 0)])), (u_32 0, ca cI 6 (iu (iu (iu (iu (iu (iu (fun _ => 0) 0 10) 1 10) 2 15) 3 5) 4 60) 5 20)), (q39, .inr (1, [.ref q28, .ref (u_47 0)])), (u_47 0, ca cI 11 (fun _ => 0)), (q54, .inr (2, [.ref q28, .ref (u_62 0)])), (u_62 0, ca cI 26 (fun _ => 0)), (q69, .inr (4, [.ref q28, .ref (u_77 0), .int (J 0), .int (J 0)])), (u_77 0, ca cI 9 (fun _ => 0)), (q84, .inr (3, [.null, .null, .null, .int (J 0), .int (J 0), .int (J 0)]))] H := hP
  have hD : va_D A [(o, .inr (7, [.ref q5, .ref q16, .ref q28, .ref q39, .ref q54, .ref q69, .null, .int (J 0), .int (J 0)])), (q5, .inr (0, [.ref (u_9 0), .ref (u_9 3), .ref (u_9 4), .ref (u_9 5), .ref (u_9 6), .int (J 0)])), (u_9 0, .inr (6, [.ref (u_9 1), .ref (u_9 2), .int (J 0)])), (u_9 1, ca cI 1200 (fun _ => 0)), (u_9 2, ca cI 120 (fun _ => 0)), (u_9 3, ca cI 40 (fun _ => 0)), (u_9 4, ca cI 40 (fun _ => 0)), (u_9 5, ca cI 40 (fun _ => 0)), (u_9 6, ca cZ 40 (fun _ => 0)), (q16, .inr (6, [.ref (u_21 0), .ref (u_21 1), .int (J 0)])), (u_21 0, ca cI 30 (fun _ => 0)), (u_21 1, ca cI 3 (fun _ => 0)), (q28, .inr (5, [.ref (u_32 0)])), (u_32 0, ca cI 6 (iu (iu (iu (iu (iu (iu (fun _ => 0) 0 10) 1 10) 2 15) 3 5) 4 60) 5 20)), (q39, .inr (1, [.ref q28, .ref (u_47 0)])), (u_47 0, ca cI 11 (fun _ => 0)), (q54, .inr (2, [.ref q28, .ref (u_62 0)])), (u_62 0, ca cI 26 (fun _ => 0)), (q69, .inr (4, [.ref q28, .ref (u_77 0), .int (J 0), .int (J 0)])), (u_77 0, ca cI 9 (fun _ => 0)), (q84, .inr (3, [.null, .null, .null, .int (J 0), .int (J 0), .int (J 0)]))] := hD
  refine W.widen (k := 20) (n := 1592) (by decide) (by decide) ?_
  refine lv_dup hx hb d_Nf_init_87 rfl ?_
  refine Mv_call (wr := [(o, .inr (7, [.ref q5, .ref q16, .ref q28, .ref q39, .ref q54, .ref q69, .null, .int (J 0), .int (J 0)])), (q5, .inr (0, [.ref (u_9 0), .ref (u_9 3), .ref (u_9 4), .ref (u_9 5), .ref (u_9 6), .int (J 0)])), (u_9 0, .inr (6, [.ref (u_9 1), .ref (u_9 2), .int (J 0)])), (u_9 1, ca cI 1200 (fun _ => 0)), (u_9 2, ca cI 120 (fun _ => 0)), (u_9 3, ca cI 40 (fun _ => 0)), (u_9 4, ca cI 40 (fun _ => 0)), (u_9 5, ca cI 40 (fun _ => 0)), (u_9 6, ca cZ 40 (fun _ => 0)), (q16, .inr (6, [.ref (u_21 0), .ref (u_21 1), .int (J 0)])), (u_21 0, ca cI 30 (fun _ => 0)), (u_21 1, ca cI 3 (fun _ => 0)), (q28, .inr (5, [.ref (u_32 0)])), (u_32 0, ca cI 6 (iu (iu (iu (iu (iu (iu (fun _ => 0) 0 10) 1 10) 2 15) 3 5) 4 60) 5 20)), (q39, .inr (1, [.ref q28, .ref (u_47 0)])), (u_47 0, ca cI 11 (fun _ => 0)), (q54, .inr (2, [.ref q28, .ref (u_62 0)])), (u_62 0, ca cI 26 (fun _ => 0)), (q69, .inr (4, [.ref q28, .ref (u_77 0), .int (J 0), .int (J 0)])), (u_77 0, ca cI 9 (fun _ => 0))]) (va_runI (As := []) (rest := [.ref q84, .ref o]) ⟨hx, hb, hml, hown, hts⟩ (c_Hi_init l D cI cZ cJ H.size q84 ) (cwI 0 hts (BW_cons mw_162) rfl rfl rfl (hts _ mw_32) (hts _ mw_160) (hts _ mw_161) rfl (by decide +kernel) ⟨Nat.le_of_ble_eq_true rfl, Nat.le_of_ble_eq_true rfl⟩) (pre_WS hP hK hD [20] rfl (by decide) (fun h => Bool.noConfusion h)) rfl rfl hl.1 rfl (lv_room (Nat.le_of_ble_eq_true rfl)) d_Nf_init_88 ⟨Nat.le_of_ble_eq_true rfl, Nat.le_of_ble_eq_true rfl⟩) hP hD hS hA [20] [0, 1, 2, 3, 4, 5, 6, 7, 8, 9, 10, 11, 12, 13, 14, 15, 16, 17, 18, 19] rfl rfl (by decide) (by decide) (fun u_88 H locs hu_88 hP hD hS => ?_)
  have hP : va_P D classes [(o, .inr (7, [.ref q5, .ref q16, .ref q28, .ref q39, .ref q54, .ref q69, .null, .int (J 0), .int (J 0)])), (q5, .inr (0, [.ref (u_9 0), .ref (u_9 3), .ref (u_9 4), .ref (u_9 5), .ref (u_9 6), .int (J 0)])), (u_9 0, .inr (6, [.ref (u_9 1), .ref (u_9 2), .int (J 0)])), (u_9 1, ca cI 1200 (fun _ => 0)), (u_9 2, ca cI 120 (fun _ => 0)), (u_9 3, ca cI 40 (fun _ => 0)), (u_9 4, ca cI 40 (fun _ => 0)), (u_9 5, ca cI 40 (fun _ => 0)), (u_9 6, ca cZ 40 (fun _ => 0)), (q16, .inr (6, [.ref (u_21 0), .ref (u_21 1), .int (J 0)])), (u_21 0, ca cI 30 (fun _ => 0)), (u_21 1, ca cI 3 (fun _ => 0)), (q28, .inr (5, [.ref (u_32 0)])), (u_32 0, ca cI 6 (iu (iu (iu (iu (iu (iu (fun _ => 0) 0 10) 1 10) 2 15) 3 5) 4 60) 5 20)), (q39, .inr (1, [.ref q28, .ref (u_47 0)])), (u_47 0, ca cI 11 (fun _ => 0)), (q54, .inr (2, [.ref q28, .ref (u_62 0)])), (u_62 0, ca cI 26 (fun _ => 0)), (q69, .inr (4, [.ref q28, .ref (u_77 0), .int (J 0), .int (J 0)])), (u_77 0, ca cI 9 (fun _ => 0)), (q84, .inr (3, [.ref (u_88 0), .ref (u_88 1), .ref (u_88 2), .int (J 0), .int (J 0), .int (J 0)])), (u_88 0, ca cI 40 (fun _ => 0)), (u_88 1, ca cI 40 (fun _ => 0)), (u_88 2, ca cI 40 (fun _ => 0))] H := hP
  have hD : va_D A [(o, .inr (7, [.ref q5, .ref q16, .ref q28, .ref q39, .ref q54, .ref q69, .null, .int (J 0), .int (J 0)])), (q5, .inr (0, [.ref (u_9 0), .ref (u_9 3), .ref (u_9 4), .ref (u_9 5), .ref (u_9 6), .int (J 0)])), (u_9 0, .inr (6, [.ref (u_9 1), .ref (u_9 2), .int (J 0)])), (u_9 1, ca cI 1200 (fun _ => 0)), (u_9 2, ca cI 120 (fun _ => 0)), (u_9 3, ca cI 40 (fun _ => 0)), (u_9 4, ca cI 40 (fun _ => 0)), (u_9 5, ca cI 40 (fun _ => 0)), (u_9 6, ca cZ 40 (fun _ => 0)), (q16, .inr (6, [.ref (u_21 0), .ref (u_21 1), .int (J 0)])), (u_21 0, ca cI 30 (fun _ => 0)), (u_21 1, ca cI 3 (fun _ => 0)), (q28, .inr (5, [.ref (u_32 0)])), (u_32 0, ca cI 6 (iu (iu (iu (iu (iu (iu (fun _ => 0) 0 10) 1 10) 2 15) 3 5) 4 60) 5 20)), (q39, .inr (1, [.ref q28, .ref (u_47 0)])), (u_47 0, ca cI 11 (fun _ => 0)), (q54, .inr (2, [.ref q28, .ref (u_62 0)])), (u_62 0, ca cI 26 (fun _ => 0)), (q69, .inr (4, [.ref q28, .ref (u_77 0), .int (J 0), .int (J 0)])), (u_77 0, ca cI 9 (fun _ => 0)), (q84, .inr (3, [.ref (u_88 0), .ref (u_88 1), .ref (u_88 2), .int (J 0), .int (J 0), .int (J 0)])), (u_88 0, ca cI 40 (fun _ => 0)), (u_88 1, ca cI 40 (fun _ => 0)), (u_88 2, ca cI 40 (fun _ => 0))] := hD
  refine W.widen (k := 23) (n := 1712) (by decide) (by decide) ?_
  refine va_putF (D := D) (ci := 7) (v := .ref q84) (ty := (.object "NearFinder$Hits")) (C := R_Nf) (T := T_Nf) (N := 9) hx hb hts i_Nf t_Nf k_Nf n_Nf hown hK hP hD hS 0 rfl rfl 6 (by decide) (hts _ mw_192) (fun _ h9 => h9) rfl hin rfl (by decide +kernel) rfl rfl (Nat.le_of_ble_eq_true rfl) d_Nf_init_91 (fun H locs hP hD hS => ?_)
  have hP : va_P D classes [(o, .inr (7, [.ref q5, .ref q16, .ref q28, .ref q39, .ref q54, .ref q69, .ref q84, .int (J 0), .int (J 0)])), (q5, .inr (0, [.ref (u_9 0), .ref (u_9 3), .ref (u_9 4), .ref (u_9 5), .ref (u_9 6), .int (J 0)])), (u_9 0, .inr (6, [.ref (u_9 1), .ref (u_9 2), .int (J 0)])), (u_9 1, ca cI 1200 (fun _ => 0)), (u_9 2, ca cI 120 (fun _ => 0)), (u_9 3, ca cI 40 (fun _ => 0)), (u_9 4, ca cI 40 (fun _ => 0)), (u_9 5, ca cI 40 (fun _ => 0)), (u_9 6, ca cZ 40 (fun _ => 0)), (q16, .inr (6, [.ref (u_21 0), .ref (u_21 1), .int (J 0)])), (u_21 0, ca cI 30 (fun _ => 0)), (u_21 1, ca cI 3 (fun _ => 0)), (q28, .inr (5, [.ref (u_32 0)])), (u_32 0, ca cI 6 (iu (iu (iu (iu (iu (iu (fun _ => 0) 0 10) 1 10) 2 15) 3 5) 4 60) 5 20)), (q39, .inr (1, [.ref q28, .ref (u_47 0)])), (u_47 0, ca cI 11 (fun _ => 0)), (q54, .inr (2, [.ref q28, .ref (u_62 0)])), (u_62 0, ca cI 26 (fun _ => 0)), (q69, .inr (4, [.ref q28, .ref (u_77 0), .int (J 0), .int (J 0)])), (u_77 0, ca cI 9 (fun _ => 0)), (q84, .inr (3, [.ref (u_88 0), .ref (u_88 1), .ref (u_88 2), .int (J 0), .int (J 0), .int (J 0)])), (u_88 0, ca cI 40 (fun _ => 0)), (u_88 1, ca cI 40 (fun _ => 0)), (u_88 2, ca cI 40 (fun _ => 0))] H := hP
  have hD : va_D A [(o, .inr (7, [.ref q5, .ref q16, .ref q28, .ref q39, .ref q54, .ref q69, .ref q84, .int (J 0), .int (J 0)])), (q5, .inr (0, [.ref (u_9 0), .ref (u_9 3), .ref (u_9 4), .ref (u_9 5), .ref (u_9 6), .int (J 0)])), (u_9 0, .inr (6, [.ref (u_9 1), .ref (u_9 2), .int (J 0)])), (u_9 1, ca cI 1200 (fun _ => 0)), (u_9 2, ca cI 120 (fun _ => 0)), (u_9 3, ca cI 40 (fun _ => 0)), (u_9 4, ca cI 40 (fun _ => 0)), (u_9 5, ca cI 40 (fun _ => 0)), (u_9 6, ca cZ 40 (fun _ => 0)), (q16, .inr (6, [.ref (u_21 0), .ref (u_21 1), .int (J 0)])), (u_21 0, ca cI 30 (fun _ => 0)), (u_21 1, ca cI 3 (fun _ => 0)), (q28, .inr (5, [.ref (u_32 0)])), (u_32 0, ca cI 6 (iu (iu (iu (iu (iu (iu (fun _ => 0) 0 10) 1 10) 2 15) 3 5) 4 60) 5 20)), (q39, .inr (1, [.ref q28, .ref (u_47 0)])), (u_47 0, ca cI 11 (fun _ => 0)), (q54, .inr (2, [.ref q28, .ref (u_62 0)])), (u_62 0, ca cI 26 (fun _ => 0)), (q69, .inr (4, [.ref q28, .ref (u_77 0), .int (J 0), .int (J 0)])), (u_77 0, ca cI 9 (fun _ => 0)), (q84, .inr (3, [.ref (u_88 0), .ref (u_88 1), .ref (u_88 2), .int (J 0), .int (J 0), .int (J 0)])), (u_88 0, ca cI 40 (fun _ => 0)), (u_88 1, ca cI 40 (fun _ => 0)), (u_88 2, ca cI 40 (fun _ => 0))] := hD
  refine lv_aload_n hx hb d_Nf_init_94 rfl (lv_at hl 0 rfl) ?_
  refine lv_iconst (v := J (-1)) hx hb d_Nf_init_95 rfl ?_
  refine va_put (D := D) (ci := 7) (v := .int (J (-1))) (ty := .int) (C := R_Nf) (T := T_Nf) (N := 9) hx hb hts i_Nf t_Nf k_Nf n_Nf hown hK hP hD hS 0 rfl rfl 7 (by decide) (hts _ mw_193) (fun _ h9 => h9) rfl (by decide +kernel) rfl rfl (Nat.le_of_ble_eq_true rfl) d_Nf_init_96 (fun H locs hP hD hS => ?_)
  have hP : va_P D classes [(o, .inr (7, [.ref q5, .ref q16, .ref q28, .ref q39, .ref q54, .ref q69, .ref q84, .int (J (-1)), .int (J 0)])), (q5, .inr (0, [.ref (u_9 0), .ref (u_9 3), .ref (u_9 4), .ref (u_9 5), .ref (u_9 6), .int (J 0)])), (u_9 0, .inr (6, [.ref (u_9 1), .ref (u_9 2), .int (J 0)])), (u_9 1, ca cI 1200 (fun _ => 0)), (u_9 2, ca cI 120 (fun _ => 0)), (u_9 3, ca cI 40 (fun _ => 0)), (u_9 4, ca cI 40 (fun _ => 0)), (u_9 5, ca cI 40 (fun _ => 0)), (u_9 6, ca cZ 40 (fun _ => 0)), (q16, .inr (6, [.ref (u_21 0), .ref (u_21 1), .int (J 0)])), (u_21 0, ca cI 30 (fun _ => 0)), (u_21 1, ca cI 3 (fun _ => 0)), (q28, .inr (5, [.ref (u_32 0)])), (u_32 0, ca cI 6 (iu (iu (iu (iu (iu (iu (fun _ => 0) 0 10) 1 10) 2 15) 3 5) 4 60) 5 20)), (q39, .inr (1, [.ref q28, .ref (u_47 0)])), (u_47 0, ca cI 11 (fun _ => 0)), (q54, .inr (2, [.ref q28, .ref (u_62 0)])), (u_62 0, ca cI 26 (fun _ => 0)), (q69, .inr (4, [.ref q28, .ref (u_77 0), .int (J 0), .int (J 0)])), (u_77 0, ca cI 9 (fun _ => 0)), (q84, .inr (3, [.ref (u_88 0), .ref (u_88 1), .ref (u_88 2), .int (J 0), .int (J 0), .int (J 0)])), (u_88 0, ca cI 40 (fun _ => 0)), (u_88 1, ca cI 40 (fun _ => 0)), (u_88 2, ca cI 40 (fun _ => 0))] H := hP
  have hD : va_D A [(o, .inr (7, [.ref q5, .ref q16, .ref q28, .ref q39, .ref q54, .ref q69, .ref q84, .int (J (-1)), .int (J 0)])), (q5, .inr (0, [.ref (u_9 0), .ref (u_9 3), .ref (u_9 4), .ref (u_9 5), .ref (u_9 6), .int (J 0)])), (u_9 0, .inr (6, [.ref (u_9 1), .ref (u_9 2), .int (J 0)])), (u_9 1, ca cI 1200 (fun _ => 0)), (u_9 2, ca cI 120 (fun _ => 0)), (u_9 3, ca cI 40 (fun _ => 0)), (u_9 4, ca cI 40 (fun _ => 0)), (u_9 5, ca cI 40 (fun _ => 0)), (u_9 6, ca cZ 40 (fun _ => 0)), (q16, .inr (6, [.ref (u_21 0), .ref (u_21 1), .int (J 0)])), (u_21 0, ca cI 30 (fun _ => 0)), (u_21 1, ca cI 3 (fun _ => 0)), (q28, .inr (5, [.ref (u_32 0)])), (u_32 0, ca cI 6 (iu (iu (iu (iu (iu (iu (fun _ => 0) 0 10) 1 10) 2 15) 3 5) 4 60) 5 20)), (q39, .inr (1, [.ref q28, .ref (u_47 0)])), (u_47 0, ca cI 11 (fun _ => 0)), (q54, .inr (2, [.ref q28, .ref (u_62 0)])), (u_62 0, ca cI 26 (fun _ => 0)), (q69, .inr (4, [.ref q28, .ref (u_77 0), .int (J 0), .int (J 0)])), (u_77 0, ca cI 9 (fun _ => 0)), (q84, .inr (3, [.ref (u_88 0), .ref (u_88 1), .ref (u_88 2), .int (J 0), .int (J 0), .int (J 0)])), (u_88 0, ca cI 40 (fun _ => 0)), (u_88 1, ca cI 40 (fun _ => 0)), (u_88 2, ca cI 40 (fun _ => 0))] := hD
  refine lv_aload_n hx hb d_Nf_init_99 rfl (lv_at hl 0 rfl) ?_
  refine lv_iconst (v := J (0)) hx hb d_Nf_init_100 rfl ?_
  refine va_put (D := D) (ci := 7) (v := .int (J 0)) (ty := .int) (C := R_Nf) (T := T_Nf) (N := 9) hx hb hts i_Nf t_Nf k_Nf n_Nf hown hK hP hD hS 0 rfl rfl 8 (by decide) (hts _ mw_194) (fun _ h9 => h9) rfl (by decide +kernel) rfl rfl (Nat.le_of_ble_eq_true rfl) d_Nf_init_101 (fun H locs hP hD hS => ?_)
  have hP : va_P D classes [(o, .inr (7, [.ref q5, .ref q16, .ref q28, .ref q39, .ref q54, .ref q69, .ref q84, .int (J (-1)), .int (J 0)])), (q5, .inr (0, [.ref (u_9 0), .ref (u_9 3), .ref (u_9 4), .ref (u_9 5), .ref (u_9 6), .int (J 0)])), (u_9 0, .inr (6, [.ref (u_9 1), .ref (u_9 2), .int (J 0)])), (u_9 1, ca cI 1200 (fun _ => 0)), (u_9 2, ca cI 120 (fun _ => 0)), (u_9 3, ca cI 40 (fun _ => 0)), (u_9 4, ca cI 40 (fun _ => 0)), (u_9 5, ca cI 40 (fun _ => 0)), (u_9 6, ca cZ 40 (fun _ => 0)), (q16, .inr (6, [.ref (u_21 0), .ref (u_21 1), .int (J 0)])), (u_21 0, ca cI 30 (fun _ => 0)), (u_21 1, ca cI 3 (fun _ => 0)), (q28, .inr (5, [.ref (u_32 0)])), (u_32 0, ca cI 6 (iu (iu (iu (iu (iu (iu (fun _ => 0) 0 10) 1 10) 2 15) 3 5) 4 60) 5 20)), (q39, .inr (1, [.ref q28, .ref (u_47 0)])), (u_47 0, ca cI 11 (fun _ => 0)), (q54, .inr (2, [.ref q28, .ref (u_62 0)])), (u_62 0, ca cI 26 (fun _ => 0)), (q69, .inr (4, [.ref q28, .ref (u_77 0), .int (J 0), .int (J 0)])), (u_77 0, ca cI 9 (fun _ => 0)), (q84, .inr (3, [.ref (u_88 0), .ref (u_88 1), .ref (u_88 2), .int (J 0), .int (J 0), .int (J 0)])), (u_88 0, ca cI 40 (fun _ => 0)), (u_88 1, ca cI 40 (fun _ => 0)), (u_88 2, ca cI 40 (fun _ => 0))] H := hP
  have hD : va_D A [(o, .inr (7, [.ref q5, .ref q16, .ref q28, .ref q39, .ref q54, .ref q69, .ref q84, .int (J (-1)), .int (J 0)])), (q5, .inr (0, [.ref (u_9 0), .ref (u_9 3), .ref (u_9 4), .ref (u_9 5), .ref (u_9 6), .int (J 0)])), (u_9 0, .inr (6, [.ref (u_9 1), .ref (u_9 2), .int (J 0)])), (u_9 1, ca cI 1200 (fun _ => 0)), (u_9 2, ca cI 120 (fun _ => 0)), (u_9 3, ca cI 40 (fun _ => 0)), (u_9 4, ca cI 40 (fun _ => 0)), (u_9 5, ca cI 40 (fun _ => 0)), (u_9 6, ca cZ 40 (fun _ => 0)), (q16, .inr (6, [.ref (u_21 0), .ref (u_21 1), .int (J 0)])), (u_21 0, ca cI 30 (fun _ => 0)), (u_21 1, ca cI 3 (fun _ => 0)), (q28, .inr (5, [.ref (u_32 0)])), (u_32 0, ca cI 6 (iu (iu (iu (iu (iu (iu (fun _ => 0) 0 10) 1 10) 2 15) 3 5) 4 60) 5 20)), (q39, .inr (1, [.ref q28, .ref (u_47 0)])), (u_47 0, ca cI 11 (fun _ => 0)), (q54, .inr (2, [.ref q28, .ref (u_62 0)])), (u_62 0, ca cI 26 (fun _ => 0)), (q69, .inr (4, [.ref q28, .ref (u_77 0), .int (J 0), .int (J 0)])), (u_77 0, ca cI 9 (fun _ => 0)), (q84, .inr (3, [.ref (u_88 0), .ref (u_88 1), .ref (u_88 2), .int (J 0), .int (J 0), .int (J 0)])), (u_88 0, ca cI 40 (fun _ => 0)), (u_88 1, ca cI 40 (fun _ => 0)), (u_88 2, ca cI 40 (fun _ => 0))] := hD
  exact Mv_ret hx hb hr hlocks hQ d_Nf_init_104 hP hK hD hS (fun t => ([q5, u_9 0, u_9 1, u_9 2, u_9 3, u_9 4, u_9 5, u_9 6, q16, u_21 0, u_21 1, q28, u_32 0, q39, u_47 0, q54, u_62 0, q69, u_77 0, q84, u_88 0, u_88 1, u_88 2] : List Nat).getD t 0) (trivial) [0, 1, 2, 3, 4, 5, 6, 7, 8, 9, 10, 11, 12, 13, 14, 15, 16, 17, 18, 19, 20, 21, 22, 23] rfl (by decide)
