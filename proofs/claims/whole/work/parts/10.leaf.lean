set_option maxHeartbeats 4000000 in
set_option maxRecDepth 100000 in
theorem c_Nf_isPlace (l : Launch) (D : va_G) (cI cZ cJ : ClassId) (z : Int) (hz : rg z) : Ri l y_Nf_isPlace w_Nf_isPlace ({ frames := 0, cells := 0, slots := 0, locals := 0 }) D classes [(cI, .int), (cZ, .boolean), (cJ, .long)] [.int (J z)] [] (b2 (0 ≤ z ∧ z < 1000)) := by
  refine Ri_of (cc := b_Nf_isPlace) (maxL := 1) (by decide) rfl (Nat.le_of_ble_eq_true rfl) ?_
  intro p e s m args below meth c hx hb hr hml hts hown hlocks hP hK Q hQ H hH ls hl
  rw [← hH] at hP
  have hl : lv_has ls 1 [(0, .int (J z))] := hl
  refine lv_iload_n hx hb d_Nf_isPlace_0 rfl (lv_at hl 0 rfl) ?_
  refine w_if_lt (tgt := 15) hx hb d_Nf_isPlace_1 (by decide) (by omega) (fun c_1 => ?_) (fun c_1 => ?_)
  · refine lv_iconst (v := J (0)) hx hb d_Nf_isPlace_15 rfl ?_
    exact Ri_ret hx hb hr hlocks hQ hH d_Nf_isPlace_16 (nb_z (by omega)) (by unfold b2; split <;> omega)
  · refine lv_iload_n hx hb d_Nf_isPlace_4 rfl (lv_at hl 0 rfl) ?_
    refine lv_sipush (v := J (1000)) hx hb d_Nf_isPlace_5 (by decide) ?_
    refine w_icmp_ge (tgt := 15) hx hb d_Nf_isPlace_8 (by decide) (by omega) (by omega) (fun c_8 => ?_) (fun c_8 => ?_)
    · refine lv_iconst (v := J (0)) hx hb d_Nf_isPlace_15 rfl ?_
      exact Ri_ret hx hb hr hlocks hQ hH d_Nf_isPlace_16 (nb_z (by omega)) (by unfold b2; split <;> omega)
    · refine lv_iconst (v := J (1)) hx hb d_Nf_isPlace_11 rfl ?_
      refine lv_goto (tgt := 16) hx hb d_Nf_isPlace_12 (by decide) ?_
      exact Ri_ret hx hb hr hlocks hQ hH d_Nf_isPlace_16 (nb_z (by omega)) (by unfold b2; split <;> omega)
set_option maxHeartbeats 4000000 in
set_option maxRecDepth 100000 in
theorem c_Nf_isWord (l : Launch) (D : va_G) (cI cZ cJ : ClassId) (z : Int) (hz : rg z) : Ri l y_Nf_isWord w_Nf_isWord ({ frames := 0, cells := 0, slots := 0, locals := 0 }) D classes [(cI, .int), (cZ, .boolean), (cJ, .long)] [.int (J z)] [] (b2 (0 ≤ z ∧ z < 3)) := by
  refine Ri_of (cc := b_Nf_isWord) (maxL := 1) (by decide) rfl (Nat.le_of_ble_eq_true rfl) ?_
  intro p e s m args below meth c hx hb hr hml hts hown hlocks hP hK Q hQ H hH ls hl
  rw [← hH] at hP
  have hl : lv_has ls 1 [(0, .int (J z))] := hl
  refine lv_iload_n hx hb d_Nf_isWord_0 rfl (lv_at hl 0 rfl) ?_
  refine w_if_lt (tgt := 13) hx hb d_Nf_isWord_1 (by decide) (by omega) (fun c_1 => ?_) (fun c_1 => ?_)
  · refine lv_iconst (v := J (0)) hx hb d_Nf_isWord_13 rfl ?_
    exact Ri_ret hx hb hr hlocks hQ hH d_Nf_isWord_14 (nb_z (by omega)) (by unfold b2; split <;> omega)
  · refine lv_iload_n hx hb d_Nf_isWord_4 rfl (lv_at hl 0 rfl) ?_
    refine lv_iconst (v := J (3)) hx hb d_Nf_isWord_5 rfl ?_
    refine w_icmp_ge (tgt := 13) hx hb d_Nf_isWord_6 (by decide) (by omega) (by omega) (fun c_6 => ?_) (fun c_6 => ?_)
    · refine lv_iconst (v := J (0)) hx hb d_Nf_isWord_13 rfl ?_
      exact Ri_ret hx hb hr hlocks hQ hH d_Nf_isWord_14 (nb_z (by omega)) (by unfold b2; split <;> omega)
    · refine lv_iconst (v := J (1)) hx hb d_Nf_isWord_9 rfl ?_
      refine lv_goto (tgt := 14) hx hb d_Nf_isWord_10 (by decide) ?_
      exact Ri_ret hx hb hr hlocks hQ hH d_Nf_isWord_14 (nb_z (by omega)) (by unfold b2; split <;> omega)
set_option maxHeartbeats 4000000 in
set_option maxRecDepth 100000 in
theorem c_Nf_isLetter (l : Launch) (D : va_G) (cI cZ cJ : ClassId) (z : Int) (hz : rg z) : Ri l y_Nf_isLetter w_Nf_isLetter ({ frames := 0, cells := 0, slots := 0, locals := 0 }) D classes [(cI, .int), (cZ, .boolean), (cJ, .long)] [.int (J z)] [] (b2 (0 ≤ z ∧ z < 26)) := by
  refine Ri_of (cc := b_Nf_isLetter) (maxL := 1) (by decide) rfl (Nat.le_of_ble_eq_true rfl) ?_
  intro p e s m args below meth c hx hb hr hml hts hown hlocks hP hK Q hQ H hH ls hl
  rw [← hH] at hP
  have hl : lv_has ls 1 [(0, .int (J z))] := hl
  refine lv_iload_n hx hb d_Nf_isLetter_0 rfl (lv_at hl 0 rfl) ?_
  refine w_if_lt (tgt := 14) hx hb d_Nf_isLetter_1 (by decide) (by omega) (fun c_1 => ?_) (fun c_1 => ?_)
  · refine lv_iconst (v := J (0)) hx hb d_Nf_isLetter_14 rfl ?_
    exact Ri_ret hx hb hr hlocks hQ hH d_Nf_isLetter_15 (nb_z (by omega)) (by unfold b2; split <;> omega)
  · refine lv_iload_n hx hb d_Nf_isLetter_4 rfl (lv_at hl 0 rfl) ?_
    refine lv_bipush (v := J (26)) hx hb d_Nf_isLetter_5 (by decide) ?_
    refine w_icmp_ge (tgt := 14) hx hb d_Nf_isLetter_7 (by decide) (by omega) (by omega) (fun c_7 => ?_) (fun c_7 => ?_)
    · refine lv_iconst (v := J (0)) hx hb d_Nf_isLetter_14 rfl ?_
      exact Ri_ret hx hb hr hlocks hQ hH d_Nf_isLetter_15 (nb_z (by omega)) (by unfold b2; split <;> omega)
    · refine lv_iconst (v := J (1)) hx hb d_Nf_isLetter_10 rfl ?_
      refine lv_goto (tgt := 15) hx hb d_Nf_isLetter_11 (by decide) ?_
      exact Ri_ret hx hb hr hlocks hQ hH d_Nf_isLetter_15 (nb_z (by omega)) (by unfold b2; split <;> omega)
set_option maxHeartbeats 4000000 in
set_option maxRecDepth 100000 in
theorem c_We_isKind (l : Launch) (D : va_G) (cI cZ cJ : ClassId) (z : Int) (hz : rg z) : Ri l y_We_isKind w_We_isKind ({ frames := 0, cells := 0, slots := 0, locals := 0 }) D classes [(cI, .int), (cZ, .boolean), (cJ, .long)] [.int (J z)] [] (b2 (0 ≤ z ∧ z < 6)) := by
  refine Ri_of (cc := b_We_isKind) (maxL := 1) (by decide) rfl (Nat.le_of_ble_eq_true rfl) ?_
  intro p e s m args below meth c hx hb hr hml hts hown hlocks hP hK Q hQ H hH ls hl
  rw [← hH] at hP
  have hl : lv_has ls 1 [(0, .int (J z))] := hl
  refine lv_iload_n hx hb d_We_isKind_0 rfl (lv_at hl 0 rfl) ?_
  refine w_if_lt (tgt := 14) hx hb d_We_isKind_1 (by decide) (by omega) (fun c_1 => ?_) (fun c_1 => ?_)
  · refine lv_iconst (v := J (0)) hx hb d_We_isKind_14 rfl ?_
    exact Ri_ret hx hb hr hlocks hQ hH d_We_isKind_15 (nb_z (by omega)) (by unfold b2; split <;> omega)
  · refine lv_iload_n hx hb d_We_isKind_4 rfl (lv_at hl 0 rfl) ?_
    refine lv_bipush (v := J (6)) hx hb d_We_isKind_5 (by decide) ?_
    refine w_icmp_ge (tgt := 14) hx hb d_We_isKind_7 (by decide) (by omega) (by omega) (fun c_7 => ?_) (fun c_7 => ?_)
    · refine lv_iconst (v := J (0)) hx hb d_We_isKind_14 rfl ?_
      exact Ri_ret hx hb hr hlocks hQ hH d_We_isKind_15 (nb_z (by omega)) (by unfold b2; split <;> omega)
    · refine lv_iconst (v := J (1)) hx hb d_We_isKind_10 rfl ?_
      refine lv_goto (tgt := 15) hx hb d_We_isKind_11 (by decide) ?_
      exact Ri_ret hx hb hr hlocks hQ hH d_We_isKind_15 (nb_z (by omega)) (by unfold b2; split <;> omega)
set_option maxHeartbeats 4000000 in
set_option maxRecDepth 100000 in
theorem c_We_isWeight (l : Launch) (D : va_G) (cI cZ cJ : ClassId) (z : Int) (hz : rg z) : Ri l y_We_isWeight w_We_isWeight ({ frames := 0, cells := 0, slots := 0, locals := 0 }) D classes [(cI, .int), (cZ, .boolean), (cJ, .long)] [.int (J z)] [] (b2 (0 ≤ z ∧ z ≤ 1000)) := by
  refine Ri_of (cc := b_We_isWeight) (maxL := 1) (by decide) rfl (Nat.le_of_ble_eq_true rfl) ?_
  intro p e s m args below meth c hx hb hr hml hts hown hlocks hP hK Q hQ H hH ls hl
  rw [← hH] at hP
  have hl : lv_has ls 1 [(0, .int (J z))] := hl
  refine lv_iload_n hx hb d_We_isWeight_0 rfl (lv_at hl 0 rfl) ?_
  refine w_if_lt (tgt := 15) hx hb d_We_isWeight_1 (by decide) (by omega) (fun c_1 => ?_) (fun c_1 => ?_)
  · refine lv_iconst (v := J (0)) hx hb d_We_isWeight_15 rfl ?_
    exact Ri_ret hx hb hr hlocks hQ hH d_We_isWeight_16 (nb_z (by omega)) (by unfold b2; split <;> omega)
  · refine lv_iload_n hx hb d_We_isWeight_4 rfl (lv_at hl 0 rfl) ?_
    refine lv_sipush (v := J (1000)) hx hb d_We_isWeight_5 (by decide) ?_
    refine w_icmp_gt (tgt := 15) hx hb d_We_isWeight_8 (by decide) (by omega) (by omega) (fun c_8 => ?_) (fun c_8 => ?_)
    · refine lv_iconst (v := J (0)) hx hb d_We_isWeight_15 rfl ?_
      exact Ri_ret hx hb hr hlocks hQ hH d_We_isWeight_16 (nb_z (by omega)) (by unfold b2; split <;> omega)
    · refine lv_iconst (v := J (1)) hx hb d_We_isWeight_11 rfl ?_
      refine lv_goto (tgt := 16) hx hb d_We_isWeight_12 (by decide) ?_
      exact Ri_ret hx hb hr hlocks hQ hH d_We_isWeight_16 (nb_z (by omega)) (by unfold b2; split <;> omega)
set_option maxHeartbeats 4000000 in
set_option maxRecDepth 100000 in
theorem c_Mo_isWord (l : Launch) (D : va_G) (cI cZ cJ : ClassId) (z : Int) (hz : rg z) : Ri l y_Mo_isWord w_Mo_isWord ({ frames := 0, cells := 0, slots := 0, locals := 0 }) D classes [(cI, .int), (cZ, .boolean), (cJ, .long)] [.int (J z)] [] (b2 (0 ≤ z ∧ z < 3)) := by
  refine Ri_of (cc := b_Mo_isWord) (maxL := 1) (by decide) rfl (Nat.le_of_ble_eq_true rfl) ?_
  intro p e s m args below meth c hx hb hr hml hts hown hlocks hP hK Q hQ H hH ls hl
  rw [← hH] at hP
  have hl : lv_has ls 1 [(0, .int (J z))] := hl
  refine lv_iload_n hx hb d_Mo_isWord_0 rfl (lv_at hl 0 rfl) ?_
  refine w_if_lt (tgt := 13) hx hb d_Mo_isWord_1 (by decide) (by omega) (fun c_1 => ?_) (fun c_1 => ?_)
  · refine lv_iconst (v := J (0)) hx hb d_Mo_isWord_13 rfl ?_
    exact Ri_ret hx hb hr hlocks hQ hH d_Mo_isWord_14 (nb_z (by omega)) (by unfold b2; split <;> omega)
  · refine lv_iload_n hx hb d_Mo_isWord_4 rfl (lv_at hl 0 rfl) ?_
    refine lv_iconst (v := J (3)) hx hb d_Mo_isWord_5 rfl ?_
    refine w_icmp_ge (tgt := 13) hx hb d_Mo_isWord_6 (by decide) (by omega) (by omega) (fun c_6 => ?_) (fun c_6 => ?_)
    · refine lv_iconst (v := J (0)) hx hb d_Mo_isWord_13 rfl ?_
      exact Ri_ret hx hb hr hlocks hQ hH d_Mo_isWord_14 (nb_z (by omega)) (by unfold b2; split <;> omega)
    · refine lv_iconst (v := J (1)) hx hb d_Mo_isWord_9 rfl ?_
      refine lv_goto (tgt := 14) hx hb d_Mo_isWord_10 (by decide) ?_
      exact Ri_ret hx hb hr hlocks hQ hH d_Mo_isWord_14 (nb_z (by omega)) (by unfold b2; split <;> omega)
set_option maxHeartbeats 4000000 in
set_option maxRecDepth 100000 in
theorem c_Wo_startOf (l : Launch) (D : va_G) (cI cZ cJ : ClassId) (w : Nat)  : Ri l y_Wo_startOf w_Wo_startOf ({ frames := 0, cells := 0, slots := 0, locals := 0 }) D classes [(cI, .int), (cZ, .boolean), (cJ, .long)] [.int (J ((w : Nat) : Int))] [] (((w * 10 : Nat) : Int)) := by
  refine Ri_of (cc := b_Wo_startOf) (maxL := 1) (by decide) rfl (Nat.le_of_ble_eq_true rfl) ?_
  intro p e s m args below meth c hx hb hr hml hts hown hlocks hP hK Q hQ H hH ls hl
  rw [← hH] at hP
  have hl : lv_has ls 1 [(0, .int (J ((w : Nat) : Int)))] := hl
  refine lv_iload_n hx hb d_Wo_startOf_0 rfl (lv_at hl 0 rfl) ?_
  refine lv_bipush (v := J (10)) hx hb d_Wo_startOf_1 (by decide) ?_
  refine w_imul hx hb d_Wo_startOf_3 ((w * 10 : Nat) : Int) (by omega) ?_
  exact Ri_ret hx hb hr hlocks hQ hH d_Wo_startOf_4 nb_i (by omega)
set_option maxHeartbeats 4000000 in
set_option maxRecDepth 100000 in
theorem c_Bk_wordAt (l : Launch) (D : va_G) (cI cZ cJ : ClassId) (w : Nat) (o : Nat)  : Ri l y_Bk_wordAt w_Bk_wordAt ({ frames := 0, cells := 0, slots := 0, locals := 0 }) D classes [(cI, .int), (cZ, .boolean), (cJ, .long)] [.int (J ((w : Nat) : Int)), .int (J ((o : Nat) : Int))] [] (((w * 3 + o : Nat) : Int)) := by
  refine Ri_of (cc := b_Bk_wordAt) (maxL := 2) (by decide) rfl (Nat.le_of_ble_eq_true rfl) ?_
  intro p e s m args below meth c hx hb hr hml hts hown hlocks hP hK Q hQ H hH ls hl
  rw [← hH] at hP
  have hl : lv_has ls 2 [(0, .int (J ((w : Nat) : Int))), (1, .int (J ((o : Nat) : Int)))] := hl
  refine lv_iload_n hx hb d_Bk_wordAt_0 rfl (lv_at hl 0 rfl) ?_
  refine lv_iconst (v := J (3)) hx hb d_Bk_wordAt_1 rfl ?_
  refine w_imul hx hb d_Bk_wordAt_2 ((w * 3 : Nat) : Int) (by omega) ?_
  refine lv_iload_n hx hb d_Bk_wordAt_3 rfl (lv_at hl 1 rfl) ?_
  refine w_iadd hx hb d_Bk_wordAt_4 (((w * 3) + o : Nat) : Int) (by omega) ?_
  exact Ri_ret hx hb hr hlocks hQ hH d_Bk_wordAt_5 nb_i (by omega)
set_option maxHeartbeats 4000000 in
set_option maxRecDepth 100000 in
theorem c_We_putIn (l : Launch) (D : va_G) (cI cZ cJ : ClassId) (o : Nat) (a : Nat) (wt : Nat → Int)  : Ri l y_We_putIn w_We_putIn ({ frames := 0, cells := 0, slots := 0, locals := 0 }) D classes [(cI, .int), (cZ, .boolean), (cJ, .long)] [.ref o] [(o, .inr (5, [.ref a])), (a, ca cI 6 wt)] (wt 0) := by
  refine Ri_of (cc := b_We_putIn) (maxL := 1) (by decide) rfl (Nat.le_of_ble_eq_true rfl) ?_
  intro p e s m args below meth c hx hb hr hml hts hown hlocks hP hK Q hQ H hH ls hl
  rw [← hH] at hP
  have hl : lv_has ls 1 [(0, .ref o)] := hl
  refine lv_aload_n hx hb d_We_putIn_0 rfl (lv_at hl 0 rfl) ?_
  refine va_get (D := D) (ci := 5) (v := .ref a) (C := R_We) (T := T_We) (N := 1) hx hb hts i_We hown hK hP 0 rfl rfl 0 (by decide) (hts _ mw_108) (fun _ h9 => h9) rfl d_We_putIn_1 ?_
  refine lv_iconst (v := J (0)) hx hb d_We_putIn_4 rfl ?_
  refine w_iald hx hb hK hP 1 0 rfl rfl 0 (by omega) (by omega) (by omega) d_We_putIn_5 ?_
  exact Ri_ret hx hb hr hlocks hQ hH d_We_putIn_6 nb_i (rfl)
set_option maxHeartbeats 4000000 in
set_option maxRecDepth 100000 in
theorem c_We_leftOut (l : Launch) (D : va_G) (cI cZ cJ : ClassId) (o : Nat) (a : Nat) (wt : Nat → Int)  : Ri l y_We_leftOut w_We_leftOut ({ frames := 0, cells := 0, slots := 0, locals := 0 }) D classes [(cI, .int), (cZ, .boolean), (cJ, .long)] [.ref o] [(o, .inr (5, [.ref a])), (a, ca cI 6 wt)] (wt 1) := by
  refine Ri_of (cc := b_We_leftOut) (maxL := 1) (by decide) rfl (Nat.le_of_ble_eq_true rfl) ?_
  intro p e s m args below meth c hx hb hr hml hts hown hlocks hP hK Q hQ H hH ls hl
  rw [← hH] at hP
  have hl : lv_has ls 1 [(0, .ref o)] := hl
  refine lv_aload_n hx hb d_We_leftOut_0 rfl (lv_at hl 0 rfl) ?_
  refine va_get (D := D) (ci := 5) (v := .ref a) (C := R_We) (T := T_We) (N := 1) hx hb hts i_We hown hK hP 0 rfl rfl 0 (by decide) (hts _ mw_108) (fun _ h9 => h9) rfl d_We_leftOut_1 ?_
  refine lv_iconst (v := J (1)) hx hb d_We_leftOut_4 rfl ?_
  refine w_iald hx hb hK hP 1 0 rfl rfl 1 (by omega) (by omega) (by omega) d_We_leftOut_5 ?_
  exact Ri_ret hx hb hr hlocks hQ hH d_We_leftOut_6 nb_i (rfl)
set_option maxHeartbeats 4000000 in
set_option maxRecDepth 100000 in
theorem c_We_exchanged (l : Launch) (D : va_G) (cI cZ cJ : ClassId) (o : Nat) (a : Nat) (wt : Nat → Int)  : Ri l y_We_exchanged w_We_exchanged ({ frames := 0, cells := 0, slots := 0, locals := 0 }) D classes [(cI, .int), (cZ, .boolean), (cJ, .long)] [.ref o] [(o, .inr (5, [.ref a])), (a, ca cI 6 wt)] (wt 2) := by
  refine Ri_of (cc := b_We_exchanged) (maxL := 1) (by decide) rfl (Nat.le_of_ble_eq_true rfl) ?_
  intro p e s m args below meth c hx hb hr hml hts hown hlocks hP hK Q hQ H hH ls hl
  rw [← hH] at hP
  have hl : lv_has ls 1 [(0, .ref o)] := hl
  refine lv_aload_n hx hb d_We_exchanged_0 rfl (lv_at hl 0 rfl) ?_
  refine va_get (D := D) (ci := 5) (v := .ref a) (C := R_We) (T := T_We) (N := 1) hx hb hts i_We hown hK hP 0 rfl rfl 0 (by decide) (hts _ mw_108) (fun _ h9 => h9) rfl d_We_exchanged_1 ?_
  refine lv_iconst (v := J (2)) hx hb d_We_exchanged_4 rfl ?_
  refine w_iald hx hb hK hP 1 0 rfl rfl 2 (by omega) (by omega) (by omega) d_We_exchanged_5 ?_
  exact Ri_ret hx hb hr hlocks hQ hH d_We_exchanged_6 nb_i (rfl)
set_option maxHeartbeats 4000000 in
set_option maxRecDepth 100000 in
theorem c_We_missing (l : Launch) (D : va_G) (cI cZ cJ : ClassId) (o : Nat) (a : Nat) (wt : Nat → Int)  : Ri l y_We_missing w_We_missing ({ frames := 0, cells := 0, slots := 0, locals := 0 }) D classes [(cI, .int), (cZ, .boolean), (cJ, .long)] [.ref o] [(o, .inr (5, [.ref a])), (a, ca cI 6 wt)] (wt 4) := by
  refine Ri_of (cc := b_We_missing) (maxL := 1) (by decide) rfl (Nat.le_of_ble_eq_true rfl) ?_
  intro p e s m args below meth c hx hb hr hml hts hown hlocks hP hK Q hQ H hH ls hl
  rw [← hH] at hP
  have hl : lv_has ls 1 [(0, .ref o)] := hl
  refine lv_aload_n hx hb d_We_missing_0 rfl (lv_at hl 0 rfl) ?_
  refine va_get (D := D) (ci := 5) (v := .ref a) (C := R_We) (T := T_We) (N := 1) hx hb hts i_We hown hK hP 0 rfl rfl 0 (by decide) (hts _ mw_108) (fun _ h9 => h9) rfl d_We_missing_1 ?_
  refine lv_iconst (v := J (4)) hx hb d_We_missing_4 rfl ?_
  refine w_iald hx hb hK hP 1 0 rfl rfl 4 (by omega) (by omega) (by omega) d_We_missing_5 ?_
  exact Ri_ret hx hb hr hlocks hQ hH d_We_missing_6 nb_i (rfl)
set_option maxHeartbeats 4000000 in
set_option maxRecDepth 100000 in
theorem c_We_turned (l : Launch) (D : va_G) (cI cZ cJ : ClassId) (o : Nat) (a : Nat) (wt : Nat → Int)  : Ri l y_We_turned w_We_turned ({ frames := 0, cells := 0, slots := 0, locals := 0 }) D classes [(cI, .int), (cZ, .boolean), (cJ, .long)] [.ref o] [(o, .inr (5, [.ref a])), (a, ca cI 6 wt)] (wt 5) := by
  refine Ri_of (cc := b_We_turned) (maxL := 1) (by decide) rfl (Nat.le_of_ble_eq_true rfl) ?_
  intro p e s m args below meth c hx hb hr hml hts hown hlocks hP hK Q hQ H hH ls hl
  rw [← hH] at hP
  have hl : lv_has ls 1 [(0, .ref o)] := hl
  refine lv_aload_n hx hb d_We_turned_0 rfl (lv_at hl 0 rfl) ?_
  refine va_get (D := D) (ci := 5) (v := .ref a) (C := R_We) (T := T_We) (N := 1) hx hb hts i_We hown hK hP 0 rfl rfl 0 (by decide) (hts _ mw_108) (fun _ h9 => h9) rfl d_We_turned_1 ?_
  refine lv_iconst (v := J (5)) hx hb d_We_turned_4 rfl ?_
  refine w_iald hx hb hK hP 1 0 rfl rfl 5 (by omega) (by omega) (by omega) d_We_turned_5 ?_
  exact Ri_ret hx hb hr hlocks hQ hH d_We_turned_6 nb_i (rfl)
set_option maxHeartbeats 4000000 in
set_option maxRecDepth 100000 in
theorem c_We_exchangedAlike (l : Launch) (D : va_G) (cI cZ cJ : ClassId) (o : Nat) (a : Nat) (wt : Nat → Int) (hw : ∀ k, 0 ≤ wt k ∧ wt k ≤ 1000) : Ri l y_We_exchangedAlike w_We_exchangedAlike ({ frames := 1, cells := 0, slots := 0, locals := 13 }) D classes [(cI, .int), (cZ, .boolean), (cJ, .long)] [.ref o] [(o, .inr (5, [.ref a])), (a, ca cI 6 wt)] (min (wt 2) (wt 3)) := by
  refine Ri_of (cc := b_We_exchangedAlike) (maxL := 1) (by decide) rfl (Nat.le_of_ble_eq_true rfl) ?_
  intro p e s m args below meth c hx hb hr hml hts hown hlocks hP hK Q hQ H hH ls hl
  rw [← hH] at hP
  have hl : lv_has ls 1 [(0, .ref o)] := hl
  have w2 := hw 2
  have w3 := hw 3
  refine lv_aload_n hx hb d_We_exchangedAlike_0 rfl (lv_at hl 0 rfl) ?_
  refine va_get (D := D) (ci := 5) (v := .ref a) (C := R_We) (T := T_We) (N := 1) hx hb hts i_We hown hK hP 0 rfl rfl 0 (by decide) (hts _ mw_108) (fun _ h9 => h9) rfl d_We_exchangedAlike_1 ?_
  refine lv_iconst (v := J (2)) hx hb d_We_exchangedAlike_4 rfl ?_
  refine w_iald hx hb hK hP 1 0 rfl rfl 2 (by omega) (by omega) (by omega) d_We_exchangedAlike_5 ?_
  refine lv_aload_n hx hb d_We_exchangedAlike_6 rfl (lv_at hl 0 rfl) ?_
  refine va_get (D := D) (ci := 5) (v := .ref a) (C := R_We) (T := T_We) (N := 1) hx hb hts i_We hown hK hP 0 rfl rfl 0 (by decide) (hts _ mw_108) (fun _ h9 => h9) rfl d_We_exchangedAlike_7 ?_
  refine lv_iconst (v := J (3)) hx hb d_We_exchangedAlike_10 rfl ?_
  refine w_iald hx hb hK hP 1 0 rfl rfl 3 (by omega) (by omega) (by omega) d_We_exchangedAlike_11 ?_
  refine w_mmin hx hb (by rw [hml]; exact hl.1.symm) hown (hts _ mw_346) (hts _ mw_347) (hts _ mw_34) (hts _ mw_348) (by decide) (Nat.le_of_ble_eq_true rfl) (by decide) (by decide) d_We_exchangedAlike_12 (by omega) (by omega) ?_
  exact Ri_ret hx hb hr hlocks hQ hH d_We_exchangedAlike_15 nb_i (rfl)
set_option maxHeartbeats 4000000 in
set_option maxRecDepth 100000 in
theorem c_We_replace (l : Launch) (D : va_G) (cI cZ cJ : ClassId) (sz : Nat) (o : Nat) (a : Nat) (wt : Nat → Int) (k : Nat) (v : Int) (hk : k < 6) : Mi l y_We_replace w_We_replace ({ frames := 0, cells := 0, slots := 0, locals := 0 }) false D classes [(cI, .int), (cZ, .boolean), (cJ, .long)] sz [.ref o, .int (J ((k : Nat) : Int)), .int (J v)] [(o, .inr (5, [.ref a])), (a, ca cI 6 wt)] (wt k) (S := Unit) (fun _ => True) (fun u : Unit => [(o, .inr (5, [.ref a])), (a, ca cI 6 (iu wt k v))]) 0 0 := by
  refine Mi_of (cc := b_We_replace) (maxL := 4) (by decide) rfl (Nat.le_of_ble_eq_true rfl) ?_
  intro p e s m args below meth c hx hb hr hml hts hown hlocks A hA hP hK hD hT hS Q hQ H hH ls hl
  subst hH
  have hl : lv_has ls 4 [(0, .ref o), (1, .int (J ((k : Nat) : Int))), (2, .int (J v))] := hl
  refine lv_aload_n hx hb d_We_replace_0 rfl (lv_at hl 0 rfl) ?_
  refine va_get (D := D) (ci := 5) (v := .ref a) (C := R_We) (T := T_We) (N := 1) hx hb hts i_We hown hK hP 0 rfl rfl 0 (by decide) (hts _ mw_108) (fun _ h9 => h9) rfl d_We_replace_1 ?_
  refine lv_iload_n hx hb d_We_replace_4 rfl (lv_at hl 1 rfl) ?_
  refine w_iald hx hb hK hP 1 0 rfl rfl k (by omega) (by omega) (by omega) d_We_replace_5 ?_
  refine lv_istore_n (lv' := [(3, .int (J (wt k))), (0, .ref o), (1, .int (J ((k : Nat) : Int))), (2, .int (J v))]) hx hb d_We_replace_6 rfl hl (by decide) rfl (fun ls hl => ?_)
  refine lv_aload_n hx hb d_We_replace_7 rfl (lv_at hl 1 rfl) ?_
  refine va_get (D := D) (ci := 5) (v := .ref a) (C := R_We) (T := T_We) (N := 1) hx hb hts i_We hown hK hP 0 rfl rfl 0 (by decide) (hts _ mw_108) (fun _ h9 => h9) rfl d_We_replace_8 ?_
  refine lv_iload_n hx hb d_We_replace_11 rfl (lv_at hl 2 rfl) ?_
  refine lv_iload_n hx hb d_We_replace_12 rfl (lv_at hl 3 rfl) ?_
  refine w_iast hx hb hK hP hD hS 1 0 rfl rfl k (by omega) (by omega) (by omega) d_We_replace_13 (fun H locs hP hD hS => ?_)
  have hP : va_P D classes [(o, .inr (5, [.ref a])), (a, ca cI 6 (iu wt k v))] H := hP
  have hD : va_D A [(o, .inr (5, [.ref a])), (a, ca cI 6 (iu wt k v))] := hD
  refine lv_iload_n hx hb d_We_replace_14 rfl (lv_at hl 0 rfl) ?_
  exact Mi_ret hx hb hr hlocks hQ d_We_replace_15 hP hK hD hS nb_i (rfl) () (trivial) [0, 1] rfl (by decide)
set_option maxHeartbeats 4000000 in
set_option maxRecDepth 100000 in
theorem c_Wo_isNone (l : Launch) (D : va_G) (cI cZ cJ : ClassId) (o : Nat) (aL : Nat) (aN : Nat) (nN : Nat) (ct : Int) (ln : Nat → Int) (w : Nat) (hn : nN ≤ 120) (hln : ∀ k, 0 ≤ ln k ∧ ln k ≤ 10) (hwn : w < nN) : Ri l y_Wo_isNone w_Wo_isNone ({ frames := 0, cells := 0, slots := 0, locals := 0 }) D classes [(cI, .int), (cZ, .boolean), (cJ, .long)] [.ref o, .int (J ((w : Nat) : Int))] [(o, .inr (6, [.ref aL, .ref aN, .int (J ct)])), (aN, ca cI nN ln)] (b2 (ln w = 0)) := by
  refine Ri_of (cc := b_Wo_isNone) (maxL := 2) (by decide) rfl (Nat.le_of_ble_eq_true rfl) ?_
  intro p e s m args below meth c hx hb hr hml hts hown hlocks hP hK Q hQ H hH ls hl
  rw [← hH] at hP
  have hl : lv_has ls 2 [(0, .ref o), (1, .int (J ((w : Nat) : Int)))] := hl
  have b1 := hln w
  refine lv_aload_n hx hb d_Wo_isNone_0 rfl (lv_at hl 0 rfl) ?_
  refine va_get (D := D) (ci := 6) (v := .ref aN) (C := R_Wo) (T := T_Wo) (N := 3) hx hb hts i_Wo hown hK hP 0 rfl rfl 1 (by decide) (hts _ mw_62) (fun _ h9 => h9) rfl d_Wo_isNone_1 ?_
  refine lv_iload_n hx hb d_Wo_isNone_4 rfl (lv_at hl 1 rfl) ?_
  refine w_iald hx hb hK hP 1 0 rfl rfl w (by omega) (by omega) (by omega) d_Wo_isNone_5 ?_
  refine w_if_ne (tgt := 13) hx hb d_Wo_isNone_6 (by decide) (by omega) (fun c_6 => ?_) (fun c_6 => ?_)
  · refine lv_iconst (v := J (0)) hx hb d_Wo_isNone_13 rfl ?_
    exact Ri_ret hx hb hr hlocks hQ hH d_Wo_isNone_14 (nb_z (by omega)) (by unfold b2; split <;> omega)
  · refine lv_iconst (v := J (1)) hx hb d_Wo_isNone_9 rfl ?_
    refine lv_goto (tgt := 14) hx hb d_Wo_isNone_10 (by decide) ?_
    exact Ri_ret hx hb hr hlocks hQ hH d_Wo_isNone_14 (nb_z (by omega)) (by unfold b2; split <;> omega)
set_option maxHeartbeats 4000000 in
set_option maxRecDepth 100000 in
theorem c_Wo_append_full (l : Launch) (D : va_G) (cI cZ cJ : ClassId) (o : Nat) (aL : Nat) (aN : Nat) (nL : Nat) (nN : Nat) (ct : Int) (g : Nat → Int) (ln : Nat → Int) (w : Nat) (ch : Int) (hn : nN ≤ 120) (hnl : nL = 10 * nN) (hln : ∀ k, 0 ≤ ln k ∧ ln k ≤ 10) (hwn : w < nN) (hf : ln w = 10) : Ri l y_Wo_append w_Wo_append ({ frames := 0, cells := 0, slots := 0, locals := 0 }) D classes [(cI, .int), (cZ, .boolean), (cJ, .long)] [.ref o, .int (J ((w : Nat) : Int)), .int (J ch)] [(o, .inr (6, [.ref aL, .ref aN, .int (J ct)])), (aL, ca cI nL g), (aN, ca cI nN ln)] (0) := by
  refine Ri_of (cc := b_Wo_append) (maxL := 3) (by decide) rfl (Nat.le_of_ble_eq_true rfl) ?_
  intro p e s m args below meth c hx hb hr hml hts hown hlocks hP hK Q hQ H hH ls hl
  rw [← hH] at hP
  have hl : lv_has ls 3 [(0, .ref o), (1, .int (J ((w : Nat) : Int))), (2, .int (J ch))] := hl
  have b1 := hln w
  refine lv_aload_n hx hb d_Wo_append_0 rfl (lv_at hl 0 rfl) ?_
  refine va_get (D := D) (ci := 6) (v := .ref aN) (C := R_Wo) (T := T_Wo) (N := 3) hx hb hts i_Wo hown hK hP 0 rfl rfl 1 (by decide) (hts _ mw_62) (fun _ h9 => h9) rfl d_Wo_append_1 ?_
  refine lv_iload_n hx hb d_Wo_append_4 rfl (lv_at hl 1 rfl) ?_
  refine w_iald hx hb hK hP 2 0 rfl rfl w (by omega) (by omega) (by omega) d_Wo_append_5 ?_
  refine lv_bipush (v := J (10)) hx hb d_Wo_append_6 (by decide) ?_
  refine w_icmp_lt (tgt := 13) hx hb d_Wo_append_8 (by decide) (by omega) (by omega) (fun c_8 => ?_) (fun c_8 => ?_)
  · exfalso; omega
  · refine lv_iconst (v := J (0)) hx hb d_Wo_append_11 rfl ?_
    exact Ri_ret hx hb hr hlocks hQ hH d_Wo_append_12 (nb_z (by omega)) (by omega)
set_option maxHeartbeats 4000000 in
set_option maxRecDepth 100000 in
theorem c_Wo_append (l : Launch) (D : va_G) (cI cZ cJ : ClassId) (sz : Nat) (o : Nat) (aL : Nat) (aN : Nat) (nL : Nat) (nN : Nat) (ct : Int) (g : Nat → Int) (ln : Nat → Int) (w : Nat) (ch : Int) (hn : nN ≤ 120) (hnl : nL = 10 * nN) (hln : ∀ k, 0 ≤ ln k ∧ ln k ≤ 10) (hwn : w < nN) (hf : ln w < 10) : Mi l y_Wo_append w_Wo_append ({ frames := 1, cells := 0, slots := 0, locals := 20 }) false D classes [(cI, .int), (cZ, .boolean), (cJ, .long)] sz [.ref o, .int (J ((w : Nat) : Int)), .int (J ch)] [(o, .inr (6, [.ref aL, .ref aN, .int (J ct)])), (aL, ca cI nL g), (aN, ca cI nN ln)] (1) (S := Unit) (fun _ => True) (fun u : Unit => [(o, .inr (6, [.ref aL, .ref aN, .int (J (ct + 1))])), (aL, ca cI nL (iu g (w * 10 + (ln w).toNat) ch)), (aN, ca cI nN (iu ln w (ln w + 1)))]) 0 0 := by
  refine Mi_of (cc := b_Wo_append) (maxL := 3) (by decide) rfl (Nat.le_of_ble_eq_true rfl) ?_
  intro p e s m args below meth c hx hb hr hml hts hown hlocks A hA hP hK hD hT hS Q hQ H hH ls hl
  subst hH
  have hl : lv_has ls 3 [(0, .ref o), (1, .int (J ((w : Nat) : Int))), (2, .int (J ch))] := hl
  have b1 := hln w
  refine lv_aload_n hx hb d_Wo_append_0 rfl (lv_at hl 0 rfl) ?_
  refine va_get (D := D) (ci := 6) (v := .ref aN) (C := R_Wo) (T := T_Wo) (N := 3) hx hb hts i_Wo hown hK hP 0 rfl rfl 1 (by decide) (hts _ mw_62) (fun _ h9 => h9) rfl d_Wo_append_1 ?_
  refine lv_iload_n hx hb d_Wo_append_4 rfl (lv_at hl 1 rfl) ?_
  refine w_iald hx hb hK hP 2 0 rfl rfl w (by omega) (by omega) (by omega) d_Wo_append_5 ?_
  refine lv_bipush (v := J (10)) hx hb d_Wo_append_6 (by decide) ?_
  refine w_icmp_lt (tgt := 13) hx hb d_Wo_append_8 (by decide) (by omega) (by omega) (fun c_8 => ?_) (fun c_8 => ?_)
  · refine lv_aload_n hx hb d_Wo_append_13 rfl (lv_at hl 0 rfl) ?_
    refine va_get (D := D) (ci := 6) (v := .ref aL) (C := R_Wo) (T := T_Wo) (N := 3) hx hb hts i_Wo hown hK hP 0 rfl rfl 0 (by decide) (hts _ mw_59) (fun _ h9 => h9) rfl d_Wo_append_14 ?_
    refine lv_iload_n hx hb d_Wo_append_17 rfl (lv_at hl 1 rfl) ?_
    refine Ri_call (va_runS (As := [.int (J ((w : Nat) : Int))]) (rest := [.ref aL]) ⟨hx, hb, hml, hown, hts⟩ (c_Wo_startOf l D cI cZ cJ w ) (va_cwS 1 hts (g_S mw_250 mw_251 mw_27 mw_252) rfl rfl rfl (by decide +kernel) ⟨Nat.le_of_ble_eq_true rfl, Nat.le_of_ble_eq_true rfl⟩) (pre_RS hP hK [] rfl) rfl rfl hl.1 rfl (lv_room (Nat.le_of_ble_eq_true rfl)) d_Wo_append_18 ⟨Nat.le_of_ble_eq_true rfl, Nat.le_of_ble_eq_true rfl⟩) ?_
    refine lv_aload_n hx hb d_Wo_append_21 rfl (lv_at hl 0 rfl) ?_
    refine va_get (D := D) (ci := 6) (v := .ref aN) (C := R_Wo) (T := T_Wo) (N := 3) hx hb hts i_Wo hown hK hP 0 rfl rfl 1 (by decide) (hts _ mw_62) (fun _ h9 => h9) rfl d_Wo_append_22 ?_
    refine lv_iload_n hx hb d_Wo_append_25 rfl (lv_at hl 1 rfl) ?_
    refine w_iald hx hb hK hP 2 0 rfl rfl w (by omega) (by omega) (by omega) d_Wo_append_26 ?_
    refine w_iadd hx hb d_Wo_append_27 ((w * 10 + (ln w).toNat : Nat) : Int) (by omega) ?_
    refine lv_iload_n hx hb d_Wo_append_28 rfl (lv_at hl 2 rfl) ?_
    refine w_iast hx hb hK hP hD hS 1 0 rfl rfl (w * 10 + (ln w).toNat) (by omega) (by omega) (by omega) d_Wo_append_29 (fun H locs hP hD hS => ?_)
    have hP : va_P D classes [(o, .inr (6, [.ref aL, .ref aN, .int (J ct)])), (aL, ca cI nL (iu g (w * 10 + (ln w).toNat) ch)), (aN, ca cI nN ln)] H := hP
    have hD : va_D A [(o, .inr (6, [.ref aL, .ref aN, .int (J ct)])), (aL, ca cI nL (iu g (w * 10 + (ln w).toNat) ch)), (aN, ca cI nN ln)] := hD
    refine lv_aload_n hx hb d_Wo_append_30 rfl (lv_at hl 0 rfl) ?_
    refine va_get (D := D) (ci := 6) (v := .ref aN) (C := R_Wo) (T := T_Wo) (N := 3) hx hb hts i_Wo hown hK hP 0 rfl rfl 1 (by decide) (hts _ mw_62) (fun _ h9 => h9) rfl d_Wo_append_31 ?_
    refine lv_iload_n hx hb d_Wo_append_34 rfl (lv_at hl 1 rfl) ?_
    refine lv_dup2_11 hx hb d_Wo_append_35 rfl rfl ?_
    refine w_iald hx hb hK hP 2 0 rfl rfl w (by omega) (by omega) (by omega) d_Wo_append_36 ?_
    refine lv_iconst (v := J (1)) hx hb d_Wo_append_37 rfl ?_
    refine w_iadd hx hb d_Wo_append_38 ((ln w) + 1) (rfl) ?_
    refine w_iast hx hb hK hP hD hS 2 0 rfl rfl w (by omega) (by omega) (by omega) d_Wo_append_39 (fun H locs hP hD hS => ?_)
    have hP : va_P D classes [(o, .inr (6, [.ref aL, .ref aN, .int (J ct)])), (aL, ca cI nL (iu g (w * 10 + (ln w).toNat) ch)), (aN, ca cI nN (iu ln w ((ln w) + 1)))] H := hP
    have hD : va_D A [(o, .inr (6, [.ref aL, .ref aN, .int (J ct)])), (aL, ca cI nL (iu g (w * 10 + (ln w).toNat) ch)), (aN, ca cI nN (iu ln w ((ln w) + 1)))] := hD
    refine lv_aload_n hx hb d_Wo_append_40 rfl (lv_at hl 0 rfl) ?_
    refine lv_dup hx hb d_Wo_append_41 rfl ?_
    refine va_get (D := D) (ci := 6) (v := .int (J ct)) (C := R_Wo) (T := T_Wo) (N := 3) hx hb hts i_Wo hown hK hP 0 rfl rfl 2 (by decide) (hts _ mw_65) (fun _ h9 => h9) rfl d_Wo_append_42 ?_
    refine lv_iconst (v := J (1)) hx hb d_Wo_append_45 rfl ?_
    refine w_iadd hx hb d_Wo_append_46 (ct + 1) (rfl) ?_
    refine va_put (D := D) (ci := 6) (v := .int (J (ct + 1))) (ty := .int) (C := R_Wo) (T := T_Wo) (N := 3) hx hb hts i_Wo t_Wo k_Wo n_Wo hown hK hP hD hS 0 rfl rfl 2 (by decide) (hts _ mw_65) (fun _ h9 => h9) rfl (by decide +kernel) rfl rfl (Nat.le_of_ble_eq_true rfl) d_Wo_append_47 (fun H locs hP hD hS => ?_)
    have hP : va_P D classes [(o, .inr (6, [.ref aL, .ref aN, .int (J (ct + 1))])), (aL, ca cI nL (iu g (w * 10 + (ln w).toNat) ch)), (aN, ca cI nN (iu ln w ((ln w) + 1)))] H := hP
    have hD : va_D A [(o, .inr (6, [.ref aL, .ref aN, .int (J (ct + 1))])), (aL, ca cI nL (iu g (w * 10 + (ln w).toNat) ch)), (aN, ca cI nN (iu ln w ((ln w) + 1)))] := hD
    refine lv_iconst (v := J (1)) hx hb d_Wo_append_50 rfl ?_
    exact Mi_ret hx hb hr hlocks hQ d_Wo_append_51 hP hK hD hS (nb_z (by omega)) (by omega) () (trivial) [0, 1, 2] rfl (by decide)
  · exfalso; omega
def zr (f : Nat → Int) (i : Nat) : Nat → Int := fun k => if k < i then 0 else f k
theorem zr_0 (f : Nat → Int) : zr f 0 = f := by funext k; unfold zr; rw [if_neg (by omega)]
theorem zr_s (f : Nat → Int) (i : Nat) : iu (zr f i) i 0 = zr f (i + 1) := by
  funext k
  by_cases h : k = i
  · subst h; rw [iu_s]; unfold zr; rw [if_pos (by omega)]
  · rw [iu_n _ _ h]; unfold zr
    by_cases q : k < i
    · rw [if_pos q, if_pos (by omega)]
    · rw [if_neg q, if_neg (by omega)]
set_option maxHeartbeats 4000000 in
set_option maxRecDepth 100000 in
theorem c_Wo_clear (l : Launch) (D : va_G) (cI cZ cJ : ClassId) (sz : Nat) (o : Nat) (aL : Nat) (aN : Nat) (nL : Nat) (nN : Nat) (ct : Int) (g : Nat → Int) (ln : Nat → Int) (hn : nN ≤ 120) : Mv l y_Wo_clear w_Wo_clear ({ frames := 0, cells := 0, slots := 0, locals := 0 }) false D classes [(cI, .int), (cZ, .boolean), (cJ, .long)] sz [.ref o] [(o, .inr (6, [.ref aL, .ref aN, .int (J ct)])), (aL, ca cI nL g), (aN, ca cI nN ln)] (S := Unit) (fun _ => True) (fun u : Unit => [(o, .inr (6, [.ref aL, .ref aN, .int (J 0)])), (aL, ca cI nL g), (aN, ca cI nN (zr ln nN))]) 0 0 := by
  refine Mv_of (cc := b_Wo_clear) (maxL := 2) (by decide) rfl (Nat.le_of_ble_eq_true rfl) ?_
  intro p e s m args below meth c hx hb hr hml hts hown hlocks hin A hA hP hK hD hT hS Q hQ H hH ls hl
  subst hH
  have hl : lv_has ls 2 [(0, .ref o)] := hl
  refine lv_iconst (v := J (0)) hx hb d_Wo_clear_0 rfl ?_
  refine lv_istore_n (lv' := [(1, .int (J 0)), (0, .ref o)]) hx hb d_Wo_clear_1 rfl hl (by decide) rfl (fun ls hl => ?_)
  have lp_2 : ∀ (fu : Nat) (i : Nat), (i ≤ nN) → (nN - i) < fu → ∀ (H : Heap) (locs : List Loc), va_P D classes [(o, .inr (6, [.ref aL, .ref aN, .int (J ct)])), (aL, ca cI nL g), (aN, ca cI nN (zr ln i))] H → va_D A [(o, .inr (6, [.ref aL, .ref aN, .int (J ct)])), (aL, ca cI nL g), (aN, ca cI nN (zr ln i))] → va_S A s.heap H locs → ∀ ls : Array Slot, lv_has ls 2 [(0, .ref o), (1, .int (J ((i : Nat) : Int)))] → W p l e ({ frames := 0, cells := 0, slots := 0, locals := 0 }) s m args below meth c H locs 0 0 Q (F0 m 2 ls []) := by
    intro fu
    induction fu with
    | zero => intro i hi hfu; exact absurd hfu (Nat.not_lt_zero _)
    | succ fu ih_2 =>
      intro i hi hfu H locs hP hD hS ls hl
      refine lv_iload_n hx hb d_Wo_clear_2 rfl (lv_at hl 1 rfl) ?_
      refine lv_aload_n hx hb d_Wo_clear_3 rfl (lv_at hl 0 rfl) ?_
      refine va_get (D := D) (ci := 6) (v := .ref aN) (C := R_Wo) (T := T_Wo) (N := 3) hx hb hts i_Wo hown hK hP 0 rfl rfl 1 (by decide) (hts _ mw_62) (fun _ h9 => h9) rfl d_Wo_clear_4 ?_
      refine va_alen (v := J ((nN : Nat) : Int)) hx hb hK hP 2 0 rfl rfl (J_nat _).symm d_Wo_clear_7 ?_
      refine w_icmp_ge (tgt := 24) hx hb d_Wo_clear_8 (by decide) (by omega) (by omega) (fun c_8 => ?_) (fun c_8 => ?_)
      · obtain rfl : nN = i := by omega
        refine lv_aload_n hx hb d_Wo_clear_24 rfl (lv_at hl 0 rfl) ?_
        refine lv_iconst (v := J (0)) hx hb d_Wo_clear_25 rfl ?_
        refine va_put (D := D) (ci := 6) (v := .int (J 0)) (ty := .int) (C := R_Wo) (T := T_Wo) (N := 3) hx hb hts i_Wo t_Wo k_Wo n_Wo hown hK hP hD hS 0 rfl rfl 2 (by decide) (hts _ mw_65) (fun _ h9 => h9) rfl (by decide +kernel) rfl rfl (Nat.le_of_ble_eq_true rfl) d_Wo_clear_26 (fun H locs hP hD hS => ?_)
        have hP : va_P D classes [(o, .inr (6, [.ref aL, .ref aN, .int (J 0)])), (aL, ca cI nL g), (aN, ca cI nN (zr ln nN))] H := hP
        have hD : va_D A [(o, .inr (6, [.ref aL, .ref aN, .int (J 0)])), (aL, ca cI nL g), (aN, ca cI nN (zr ln nN))] := hD
        exact Mv_ret hx hb hr hlocks hQ d_Wo_clear_29 hP hK hD hS () (trivial) [0, 1, 2] rfl (by decide)
      · refine lv_aload_n hx hb d_Wo_clear_11 rfl (lv_at hl 0 rfl) ?_
        refine va_get (D := D) (ci := 6) (v := .ref aN) (C := R_Wo) (T := T_Wo) (N := 3) hx hb hts i_Wo hown hK hP 0 rfl rfl 1 (by decide) (hts _ mw_62) (fun _ h9 => h9) rfl d_Wo_clear_12 ?_
        refine lv_iload_n hx hb d_Wo_clear_15 rfl (lv_at hl 1 rfl) ?_
        refine lv_iconst (v := J (0)) hx hb d_Wo_clear_16 rfl ?_
        refine w_iast hx hb hK hP hD hS 2 0 rfl rfl i (by omega) (by omega) (by omega) d_Wo_clear_17 (fun H locs hP hD hS => ?_)
        have hP : va_P D classes [(o, .inr (6, [.ref aL, .ref aN, .int (J ct)])), (aL, ca cI nL g), (aN, ca cI nN (iu (zr ln i) i 0))] H := hP
        have hD : va_D A [(o, .inr (6, [.ref aL, .ref aN, .int (J ct)])), (aL, ca cI nL g), (aN, ca cI nN (iu (zr ln i) i 0))] := hD
        have eg : iu (zr ln i) i 0 = zr ln (i + 1) := zr_s ln i
        rw [eg] at hP hD
        clear eg
        refine w_iinc (k := 1) (lv' := [(1, .int (J ((i + 1 : Nat) : Int))), (0, .ref o)]) hx hb d_Wo_clear_18 hl rfl ((i + 1 : Nat) : Int) (by omega) (by decide) rfl (fun ls hl => ?_)
        refine lv_goto (tgt := 2) hx hb d_Wo_clear_21 (by decide) ?_
        exact ih_2 (i + 1) (by omega) (by omega) _ _ (P_map hP [0, 1, 2] rfl) (hD.sub [0, 1, 2] (by decide) rfl) hS ls (lv_sub hl [1, 0] rfl)
  rw [← zr_0 ln] at hP hD
  exact lp_2 ((nN - 0) + 1) 0 (by omega) (Nat.lt_succ_self _) _ _ (P_map hP [0, 1, 2] rfl) (hD.sub [0, 1, 2] (by decide) rfl) hS ls (lv_sub hl [1, 0] rfl)
set_option maxHeartbeats 4000000 in
set_option maxRecDepth 100000 in
theorem c_Bk_has (l : Launch) (D : va_G) (cI cZ cJ : ClassId) (o : Nat) (q0 : Nat) (q1 : Nat) (q2 : Nat) (q3 : Nat) (q4 : Nat) (n : Nat) (z : Int) (hz : rg z) (hn : n ≤ 40) : Ri l y_Bk_has w_Bk_has ({ frames := 0, cells := 0, slots := 0, locals := 0 }) D classes [(cI, .int), (cZ, .boolean), (cJ, .long)] [.ref o, .int (J z)] [(o, .inr (0, [.ref q0, .ref q1, .ref q2, .ref q3, .ref q4, .int (J ((n : Nat) : Int))]))] (b2 (0 ≤ z ∧ z < (n : Int))) := by
  refine Ri_of (cc := b_Bk_has) (maxL := 2) (by decide) rfl (Nat.le_of_ble_eq_true rfl) ?_
  intro p e s m args below meth c hx hb hr hml hts hown hlocks hP hK Q hQ H hH ls hl
  rw [← hH] at hP
  have hl : lv_has ls 2 [(0, .ref o), (1, .int (J z))] := hl
  refine lv_iload_n hx hb d_Bk_has_0 rfl (lv_at hl 1 rfl) ?_
  refine w_if_lt (tgt := 16) hx hb d_Bk_has_1 (by decide) (by omega) (fun c_1 => ?_) (fun c_1 => ?_)
  · refine lv_iconst (v := J (0)) hx hb d_Bk_has_16 rfl ?_
    exact Ri_ret hx hb hr hlocks hQ hH d_Bk_has_17 (nb_z (by omega)) (by unfold b2; split <;> omega)
  · refine lv_iload_n hx hb d_Bk_has_4 rfl (lv_at hl 1 rfl) ?_
    refine lv_aload_n hx hb d_Bk_has_5 rfl (lv_at hl 0 rfl) ?_
    refine va_get (D := D) (ci := 0) (v := .int (J ((n : Nat) : Int))) (C := R_Bk) (T := T_Bk) (N := 6) hx hb hts i_Bk hown hK hP 0 rfl rfl 5 (by decide) (hts _ mw_84) (fun _ h9 => h9) rfl d_Bk_has_6 ?_
    refine w_icmp_ge (tgt := 16) hx hb d_Bk_has_9 (by decide) (by omega) (by omega) (fun c_9 => ?_) (fun c_9 => ?_)
    · refine lv_iconst (v := J (0)) hx hb d_Bk_has_16 rfl ?_
      exact Ri_ret hx hb hr hlocks hQ hH d_Bk_has_17 (nb_z (by omega)) (by unfold b2; split <;> omega)
    · refine lv_iconst (v := J (1)) hx hb d_Bk_has_12 rfl ?_
      refine lv_goto (tgt := 17) hx hb d_Bk_has_13 (by decide) ?_
      exact Ri_ret hx hb hr hlocks hQ hH d_Bk_has_17 (nb_z (by omega)) (by unfold b2; split <;> omega)
set_option maxHeartbeats 4000000 in
set_option maxRecDepth 100000 in
theorem c_Bk_isFull (l : Launch) (D : va_G) (cI cZ cJ : ClassId) (o : Nat) (q0 : Nat) (q1 : Nat) (q2 : Nat) (q3 : Nat) (q4 : Nat) (n : Nat) (hn : n ≤ 40) : Ri l y_Bk_isFull w_Bk_isFull ({ frames := 0, cells := 0, slots := 0, locals := 0 }) D classes [(cI, .int), (cZ, .boolean), (cJ, .long)] [.ref o] [(o, .inr (0, [.ref q0, .ref q1, .ref q2, .ref q3, .ref q4, .int (J ((n : Nat) : Int))]))] (b2 (n = 40)) := by
  refine Ri_of (cc := b_Bk_isFull) (maxL := 1) (by decide) rfl (Nat.le_of_ble_eq_true rfl) ?_
  intro p e s m args below meth c hx hb hr hml hts hown hlocks hP hK Q hQ H hH ls hl
  rw [← hH] at hP
  have hl : lv_has ls 1 [(0, .ref o)] := hl
  refine lv_aload_n hx hb d_Bk_isFull_0 rfl (lv_at hl 0 rfl) ?_
  refine va_get (D := D) (ci := 0) (v := .int (J ((n : Nat) : Int))) (C := R_Bk) (T := T_Bk) (N := 6) hx hb hts i_Bk hown hK hP 0 rfl rfl 5 (by decide) (hts _ mw_84) (fun _ h9 => h9) rfl d_Bk_isFull_1 ?_
  refine lv_bipush (v := J (40)) hx hb d_Bk_isFull_4 (by decide) ?_
  refine w_icmp_lt (tgt := 13) hx hb d_Bk_isFull_6 (by decide) (by omega) (by omega) (fun c_6 => ?_) (fun c_6 => ?_)
  · refine lv_iconst (v := J (0)) hx hb d_Bk_isFull_13 rfl ?_
    exact Ri_ret hx hb hr hlocks hQ hH d_Bk_isFull_14 (nb_z (by omega)) (by unfold b2; split <;> omega)
  · refine lv_iconst (v := J (1)) hx hb d_Bk_isFull_9 rfl ?_
    refine lv_goto (tgt := 14) hx hb d_Bk_isFull_10 (by decide) ?_
    exact Ri_ret hx hb hr hlocks hQ hH d_Bk_isFull_14 (nb_z (by omega)) (by unfold b2; split <;> omega)
