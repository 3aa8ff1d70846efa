set_option maxHeartbeats 4000000 in
set_option maxRecDepth 100000 in
theorem c_Bk_addEntry (l : Launch) (D : va_G) (cI cZ cJ : ClassId) (sz : Nat) (o : Nat) (q0 : Nat) (q1 : Nat) (q2 : Nat) (q3 : Nat) (q4 : Nat) (n : Nat) (pl : Nat → Int) (dy : Nat → Int) (z : Int) (hn : n < 40) : Mi l y_Bk_addEntry w_Bk_addEntry ({ frames := 0, cells := 0, slots := 0, locals := 0 }) false D classes [(cI, .int), (cZ, .boolean), (cJ, .long)] sz [.ref o, .int (J z)] [(o, .inr (0, [.ref q0, .ref q1, .ref q2, .ref q3, .ref q4, .int (J ((n : Nat) : Int))])), (q1, ca cI 40 pl), (q2, ca cI 40 dy)] (((n : Nat) : Int)) (S := Unit) (fun _ => True) (fun u : Unit => [(o, .inr (0, [.ref q0, .ref q1, .ref q2, .ref q3, .ref q4, .int (J ((n + 1 : Nat) : Int))])), (q1, ca cI 40 (iu pl n z)), (q2, ca cI 40 (iu dy n (-1)))]) 0 0 := by
  refine Mi_of (cc := b_Bk_addEntry) (maxL := 3) (by decide) rfl (Nat.le_of_ble_eq_true rfl) ?_
  intro p e s m args below meth c hx hb hr hml hts hown hlocks A hA hP hK hD hT hS Q hQ H hH ls hl
  subst hH
  have hl : lv_has ls 3 [(0, .ref o), (1, .int (J z))] := hl
  refine lv_aload_n hx hb d_Bk_addEntry_0 rfl (lv_at hl 0 rfl) ?_
  refine va_get (D := D) (ci := 0) (v := .int (J ((n : Nat) : Int))) (C := R_Bk) (T := T_Bk) (N := 6) hx hb hts i_Bk hown hK hP 0 rfl rfl 5 (by decide) (hts _ mw_84) (fun _ h9 => h9) rfl d_Bk_addEntry_1 ?_
  refine lv_istore_n (lv' := [(2, .int (J ((n : Nat) : Int))), (0, .ref o), (1, .int (J z))]) hx hb d_Bk_addEntry_4 rfl hl (by decide) rfl (fun ls hl => ?_)
  refine lv_aload_n hx hb d_Bk_addEntry_5 rfl (lv_at hl 1 rfl) ?_
  refine va_get (D := D) (ci := 0) (v := .ref q1) (C := R_Bk) (T := T_Bk) (N := 6) hx hb hts i_Bk hown hK hP 0 rfl rfl 1 (by decide) (hts _ mw_77) (fun _ h9 => h9) rfl d_Bk_addEntry_6 ?_
  refine lv_iload_n hx hb d_Bk_addEntry_9 rfl (lv_at hl 0 rfl) ?_
  refine lv_iload_n hx hb d_Bk_addEntry_10 rfl (lv_at hl 2 rfl) ?_
  refine w_iast hx hb hK hP hD hS 1 0 rfl rfl n (by omega) (by omega) (by omega) d_Bk_addEntry_11 (fun H locs hP hD hS => ?_)
  have hP : va_P D classes [(o, .inr (0, [.ref q0, .ref q1, .ref q2, .ref q3, .ref q4, .int (J ((n : Nat) : Int))])), (q1, ca cI 40 (iu pl n z)), (q2, ca cI 40 dy)] H := hP
  have hD : va_D A [(o, .inr (0, [.ref q0, .ref q1, .ref q2, .ref q3, .ref q4, .int (J ((n : Nat) : Int))])), (q1, ca cI 40 (iu pl n z)), (q2, ca cI 40 dy)] := hD
  refine lv_aload_n hx hb d_Bk_addEntry_12 rfl (lv_at hl 1 rfl) ?_
  refine va_get (D := D) (ci := 0) (v := .ref q2) (C := R_Bk) (T := T_Bk) (N := 6) hx hb hts i_Bk hown hK hP 0 rfl rfl 2 (by decide) (hts _ mw_79) (fun _ h9 => h9) rfl d_Bk_addEntry_13 ?_
  refine lv_iload_n hx hb d_Bk_addEntry_16 rfl (lv_at hl 0 rfl) ?_
  refine lv_iconst (v := J (-1)) hx hb d_Bk_addEntry_17 rfl ?_
  refine w_iast hx hb hK hP hD hS 2 0 rfl rfl n (by omega) (by omega) (by omega) d_Bk_addEntry_18 (fun H locs hP hD hS => ?_)
  have hP : va_P D classes [(o, .inr (0, [.ref q0, .ref q1, .ref q2, .ref q3, .ref q4, .int (J ((n : Nat) : Int))])), (q1, ca cI 40 (iu pl n z)), (q2, ca cI 40 (iu dy n (-1)))] H := hP
  have hD : va_D A [(o, .inr (0, [.ref q0, .ref q1, .ref q2, .ref q3, .ref q4, .int (J ((n : Nat) : Int))])), (q1, ca cI 40 (iu pl n z)), (q2, ca cI 40 (iu dy n (-1)))] := hD
  refine lv_aload_n hx hb d_Bk_addEntry_19 rfl (lv_at hl 1 rfl) ?_
  refine lv_dup hx hb d_Bk_addEntry_20 rfl ?_
  refine va_get (D := D) (ci := 0) (v := .int (J ((n : Nat) : Int))) (C := R_Bk) (T := T_Bk) (N := 6) hx hb hts i_Bk hown hK hP 0 rfl rfl 5 (by decide) (hts _ mw_84) (fun _ h9 => h9) rfl d_Bk_addEntry_21 ?_
  refine lv_iconst (v := J (1)) hx hb d_Bk_addEntry_24 rfl ?_
  refine w_iadd hx hb d_Bk_addEntry_25 ((n + 1 : Nat) : Int) (by omega) ?_
  refine va_put (D := D) (ci := 0) (v := .int (J ((n + 1 : Nat) : Int))) (ty := .int) (C := R_Bk) (T := T_Bk) (N := 6) hx hb hts i_Bk t_Bk k_Bk n_Bk hown hK hP hD hS 0 rfl rfl 5 (by decide) (hts _ mw_84) (fun _ h9 => h9) rfl (by decide +kernel) rfl rfl (Nat.le_of_ble_eq_true rfl) d_Bk_addEntry_26 (fun H locs hP hD hS => ?_)
  have hP : va_P D classes [(o, .inr (0, [.ref q0, .ref q1, .ref q2, .ref q3, .ref q4, .int (J ((n + 1 : Nat) : Int))])), (q1, ca cI 40 (iu pl n z)), (q2, ca cI 40 (iu dy n (-1)))] H := hP
  have hD : va_D A [(o, .inr (0, [.ref q0, .ref q1, .ref q2, .ref q3, .ref q4, .int (J ((n + 1 : Nat) : Int))])), (q1, ca cI 40 (iu pl n z)), (q2, ca cI 40 (iu dy n (-1)))] := hD
  refine lv_iload_n hx hb d_Bk_addEntry_29 rfl (lv_at hl 0 rfl) ?_
  exact Mi_ret hx hb hr hlocks hQ d_Bk_addEntry_30 hP hK hD hS nb_i (rfl) () (trivial) [0, 1, 2] rfl (by decide)
set_option maxHeartbeats 4000000 in
set_option maxRecDepth 100000 in
theorem c_Bk_learn (l : Launch) (D : va_G) (cI cZ cJ : ClassId) (sz : Nat) (o : Nat) (q0 : Nat) (q1 : Nat) (q2 : Nat) (q3 : Nat) (q4 : Nat) (n : Nat) (dy : Nat → Int) (tm : Nat → Int) (k : Nat) (z : Int) (hk : k < 40) : Mi l y_Bk_learn w_Bk_learn ({ frames := 0, cells := 0, slots := 0, locals := 0 }) false D classes [(cI, .int), (cZ, .boolean), (cJ, .long)] sz [.ref o, .int (J ((k : Nat) : Int)), .int (J z)] [(o, .inr (0, [.ref q0, .ref q1, .ref q2, .ref q3, .ref q4, .int (J ((n : Nat) : Int))])), (q2, ca cI 40 dy), (q3, ca cI 40 tm)] (tm k + 1) (S := Unit) (fun _ => True) (fun u : Unit => [(o, .inr (0, [.ref q0, .ref q1, .ref q2, .ref q3, .ref q4, .int (J ((n : Nat) : Int))])), (q2, ca cI 40 (iu dy k z)), (q3, ca cI 40 (iu tm k (tm k + 1)))]) 0 0 := by
  refine Mi_of (cc := b_Bk_learn) (maxL := 3) (by decide) rfl (Nat.le_of_ble_eq_true rfl) ?_
  intro p e s m args below meth c hx hb hr hml hts hown hlocks A hA hP hK hD hT hS Q hQ H hH ls hl
  subst hH
  have hl : lv_has ls 3 [(0, .ref o), (1, .int (J ((k : Nat) : Int))), (2, .int (J z))] := hl
  refine lv_aload_n hx hb d_Bk_learn_0 rfl (lv_at hl 0 rfl) ?_
  refine va_get (D := D) (ci := 0) (v := .ref q2) (C := R_Bk) (T := T_Bk) (N := 6) hx hb hts i_Bk hown hK hP 0 rfl rfl 2 (by decide) (hts _ mw_79) (fun _ h9 => h9) rfl d_Bk_learn_1 ?_
  refine lv_iload_n hx hb d_Bk_learn_4 rfl (lv_at hl 1 rfl) ?_
  refine lv_iload_n hx hb d_Bk_learn_5 rfl (lv_at hl 2 rfl) ?_
  refine w_iast hx hb hK hP hD hS 1 0 rfl rfl k (by omega) (by omega) (by omega) d_Bk_learn_6 (fun H locs hP hD hS => ?_)
  have hP : va_P D classes [(o, .inr (0, [.ref q0, .ref q1, .ref q2, .ref q3, .ref q4, .int (J ((n : Nat) : Int))])), (q2, ca cI 40 (iu dy k z)), (q3, ca cI 40 tm)] H := hP
  have hD : va_D A [(o, .inr (0, [.ref q0, .ref q1, .ref q2, .ref q3, .ref q4, .int (J ((n : Nat) : Int))])), (q2, ca cI 40 (iu dy k z)), (q3, ca cI 40 tm)] := hD
  refine lv_aload_n hx hb d_Bk_learn_7 rfl (lv_at hl 0 rfl) ?_
  refine va_get (D := D) (ci := 0) (v := .ref q3) (C := R_Bk) (T := T_Bk) (N := 6) hx hb hts i_Bk hown hK hP 0 rfl rfl 3 (by decide) (hts _ mw_81) (fun _ h9 => h9) rfl d_Bk_learn_8 ?_
  refine lv_iload_n hx hb d_Bk_learn_11 rfl (lv_at hl 1 rfl) ?_
  refine lv_dup2_11 hx hb d_Bk_learn_12 rfl rfl ?_
  refine w_iald hx hb hK hP 2 0 rfl rfl k (by omega) (by omega) (by omega) d_Bk_learn_13 ?_
  refine lv_iconst (v := J (1)) hx hb d_Bk_learn_14 rfl ?_
  refine w_iadd hx hb d_Bk_learn_15 ((tm k) + 1) (rfl) ?_
  refine w_iast hx hb hK hP hD hS 2 0 rfl rfl k (by omega) (by omega) (by omega) d_Bk_learn_16 (fun H locs hP hD hS => ?_)
  have hP : va_P D classes [(o, .inr (0, [.ref q0, .ref q1, .ref q2, .ref q3, .ref q4, .int (J ((n : Nat) : Int))])), (q2, ca cI 40 (iu dy k z)), (q3, ca cI 40 (iu tm k ((tm k) + 1)))] H := hP
  have hD : va_D A [(o, .inr (0, [.ref q0, .ref q1, .ref q2, .ref q3, .ref q4, .int (J ((n : Nat) : Int))])), (q2, ca cI 40 (iu dy k z)), (q3, ca cI 40 (iu tm k ((tm k) + 1)))] := hD
  refine lv_aload_n hx hb d_Bk_learn_17 rfl (lv_at hl 0 rfl) ?_
  refine va_get (D := D) (ci := 0) (v := .ref q3) (C := R_Bk) (T := T_Bk) (N := 6) hx hb hts i_Bk hown hK hP 0 rfl rfl 3 (by decide) (hts _ mw_81) (fun _ h9 => h9) rfl d_Bk_learn_18 ?_
  refine lv_iload_n hx hb d_Bk_learn_21 rfl (lv_at hl 1 rfl) ?_
  refine w_iald hx hb hK hP 2 0 rfl rfl k (by omega) (by omega) (by omega) d_Bk_learn_22 ?_
  exact Mi_ret hx hb hr hlocks hQ d_Bk_learn_23 hP hK hD hS nb_i (iu_s _ _ _) () (trivial) [0, 1, 2] rfl (by decide)
set_option maxHeartbeats 4000000 in
set_option maxRecDepth 100000 in
theorem c_Bk_droppedOnes (l : Launch) (D : va_G) (cI cZ cJ : ClassId) (o : Nat) (q0 : Nat) (q1 : Nat) (q2 : Nat) (q3 : Nat) (q4 : Nat) (n : Nat) (dr : Nat → Int) (hn : n ≤ 40) (hdr : ∀ k, 0 ≤ dr k ∧ dr k ≤ 1) : Ri l y_Bk_droppedOnes w_Bk_droppedOnes ({ frames := 0, cells := 0, slots := 0, locals := 0 }) D classes [(cI, .int), (cZ, .boolean), (cJ, .long)] [.ref o] [(o, .inr (0, [.ref q0, .ref q1, .ref q2, .ref q3, .ref q4, .int (J ((n : Nat) : Int))])), (q4, ca cZ 40 dr)] (sm dr n) := by
  refine Ri_of (cc := b_Bk_droppedOnes) (maxL := 3) (by decide) rfl (Nat.le_of_ble_eq_true rfl) ?_
  intro p e s m args below meth c hx hb hr hml hts hown hlocks hP hK Q hQ H hH ls hl
  rw [← hH] at hP
  have hl : lv_has ls 3 [(0, .ref o)] := hl
  refine lv_iconst (v := J (0)) hx hb d_Bk_droppedOnes_0 rfl ?_
  refine lv_istore_n (lv' := [(1, .int (J 0)), (0, .ref o)]) hx hb d_Bk_droppedOnes_1 rfl hl (by decide) rfl (fun ls hl => ?_)
  refine lv_iconst (v := J (0)) hx hb d_Bk_droppedOnes_2 rfl ?_
  refine lv_istore_n (lv' := [(2, .int (J 0)), (1, .int (J 0)), (0, .ref o)]) hx hb d_Bk_droppedOnes_3 rfl hl (by decide) rfl (fun ls hl => ?_)
  have lp_4 : ∀ (fu : Nat) (i : Nat) (t : Int), (i ≤ n) → (t = sm dr i) → (n - i) < fu → ∀ ls : Array Slot, lv_has ls 3 [(0, .ref o), (1, .int (J t)), (2, .int (J ((i : Nat) : Int)))] → W p l e ({ frames := 0, cells := 0, slots := 0, locals := 0 }) s m args below meth c H [] 0 0 Q (F0 m 4 ls []) := by
    intro fu
    induction fu with
    | zero => intro i t hi ht hfu; exact absurd hfu (Nat.not_lt_zero _)
    | succ fu ih_4 =>
      intro i t hi ht hfu ls hl
      refine lv_iload_n hx hb d_Bk_droppedOnes_4 rfl (lv_at hl 2 rfl) ?_
      refine lv_aload_n hx hb d_Bk_droppedOnes_5 rfl (lv_at hl 0 rfl) ?_
      refine va_get (D := D) (ci := 0) (v := .int (J ((n : Nat) : Int))) (C := R_Bk) (T := T_Bk) (N := 6) hx hb hts i_Bk hown hK hP 0 rfl rfl 5 (by decide) (hts _ mw_84) (fun _ h9 => h9) rfl d_Bk_droppedOnes_6 ?_
      refine w_icmp_ge (tgt := 30) hx hb d_Bk_droppedOnes_9 (by decide) (by omega) (by omega) (fun c_9 => ?_) (fun c_9 => ?_)
      · obtain rfl : n = i := by omega
        refine lv_iload_n hx hb d_Bk_droppedOnes_30 rfl (lv_at hl 1 rfl) ?_
        exact Ri_ret hx hb hr hlocks hQ hH d_Bk_droppedOnes_31 nb_i (ht)
      · have b1 := hdr i
        refine lv_aload_n hx hb d_Bk_droppedOnes_12 rfl (lv_at hl 0 rfl) ?_
        refine va_get (D := D) (ci := 0) (v := .ref q4) (C := R_Bk) (T := T_Bk) (N := 6) hx hb hts i_Bk hown hK hP 0 rfl rfl 4 (by decide) (hts _ mw_82) (fun _ h9 => h9) rfl d_Bk_droppedOnes_13 ?_
        refine lv_iload_n hx hb d_Bk_droppedOnes_16 rfl (lv_at hl 2 rfl) ?_
        refine w_zald hx hb hK hP 1 1 rfl rfl i (by omega) (by omega) (by omega) d_Bk_droppedOnes_17 ?_
        refine w_if_eq (tgt := 24) hx hb d_Bk_droppedOnes_18 (by decide) (by omega) (fun c_18 => ?_) (fun c_18 => ?_)
        · refine w_iinc (k := 2) (lv' := [(2, .int (J ((i + 1 : Nat) : Int))), (0, .ref o), (1, .int (J t))]) hx hb d_Bk_droppedOnes_24 hl rfl ((i + 1 : Nat) : Int) (by omega) (by decide) rfl (fun ls hl => ?_)
          refine lv_goto (tgt := 4) hx hb d_Bk_droppedOnes_27 (by decide) ?_
          exact ih_4 (i + 1) t (by omega) (by rw [sm]; omega) (by omega) ls (lv_sub hl [1, 2, 0] rfl)
        · refine w_iinc (k := 1) (lv' := [(1, .int (J (t + 1))), (0, .ref o), (2, .int (J ((i : Nat) : Int)))]) hx hb d_Bk_droppedOnes_21 hl rfl (t + 1) (by omega) (by decide) rfl (fun ls hl => ?_)
          refine w_iinc (k := 2) (lv' := [(2, .int (J ((i + 1 : Nat) : Int))), (1, .int (J (t + 1))), (0, .ref o)]) hx hb d_Bk_droppedOnes_24 hl rfl ((i + 1 : Nat) : Int) (by omega) (by decide) rfl (fun ls hl => ?_)
          refine lv_goto (tgt := 4) hx hb d_Bk_droppedOnes_27 (by decide) ?_
          exact ih_4 (i + 1) (t + 1) (by omega) (by rw [sm]; omega) (by omega) ls (lv_sub hl [2, 1, 0] rfl)
  exact lp_4 ((n - 0) + 1) 0 0 (by omega) (rfl) (Nat.lt_succ_self _) ls (lv_sub hl [2, 1, 0] rfl)
theorem ptn2 : ∀ k : Nat, k < 64 → ∀ w : Nat, w < 3 → (((J (k : Int)) >>> (J (2 * (2 - (w : Int))) &&& 31)) &&& (J 3)) - (J 1) = J (dgt k w) := by decide +kernel
set_option maxHeartbeats 4000000 in
set_option maxRecDepth 100000 in
theorem c_Pa_partner (l : Launch) (D : va_G) (cI cZ cJ : ClassId) (k : Nat) (w : Nat) (hk : k < 64) (hw3 : w < 3) : Ri l y_Pa_partner w_Pa_partner ({ frames := 0, cells := 0, slots := 0, locals := 0 }) D classes [(cI, .int), (cZ, .boolean), (cJ, .long)] [.int (J ((k : Nat) : Int)), .int (J ((w : Nat) : Int))] [] (dgt k w) := by
  refine Ri_of (cc := b_Pa_partner) (maxL := 2) (by decide) rfl (Nat.le_of_ble_eq_true rfl) ?_
  intro p e s m args below meth c hx hb hr hml hts hown hlocks hP hK Q hQ H hH ls hl
  rw [← hH] at hP
  have hl : lv_has ls 2 [(0, .int (J ((k : Nat) : Int))), (1, .int (J ((w : Nat) : Int)))] := hl
  refine lv_iload_n hx hb d_Pa_partner_0 rfl (lv_at hl 0 rfl) ?_
  refine lv_iconst (v := J (2)) hx hb d_Pa_partner_1 rfl ?_
  refine lv_iconst (v := J (2)) hx hb d_Pa_partner_2 rfl ?_
  refine lv_iload_n hx hb d_Pa_partner_3 rfl (lv_at hl 1 rfl) ?_
  refine w_isub hx hb d_Pa_partner_4 (2 - ((w : Nat) : Int)) (rfl) ?_
  refine w_imul hx hb d_Pa_partner_5 (2 * (2 - ((w : Nat) : Int))) (rfl) ?_
  refine lv_ishr hx hb d_Pa_partner_6 ?_
  refine lv_iconst (v := J (3)) hx hb d_Pa_partner_7 rfl ?_
  refine lv_iand hx hb d_Pa_partner_8 ?_
  refine lv_iconst (v := J (1)) hx hb d_Pa_partner_9 rfl ?_
  refine lv_isub hx hb d_Pa_partner_10 ?_
  refine tp_i (y := J (dgt k w)) (ptn2 k hk w hw3) ?_
  exact Ri_ret hx hb hr hlocks hQ hH d_Pa_partner_11 nb_i (rfl)
set_option maxHeartbeats 4000000 in
set_option maxRecDepth 100000 in
theorem c_Pa_isTaken (l : Launch) (D : va_G) (cI cZ cJ : ClassId) (k : Nat) (w : Nat) (o : Int) (hk : k < 64) (hw3 : w ≤ 2) (ho : -1 ≤ o ∧ o ≤ 2) : Ri l y_Pa_isTaken w_Pa_isTaken ({ frames := 1, cells := 0, slots := 0, locals := 21 }) D classes [(cI, .int), (cZ, .boolean), (cJ, .long)] [.int (J ((k : Nat) : Int)), .int (J ((w : Nat) : Int)), .int (J o)] [] (b2 ((0 < w ∧ dgt k 0 = o) ∨ (1 < w ∧ dgt k 1 = o))) := by
  refine Ri_of (cc := b_Pa_isTaken) (maxL := 4) (by decide) rfl (Nat.le_of_ble_eq_true rfl) ?_
  intro p e s m args below meth c hx hb hr hml hts hown hlocks hP hK Q hQ H hH ls hl
  rw [← hH] at hP
  have hl : lv_has ls 4 [(0, .int (J ((k : Nat) : Int))), (1, .int (J ((w : Nat) : Int))), (2, .int (J o))] := hl
  have d0 := dgt_rg k 0
  have d1 := dgt_rg k 1
  have d2 := dgt_rg k 2
  refine lv_iconst (v := J (0)) hx hb d_Pa_isTaken_0 rfl ?_
  refine lv_istore_n (lv' := [(3, .int (J 0)), (0, .int (J ((k : Nat) : Int))), (1, .int (J ((w : Nat) : Int))), (2, .int (J o))]) hx hb d_Pa_isTaken_1 rfl hl (by decide) rfl (fun ls hl => ?_)
  refine lv_iload_n hx hb d_Pa_isTaken_2 rfl (lv_at hl 0 rfl) ?_
  refine lv_iload_n hx hb d_Pa_isTaken_3 rfl (lv_at hl 2 rfl) ?_
  refine w_icmp_ge (tgt := 24) hx hb d_Pa_isTaken_4 (by decide) (by omega) (by omega) (fun c_4 => ?_) (fun c_4 => ?_)
  · refine lv_iconst (v := J (0)) hx hb d_Pa_isTaken_24 rfl ?_
    exact Ri_ret hx hb hr hlocks hQ hH d_Pa_isTaken_25 (nb_z (by omega)) (by unfold b2; split <;> omega)
  · refine lv_iload_n hx hb d_Pa_isTaken_7 rfl (lv_at hl 1 rfl) ?_
    refine lv_iload_n hx hb d_Pa_isTaken_8 rfl (lv_at hl 0 rfl) ?_
    refine Ri_call (va_runS (As := [.int (J ((k : Nat) : Int)), .int (J 0)]) (rest := []) ⟨hx, hb, hml, hown, hts⟩ (c_Pa_partner l D cI cZ cJ k 0 (by first | assumption | omega) (by first | assumption | omega)) (va_cwS 2 hts (g_S mw_383 mw_384 mw_31 mw_385) rfl rfl rfl (by decide +kernel) ⟨Nat.le_of_ble_eq_true rfl, Nat.le_of_ble_eq_true rfl⟩) (pre_RS hP hK [] rfl) rfl rfl hl.1 rfl (lv_room (Nat.le_of_ble_eq_true rfl)) d_Pa_isTaken_9 ⟨Nat.le_of_ble_eq_true rfl, Nat.le_of_ble_eq_true rfl⟩) ?_
    refine lv_iload_n hx hb d_Pa_isTaken_12 rfl (lv_at hl 3 rfl) ?_
    refine w_icmp_ne (tgt := 18) hx hb d_Pa_isTaken_13 (by decide) (by omega) (by omega) (fun c_13 => ?_) (fun c_13 => ?_)
    · refine w_iinc (k := 0) (lv' := [(3, .int (J 1)), (0, .int (J ((k : Nat) : Int))), (1, .int (J ((w : Nat) : Int))), (2, .int (J o))]) hx hb d_Pa_isTaken_18 hl rfl 1 (by omega) (by decide) rfl (fun ls hl => ?_)
      refine lv_goto (tgt := 2) hx hb d_Pa_isTaken_21 (by decide) ?_
      refine lv_iload_n hx hb d_Pa_isTaken_2 rfl (lv_at hl 0 rfl) ?_
      refine lv_iload_n hx hb d_Pa_isTaken_3 rfl (lv_at hl 2 rfl) ?_
      refine w_icmp_ge (tgt := 24) hx hb d_Pa_isTaken_4 (by decide) (by omega) (by omega) (fun c_4_2 => ?_) (fun c_4_2 => ?_)
      · refine lv_iconst (v := J (0)) hx hb d_Pa_isTaken_24 rfl ?_
        exact Ri_ret hx hb hr hlocks hQ hH d_Pa_isTaken_25 (nb_z (by omega)) (by unfold b2; split <;> omega)
      · refine lv_iload_n hx hb d_Pa_isTaken_7 rfl (lv_at hl 1 rfl) ?_
        refine lv_iload_n hx hb d_Pa_isTaken_8 rfl (lv_at hl 0 rfl) ?_
        refine Ri_call (va_runS (As := [.int (J ((k : Nat) : Int)), .int (J 1)]) (rest := []) ⟨hx, hb, hml, hown, hts⟩ (c_Pa_partner l D cI cZ cJ k 1 (by first | assumption | omega) (by first | assumption | omega)) (va_cwS 2 hts (g_S mw_383 mw_384 mw_31 mw_385) rfl rfl rfl (by decide +kernel) ⟨Nat.le_of_ble_eq_true rfl, Nat.le_of_ble_eq_true rfl⟩) (pre_RS hP hK [] rfl) rfl rfl hl.1 rfl (lv_room (Nat.le_of_ble_eq_true rfl)) d_Pa_isTaken_9 ⟨Nat.le_of_ble_eq_true rfl, Nat.le_of_ble_eq_true rfl⟩) ?_
        refine lv_iload_n hx hb d_Pa_isTaken_12 rfl (lv_at hl 3 rfl) ?_
        refine w_icmp_ne (tgt := 18) hx hb d_Pa_isTaken_13 (by decide) (by omega) (by omega) (fun c_13_2 => ?_) (fun c_13_2 => ?_)
        · refine w_iinc (k := 0) (lv' := [(3, .int (J 2)), (0, .int (J ((k : Nat) : Int))), (1, .int (J ((w : Nat) : Int))), (2, .int (J o))]) hx hb d_Pa_isTaken_18 hl rfl 2 (by omega) (by decide) rfl (fun ls hl => ?_)
          refine lv_goto (tgt := 2) hx hb d_Pa_isTaken_21 (by decide) ?_
          refine lv_iload_n hx hb d_Pa_isTaken_2 rfl (lv_at hl 0 rfl) ?_
          refine lv_iload_n hx hb d_Pa_isTaken_3 rfl (lv_at hl 2 rfl) ?_
          refine w_icmp_ge (tgt := 24) hx hb d_Pa_isTaken_4 (by decide) (by omega) (by omega) (fun c_4_3 => ?_) (fun c_4_3 => ?_)
          · refine lv_iconst (v := J (0)) hx hb d_Pa_isTaken_24 rfl ?_
            exact Ri_ret hx hb hr hlocks hQ hH d_Pa_isTaken_25 (nb_z (by omega)) (by unfold b2; split <;> omega)
          · exfalso; omega
        · refine lv_iconst (v := J (1)) hx hb d_Pa_isTaken_16 rfl ?_
          exact Ri_ret hx hb hr hlocks hQ hH d_Pa_isTaken_17 (nb_z (by omega)) (by unfold b2; split <;> omega)
    · refine lv_iconst (v := J (1)) hx hb d_Pa_isTaken_16 rfl ?_
      exact Ri_ret hx hb hr hlocks hQ hH d_Pa_isTaken_17 (nb_z (by omega)) (by unfold b2; split <;> omega)
def tbf (k w : Nat) (o : Int) : Int := (if 0 < w ∧ o < dgt k 0 then 1 else 0) + (if 1 < w ∧ o < dgt k 1 then 1 else 0)
set_option maxHeartbeats 4000000 in
set_option maxRecDepth 100000 in
theorem c_Pa_turnedBefore (l : Launch) (D : va_G) (cI cZ cJ : ClassId) (k : Nat) (w : Nat) (o : Int) (hk : k < 64) (hw3 : w ≤ 2) (ho : -1 ≤ o ∧ o ≤ 2) : Ri l y_Pa_turnedBefore w_Pa_turnedBefore ({ frames := 1, cells := 0, slots := 0, locals := 21 }) D classes [(cI, .int), (cZ, .boolean), (cJ, .long)] [.int (J ((k : Nat) : Int)), .int (J ((w : Nat) : Int)), .int (J o)] [] (tbf k w o) := by
  refine Ri_of (cc := b_Pa_turnedBefore) (maxL := 5) (by decide) rfl (Nat.le_of_ble_eq_true rfl) ?_
  intro p e s m args below meth c hx hb hr hml hts hown hlocks hP hK Q hQ H hH ls hl
  rw [← hH] at hP
  have hl : lv_has ls 5 [(0, .int (J ((k : Nat) : Int))), (1, .int (J ((w : Nat) : Int))), (2, .int (J o))] := hl
  have d0 := dgt_rg k 0
  have d1 := dgt_rg k 1
  have d2 := dgt_rg k 2
  refine lv_iconst (v := J (0)) hx hb d_Pa_turnedBefore_0 rfl ?_
  refine lv_istore_n (lv' := [(3, .int (J 0)), (0, .int (J ((k : Nat) : Int))), (1, .int (J ((w : Nat) : Int))), (2, .int (J o))]) hx hb d_Pa_turnedBefore_1 rfl hl (by decide) rfl (fun ls hl => ?_)
  refine lv_iconst (v := J (0)) hx hb d_Pa_turnedBefore_2 rfl ?_
  refine lv_istore (lv' := [(4, .int (J 0)), (3, .int (J 0)), (0, .int (J ((k : Nat) : Int))), (1, .int (J ((w : Nat) : Int))), (2, .int (J o))]) hx hb d_Pa_turnedBefore_3 hl (by decide) rfl (fun ls hl => ?_)
  refine lv_iload hx hb d_Pa_turnedBefore_5 (lv_at hl 0 rfl) ?_
  refine lv_iload_n hx hb d_Pa_turnedBefore_7 rfl (lv_at hl 3 rfl) ?_
  refine w_icmp_ge (tgt := 30) hx hb d_Pa_turnedBefore_8 (by decide) (by omega) (by omega) (fun c_8 => ?_) (fun c_8 => ?_)
  · refine lv_iload_n hx hb d_Pa_turnedBefore_30 rfl (lv_at hl 1 rfl) ?_
    exact Ri_ret hx hb hr hlocks hQ hH d_Pa_turnedBefore_31 nb_i (by unfold tbf; split <;> split <;> omega)
  · refine lv_iload_n hx hb d_Pa_turnedBefore_11 rfl (lv_at hl 2 rfl) ?_
    refine lv_iload hx hb d_Pa_turnedBefore_12 (lv_at hl 0 rfl) ?_
    refine Ri_call (va_runS (As := [.int (J ((k : Nat) : Int)), .int (J 0)]) (rest := []) ⟨hx, hb, hml, hown, hts⟩ (c_Pa_partner l D cI cZ cJ k 0 (by first | assumption | omega) (by first | assumption | omega)) (va_cwS 2 hts (g_S mw_383 mw_384 mw_31 mw_385) rfl rfl rfl (by decide +kernel) ⟨Nat.le_of_ble_eq_true rfl, Nat.le_of_ble_eq_true rfl⟩) (pre_RS hP hK [] rfl) rfl rfl hl.1 rfl (lv_room (Nat.le_of_ble_eq_true rfl)) d_Pa_turnedBefore_14 ⟨Nat.le_of_ble_eq_true rfl, Nat.le_of_ble_eq_true rfl⟩) ?_
    refine lv_iload_n hx hb d_Pa_turnedBefore_17 rfl (lv_at hl 4 rfl) ?_
    refine w_icmp_le (tgt := 24) hx hb d_Pa_turnedBefore_18 (by decide) (by omega) (by omega) (fun c_18 => ?_) (fun c_18 => ?_)
    · refine w_iinc (k := 0) (lv' := [(4, .int (J 1)), (3, .int (J 0)), (0, .int (J ((k : Nat) : Int))), (1, .int (J ((w : Nat) : Int))), (2, .int (J o))]) hx hb d_Pa_turnedBefore_24 hl rfl 1 (by omega) (by decide) rfl (fun ls hl => ?_)
      refine lv_goto (tgt := 5) hx hb d_Pa_turnedBefore_27 (by decide) ?_
      refine lv_iload hx hb d_Pa_turnedBefore_5 (lv_at hl 0 rfl) ?_
      refine lv_iload_n hx hb d_Pa_turnedBefore_7 rfl (lv_at hl 3 rfl) ?_
      refine w_icmp_ge (tgt := 30) hx hb d_Pa_turnedBefore_8 (by decide) (by omega) (by omega) (fun c_8_2 => ?_) (fun c_8_2 => ?_)
      · refine lv_iload_n hx hb d_Pa_turnedBefore_30 rfl (lv_at hl 1 rfl) ?_
        exact Ri_ret hx hb hr hlocks hQ hH d_Pa_turnedBefore_31 nb_i (by unfold tbf; split <;> split <;> omega)
      · refine lv_iload_n hx hb d_Pa_turnedBefore_11 rfl (lv_at hl 2 rfl) ?_
        refine lv_iload hx hb d_Pa_turnedBefore_12 (lv_at hl 0 rfl) ?_
        refine Ri_call (va_runS (As := [.int (J ((k : Nat) : Int)), .int (J 1)]) (rest := []) ⟨hx, hb, hml, hown, hts⟩ (c_Pa_partner l D cI cZ cJ k 1 (by first | assumption | omega) (by first | assumption | omega)) (va_cwS 2 hts (g_S mw_383 mw_384 mw_31 mw_385) rfl rfl rfl (by decide +kernel) ⟨Nat.le_of_ble_eq_true rfl, Nat.le_of_ble_eq_true rfl⟩) (pre_RS hP hK [] rfl) rfl rfl hl.1 rfl (lv_room (Nat.le_of_ble_eq_true rfl)) d_Pa_turnedBefore_14 ⟨Nat.le_of_ble_eq_true rfl, Nat.le_of_ble_eq_true rfl⟩) ?_
        refine lv_iload_n hx hb d_Pa_turnedBefore_17 rfl (lv_at hl 4 rfl) ?_
        refine w_icmp_le (tgt := 24) hx hb d_Pa_turnedBefore_18 (by decide) (by omega) (by omega) (fun c_18_2 => ?_) (fun c_18_2 => ?_)
        · refine w_iinc (k := 0) (lv' := [(4, .int (J 2)), (3, .int (J 0)), (0, .int (J ((k : Nat) : Int))), (1, .int (J ((w : Nat) : Int))), (2, .int (J o))]) hx hb d_Pa_turnedBefore_24 hl rfl 2 (by omega) (by decide) rfl (fun ls hl => ?_)
          refine lv_goto (tgt := 5) hx hb d_Pa_turnedBefore_27 (by decide) ?_
          refine lv_iload hx hb d_Pa_turnedBefore_5 (lv_at hl 0 rfl) ?_
          refine lv_iload_n hx hb d_Pa_turnedBefore_7 rfl (lv_at hl 3 rfl) ?_
          refine w_icmp_ge (tgt := 30) hx hb d_Pa_turnedBefore_8 (by decide) (by omega) (by omega) (fun c_8_3 => ?_) (fun c_8_3 => ?_)
          · refine lv_iload_n hx hb d_Pa_turnedBefore_30 rfl (lv_at hl 1 rfl) ?_
            exact Ri_ret hx hb hr hlocks hQ hH d_Pa_turnedBefore_31 nb_i (by unfold tbf; split <;> split <;> omega)
          · exfalso; omega
        · refine w_iinc (k := 1) (lv' := [(3, .int (J 1)), (4, .int (J 1)), (0, .int (J ((k : Nat) : Int))), (1, .int (J ((w : Nat) : Int))), (2, .int (J o))]) hx hb d_Pa_turnedBefore_21 hl rfl 1 (by omega) (by decide) rfl (fun ls hl => ?_)
          refine w_iinc (k := 1) (lv' := [(4, .int (J 2)), (3, .int (J 1)), (0, .int (J ((k : Nat) : Int))), (1, .int (J ((w : Nat) : Int))), (2, .int (J o))]) hx hb d_Pa_turnedBefore_24 hl rfl 2 (by omega) (by decide) rfl (fun ls hl => ?_)
          refine lv_goto (tgt := 5) hx hb d_Pa_turnedBefore_27 (by decide) ?_
          refine lv_iload hx hb d_Pa_turnedBefore_5 (lv_at hl 0 rfl) ?_
          refine lv_iload_n hx hb d_Pa_turnedBefore_7 rfl (lv_at hl 3 rfl) ?_
          refine w_icmp_ge (tgt := 30) hx hb d_Pa_turnedBefore_8 (by decide) (by omega) (by omega) (fun c_8_3 => ?_) (fun c_8_3 => ?_)
          · refine lv_iload_n hx hb d_Pa_turnedBefore_30 rfl (lv_at hl 1 rfl) ?_
            exact Ri_ret hx hb hr hlocks hQ hH d_Pa_turnedBefore_31 nb_i (by unfold tbf; split <;> split <;> omega)
          · exfalso; omega
    · refine w_iinc (k := 1) (lv' := [(3, .int (J 1)), (4, .int (J 0)), (0, .int (J ((k : Nat) : Int))), (1, .int (J ((w : Nat) : Int))), (2, .int (J o))]) hx hb d_Pa_turnedBefore_21 hl rfl 1 (by omega) (by decide) rfl (fun ls hl => ?_)
      refine w_iinc (k := 1) (lv' := [(4, .int (J 1)), (3, .int (J 1)), (0, .int (J ((k : Nat) : Int))), (1, .int (J ((w : Nat) : Int))), (2, .int (J o))]) hx hb d_Pa_turnedBefore_24 hl rfl 1 (by omega) (by decide) rfl (fun ls hl => ?_)
      refine lv_goto (tgt := 5) hx hb d_Pa_turnedBefore_27 (by decide) ?_
      refine lv_iload hx hb d_Pa_turnedBefore_5 (lv_at hl 0 rfl) ?_
      refine lv_iload_n hx hb d_Pa_turnedBefore_7 rfl (lv_at hl 3 rfl) ?_
      refine w_icmp_ge (tgt := 30) hx hb d_Pa_turnedBefore_8 (by decide) (by omega) (by omega) (fun c_8_2 => ?_) (fun c_8_2 => ?_)
      · refine lv_iload_n hx hb d_Pa_turnedBefore_30 rfl (lv_at hl 1 rfl) ?_
        exact Ri_ret hx hb hr hlocks hQ hH d_Pa_turnedBefore_31 nb_i (by unfold tbf; split <;> split <;> omega)
      · refine lv_iload_n hx hb d_Pa_turnedBefore_11 rfl (lv_at hl 2 rfl) ?_
        refine lv_iload hx hb d_Pa_turnedBefore_12 (lv_at hl 0 rfl) ?_
        refine Ri_call (va_runS (As := [.int (J ((k : Nat) : Int)), .int (J 1)]) (rest := []) ⟨hx, hb, hml, hown, hts⟩ (c_Pa_partner l D cI cZ cJ k 1 (by first | assumption | omega) (by first | assumption | omega)) (va_cwS 2 hts (g_S mw_383 mw_384 mw_31 mw_385) rfl rfl rfl (by decide +kernel) ⟨Nat.le_of_ble_eq_true rfl, Nat.le_of_ble_eq_true rfl⟩) (pre_RS hP hK [] rfl) rfl rfl hl.1 rfl (lv_room (Nat.le_of_ble_eq_true rfl)) d_Pa_turnedBefore_14 ⟨Nat.le_of_ble_eq_true rfl, Nat.le_of_ble_eq_true rfl⟩) ?_
        refine lv_iload_n hx hb d_Pa_turnedBefore_17 rfl (lv_at hl 4 rfl) ?_
        refine w_icmp_le (tgt := 24) hx hb d_Pa_turnedBefore_18 (by decide) (by omega) (by omega) (fun c_18_2 => ?_) (fun c_18_2 => ?_)
        · refine w_iinc (k := 0) (lv' := [(4, .int (J 2)), (3, .int (J 1)), (0, .int (J ((k : Nat) : Int))), (1, .int (J ((w : Nat) : Int))), (2, .int (J o))]) hx hb d_Pa_turnedBefore_24 hl rfl 2 (by omega) (by decide) rfl (fun ls hl => ?_)
          refine lv_goto (tgt := 5) hx hb d_Pa_turnedBefore_27 (by decide) ?_
          refine lv_iload hx hb d_Pa_turnedBefore_5 (lv_at hl 0 rfl) ?_
          refine lv_iload_n hx hb d_Pa_turnedBefore_7 rfl (lv_at hl 3 rfl) ?_
          refine w_icmp_ge (tgt := 30) hx hb d_Pa_turnedBefore_8 (by decide) (by omega) (by omega) (fun c_8_3 => ?_) (fun c_8_3 => ?_)
          · refine lv_iload_n hx hb d_Pa_turnedBefore_30 rfl (lv_at hl 1 rfl) ?_
            exact Ri_ret hx hb hr hlocks hQ hH d_Pa_turnedBefore_31 nb_i (by unfold tbf; split <;> split <;> omega)
          · exfalso; omega
        · refine w_iinc (k := 1) (lv' := [(3, .int (J 2)), (4, .int (J 1)), (0, .int (J ((k : Nat) : Int))), (1, .int (J ((w : Nat) : Int))), (2, .int (J o))]) hx hb d_Pa_turnedBefore_21 hl rfl 2 (by omega) (by decide) rfl (fun ls hl => ?_)
          refine w_iinc (k := 1) (lv' := [(4, .int (J 2)), (3, .int (J 2)), (0, .int (J ((k : Nat) : Int))), (1, .int (J ((w : Nat) : Int))), (2, .int (J o))]) hx hb d_Pa_turnedBefore_24 hl rfl 2 (by omega) (by decide) rfl (fun ls hl => ?_)
          refine lv_goto (tgt := 5) hx hb d_Pa_turnedBefore_27 (by decide) ?_
          refine lv_iload hx hb d_Pa_turnedBefore_5 (lv_at hl 0 rfl) ?_
          refine lv_iload_n hx hb d_Pa_turnedBefore_7 rfl (lv_at hl 3 rfl) ?_
          refine w_icmp_ge (tgt := 30) hx hb d_Pa_turnedBefore_8 (by decide) (by omega) (by omega) (fun c_8_3 => ?_) (fun c_8_3 => ?_)
          · refine lv_iload_n hx hb d_Pa_turnedBefore_30 rfl (lv_at hl 1 rfl) ?_
            exact Ri_ret hx hb hr hlocks hQ hH d_Pa_turnedBefore_31 nb_i (by unfold tbf; split <;> split <;> omega)
          · exfalso; omega
set_option maxHeartbeats 4000000 in
set_option maxRecDepth 100000 in
theorem c_Pa_start (l : Launch) (D : va_G) (cI cZ cJ : ClassId) (sz : Nat) (o : Nat) (wo : Nat) (ac : Nat) (wc : Int) (bw : Int)  : Mv l y_Pa_start w_Pa_start ({ frames := 0, cells := 0, slots := 0, locals := 0 }) false D classes [(cI, .int), (cZ, .boolean), (cJ, .long)] sz [.ref o] [(o, .inr (4, [.ref wo, .ref ac, .int (J wc), .int (J bw)]))] (S := Unit) (fun _ => True) (fun u : Unit => [(o, .inr (4, [.ref wo, .ref ac, .int (J 0), .int (J bw)]))]) 0 0 := by
  refine Mv_of (cc := b_Pa_start) (maxL := 1) (by decide) rfl (Nat.le_of_ble_eq_true rfl) ?_
  intro p e s m args below meth c hx hb hr hml hts hown hlocks hin A hA hP hK hD hT hS Q hQ H hH ls hl
  subst hH
  have hl : lv_has ls 1 [(0, .ref o)] := hl
  refine lv_aload_n hx hb d_Pa_start_0 rfl (lv_at hl 0 rfl) ?_
  refine lv_iconst (v := J (0)) hx hb d_Pa_start_1 rfl ?_
  refine va_put (D := D) (ci := 4) (v := .int (J 0)) (ty := .int) (C := R_Pa) (T := T_Pa) (N := 4) hx hb hts i_Pa t_Pa k_Pa n_Pa hown hK hP hD hS 0 rfl rfl 2 (by decide) (hts _ mw_146) (fun _ h9 => h9) rfl (by decide +kernel) rfl rfl (Nat.le_of_ble_eq_true rfl) d_Pa_start_2 (fun H locs hP hD hS => ?_)
  have hP : va_P D classes [(o, .inr (4, [.ref wo, .ref ac, .int (J 0), .int (J bw)]))] H := hP
  have hD : va_D A [(o, .inr (4, [.ref wo, .ref ac, .int (J 0), .int (J bw)]))] := hD
  exact Mv_ret hx hb hr hlocks hQ d_Pa_start_5 hP hK hD hS () (trivial) [0] rfl (by decide)
set_option maxHeartbeats 4000000 in
set_option maxRecDepth 100000 in
theorem c_Pa_countWord (l : Launch) (D : va_G) (cI cZ cJ : ClassId) (sz : Nat) (o : Nat) (wo : Nat) (ac : Nat) (wc : Int) (bw : Int) (z : Int) (hz : 0 ≤ z ∧ z ≤ 1) : Mv l y_Pa_countWord w_Pa_countWord ({ frames := 0, cells := 0, slots := 0, locals := 0 }) false D classes [(cI, .int), (cZ, .boolean), (cJ, .long)] sz [.ref o, .int (J z)] [(o, .inr (4, [.ref wo, .ref ac, .int (J wc), .int (J bw)]))] (S := Unit) (fun _ => True) (fun u : Unit => [(o, .inr (4, [.ref wo, .ref ac, .int (J (wc + z)), .int (J bw)]))]) 0 0 := by
  refine Mv_of (cc := b_Pa_countWord) (maxL := 2) (by decide) rfl (Nat.le_of_ble_eq_true rfl) ?_
  intro p e s m args below meth c hx hb hr hml hts hown hlocks hin A hA hP hK hD hT hS Q hQ H hH ls hl
  subst hH
  have hl : lv_has ls 2 [(0, .ref o), (1, .int (J z))] := hl
  refine lv_iload_n hx hb d_Pa_countWord_0 rfl (lv_at hl 1 rfl) ?_
  refine w_if_eq (tgt := 14) hx hb d_Pa_countWord_1 (by decide) (by omega) (fun c_1 => ?_) (fun c_1 => ?_)
  · obtain rfl : z = 0 := by omega
    rw [show wc = wc + 0 by omega] at hP hD
    exact Mv_ret hx hb hr hlocks hQ d_Pa_countWord_14 hP hK hD hS () (trivial) [0] rfl (by decide)
  · obtain rfl : z = 1 := by omega
    refine lv_aload_n hx hb d_Pa_countWord_4 rfl (lv_at hl 0 rfl) ?_
    refine lv_dup hx hb d_Pa_countWord_5 rfl ?_
    refine va_get (D := D) (ci := 4) (v := .int (J wc)) (C := R_Pa) (T := T_Pa) (N := 4) hx hb hts i_Pa hown hK hP 0 rfl rfl 2 (by decide) (hts _ mw_146) (fun _ h9 => h9) rfl d_Pa_countWord_6 ?_
    refine lv_iconst (v := J (1)) hx hb d_Pa_countWord_9 rfl ?_
    refine w_iadd hx hb d_Pa_countWord_10 (wc + 1) (rfl) ?_
    refine va_put (D := D) (ci := 4) (v := .int (J (wc + 1))) (ty := .int) (C := R_Pa) (T := T_Pa) (N := 4) hx hb hts i_Pa t_Pa k_Pa n_Pa hown hK hP hD hS 0 rfl rfl 2 (by decide) (hts _ mw_146) (fun _ h9 => h9) rfl (by decide +kernel) rfl rfl (Nat.le_of_ble_eq_true rfl) d_Pa_countWord_11 (fun H locs hP hD hS => ?_)
    have hP : va_P D classes [(o, .inr (4, [.ref wo, .ref ac, .int (J (wc + 1)), .int (J bw)]))] H := hP
    have hD : va_D A [(o, .inr (4, [.ref wo, .ref ac, .int (J (wc + 1)), .int (J bw)]))] := hD
    exact Mv_ret hx hb hr hlocks hQ d_Pa_countWord_14 hP hK hD hS () (trivial) [0] rfl (by decide)
set_option maxHeartbeats 4000000 in
set_option maxRecDepth 100000 in
theorem c_Pa_setCost (l : Launch) (D : va_G) (cI cZ cJ : ClassId) (sz : Nat) (o : Nat) (wo : Nat) (ac : Nat) (wc : Int) (bw : Int) (ck : Nat → Int) (w : Nat) (d : Nat) (z : Int) (hw3 : w < 3) (hd3 : d < 3) : Mv l y_Pa_setCost w_Pa_setCost ({ frames := 0, cells := 0, slots := 0, locals := 0 }) false D classes [(cI, .int), (cZ, .boolean), (cJ, .long)] sz [.ref o, .int (J ((w : Nat) : Int)), .int (J ((d : Nat) : Int)), .int (J z)] [(o, .inr (4, [.ref wo, .ref ac, .int (J wc), .int (J bw)])), (ac, ca cI 9 ck)] (S := Unit) (fun _ => True) (fun u : Unit => [(o, .inr (4, [.ref wo, .ref ac, .int (J wc), .int (J bw)])), (ac, ca cI 9 (iu ck (w * 3 + d) z))]) 0 0 := by
  refine Mv_of (cc := b_Pa_setCost) (maxL := 4) (by decide) rfl (Nat.le_of_ble_eq_true rfl) ?_
  intro p e s m args below meth c hx hb hr hml hts hown hlocks hin A hA hP hK hD hT hS Q hQ H hH ls hl
  subst hH
  have hl : lv_has ls 4 [(0, .ref o), (1, .int (J ((w : Nat) : Int))), (2, .int (J ((d : Nat) : Int))), (3, .int (J z))] := hl
  refine lv_aload_n hx hb d_Pa_setCost_0 rfl (lv_at hl 0 rfl) ?_
  refine va_get (D := D) (ci := 4) (v := .ref ac) (C := R_Pa) (T := T_Pa) (N := 4) hx hb hts i_Pa hown hK hP 0 rfl rfl 1 (by decide) (hts _ mw_145) (fun _ h9 => h9) rfl d_Pa_setCost_1 ?_
  refine lv_iload_n hx hb d_Pa_setCost_4 rfl (lv_at hl 1 rfl) ?_
  refine lv_iconst (v := J (3)) hx hb d_Pa_setCost_5 rfl ?_
  refine w_imul hx hb d_Pa_setCost_6 ((w * 3 : Nat) : Int) (by omega) ?_
  refine lv_iload_n hx hb d_Pa_setCost_7 rfl (lv_at hl 2 rfl) ?_
  refine w_iadd hx hb d_Pa_setCost_8 (((w * 3) + d : Nat) : Int) (by omega) ?_
  refine lv_iload_n hx hb d_Pa_setCost_9 rfl (lv_at hl 3 rfl) ?_
  refine w_iast hx hb hK hP hD hS 1 0 rfl rfl ((w * 3) + d) (by omega) (by omega) (by omega) d_Pa_setCost_10 (fun H locs hP hD hS => ?_)
  have hP : va_P D classes [(o, .inr (4, [.ref wo, .ref ac, .int (J wc), .int (J bw)])), (ac, ca cI 9 (iu ck ((w * 3) + d) z))] H := hP
  have hD : va_D A [(o, .inr (4, [.ref wo, .ref ac, .int (J wc), .int (J bw)])), (ac, ca cI 9 (iu ck ((w * 3) + d) z))] := hD
  exact Mv_ret hx hb hr hlocks hQ d_Pa_setCost_11 hP hK hD hS () (trivial) [0, 1] rfl (by decide)
theorem csv_n {cs : Nat → Int} {w : Nat} {d : Int} (h : d < 0) : csv cs w d = 0 := if_pos h
theorem csv_p {cs : Nat → Int} {w : Nat} {d : Int} (h : 0 ≤ d) : csv cs w d = cs (3 * w + d.toNat) := if_neg (by omega)
theorem one_n {d : Int} (h : d < 0) : one d = 0 := if_pos h
theorem one_p {d : Int} (h : 0 ≤ d) : one d = 1 := if_neg (by omega)
theorem trn_1 {a b : Int} (h : a < 0) : trn a b = 0 := if_neg (by omega)
theorem trn_2 {a b : Int} (h : b < 0) : trn a b = 0 := if_neg (by omega)
theorem tbf_0 (k : Nat) (o : Int) : tbf k 0 o = 0 := by unfold tbf; rw [if_neg (by omega), if_neg (by omega)]; rfl
theorem tbf_1 (k : Nat) {o : Int} (h : 0 ≤ o) : tbf k 1 o = trn (dgt k 0) o := by unfold tbf trn; split <;> split <;> split <;> omega
theorem tbf_2 (k : Nat) {o : Int} (h : 0 ≤ o) : tbf k 2 o = trn (dgt k 0) o + trn (dgt k 1) o := by unfold tbf trn; split <;> split <;> split <;> split <;> omega
set_option maxHeartbeats 4000000 in
set_option maxRecDepth 100000 in
theorem c_Pa_totalOf (l : Launch) (D : va_G) (cI cZ cJ : ClassId) (o : Nat) (wo : Nat) (wa : Nat) (ac : Nat) (wc : Int) (bw : Int) (wt : Nat → Int) (ck : Nat → Int) (k : Nat) (hk : k < 64) (hck : ∀ j, -1 ≤ ck j ∧ ck j ≤ 20000) : Ri l y_Pa_totalOf w_Pa_totalOf ({ frames := 2, cells := 0, slots := 0, locals := 45 }) D classes [(cI, .int), (cZ, .boolean), (cJ, .long)] [.ref o, .int (J ((k : Nat) : Int))] [(o, .inr (4, [.ref wo, .ref ac, .int (J wc), .int (J bw)])), (wo, .inr (5, [.ref wa])), (wa, ca cI 6 wt), (ac, ca cI 9 ck)] (tcl wt ck wc (dgt k 0) (dgt k 1) (dgt k 2)) := by
  refine Ri_of (cc := b_Pa_totalOf) (maxL := 7) (by decide) rfl (Nat.le_of_ble_eq_true rfl) ?_
  intro p e s m args below meth c hx hb hr hml hts hown hlocks hP hK Q hQ H hH ls hl
  rw [← hH] at hP
  have hl : lv_has ls 7 [(0, .ref o), (1, .int (J ((k : Nat) : Int)))] := hl
  have d0 := dgt_rg k 0
  have d1 := dgt_rg k 1
  have d2 := dgt_rg k 2
  refine lv_iconst (v := J (0)) hx hb d_Pa_totalOf_0 rfl ?_
  refine lv_istore_n (lv' := [(2, .int (J 0)), (0, .ref o), (1, .int (J ((k : Nat) : Int)))]) hx hb d_Pa_totalOf_1 rfl hl (by decide) rfl (fun ls hl => ?_)
  refine lv_aload_n hx hb d_Pa_totalOf_2 rfl (lv_at hl 1 rfl) ?_
  refine va_get (D := D) (ci := 4) (v := .int (J wc)) (C := R_Pa) (T := T_Pa) (N := 4) hx hb hts i_Pa hown hK hP 0 rfl rfl 2 (by decide) (hts _ mw_146) (fun _ h9 => h9) rfl d_Pa_totalOf_3 ?_
  refine lv_istore_n (lv' := [(3, .int (J wc)), (2, .int (J 0)), (0, .ref o), (1, .int (J ((k : Nat) : Int)))]) hx hb d_Pa_totalOf_6 rfl hl (by decide) rfl (fun ls hl => ?_)
  refine lv_iconst (v := J (0)) hx hb d_Pa_totalOf_7 rfl ?_
  refine lv_istore (lv' := [(4, .int (J 0)), (3, .int (J wc)), (2, .int (J 0)), (0, .ref o), (1, .int (J ((k : Nat) : Int)))]) hx hb d_Pa_totalOf_8 hl (by decide) rfl (fun ls hl => ?_)
  refine lv_iload hx hb d_Pa_totalOf_10 (lv_at hl 0 rfl) ?_
  refine lv_iconst (v := J (3)) hx hb d_Pa_totalOf_12 rfl ?_
  refine w_icmp_ge (tgt := 94) hx hb d_Pa_totalOf_13 (by decide) (by omega) (by omega) (fun c_13 => ?_) (fun c_13 => ?_)
  · exfalso; omega
  · refine lv_iload_n hx hb d_Pa_totalOf_16 rfl (lv_at hl 4 rfl) ?_
    refine lv_iload hx hb d_Pa_totalOf_17 (lv_at hl 0 rfl) ?_
    refine Ri_call (va_runS (As := [.int (J ((k : Nat) : Int)), .int (J 0)]) (rest := []) ⟨hx, hb, hml, hown, hts⟩ (c_Pa_partner l D cI cZ cJ k 0 (by first | assumption | omega) (by first | assumption | omega)) (va_cwS 2 hts (g_S mw_383 mw_384 mw_31 mw_385) rfl rfl rfl (by decide +kernel) ⟨Nat.le_of_ble_eq_true rfl, Nat.le_of_ble_eq_true rfl⟩) (pre_RS hP hK [] rfl) rfl rfl hl.1 rfl (lv_room (Nat.le_of_ble_eq_true rfl)) d_Pa_totalOf_19 ⟨Nat.le_of_ble_eq_true rfl, Nat.le_of_ble_eq_true rfl⟩) ?_
    refine lv_istore (lv' := [(5, .int (J (dgt k 0))), (4, .int (J 0)), (3, .int (J wc)), (2, .int (J 0)), (0, .ref o), (1, .int (J ((k : Nat) : Int)))]) hx hb d_Pa_totalOf_22 hl (by decide) rfl (fun ls hl => ?_)
    refine lv_iload hx hb d_Pa_totalOf_24 (lv_at hl 0 rfl) ?_
    refine w_if_lt (tgt := 88) hx hb d_Pa_totalOf_26 (by decide) (by omega) (fun c_26 => ?_) (fun c_26 => ?_)
    · refine w_iinc (k := 1) (lv' := [(4, .int (J 1)), (5, .int (J (dgt k 0))), (3, .int (J wc)), (2, .int (J 0)), (0, .ref o), (1, .int (J ((k : Nat) : Int)))]) hx hb d_Pa_totalOf_88 hl rfl 1 (by omega) (by decide) rfl (fun ls hl => ?_)
      refine lv_goto (tgt := 10) hx hb d_Pa_totalOf_91 (by decide) ?_
      refine lv_iload hx hb d_Pa_totalOf_10 (lv_at hl 0 rfl) ?_
      refine lv_iconst (v := J (3)) hx hb d_Pa_totalOf_12 rfl ?_
      refine w_icmp_ge (tgt := 94) hx hb d_Pa_totalOf_13 (by decide) (by omega) (by omega) (fun c_13_2 => ?_) (fun c_13_2 => ?_)
      · exfalso; omega
      · refine lv_iload_n hx hb d_Pa_totalOf_16 rfl (lv_at hl 5 rfl) ?_
        refine lv_iload hx hb d_Pa_totalOf_17 (lv_at hl 0 rfl) ?_
        refine Ri_call (va_runS (As := [.int (J ((k : Nat) : Int)), .int (J 1)]) (rest := []) ⟨hx, hb, hml, hown, hts⟩ (c_Pa_partner l D cI cZ cJ k 1 (by first | assumption | omega) (by first | assumption | omega)) (va_cwS 2 hts (g_S mw_383 mw_384 mw_31 mw_385) rfl rfl rfl (by decide +kernel) ⟨Nat.le_of_ble_eq_true rfl, Nat.le_of_ble_eq_true rfl⟩) (pre_RS hP hK [] rfl) rfl rfl hl.1 rfl (lv_room (Nat.le_of_ble_eq_true rfl)) d_Pa_totalOf_19 ⟨Nat.le_of_ble_eq_true rfl, Nat.le_of_ble_eq_true rfl⟩) ?_
        refine lv_istore (lv' := [(5, .int (J (dgt k 1))), (4, .int (J 1)), (3, .int (J wc)), (2, .int (J 0)), (0, .ref o), (1, .int (J ((k : Nat) : Int)))]) hx hb d_Pa_totalOf_22 hl (by decide) rfl (fun ls hl => ?_)
        refine lv_iload hx hb d_Pa_totalOf_24 (lv_at hl 0 rfl) ?_
        refine w_if_lt (tgt := 88) hx hb d_Pa_totalOf_26 (by decide) (by omega) (fun c_26_2 => ?_) (fun c_26_2 => ?_)
        · refine w_iinc (k := 1) (lv' := [(4, .int (J 2)), (5, .int (J (dgt k 1))), (3, .int (J wc)), (2, .int (J 0)), (0, .ref o), (1, .int (J ((k : Nat) : Int)))]) hx hb d_Pa_totalOf_88 hl rfl 2 (by omega) (by decide) rfl (fun ls hl => ?_)
          refine lv_goto (tgt := 10) hx hb d_Pa_totalOf_91 (by decide) ?_
          refine lv_iload hx hb d_Pa_totalOf_10 (lv_at hl 0 rfl) ?_
          refine lv_iconst (v := J (3)) hx hb d_Pa_totalOf_12 rfl ?_
          refine w_icmp_ge (tgt := 94) hx hb d_Pa_totalOf_13 (by decide) (by omega) (by omega) (fun c_13_3 => ?_) (fun c_13_3 => ?_)
          · exfalso; omega
          · refine lv_iload_n hx hb d_Pa_totalOf_16 rfl (lv_at hl 5 rfl) ?_
            refine lv_iload hx hb d_Pa_totalOf_17 (lv_at hl 0 rfl) ?_
            refine Ri_call (va_runS (As := [.int (J ((k : Nat) : Int)), .int (J 2)]) (rest := []) ⟨hx, hb, hml, hown, hts⟩ (c_Pa_partner l D cI cZ cJ k 2 (by first | assumption | omega) (by first | assumption | omega)) (va_cwS 2 hts (g_S mw_383 mw_384 mw_31 mw_385) rfl rfl rfl (by decide +kernel) ⟨Nat.le_of_ble_eq_true rfl, Nat.le_of_ble_eq_true rfl⟩) (pre_RS hP hK [] rfl) rfl rfl hl.1 rfl (lv_room (Nat.le_of_ble_eq_true rfl)) d_Pa_totalOf_19 ⟨Nat.le_of_ble_eq_true rfl, Nat.le_of_ble_eq_true rfl⟩) ?_
            refine lv_istore (lv' := [(5, .int (J (dgt k 2))), (4, .int (J 2)), (3, .int (J wc)), (2, .int (J 0)), (0, .ref o), (1, .int (J ((k : Nat) : Int)))]) hx hb d_Pa_totalOf_22 hl (by decide) rfl (fun ls hl => ?_)
            refine lv_iload hx hb d_Pa_totalOf_24 (lv_at hl 0 rfl) ?_
            refine w_if_lt (tgt := 88) hx hb d_Pa_totalOf_26 (by decide) (by omega) (fun c_26_3 => ?_) (fun c_26_3 => ?_)
            · refine w_iinc (k := 1) (lv' := [(4, .int (J 3)), (5, .int (J (dgt k 2))), (3, .int (J wc)), (2, .int (J 0)), (0, .ref o), (1, .int (J ((k : Nat) : Int)))]) hx hb d_Pa_totalOf_88 hl rfl 3 (by omega) (by decide) rfl (fun ls hl => ?_)
              refine lv_goto (tgt := 10) hx hb d_Pa_totalOf_91 (by decide) ?_
              refine lv_iload hx hb d_Pa_totalOf_10 (lv_at hl 0 rfl) ?_
              refine lv_iconst (v := J (3)) hx hb d_Pa_totalOf_12 rfl ?_
              refine w_icmp_ge (tgt := 94) hx hb d_Pa_totalOf_13 (by decide) (by omega) (by omega) (fun c_13_4 => ?_) (fun c_13_4 => ?_)
              · refine lv_iload_n hx hb d_Pa_totalOf_94 rfl (lv_at hl 3 rfl) ?_
                refine lv_iload_n hx hb d_Pa_totalOf_95 rfl (lv_at hl 2 rfl) ?_
                refine lv_aload_n hx hb d_Pa_totalOf_96 rfl (lv_at hl 4 rfl) ?_
                refine va_get (D := D) (ci := 4) (v := .ref wo) (C := R_Pa) (T := T_Pa) (N := 4) hx hb hts i_Pa hown hK hP 0 rfl rfl 0 (by decide) (hts _ mw_144) (fun _ h9 => h9) rfl d_Pa_totalOf_97 ?_
                refine Ri_call (va_runV (As := []) (rest := [.int (J wc), .int (J 0)]) ⟨hx, hb, hml, hown, hts⟩ (c_We_missing l D cI cZ cJ wo wa wt ) (cwV 0 hts (g_V mw_396 mw_397 mw_398 mw_28 mw_399) rfl rfl rfl (by decide +kernel) ⟨Nat.le_of_ble_eq_true rfl, Nat.le_of_ble_eq_true rfl⟩) (pre_RV hP hK [1, 2] rfl 5 0 rfl rfl) rfl rfl hl.1 rfl (lv_room (Nat.le_of_ble_eq_true rfl)) d_Pa_totalOf_100 ⟨Nat.le_of_ble_eq_true rfl, Nat.le_of_ble_eq_true rfl⟩) ?_
                refine w_imul hx hb d_Pa_totalOf_103 (wt 4 * (wc - 0)) (by rw [Int.mul_comm, Int.sub_zero]) ?_
                refine w_iadd hx hb d_Pa_totalOf_104 (0 + (wt 4 * (wc - 0))) (rfl) ?_
                have eo : wc - 2 * (one (dgt k 0) + one (dgt k 1) + one (dgt k 2)) = wc - 0 := by rw [one_n (d := dgt k 0) (by omega), one_n (d := dgt k 1) (by omega), one_n (d := dgt k 2) (by omega)]; omega
                have et : tcl wt ck wc (dgt k 0) (dgt k 1) (dgt k 2) = top wt ck wc (dgt k 0) (dgt k 1) (dgt k 2) := if_pos (by unfold okc; omega)
                rw [top, eo, csv_n (w := 0) (d := dgt k 0) (by omega), csv_n (w := 1) (d := dgt k 1) (by omega), csv_n (w := 2) (d := dgt k 2) (by omega)] at et
                exact Ri_ret hx hb hr hlocks hQ hH d_Pa_totalOf_105 nb_i (by rw [et]; simp only [trn_1 (a := dgt k 0) (b := dgt k 1) (show dgt k 0 < 0 by omega), trn_1 (a := dgt k 0) (b := dgt k 2) (show dgt k 0 < 0 by omega), trn_1 (a := dgt k 1) (b := dgt k 2) (show dgt k 1 < 0 by omega), Int.mul_add, Int.add_zero, Int.zero_add, Int.mul_zero] <;> omega)
              · exfalso; omega
            · refine lv_aload_n hx hb d_Pa_totalOf_29 rfl (lv_at hl 4 rfl) ?_
              refine va_get (D := D) (ci := 4) (v := .ref ac) (C := R_Pa) (T := T_Pa) (N := 4) hx hb hts i_Pa hown hK hP 0 rfl rfl 1 (by decide) (hts _ mw_145) (fun _ h9 => h9) rfl d_Pa_totalOf_30 ?_
              refine lv_iload hx hb d_Pa_totalOf_33 (lv_at hl 1 rfl) ?_
              refine lv_iconst (v := J (3)) hx hb d_Pa_totalOf_35 rfl ?_
              refine w_imul hx hb d_Pa_totalOf_36 6 (by decide) ?_
              refine lv_iload hx hb d_Pa_totalOf_37 (lv_at hl 0 rfl) ?_
              refine w_iadd hx hb d_Pa_totalOf_39 ((3 * 2 + (dgt k 2).toNat : Nat) : Int) (by omega) ?_
              refine w_iald hx hb hK hP 3 0 rfl rfl (3 * 2 + (dgt k 2).toNat) (by omega) (by omega) (by omega) d_Pa_totalOf_40 ?_
              refine lv_istore (lv' := [(6, .int (J (ck (3 * 2 + (dgt k 2).toNat)))), (5, .int (J (dgt k 2))), (4, .int (J 2)), (3, .int (J wc)), (2, .int (J 0)), (0, .ref o), (1, .int (J ((k : Nat) : Int)))]) hx hb d_Pa_totalOf_41 hl (by decide) rfl (fun ls hl => ?_)
              have k2 := hck ((3 * 2 + (dgt k 2).toNat))
              refine lv_iload hx hb d_Pa_totalOf_43 (lv_at hl 0 rfl) ?_
              refine lv_iconst (v := J (-1)) hx hb d_Pa_totalOf_45 rfl ?_
              refine w_icmp_eq (tgt := 60) hx hb d_Pa_totalOf_46 (by decide) (by omega) (by omega) (fun c_46 => ?_) (fun c_46 => ?_)
              · refine lv_ldc (v := J (1000000)) hx hb hown (hts _ mw_378) d_Pa_totalOf_60 ?_
                exact Ri_ret hx hb hr hlocks hQ hH d_Pa_totalOf_62 nb_i ((show tcl wt ck wc (dgt k 0) (dgt k 1) (dgt k 2) = 1000000 from if_neg (by unfold okc; omega)).symm)
              · refine lv_iload_n hx hb d_Pa_totalOf_49 rfl (lv_at hl 6 rfl) ?_
                refine lv_iload hx hb d_Pa_totalOf_50 (lv_at hl 2 rfl) ?_
                refine lv_iload hx hb d_Pa_totalOf_52 (lv_at hl 1 rfl) ?_
                refine Ri_call (va_runS (As := [.int (J ((k : Nat) : Int)), .int (J 2), .int (J (dgt k 2))]) (rest := []) ⟨hx, hb, hml, hown, hts⟩ (c_Pa_isTaken l D cI cZ cJ k 2 (dgt k 2) (by first | assumption | omega) (by first | assumption | omega) (by first | assumption | omega)) (va_cwS 3 hts (g_S mw_386 mw_387 mw_31 mw_388) rfl rfl rfl (by decide +kernel) ⟨Nat.le_of_ble_eq_true rfl, Nat.le_of_ble_eq_true rfl⟩) (pre_RS hP hK [] rfl) rfl rfl hl.1 rfl (lv_room (Nat.le_of_ble_eq_true rfl)) d_Pa_totalOf_54 ⟨Nat.le_of_ble_eq_true rfl, Nat.le_of_ble_eq_true rfl⟩) ?_
                refine w_if_eq (tgt := 63) hx hb d_Pa_totalOf_57 (by decide) (rg_b2) (fun c_57 => ?_) (fun c_57 => ?_)
                · have c_57 := b2_0.mp c_57
                  refine lv_iload_n hx hb d_Pa_totalOf_63 rfl (lv_at hl 4 rfl) ?_
                  refine lv_iload hx hb d_Pa_totalOf_64 (lv_at hl 0 rfl) ?_
                  refine lv_iload_n hx hb d_Pa_totalOf_66 rfl (lv_at hl 6 rfl) ?_
                  refine lv_iload hx hb d_Pa_totalOf_67 (lv_at hl 2 rfl) ?_
                  refine lv_iload hx hb d_Pa_totalOf_69 (lv_at hl 1 rfl) ?_
                  refine Ri_call (va_runS (As := [.int (J ((k : Nat) : Int)), .int (J 2), .int (J (dgt k 2))]) (rest := [.int (J (ck (3 * 2 + (dgt k 2).toNat))), .int (J 0)]) ⟨hx, hb, hml, hown, hts⟩ (c_Pa_turnedBefore l D cI cZ cJ k 2 (dgt k 2) (by first | assumption | omega) (by first | assumption | omega) (by first | assumption | omega)) (va_cwS 3 hts (g_S mw_389 mw_390 mw_31 mw_391) rfl rfl rfl (by decide +kernel) ⟨Nat.le_of_ble_eq_true rfl, Nat.le_of_ble_eq_true rfl⟩) (pre_RS hP hK [] rfl) rfl rfl hl.1 rfl (lv_room (Nat.le_of_ble_eq_true rfl)) d_Pa_totalOf_71 ⟨Nat.le_of_ble_eq_true rfl, Nat.le_of_ble_eq_true rfl⟩) ?_
                  refine lv_aload_n hx hb d_Pa_totalOf_74 rfl (lv_at hl 5 rfl) ?_
                  refine va_get (D := D) (ci := 4) (v := .ref wo) (C := R_Pa) (T := T_Pa) (N := 4) hx hb hts i_Pa hown hK hP 0 rfl rfl 0 (by decide) (hts _ mw_144) (fun _ h9 => h9) rfl d_Pa_totalOf_75 ?_
                  refine Ri_call (va_runV (As := []) (rest := [.int (J (tbf k 2 (dgt k 2))), .int (J (ck (3 * 2 + (dgt k 2).toNat))), .int (J 0)]) ⟨hx, hb, hml, hown, hts⟩ (c_We_turned l D cI cZ cJ wo wa wt ) (cwV 0 hts (g_V mw_392 mw_393 mw_394 mw_28 mw_395) rfl rfl rfl (by decide +kernel) ⟨Nat.le_of_ble_eq_true rfl, Nat.le_of_ble_eq_true rfl⟩) (pre_RV hP hK [1, 2] rfl 5 0 rfl rfl) rfl rfl hl.1 rfl (lv_room (Nat.le_of_ble_eq_true rfl)) d_Pa_totalOf_78 ⟨Nat.le_of_ble_eq_true rfl, Nat.le_of_ble_eq_true rfl⟩) ?_
                  refine w_imul hx hb d_Pa_totalOf_81 (wt 5 * (trn (dgt k 0) (dgt k 2) + trn (dgt k 1) (dgt k 2))) (by rw [tbf_2 k (by omega), Int.mul_comm]) ?_
                  refine w_iadd hx hb d_Pa_totalOf_82 ((ck (3 * 2 + (dgt k 2).toNat)) + (wt 5 * (trn (dgt k 0) (dgt k 2) + trn (dgt k 1) (dgt k 2)))) (rfl) ?_
                  refine w_iadd hx hb d_Pa_totalOf_83 (0 + ((ck (3 * 2 + (dgt k 2).toNat)) + (wt 5 * (trn (dgt k 0) (dgt k 2) + trn (dgt k 1) (dgt k 2))))) (rfl) ?_
                  refine lv_istore_n (lv' := [(2, .int (J (0 + ((ck (3 * 2 + (dgt k 2).toNat)) + (wt 5 * (trn (dgt k 0) (dgt k 2) + trn (dgt k 1) (dgt k 2))))))), (6, .int (J (ck (3 * 2 + (dgt k 2).toNat)))), (5, .int (J (dgt k 2))), (4, .int (J 2)), (3, .int (J wc)), (0, .ref o), (1, .int (J ((k : Nat) : Int)))]) hx hb d_Pa_totalOf_84 rfl hl (by decide) rfl (fun ls hl => ?_)
                  refine w_iinc (k := 4) (lv' := [(3, .int (J (wc - 2))), (2, .int (J (0 + ((ck (3 * 2 + (dgt k 2).toNat)) + (wt 5 * (trn (dgt k 0) (dgt k 2) + trn (dgt k 1) (dgt k 2))))))), (6, .int (J (ck (3 * 2 + (dgt k 2).toNat)))), (5, .int (J (dgt k 2))), (4, .int (J 2)), (0, .ref o), (1, .int (J ((k : Nat) : Int)))]) hx hb d_Pa_totalOf_85 hl rfl (wc - 2) (by omega) (by decide) rfl (fun ls hl => ?_)
                  refine w_iinc (k := 4) (lv' := [(4, .int (J 3)), (3, .int (J (wc - 2))), (2, .int (J (0 + ((ck (3 * 2 + (dgt k 2).toNat)) + (wt 5 * (trn (dgt k 0) (dgt k 2) + trn (dgt k 1) (dgt k 2))))))), (6, .int (J (ck (3 * 2 + (dgt k 2).toNat)))), (5, .int (J (dgt k 2))), (0, .ref o), (1, .int (J ((k : Nat) : Int)))]) hx hb d_Pa_totalOf_88 hl rfl 3 (by omega) (by decide) rfl (fun ls hl => ?_)
                  refine lv_goto (tgt := 10) hx hb d_Pa_totalOf_91 (by decide) ?_
                  refine lv_iload hx hb d_Pa_totalOf_10 (lv_at hl 0 rfl) ?_
                  refine lv_iconst (v := J (3)) hx hb d_Pa_totalOf_12 rfl ?_
                  refine w_icmp_ge (tgt := 94) hx hb d_Pa_totalOf_13 (by decide) (by omega) (by omega) (fun c_13_4 => ?_) (fun c_13_4 => ?_)
                  · refine lv_iload_n hx hb d_Pa_totalOf_94 rfl (lv_at hl 2 rfl) ?_
                    refine lv_iload_n hx hb d_Pa_totalOf_95 rfl (lv_at hl 1 rfl) ?_
                    refine lv_aload_n hx hb d_Pa_totalOf_96 rfl (lv_at hl 5 rfl) ?_
                    refine va_get (D := D) (ci := 4) (v := .ref wo) (C := R_Pa) (T := T_Pa) (N := 4) hx hb hts i_Pa hown hK hP 0 rfl rfl 0 (by decide) (hts _ mw_144) (fun _ h9 => h9) rfl d_Pa_totalOf_97 ?_
                    refine Ri_call (va_runV (As := []) (rest := [.int (J (wc - 2)), .int (J (0 + ((ck (3 * 2 + (dgt k 2).toNat)) + (wt 5 * (trn (dgt k 0) (dgt k 2) + trn (dgt k 1) (dgt k 2))))))]) ⟨hx, hb, hml, hown, hts⟩ (c_We_missing l D cI cZ cJ wo wa wt ) (cwV 0 hts (g_V mw_396 mw_397 mw_398 mw_28 mw_399) rfl rfl rfl (by decide +kernel) ⟨Nat.le_of_ble_eq_true rfl, Nat.le_of_ble_eq_true rfl⟩) (pre_RV hP hK [1, 2] rfl 5 0 rfl rfl) rfl rfl hl.1 rfl (lv_room (Nat.le_of_ble_eq_true rfl)) d_Pa_totalOf_100 ⟨Nat.le_of_ble_eq_true rfl, Nat.le_of_ble_eq_true rfl⟩) ?_
                    refine w_imul hx hb d_Pa_totalOf_103 (wt 4 * (wc - 2)) (by rw [Int.mul_comm, show wc - 2 = wc - 2 by omega]) ?_
                    refine w_iadd hx hb d_Pa_totalOf_104 ((0 + ((ck (3 * 2 + (dgt k 2).toNat)) + (wt 5 * (trn (dgt k 0) (dgt k 2) + trn (dgt k 1) (dgt k 2))))) + (wt 4 * (wc - 2))) (rfl) ?_
                    have eo : wc - 2 * (one (dgt k 0) + one (dgt k 1) + one (dgt k 2)) = wc - 2 := by rw [one_n (d := dgt k 0) (by omega), one_n (d := dgt k 1) (by omega), one_p (d := dgt k 2) (by omega)]; omega
                    have et : tcl wt ck wc (dgt k 0) (dgt k 1) (dgt k 2) = top wt ck wc (dgt k 0) (dgt k 1) (dgt k 2) := if_pos (by unfold okc; omega)
                    rw [top, eo, csv_n (w := 0) (d := dgt k 0) (by omega), csv_n (w := 1) (d := dgt k 1) (by omega), csv_p (w := 2) (d := dgt k 2) (by omega)] at et
                    exact Ri_ret hx hb hr hlocks hQ hH d_Pa_totalOf_105 nb_i (by rw [et]; simp only [trn_1 (a := dgt k 0) (b := dgt k 1) (show dgt k 0 < 0 by omega), trn_1 (a := dgt k 0) (b := dgt k 2) (show dgt k 0 < 0 by omega), trn_1 (a := dgt k 1) (b := dgt k 2) (show dgt k 1 < 0 by omega), Int.mul_add, Int.add_zero, Int.zero_add, Int.mul_zero] <;> omega)
                  · exfalso; omega
                · have c_57 := b2_n0.mp c_57
                  refine lv_ldc (v := J (1000000)) hx hb hown (hts _ mw_378) d_Pa_totalOf_60 ?_
                  exact Ri_ret hx hb hr hlocks hQ hH d_Pa_totalOf_62 nb_i ((show tcl wt ck wc (dgt k 0) (dgt k 1) (dgt k 2) = 1000000 from if_neg (by unfold okc; omega)).symm)
        · refine lv_aload_n hx hb d_Pa_totalOf_29 rfl (lv_at hl 4 rfl) ?_
          refine va_get (D := D) (ci := 4) (v := .ref ac) (C := R_Pa) (T := T_Pa) (N := 4) hx hb hts i_Pa hown hK hP 0 rfl rfl 1 (by decide) (hts _ mw_145) (fun _ h9 => h9) rfl d_Pa_totalOf_30 ?_
          refine lv_iload hx hb d_Pa_totalOf_33 (lv_at hl 1 rfl) ?_
          refine lv_iconst (v := J (3)) hx hb d_Pa_totalOf_35 rfl ?_
          refine w_imul hx hb d_Pa_totalOf_36 3 (by decide) ?_
          refine lv_iload hx hb d_Pa_totalOf_37 (lv_at hl 0 rfl) ?_
          refine w_iadd hx hb d_Pa_totalOf_39 ((3 * 1 + (dgt k 1).toNat : Nat) : Int) (by omega) ?_
          refine w_iald hx hb hK hP 3 0 rfl rfl (3 * 1 + (dgt k 1).toNat) (by omega) (by omega) (by omega) d_Pa_totalOf_40 ?_
          refine lv_istore (lv' := [(6, .int (J (ck (3 * 1 + (dgt k 1).toNat)))), (5, .int (J (dgt k 1))), (4, .int (J 1)), (3, .int (J wc)), (2, .int (J 0)), (0, .ref o), (1, .int (J ((k : Nat) : Int)))]) hx hb d_Pa_totalOf_41 hl (by decide) rfl (fun ls hl => ?_)
          have k1 := hck ((3 * 1 + (dgt k 1).toNat))
          refine lv_iload hx hb d_Pa_totalOf_43 (lv_at hl 0 rfl) ?_
          refine lv_iconst (v := J (-1)) hx hb d_Pa_totalOf_45 rfl ?_
          refine w_icmp_eq (tgt := 60) hx hb d_Pa_totalOf_46 (by decide) (by omega) (by omega) (fun c_46 => ?_) (fun c_46 => ?_)
          · refine lv_ldc (v := J (1000000)) hx hb hown (hts _ mw_378) d_Pa_totalOf_60 ?_
            exact Ri_ret hx hb hr hlocks hQ hH d_Pa_totalOf_62 nb_i ((show tcl wt ck wc (dgt k 0) (dgt k 1) (dgt k 2) = 1000000 from if_neg (by unfold okc; omega)).symm)
          · refine lv_iload_n hx hb d_Pa_totalOf_49 rfl (lv_at hl 6 rfl) ?_
            refine lv_iload hx hb d_Pa_totalOf_50 (lv_at hl 2 rfl) ?_
            refine lv_iload hx hb d_Pa_totalOf_52 (lv_at hl 1 rfl) ?_
            refine Ri_call (va_runS (As := [.int (J ((k : Nat) : Int)), .int (J 1), .int (J (dgt k 1))]) (rest := []) ⟨hx, hb, hml, hown, hts⟩ (c_Pa_isTaken l D cI cZ cJ k 1 (dgt k 1) (by first | assumption | omega) (by first | assumption | omega) (by first | assumption | omega)) (va_cwS 3 hts (g_S mw_386 mw_387 mw_31 mw_388) rfl rfl rfl (by decide +kernel) ⟨Nat.le_of_ble_eq_true rfl, Nat.le_of_ble_eq_true rfl⟩) (pre_RS hP hK [] rfl) rfl rfl hl.1 rfl (lv_room (Nat.le_of_ble_eq_true rfl)) d_Pa_totalOf_54 ⟨Nat.le_of_ble_eq_true rfl, Nat.le_of_ble_eq_true rfl⟩) ?_
            refine w_if_eq (tgt := 63) hx hb d_Pa_totalOf_57 (by decide) (rg_b2) (fun c_57 => ?_) (fun c_57 => ?_)
            · have c_57 := b2_0.mp c_57
              refine lv_iload_n hx hb d_Pa_totalOf_63 rfl (lv_at hl 4 rfl) ?_
              refine lv_iload hx hb d_Pa_totalOf_64 (lv_at hl 0 rfl) ?_
              refine lv_iload_n hx hb d_Pa_totalOf_66 rfl (lv_at hl 6 rfl) ?_
              refine lv_iload hx hb d_Pa_totalOf_67 (lv_at hl 2 rfl) ?_
              refine lv_iload hx hb d_Pa_totalOf_69 (lv_at hl 1 rfl) ?_
              refine Ri_call (va_runS (As := [.int (J ((k : Nat) : Int)), .int (J 1), .int (J (dgt k 1))]) (rest := [.int (J (ck (3 * 1 + (dgt k 1).toNat))), .int (J 0)]) ⟨hx, hb, hml, hown, hts⟩ (c_Pa_turnedBefore l D cI cZ cJ k 1 (dgt k 1) (by first | assumption | omega) (by first | assumption | omega) (by first | assumption | omega)) (va_cwS 3 hts (g_S mw_389 mw_390 mw_31 mw_391) rfl rfl rfl (by decide +kernel) ⟨Nat.le_of_ble_eq_true rfl, Nat.le_of_ble_eq_true rfl⟩) (pre_RS hP hK [] rfl) rfl rfl hl.1 rfl (lv_room (Nat.le_of_ble_eq_true rfl)) d_Pa_totalOf_71 ⟨Nat.le_of_ble_eq_true rfl, Nat.le_of_ble_eq_true rfl⟩) ?_
              refine lv_aload_n hx hb d_Pa_totalOf_74 rfl (lv_at hl 5 rfl) ?_
              refine va_get (D := D) (ci := 4) (v := .ref wo) (C := R_Pa) (T := T_Pa) (N := 4) hx hb hts i_Pa hown hK hP 0 rfl rfl 0 (by decide) (hts _ mw_144) (fun _ h9 => h9) rfl d_Pa_totalOf_75 ?_
              refine Ri_call (va_runV (As := []) (rest := [.int (J (tbf k 1 (dgt k 1))), .int (J (ck (3 * 1 + (dgt k 1).toNat))), .int (J 0)]) ⟨hx, hb, hml, hown, hts⟩ (c_We_turned l D cI cZ cJ wo wa wt ) (cwV 0 hts (g_V mw_392 mw_393 mw_394 mw_28 mw_395) rfl rfl rfl (by decide +kernel) ⟨Nat.le_of_ble_eq_true rfl, Nat.le_of_ble_eq_true rfl⟩) (pre_RV hP hK [1, 2] rfl 5 0 rfl rfl) rfl rfl hl.1 rfl (lv_room (Nat.le_of_ble_eq_true rfl)) d_Pa_totalOf_78 ⟨Nat.le_of_ble_eq_true rfl, Nat.le_of_ble_eq_true rfl⟩) ?_
              refine w_imul hx hb d_Pa_totalOf_81 (wt 5 * trn (dgt k 0) (dgt k 1)) (by rw [tbf_1 k (by omega), Int.mul_comm]) ?_
              refine w_iadd hx hb d_Pa_totalOf_82 ((ck (3 * 1 + (dgt k 1).toNat)) + (wt 5 * trn (dgt k 0) (dgt k 1))) (rfl) ?_
              refine w_iadd hx hb d_Pa_totalOf_83 (0 + ((ck (3 * 1 + (dgt k 1).toNat)) + (wt 5 * trn (dgt k 0) (dgt k 1)))) (rfl) ?_
              refine lv_istore_n (lv' := [(2, .int (J (0 + ((ck (3 * 1 + (dgt k 1).toNat)) + (wt 5 * trn (dgt k 0) (dgt k 1)))))), (6, .int (J (ck (3 * 1 + (dgt k 1).toNat)))), (5, .int (J (dgt k 1))), (4, .int (J 1)), (3, .int (J wc)), (0, .ref o), (1, .int (J ((k : Nat) : Int)))]) hx hb d_Pa_totalOf_84 rfl hl (by decide) rfl (fun ls hl => ?_)
              refine w_iinc (k := 4) (lv' := [(3, .int (J (wc - 2))), (2, .int (J (0 + ((ck (3 * 1 + (dgt k 1).toNat)) + (wt 5 * trn (dgt k 0) (dgt k 1)))))), (6, .int (J (ck (3 * 1 + (dgt k 1).toNat)))), (5, .int (J (dgt k 1))), (4, .int (J 1)), (0, .ref o), (1, .int (J ((k : Nat) : Int)))]) hx hb d_Pa_totalOf_85 hl rfl (wc - 2) (by omega) (by decide) rfl (fun ls hl => ?_)
              refine w_iinc (k := 4) (lv' := [(4, .int (J 2)), (3, .int (J (wc - 2))), (2, .int (J (0 + ((ck (3 * 1 + (dgt k 1).toNat)) + (wt 5 * trn (dgt k 0) (dgt k 1)))))), (6, .int (J (ck (3 * 1 + (dgt k 1).toNat)))), (5, .int (J (dgt k 1))), (0, .ref o), (1, .int (J ((k : Nat) : Int)))]) hx hb d_Pa_totalOf_88 hl rfl 2 (by omega) (by decide) rfl (fun ls hl => ?_)
              refine lv_goto (tgt := 10) hx hb d_Pa_totalOf_91 (by decide) ?_
              refine lv_iload hx hb d_Pa_totalOf_10 (lv_at hl 0 rfl) ?_
              refine lv_iconst (v := J (3)) hx hb d_Pa_totalOf_12 rfl ?_
              refine w_icmp_ge (tgt := 94) hx hb d_Pa_totalOf_13 (by decide) (by omega) (by omega) (fun c_13_3 => ?_) (fun c_13_3 => ?_)
              · exfalso; omega
              · refine lv_iload_n hx hb d_Pa_totalOf_16 rfl (lv_at hl 6 rfl) ?_
                refine lv_iload hx hb d_Pa_totalOf_17 (lv_at hl 0 rfl) ?_
                refine Ri_call (va_runS (As := [.int (J ((k : Nat) : Int)), .int (J 2)]) (rest := []) ⟨hx, hb, hml, hown, hts⟩ (c_Pa_partner l D cI cZ cJ k 2 (by first | assumption | omega) (by first | assumption | omega)) (va_cwS 2 hts (g_S mw_383 mw_384 mw_31 mw_385) rfl rfl rfl (by decide +kernel) ⟨Nat.le_of_ble_eq_true rfl, Nat.le_of_ble_eq_true rfl⟩) (pre_RS hP hK [] rfl) rfl rfl hl.1 rfl (lv_room (Nat.le_of_ble_eq_true rfl)) d_Pa_totalOf_19 ⟨Nat.le_of_ble_eq_true rfl, Nat.le_of_ble_eq_true rfl⟩) ?_
                refine lv_istore (lv' := [(5, .int (J (dgt k 2))), (4, .int (J 2)), (3, .int (J (wc - 2))), (2, .int (J (0 + ((ck (3 * 1 + (dgt k 1).toNat)) + (wt 5 * trn (dgt k 0) (dgt k 1)))))), (6, .int (J (ck (3 * 1 + (dgt k 1).toNat)))), (0, .ref o), (1, .int (J ((k : Nat) : Int)))]) hx hb d_Pa_totalOf_22 hl (by decide) rfl (fun ls hl => ?_)
                refine lv_iload hx hb d_Pa_totalOf_24 (lv_at hl 0 rfl) ?_
                refine w_if_lt (tgt := 88) hx hb d_Pa_totalOf_26 (by decide) (by omega) (fun c_26_3 => ?_) (fun c_26_3 => ?_)
                · refine w_iinc (k := 1) (lv' := [(4, .int (J 3)), (5, .int (J (dgt k 2))), (3, .int (J (wc - 2))), (2, .int (J (0 + ((ck (3 * 1 + (dgt k 1).toNat)) + (wt 5 * trn (dgt k 0) (dgt k 1)))))), (6, .int (J (ck (3 * 1 + (dgt k 1).toNat)))), (0, .ref o), (1, .int (J ((k : Nat) : Int)))]) hx hb d_Pa_totalOf_88 hl rfl 3 (by omega) (by decide) rfl (fun ls hl => ?_)
                  refine lv_goto (tgt := 10) hx hb d_Pa_totalOf_91 (by decide) ?_
                  refine lv_iload hx hb d_Pa_totalOf_10 (lv_at hl 0 rfl) ?_
                  refine lv_iconst (v := J (3)) hx hb d_Pa_totalOf_12 rfl ?_
                  refine w_icmp_ge (tgt := 94) hx hb d_Pa_totalOf_13 (by decide) (by omega) (by omega) (fun c_13_4 => ?_) (fun c_13_4 => ?_)
                  · refine lv_iload_n hx hb d_Pa_totalOf_94 rfl (lv_at hl 3 rfl) ?_
                    refine lv_iload_n hx hb d_Pa_totalOf_95 rfl (lv_at hl 2 rfl) ?_
                    refine lv_aload_n hx hb d_Pa_totalOf_96 rfl (lv_at hl 5 rfl) ?_
                    refine va_get (D := D) (ci := 4) (v := .ref wo) (C := R_Pa) (T := T_Pa) (N := 4) hx hb hts i_Pa hown hK hP 0 rfl rfl 0 (by decide) (hts _ mw_144) (fun _ h9 => h9) rfl d_Pa_totalOf_97 ?_
                    refine Ri_call (va_runV (As := []) (rest := [.int (J (wc - 2)), .int (J (0 + ((ck (3 * 1 + (dgt k 1).toNat)) + (wt 5 * trn (dgt k 0) (dgt k 1)))))]) ⟨hx, hb, hml, hown, hts⟩ (c_We_missing l D cI cZ cJ wo wa wt ) (cwV 0 hts (g_V mw_396 mw_397 mw_398 mw_28 mw_399) rfl rfl rfl (by decide +kernel) ⟨Nat.le_of_ble_eq_true rfl, Nat.le_of_ble_eq_true rfl⟩) (pre_RV hP hK [1, 2] rfl 5 0 rfl rfl) rfl rfl hl.1 rfl (lv_room (Nat.le_of_ble_eq_true rfl)) d_Pa_totalOf_100 ⟨Nat.le_of_ble_eq_true rfl, Nat.le_of_ble_eq_true rfl⟩) ?_
                    refine w_imul hx hb d_Pa_totalOf_103 (wt 4 * (wc - 2)) (by rw [Int.mul_comm, show wc - 2 = wc - 2 by omega]) ?_
                    refine w_iadd hx hb d_Pa_totalOf_104 ((0 + ((ck (3 * 1 + (dgt k 1).toNat)) + (wt 5 * trn (dgt k 0) (dgt k 1)))) + (wt 4 * (wc - 2))) (rfl) ?_
                    have eo : wc - 2 * (one (dgt k 0) + one (dgt k 1) + one (dgt k 2)) = wc - 2 := by rw [one_n (d := dgt k 0) (by omega), one_p (d := dgt k 1) (by omega), one_n (d := dgt k 2) (by omega)]; omega
                    have et : tcl wt ck wc (dgt k 0) (dgt k 1) (dgt k 2) = top wt ck wc (dgt k 0) (dgt k 1) (dgt k 2) := if_pos (by unfold okc; omega)
                    rw [top, eo, csv_n (w := 0) (d := dgt k 0) (by omega), csv_p (w := 1) (d := dgt k 1) (by omega), csv_n (w := 2) (d := dgt k 2) (by omega)] at et
                    exact Ri_ret hx hb hr hlocks hQ hH d_Pa_totalOf_105 nb_i (by rw [et]; simp only [trn_1 (a := dgt k 0) (b := dgt k 1) (show dgt k 0 < 0 by omega), trn_1 (a := dgt k 0) (b := dgt k 2) (show dgt k 0 < 0 by omega), trn_2 (a := dgt k 1) (b := dgt k 2) (show dgt k 2 < 0 by omega), Int.mul_add, Int.add_zero, Int.zero_add, Int.mul_zero] <;> omega)
                  · exfalso; omega
                · refine lv_aload_n hx hb d_Pa_totalOf_29 rfl (lv_at hl 5 rfl) ?_
                  refine va_get (D := D) (ci := 4) (v := .ref ac) (C := R_Pa) (T := T_Pa) (N := 4) hx hb hts i_Pa hown hK hP 0 rfl rfl 1 (by decide) (hts _ mw_145) (fun _ h9 => h9) rfl d_Pa_totalOf_30 ?_
                  refine lv_iload hx hb d_Pa_totalOf_33 (lv_at hl 1 rfl) ?_
                  refine lv_iconst (v := J (3)) hx hb d_Pa_totalOf_35 rfl ?_
                  refine w_imul hx hb d_Pa_totalOf_36 6 (by decide) ?_
                  refine lv_iload hx hb d_Pa_totalOf_37 (lv_at hl 0 rfl) ?_
                  refine w_iadd hx hb d_Pa_totalOf_39 ((3 * 2 + (dgt k 2).toNat : Nat) : Int) (by omega) ?_
                  refine w_iald hx hb hK hP 3 0 rfl rfl (3 * 2 + (dgt k 2).toNat) (by omega) (by omega) (by omega) d_Pa_totalOf_40 ?_
                  refine lv_istore (lv' := [(6, .int (J (ck (3 * 2 + (dgt k 2).toNat)))), (5, .int (J (dgt k 2))), (4, .int (J 2)), (3, .int (J (wc - 2))), (2, .int (J (0 + ((ck (3 * 1 + (dgt k 1).toNat)) + (wt 5 * trn (dgt k 0) (dgt k 1)))))), (0, .ref o), (1, .int (J ((k : Nat) : Int)))]) hx hb d_Pa_totalOf_41 hl (by decide) rfl (fun ls hl => ?_)
                  have k2 := hck ((3 * 2 + (dgt k 2).toNat))
                  refine lv_iload hx hb d_Pa_totalOf_43 (lv_at hl 0 rfl) ?_
                  refine lv_iconst (v := J (-1)) hx hb d_Pa_totalOf_45 rfl ?_
                  refine w_icmp_eq (tgt := 60) hx hb d_Pa_totalOf_46 (by decide) (by omega) (by omega) (fun c_46_2 => ?_) (fun c_46_2 => ?_)
                  · refine lv_ldc (v := J (1000000)) hx hb hown (hts _ mw_378) d_Pa_totalOf_60 ?_
                    exact Ri_ret hx hb hr hlocks hQ hH d_Pa_totalOf_62 nb_i ((show tcl wt ck wc (dgt k 0) (dgt k 1) (dgt k 2) = 1000000 from if_neg (by unfold okc; omega)).symm)
                  · refine lv_iload_n hx hb d_Pa_totalOf_49 rfl (lv_at hl 6 rfl) ?_
                    refine lv_iload hx hb d_Pa_totalOf_50 (lv_at hl 2 rfl) ?_
                    refine lv_iload hx hb d_Pa_totalOf_52 (lv_at hl 1 rfl) ?_
                    refine Ri_call (va_runS (As := [.int (J ((k : Nat) : Int)), .int (J 2), .int (J (dgt k 2))]) (rest := []) ⟨hx, hb, hml, hown, hts⟩ (c_Pa_isTaken l D cI cZ cJ k 2 (dgt k 2) (by first | assumption | omega) (by first | assumption | omega) (by first | assumption | omega)) (va_cwS 3 hts (g_S mw_386 mw_387 mw_31 mw_388) rfl rfl rfl (by decide +kernel) ⟨Nat.le_of_ble_eq_true rfl, Nat.le_of_ble_eq_true rfl⟩) (pre_RS hP hK [] rfl) rfl rfl hl.1 rfl (lv_room (Nat.le_of_ble_eq_true rfl)) d_Pa_totalOf_54 ⟨Nat.le_of_ble_eq_true rfl, Nat.le_of_ble_eq_true rfl⟩) ?_
                    refine w_if_eq (tgt := 63) hx hb d_Pa_totalOf_57 (by decide) (rg_b2) (fun c_57_2 => ?_) (fun c_57_2 => ?_)
                    · have c_57_2 := b2_0.mp c_57_2
                      refine lv_iload_n hx hb d_Pa_totalOf_63 rfl (lv_at hl 4 rfl) ?_
                      refine lv_iload hx hb d_Pa_totalOf_64 (lv_at hl 0 rfl) ?_
                      refine lv_iload_n hx hb d_Pa_totalOf_66 rfl (lv_at hl 6 rfl) ?_
                      refine lv_iload hx hb d_Pa_totalOf_67 (lv_at hl 2 rfl) ?_
                      refine lv_iload hx hb d_Pa_totalOf_69 (lv_at hl 1 rfl) ?_
                      refine Ri_call (va_runS (As := [.int (J ((k : Nat) : Int)), .int (J 2), .int (J (dgt k 2))]) (rest := [.int (J (ck (3 * 2 + (dgt k 2).toNat))), .int (J (0 + ((ck (3 * 1 + (dgt k 1).toNat)) + (wt 5 * trn (dgt k 0) (dgt k 1)))))]) ⟨hx, hb, hml, hown, hts⟩ (c_Pa_turnedBefore l D cI cZ cJ k 2 (dgt k 2) (by first | assumption | omega) (by first | assumption | omega) (by first | assumption | omega)) (va_cwS 3 hts (g_S mw_389 mw_390 mw_31 mw_391) rfl rfl rfl (by decide +kernel) ⟨Nat.le_of_ble_eq_true rfl, Nat.le_of_ble_eq_true rfl⟩) (pre_RS hP hK [] rfl) rfl rfl hl.1 rfl (lv_room (Nat.le_of_ble_eq_true rfl)) d_Pa_totalOf_71 ⟨Nat.le_of_ble_eq_true rfl, Nat.le_of_ble_eq_true rfl⟩) ?_
                      refine lv_aload_n hx hb d_Pa_totalOf_74 rfl (lv_at hl 5 rfl) ?_
                      refine va_get (D := D) (ci := 4) (v := .ref wo) (C := R_Pa) (T := T_Pa) (N := 4) hx hb hts i_Pa hown hK hP 0 rfl rfl 0 (by decide) (hts _ mw_144) (fun _ h9 => h9) rfl d_Pa_totalOf_75 ?_
                      refine Ri_call (va_runV (As := []) (rest := [.int (J (tbf k 2 (dgt k 2))), .int (J (ck (3 * 2 + (dgt k 2).toNat))), .int (J (0 + ((ck (3 * 1 + (dgt k 1).toNat)) + (wt 5 * trn (dgt k 0) (dgt k 1)))))]) ⟨hx, hb, hml, hown, hts⟩ (c_We_turned l D cI cZ cJ wo wa wt ) (cwV 0 hts (g_V mw_392 mw_393 mw_394 mw_28 mw_395) rfl rfl rfl (by decide +kernel) ⟨Nat.le_of_ble_eq_true rfl, Nat.le_of_ble_eq_true rfl⟩) (pre_RV hP hK [1, 2] rfl 5 0 rfl rfl) rfl rfl hl.1 rfl (lv_room (Nat.le_of_ble_eq_true rfl)) d_Pa_totalOf_78 ⟨Nat.le_of_ble_eq_true rfl, Nat.le_of_ble_eq_true rfl⟩) ?_
                      refine w_imul hx hb d_Pa_totalOf_81 (wt 5 * (trn (dgt k 0) (dgt k 2) + trn (dgt k 1) (dgt k 2))) (by rw [tbf_2 k (by omega), Int.mul_comm]) ?_
                      refine w_iadd hx hb d_Pa_totalOf_82 ((ck (3 * 2 + (dgt k 2).toNat)) + (wt 5 * (trn (dgt k 0) (dgt k 2) + trn (dgt k 1) (dgt k 2)))) (rfl) ?_
                      refine w_iadd hx hb d_Pa_totalOf_83 ((0 + ((ck (3 * 1 + (dgt k 1).toNat)) + (wt 5 * trn (dgt k 0) (dgt k 1)))) + ((ck (3 * 2 + (dgt k 2).toNat)) + (wt 5 * (trn (dgt k 0) (dgt k 2) + trn (dgt k 1) (dgt k 2))))) (rfl) ?_
                      refine lv_istore_n (lv' := [(2, .int (J ((0 + ((ck (3 * 1 + (dgt k 1).toNat)) + (wt 5 * trn (dgt k 0) (dgt k 1)))) + ((ck (3 * 2 + (dgt k 2).toNat)) + (wt 5 * (trn (dgt k 0) (dgt k 2) + trn (dgt k 1) (dgt k 2))))))), (6, .int (J (ck (3 * 2 + (dgt k 2).toNat)))), (5, .int (J (dgt k 2))), (4, .int (J 2)), (3, .int (J (wc - 2))), (0, .ref o), (1, .int (J ((k : Nat) : Int)))]) hx hb d_Pa_totalOf_84 rfl hl (by decide) rfl (fun ls hl => ?_)
                      refine w_iinc (k := 4) (lv' := [(3, .int (J (wc - 2 - 2))), (2, .int (J ((0 + ((ck (3 * 1 + (dgt k 1).toNat)) + (wt 5 * trn (dgt k 0) (dgt k 1)))) + ((ck (3 * 2 + (dgt k 2).toNat)) + (wt 5 * (trn (dgt k 0) (dgt k 2) + trn (dgt k 1) (dgt k 2))))))), (6, .int (J (ck (3 * 2 + (dgt k 2).toNat)))), (5, .int (J (dgt k 2))), (4, .int (J 2)), (0, .ref o), (1, .int (J ((k : Nat) : Int)))]) hx hb d_Pa_totalOf_85 hl rfl (wc - 2 - 2) (by omega) (by decide) rfl (fun ls hl => ?_)
                      refine w_iinc (k := 4) (lv' := [(4, .int (J 3)), (3, .int (J (wc - 2 - 2))), (2, .int (J ((0 + ((ck (3 * 1 + (dgt k 1).toNat)) + (wt 5 * trn (dgt k 0) (dgt k 1)))) + ((ck (3 * 2 + (dgt k 2).toNat)) + (wt 5 * (trn (dgt k 0) (dgt k 2) + trn (dgt k 1) (dgt k 2))))))), (6, .int (J (ck (3 * 2 + (dgt k 2).toNat)))), (5, .int (J (dgt k 2))), (0, .ref o), (1, .int (J ((k : Nat) : Int)))]) hx hb d_Pa_totalOf_88 hl rfl 3 (by omega) (by decide) rfl (fun ls hl => ?_)
                      refine lv_goto (tgt := 10) hx hb d_Pa_totalOf_91 (by decide) ?_
                      refine lv_iload hx hb d_Pa_totalOf_10 (lv_at hl 0 rfl) ?_
                      refine lv_iconst (v := J (3)) hx hb d_Pa_totalOf_12 rfl ?_
                      refine w_icmp_ge (tgt := 94) hx hb d_Pa_totalOf_13 (by decide) (by omega) (by omega) (fun c_13_4 => ?_) (fun c_13_4 => ?_)
                      · refine lv_iload_n hx hb d_Pa_totalOf_94 rfl (lv_at hl 2 rfl) ?_
                        refine lv_iload_n hx hb d_Pa_totalOf_95 rfl (lv_at hl 1 rfl) ?_
                        refine lv_aload_n hx hb d_Pa_totalOf_96 rfl (lv_at hl 5 rfl) ?_
                        refine va_get (D := D) (ci := 4) (v := .ref wo) (C := R_Pa) (T := T_Pa) (N := 4) hx hb hts i_Pa hown hK hP 0 rfl rfl 0 (by decide) (hts _ mw_144) (fun _ h9 => h9) rfl d_Pa_totalOf_97 ?_
                        refine Ri_call (va_runV (As := []) (rest := [.int (J (wc - 2 - 2)), .int (J ((0 + ((ck (3 * 1 + (dgt k 1).toNat)) + (wt 5 * trn (dgt k 0) (dgt k 1)))) + ((ck (3 * 2 + (dgt k 2).toNat)) + (wt 5 * (trn (dgt k 0) (dgt k 2) + trn (dgt k 1) (dgt k 2))))))]) ⟨hx, hb, hml, hown, hts⟩ (c_We_missing l D cI cZ cJ wo wa wt ) (cwV 0 hts (g_V mw_396 mw_397 mw_398 mw_28 mw_399) rfl rfl rfl (by decide +kernel) ⟨Nat.le_of_ble_eq_true rfl, Nat.le_of_ble_eq_true rfl⟩) (pre_RV hP hK [1, 2] rfl 5 0 rfl rfl) rfl rfl hl.1 rfl (lv_room (Nat.le_of_ble_eq_true rfl)) d_Pa_totalOf_100 ⟨Nat.le_of_ble_eq_true rfl, Nat.le_of_ble_eq_true rfl⟩) ?_
                        refine w_imul hx hb d_Pa_totalOf_103 (wt 4 * (wc - 4)) (by rw [Int.mul_comm, show wc - 2 - 2 = wc - 4 by omega]) ?_
                        refine w_iadd hx hb d_Pa_totalOf_104 (((0 + ((ck (3 * 1 + (dgt k 1).toNat)) + (wt 5 * trn (dgt k 0) (dgt k 1)))) + ((ck (3 * 2 + (dgt k 2).toNat)) + (wt 5 * (trn (dgt k 0) (dgt k 2) + trn (dgt k 1) (dgt k 2))))) + (wt 4 * (wc - 4))) (rfl) ?_
                        have eo : wc - 2 * (one (dgt k 0) + one (dgt k 1) + one (dgt k 2)) = wc - 4 := by rw [one_n (d := dgt k 0) (by omega), one_p (d := dgt k 1) (by omega), one_p (d := dgt k 2) (by omega)]; omega
                        have et : tcl wt ck wc (dgt k 0) (dgt k 1) (dgt k 2) = top wt ck wc (dgt k 0) (dgt k 1) (dgt k 2) := if_pos (by unfold okc; omega)
                        rw [top, eo, csv_n (w := 0) (d := dgt k 0) (by omega), csv_p (w := 1) (d := dgt k 1) (by omega), csv_p (w := 2) (d := dgt k 2) (by omega)] at et
                        exact Ri_ret hx hb hr hlocks hQ hH d_Pa_totalOf_105 nb_i (by rw [et]; simp only [trn_1 (a := dgt k 0) (b := dgt k 1) (show dgt k 0 < 0 by omega), trn_1 (a := dgt k 0) (b := dgt k 2) (show dgt k 0 < 0 by omega), Int.mul_add, Int.add_zero, Int.zero_add, Int.mul_zero] <;> omega)
                      · exfalso; omega
                    · have c_57_2 := b2_n0.mp c_57_2
                      refine lv_ldc (v := J (1000000)) hx hb hown (hts _ mw_378) d_Pa_totalOf_60 ?_
                      exact Ri_ret hx hb hr hlocks hQ hH d_Pa_totalOf_62 nb_i ((show tcl wt ck wc (dgt k 0) (dgt k 1) (dgt k 2) = 1000000 from if_neg (by unfold okc; omega)).symm)
            · have c_57 := b2_n0.mp c_57
              refine lv_ldc (v := J (1000000)) hx hb hown (hts _ mw_378) d_Pa_totalOf_60 ?_
              exact Ri_ret hx hb hr hlocks hQ hH d_Pa_totalOf_62 nb_i ((show tcl wt ck wc (dgt k 0) (dgt k 1) (dgt k 2) = 1000000 from if_neg (by unfold okc; omega)).symm)
    · refine lv_aload_n hx hb d_Pa_totalOf_29 rfl (lv_at hl 4 rfl) ?_
      refine va_get (D := D) (ci := 4) (v := .ref ac) (C := R_Pa) (T := T_Pa) (N := 4) hx hb hts i_Pa hown hK hP 0 rfl rfl 1 (by decide) (hts _ mw_145) (fun _ h9 => h9) rfl d_Pa_totalOf_30 ?_
      refine lv_iload hx hb d_Pa_totalOf_33 (lv_at hl 1 rfl) ?_
      refine lv_iconst (v := J (3)) hx hb d_Pa_totalOf_35 rfl ?_
      refine w_imul hx hb d_Pa_totalOf_36 0 (by decide) ?_
      refine lv_iload hx hb d_Pa_totalOf_37 (lv_at hl 0 rfl) ?_
      refine w_iadd hx hb d_Pa_totalOf_39 ((3 * 0 + (dgt k 0).toNat : Nat) : Int) (by omega) ?_
      refine w_iald hx hb hK hP 3 0 rfl rfl (3 * 0 + (dgt k 0).toNat) (by omega) (by omega) (by omega) d_Pa_totalOf_40 ?_
      refine lv_istore (lv' := [(6, .int (J (ck (3 * 0 + (dgt k 0).toNat)))), (5, .int (J (dgt k 0))), (4, .int (J 0)), (3, .int (J wc)), (2, .int (J 0)), (0, .ref o), (1, .int (J ((k : Nat) : Int)))]) hx hb d_Pa_totalOf_41 hl (by decide) rfl (fun ls hl => ?_)
      have k0 := hck ((3 * 0 + (dgt k 0).toNat))
      refine lv_iload hx hb d_Pa_totalOf_43 (lv_at hl 0 rfl) ?_
      refine lv_iconst (v := J (-1)) hx hb d_Pa_totalOf_45 rfl ?_
      refine w_icmp_eq (tgt := 60) hx hb d_Pa_totalOf_46 (by decide) (by omega) (by omega) (fun c_46 => ?_) (fun c_46 => ?_)
      · refine lv_ldc (v := J (1000000)) hx hb hown (hts _ mw_378) d_Pa_totalOf_60 ?_
        exact Ri_ret hx hb hr hlocks hQ hH d_Pa_totalOf_62 nb_i ((show tcl wt ck wc (dgt k 0) (dgt k 1) (dgt k 2) = 1000000 from if_neg (by unfold okc; omega)).symm)
      · refine lv_iload_n hx hb d_Pa_totalOf_49 rfl (lv_at hl 6 rfl) ?_
        refine lv_iload hx hb d_Pa_totalOf_50 (lv_at hl 2 rfl) ?_
        refine lv_iload hx hb d_Pa_totalOf_52 (lv_at hl 1 rfl) ?_
        refine Ri_call (va_runS (As := [.int (J ((k : Nat) : Int)), .int (J 0), .int (J (dgt k 0))]) (rest := []) ⟨hx, hb, hml, hown, hts⟩ (c_Pa_isTaken l D cI cZ cJ k 0 (dgt k 0) (by first | assumption | omega) (by first | assumption | omega) (by first | assumption | omega)) (va_cwS 3 hts (g_S mw_386 mw_387 mw_31 mw_388) rfl rfl rfl (by decide +kernel) ⟨Nat.le_of_ble_eq_true rfl, Nat.le_of_ble_eq_true rfl⟩) (pre_RS hP hK [] rfl) rfl rfl hl.1 rfl (lv_room (Nat.le_of_ble_eq_true rfl)) d_Pa_totalOf_54 ⟨Nat.le_of_ble_eq_true rfl, Nat.le_of_ble_eq_true rfl⟩) ?_
        refine w_if_eq (tgt := 63) hx hb d_Pa_totalOf_57 (by decide) (rg_b2) (fun c_57 => ?_) (fun c_57 => ?_)
        · have c_57 := b2_0.mp c_57
          refine lv_iload_n hx hb d_Pa_totalOf_63 rfl (lv_at hl 4 rfl) ?_
          refine lv_iload hx hb d_Pa_totalOf_64 (lv_at hl 0 rfl) ?_
          refine lv_iload_n hx hb d_Pa_totalOf_66 rfl (lv_at hl 6 rfl) ?_
          refine lv_iload hx hb d_Pa_totalOf_67 (lv_at hl 2 rfl) ?_
          refine lv_iload hx hb d_Pa_totalOf_69 (lv_at hl 1 rfl) ?_
          refine Ri_call (va_runS (As := [.int (J ((k : Nat) : Int)), .int (J 0), .int (J (dgt k 0))]) (rest := [.int (J (ck (3 * 0 + (dgt k 0).toNat))), .int (J 0)]) ⟨hx, hb, hml, hown, hts⟩ (c_Pa_turnedBefore l D cI cZ cJ k 0 (dgt k 0) (by first | assumption | omega) (by first | assumption | omega) (by first | assumption | omega)) (va_cwS 3 hts (g_S mw_389 mw_390 mw_31 mw_391) rfl rfl rfl (by decide +kernel) ⟨Nat.le_of_ble_eq_true rfl, Nat.le_of_ble_eq_true rfl⟩) (pre_RS hP hK [] rfl) rfl rfl hl.1 rfl (lv_room (Nat.le_of_ble_eq_true rfl)) d_Pa_totalOf_71 ⟨Nat.le_of_ble_eq_true rfl, Nat.le_of_ble_eq_true rfl⟩) ?_
          refine lv_aload_n hx hb d_Pa_totalOf_74 rfl (lv_at hl 5 rfl) ?_
          refine va_get (D := D) (ci := 4) (v := .ref wo) (C := R_Pa) (T := T_Pa) (N := 4) hx hb hts i_Pa hown hK hP 0 rfl rfl 0 (by decide) (hts _ mw_144) (fun _ h9 => h9) rfl d_Pa_totalOf_75 ?_
          refine Ri_call (va_runV (As := []) (rest := [.int (J (tbf k 0 (dgt k 0))), .int (J (ck (3 * 0 + (dgt k 0).toNat))), .int (J 0)]) ⟨hx, hb, hml, hown, hts⟩ (c_We_turned l D cI cZ cJ wo wa wt ) (cwV 0 hts (g_V mw_392 mw_393 mw_394 mw_28 mw_395) rfl rfl rfl (by decide +kernel) ⟨Nat.le_of_ble_eq_true rfl, Nat.le_of_ble_eq_true rfl⟩) (pre_RV hP hK [1, 2] rfl 5 0 rfl rfl) rfl rfl hl.1 rfl (lv_room (Nat.le_of_ble_eq_true rfl)) d_Pa_totalOf_78 ⟨Nat.le_of_ble_eq_true rfl, Nat.le_of_ble_eq_true rfl⟩) ?_
          refine w_imul hx hb d_Pa_totalOf_81 0 (by rw [tbf_0]; omega) ?_
          refine w_iadd hx hb d_Pa_totalOf_82 ((ck (3 * 0 + (dgt k 0).toNat)) + 0) (rfl) ?_
          refine w_iadd hx hb d_Pa_totalOf_83 (0 + ((ck (3 * 0 + (dgt k 0).toNat)) + 0)) (rfl) ?_
          refine lv_istore_n (lv' := [(2, .int (J (0 + ((ck (3 * 0 + (dgt k 0).toNat)) + 0)))), (6, .int (J (ck (3 * 0 + (dgt k 0).toNat)))), (5, .int (J (dgt k 0))), (4, .int (J 0)), (3, .int (J wc)), (0, .ref o), (1, .int (J ((k : Nat) : Int)))]) hx hb d_Pa_totalOf_84 rfl hl (by decide) rfl (fun ls hl => ?_)
          refine w_iinc (k := 4) (lv' := [(3, .int (J (wc - 2))), (2, .int (J (0 + ((ck (3 * 0 + (dgt k 0).toNat)) + 0)))), (6, .int (J (ck (3 * 0 + (dgt k 0).toNat)))), (5, .int (J (dgt k 0))), (4, .int (J 0)), (0, .ref o), (1, .int (J ((k : Nat) : Int)))]) hx hb d_Pa_totalOf_85 hl rfl (wc - 2) (by omega) (by decide) rfl (fun ls hl => ?_)
          refine w_iinc (k := 4) (lv' := [(4, .int (J 1)), (3, .int (J (wc - 2))), (2, .int (J (0 + ((ck (3 * 0 + (dgt k 0).toNat)) + 0)))), (6, .int (J (ck (3 * 0 + (dgt k 0).toNat)))), (5, .int (J (dgt k 0))), (0, .ref o), (1, .int (J ((k : Nat) : Int)))]) hx hb d_Pa_totalOf_88 hl rfl 1 (by omega) (by decide) rfl (fun ls hl => ?_)
          refine lv_goto (tgt := 10) hx hb d_Pa_totalOf_91 (by decide) ?_
          refine lv_iload hx hb d_Pa_totalOf_10 (lv_at hl 0 rfl) ?_
          refine lv_iconst (v := J (3)) hx hb d_Pa_totalOf_12 rfl ?_
          refine w_icmp_ge (tgt := 94) hx hb d_Pa_totalOf_13 (by decide) (by omega) (by omega) (fun c_13_2 => ?_) (fun c_13_2 => ?_)
          · exfalso; omega
          · refine lv_iload_n hx hb d_Pa_totalOf_16 rfl (lv_at hl 6 rfl) ?_
            refine lv_iload hx hb d_Pa_totalOf_17 (lv_at hl 0 rfl) ?_
            refine Ri_call (va_runS (As := [.int (J ((k : Nat) : Int)), .int (J 1)]) (rest := []) ⟨hx, hb, hml, hown, hts⟩ (c_Pa_partner l D cI cZ cJ k 1 (by first | assumption | omega) (by first | assumption | omega)) (va_cwS 2 hts (g_S mw_383 mw_384 mw_31 mw_385) rfl rfl rfl (by decide +kernel) ⟨Nat.le_of_ble_eq_true rfl, Nat.le_of_ble_eq_true rfl⟩) (pre_RS hP hK [] rfl) rfl rfl hl.1 rfl (lv_room (Nat.le_of_ble_eq_true rfl)) d_Pa_totalOf_19 ⟨Nat.le_of_ble_eq_true rfl, Nat.le_of_ble_eq_true rfl⟩) ?_
            refine lv_istore (lv' := [(5, .int (J (dgt k 1))), (4, .int (J 1)), (3, .int (J (wc - 2))), (2, .int (J (0 + ((ck (3 * 0 + (dgt k 0).toNat)) + 0)))), (6, .int (J (ck (3 * 0 + (dgt k 0).toNat)))), (0, .ref o), (1, .int (J ((k : Nat) : Int)))]) hx hb d_Pa_totalOf_22 hl (by decide) rfl (fun ls hl => ?_)
            refine lv_iload hx hb d_Pa_totalOf_24 (lv_at hl 0 rfl) ?_
            refine w_if_lt (tgt := 88) hx hb d_Pa_totalOf_26 (by decide) (by omega) (fun c_26_2 => ?_) (fun c_26_2 => ?_)
            · refine w_iinc (k := 1) (lv' := [(4, .int (J 2)), (5, .int (J (dgt k 1))), (3, .int (J (wc - 2))), (2, .int (J (0 + ((ck (3 * 0 + (dgt k 0).toNat)) + 0)))), (6, .int (J (ck (3 * 0 + (dgt k 0).toNat)))), (0, .ref o), (1, .int (J ((k : Nat) : Int)))]) hx hb d_Pa_totalOf_88 hl rfl 2 (by omega) (by decide) rfl (fun ls hl => ?_)
              refine lv_goto (tgt := 10) hx hb d_Pa_totalOf_91 (by decide) ?_
              refine lv_iload hx hb d_Pa_totalOf_10 (lv_at hl 0 rfl) ?_
              refine lv_iconst (v := J (3)) hx hb d_Pa_totalOf_12 rfl ?_
              refine w_icmp_ge (tgt := 94) hx hb d_Pa_totalOf_13 (by decide) (by omega) (by omega) (fun c_13_3 => ?_) (fun c_13_3 => ?_)
              · exfalso; omega
              · refine lv_iload_n hx hb d_Pa_totalOf_16 rfl (lv_at hl 6 rfl) ?_
                refine lv_iload hx hb d_Pa_totalOf_17 (lv_at hl 0 rfl) ?_
                refine Ri_call (va_runS (As := [.int (J ((k : Nat) : Int)), .int (J 2)]) (rest := []) ⟨hx, hb, hml, hown, hts⟩ (c_Pa_partner l D cI cZ cJ k 2 (by first | assumption | omega) (by first | assumption | omega)) (va_cwS 2 hts (g_S mw_383 mw_384 mw_31 mw_385) rfl rfl rfl (by decide +kernel) ⟨Nat.le_of_ble_eq_true rfl, Nat.le_of_ble_eq_true rfl⟩) (pre_RS hP hK [] rfl) rfl rfl hl.1 rfl (lv_room (Nat.le_of_ble_eq_true rfl)) d_Pa_totalOf_19 ⟨Nat.le_of_ble_eq_true rfl, Nat.le_of_ble_eq_true rfl⟩) ?_
                refine lv_istore (lv' := [(5, .int (J (dgt k 2))), (4, .int (J 2)), (3, .int (J (wc - 2))), (2, .int (J (0 + ((ck (3 * 0 + (dgt k 0).toNat)) + 0)))), (6, .int (J (ck (3 * 0 + (dgt k 0).toNat)))), (0, .ref o), (1, .int (J ((k : Nat) : Int)))]) hx hb d_Pa_totalOf_22 hl (by decide) rfl (fun ls hl => ?_)
                refine lv_iload hx hb d_Pa_totalOf_24 (lv_at hl 0 rfl) ?_
                refine w_if_lt (tgt := 88) hx hb d_Pa_totalOf_26 (by decide) (by omega) (fun c_26_3 => ?_) (fun c_26_3 => ?_)
                · refine w_iinc (k := 1) (lv' := [(4, .int (J 3)), (5, .int (J (dgt k 2))), (3, .int (J (wc - 2))), (2, .int (J (0 + ((ck (3 * 0 + (dgt k 0).toNat)) + 0)))), (6, .int (J (ck (3 * 0 + (dgt k 0).toNat)))), (0, .ref o), (1, .int (J ((k : Nat) : Int)))]) hx hb d_Pa_totalOf_88 hl rfl 3 (by omega) (by decide) rfl (fun ls hl => ?_)
                  refine lv_goto (tgt := 10) hx hb d_Pa_totalOf_91 (by decide) ?_
                  refine lv_iload hx hb d_Pa_totalOf_10 (lv_at hl 0 rfl) ?_
                  refine lv_iconst (v := J (3)) hx hb d_Pa_totalOf_12 rfl ?_
                  refine w_icmp_ge (tgt := 94) hx hb d_Pa_totalOf_13 (by decide) (by omega) (by omega) (fun c_13_4 => ?_) (fun c_13_4 => ?_)
                  · refine lv_iload_n hx hb d_Pa_totalOf_94 rfl (lv_at hl 3 rfl) ?_
                    refine lv_iload_n hx hb d_Pa_totalOf_95 rfl (lv_at hl 2 rfl) ?_
                    refine lv_aload_n hx hb d_Pa_totalOf_96 rfl (lv_at hl 5 rfl) ?_
                    refine va_get (D := D) (ci := 4) (v := .ref wo) (C := R_Pa) (T := T_Pa) (N := 4) hx hb hts i_Pa hown hK hP 0 rfl rfl 0 (by decide) (hts _ mw_144) (fun _ h9 => h9) rfl d_Pa_totalOf_97 ?_
                    refine Ri_call (va_runV (As := []) (rest := [.int (J (wc - 2)), .int (J (0 + ((ck (3 * 0 + (dgt k 0).toNat)) + 0)))]) ⟨hx, hb, hml, hown, hts⟩ (c_We_missing l D cI cZ cJ wo wa wt ) (cwV 0 hts (g_V mw_396 mw_397 mw_398 mw_28 mw_399) rfl rfl rfl (by decide +kernel) ⟨Nat.le_of_ble_eq_true rfl, Nat.le_of_ble_eq_true rfl⟩) (pre_RV hP hK [1, 2] rfl 5 0 rfl rfl) rfl rfl hl.1 rfl (lv_room (Nat.le_of_ble_eq_true rfl)) d_Pa_totalOf_100 ⟨Nat.le_of_ble_eq_true rfl, Nat.le_of_ble_eq_true rfl⟩) ?_
                    refine w_imul hx hb d_Pa_totalOf_103 (wt 4 * (wc - 2)) (by rw [Int.mul_comm, show wc - 2 = wc - 2 by omega]) ?_
                    refine w_iadd hx hb d_Pa_totalOf_104 ((0 + ((ck (3 * 0 + (dgt k 0).toNat)) + 0)) + (wt 4 * (wc - 2))) (rfl) ?_
                    have eo : wc - 2 * (one (dgt k 0) + one (dgt k 1) + one (dgt k 2)) = wc - 2 := by rw [one_p (d := dgt k 0) (by omega), one_n (d := dgt k 1) (by omega), one_n (d := dgt k 2) (by omega)]; omega
                    have et : tcl wt ck wc (dgt k 0) (dgt k 1) (dgt k 2) = top wt ck wc (dgt k 0) (dgt k 1) (dgt k 2) := if_pos (by unfold okc; omega)
                    rw [top, eo, csv_p (w := 0) (d := dgt k 0) (by omega), csv_n (w := 1) (d := dgt k 1) (by omega), csv_n (w := 2) (d := dgt k 2) (by omega)] at et
                    exact Ri_ret hx hb hr hlocks hQ hH d_Pa_totalOf_105 nb_i (by rw [et]; simp only [trn_2 (a := dgt k 0) (b := dgt k 1) (show dgt k 1 < 0 by omega), trn_2 (a := dgt k 0) (b := dgt k 2) (show dgt k 2 < 0 by omega), trn_1 (a := dgt k 1) (b := dgt k 2) (show dgt k 1 < 0 by omega), Int.mul_add, Int.add_zero, Int.zero_add, Int.mul_zero] <;> omega)
                  · exfalso; omega
                · refine lv_aload_n hx hb d_Pa_totalOf_29 rfl (lv_at hl 5 rfl) ?_
                  refine va_get (D := D) (ci := 4) (v := .ref ac) (C := R_Pa) (T := T_Pa) (N := 4) hx hb hts i_Pa hown hK hP 0 rfl rfl 1 (by decide) (hts _ mw_145) (fun _ h9 => h9) rfl d_Pa_totalOf_30 ?_
                  refine lv_iload hx hb d_Pa_totalOf_33 (lv_at hl 1 rfl) ?_
                  refine lv_iconst (v := J (3)) hx hb d_Pa_totalOf_35 rfl ?_
                  refine w_imul hx hb d_Pa_totalOf_36 6 (by decide) ?_
                  refine lv_iload hx hb d_Pa_totalOf_37 (lv_at hl 0 rfl) ?_
                  refine w_iadd hx hb d_Pa_totalOf_39 ((3 * 2 + (dgt k 2).toNat : Nat) : Int) (by omega) ?_
                  refine w_iald hx hb hK hP 3 0 rfl rfl (3 * 2 + (dgt k 2).toNat) (by omega) (by omega) (by omega) d_Pa_totalOf_40 ?_
                  refine lv_istore (lv' := [(6, .int (J (ck (3 * 2 + (dgt k 2).toNat)))), (5, .int (J (dgt k 2))), (4, .int (J 2)), (3, .int (J (wc - 2))), (2, .int (J (0 + ((ck (3 * 0 + (dgt k 0).toNat)) + 0)))), (0, .ref o), (1, .int (J ((k : Nat) : Int)))]) hx hb d_Pa_totalOf_41 hl (by decide) rfl (fun ls hl => ?_)
                  have k2 := hck ((3 * 2 + (dgt k 2).toNat))
                  refine lv_iload hx hb d_Pa_totalOf_43 (lv_at hl 0 rfl) ?_
                  refine lv_iconst (v := J (-1)) hx hb d_Pa_totalOf_45 rfl ?_
                  refine w_icmp_eq (tgt := 60) hx hb d_Pa_totalOf_46 (by decide) (by omega) (by omega) (fun c_46_2 => ?_) (fun c_46_2 => ?_)
                  · refine lv_ldc (v := J (1000000)) hx hb hown (hts _ mw_378) d_Pa_totalOf_60 ?_
                    exact Ri_ret hx hb hr hlocks hQ hH d_Pa_totalOf_62 nb_i ((show tcl wt ck wc (dgt k 0) (dgt k 1) (dgt k 2) = 1000000 from if_neg (by unfold okc; omega)).symm)
                  · refine lv_iload_n hx hb d_Pa_totalOf_49 rfl (lv_at hl 6 rfl) ?_
                    refine lv_iload hx hb d_Pa_totalOf_50 (lv_at hl 2 rfl) ?_
                    refine lv_iload hx hb d_Pa_totalOf_52 (lv_at hl 1 rfl) ?_
                    refine Ri_call (va_runS (As := [.int (J ((k : Nat) : Int)), .int (J 2), .int (J (dgt k 2))]) (rest := []) ⟨hx, hb, hml, hown, hts⟩ (c_Pa_isTaken l D cI cZ cJ k 2 (dgt k 2) (by first | assumption | omega) (by first | assumption | omega) (by first | assumption | omega)) (va_cwS 3 hts (g_S mw_386 mw_387 mw_31 mw_388) rfl rfl rfl (by decide +kernel) ⟨Nat.le_of_ble_eq_true rfl, Nat.le_of_ble_eq_true rfl⟩) (pre_RS hP hK [] rfl) rfl rfl hl.1 rfl (lv_room (Nat.le_of_ble_eq_true rfl)) d_Pa_totalOf_54 ⟨Nat.le_of_ble_eq_true rfl, Nat.le_of_ble_eq_true rfl⟩) ?_
                    refine w_if_eq (tgt := 63) hx hb d_Pa_totalOf_57 (by decide) (rg_b2) (fun c_57_2 => ?_) (fun c_57_2 => ?_)
                    · have c_57_2 := b2_0.mp c_57_2
                      refine lv_iload_n hx hb d_Pa_totalOf_63 rfl (lv_at hl 4 rfl) ?_
                      refine lv_iload hx hb d_Pa_totalOf_64 (lv_at hl 0 rfl) ?_
                      refine lv_iload_n hx hb d_Pa_totalOf_66 rfl (lv_at hl 6 rfl) ?_
                      refine lv_iload hx hb d_Pa_totalOf_67 (lv_at hl 2 rfl) ?_
                      refine lv_iload hx hb d_Pa_totalOf_69 (lv_at hl 1 rfl) ?_
                      refine Ri_call (va_runS (As := [.int (J ((k : Nat) : Int)), .int (J 2), .int (J (dgt k 2))]) (rest := [.int (J (ck (3 * 2 + (dgt k 2).toNat))), .int (J (0 + ((ck (3 * 0 + (dgt k 0).toNat)) + 0)))]) ⟨hx, hb, hml, hown, hts⟩ (c_Pa_turnedBefore l D cI cZ cJ k 2 (dgt k 2) (by first | assumption | omega) (by first | assumption | omega) (by first | assumption | omega)) (va_cwS 3 hts (g_S mw_389 mw_390 mw_31 mw_391) rfl rfl rfl (by decide +kernel) ⟨Nat.le_of_ble_eq_true rfl, Nat.le_of_ble_eq_true rfl⟩) (pre_RS hP hK [] rfl) rfl rfl hl.1 rfl (lv_room (Nat.le_of_ble_eq_true rfl)) d_Pa_totalOf_71 ⟨Nat.le_of_ble_eq_true rfl, Nat.le_of_ble_eq_true rfl⟩) ?_
                      refine lv_aload_n hx hb d_Pa_totalOf_74 rfl (lv_at hl 5 rfl) ?_
                      refine va_get (D := D) (ci := 4) (v := .ref wo) (C := R_Pa) (T := T_Pa) (N := 4) hx hb hts i_Pa hown hK hP 0 rfl rfl 0 (by decide) (hts _ mw_144) (fun _ h9 => h9) rfl d_Pa_totalOf_75 ?_
                      refine Ri_call (va_runV (As := []) (rest := [.int (J (tbf k 2 (dgt k 2))), .int (J (ck (3 * 2 + (dgt k 2).toNat))), .int (J (0 + ((ck (3 * 0 + (dgt k 0).toNat)) + 0)))]) ⟨hx, hb, hml, hown, hts⟩ (c_We_turned l D cI cZ cJ wo wa wt ) (cwV 0 hts (g_V mw_392 mw_393 mw_394 mw_28 mw_395) rfl rfl rfl (by decide +kernel) ⟨Nat.le_of_ble_eq_true rfl, Nat.le_of_ble_eq_true rfl⟩) (pre_RV hP hK [1, 2] rfl 5 0 rfl rfl) rfl rfl hl.1 rfl (lv_room (Nat.le_of_ble_eq_true rfl)) d_Pa_totalOf_78 ⟨Nat.le_of_ble_eq_true rfl, Nat.le_of_ble_eq_true rfl⟩) ?_
                      refine w_imul hx hb d_Pa_totalOf_81 (wt 5 * (trn (dgt k 0) (dgt k 2) + trn (dgt k 1) (dgt k 2))) (by rw [tbf_2 k (by omega), Int.mul_comm]) ?_
                      refine w_iadd hx hb d_Pa_totalOf_82 ((ck (3 * 2 + (dgt k 2).toNat)) + (wt 5 * (trn (dgt k 0) (dgt k 2) + trn (dgt k 1) (dgt k 2)))) (rfl) ?_
                      refine w_iadd hx hb d_Pa_totalOf_83 ((0 + ((ck (3 * 0 + (dgt k 0).toNat)) + 0)) + ((ck (3 * 2 + (dgt k 2).toNat)) + (wt 5 * (trn (dgt k 0) (dgt k 2) + trn (dgt k 1) (dgt k 2))))) (rfl) ?_
                      refine lv_istore_n (lv' := [(2, .int (J ((0 + ((ck (3 * 0 + (dgt k 0).toNat)) + 0)) + ((ck (3 * 2 + (dgt k 2).toNat)) + (wt 5 * (trn (dgt k 0) (dgt k 2) + trn (dgt k 1) (dgt k 2))))))), (6, .int (J (ck (3 * 2 + (dgt k 2).toNat)))), (5, .int (J (dgt k 2))), (4, .int (J 2)), (3, .int (J (wc - 2))), (0, .ref o), (1, .int (J ((k : Nat) : Int)))]) hx hb d_Pa_totalOf_84 rfl hl (by decide) rfl (fun ls hl => ?_)
                      refine w_iinc (k := 4) (lv' := [(3, .int (J (wc - 2 - 2))), (2, .int (J ((0 + ((ck (3 * 0 + (dgt k 0).toNat)) + 0)) + ((ck (3 * 2 + (dgt k 2).toNat)) + (wt 5 * (trn (dgt k 0) (dgt k 2) + trn (dgt k 1) (dgt k 2))))))), (6, .int (J (ck (3 * 2 + (dgt k 2).toNat)))), (5, .int (J (dgt k 2))), (4, .int (J 2)), (0, .ref o), (1, .int (J ((k : Nat) : Int)))]) hx hb d_Pa_totalOf_85 hl rfl (wc - 2 - 2) (by omega) (by decide) rfl (fun ls hl => ?_)
                      refine w_iinc (k := 4) (lv' := [(4, .int (J 3)), (3, .int (J (wc - 2 - 2))), (2, .int (J ((0 + ((ck (3 * 0 + (dgt k 0).toNat)) + 0)) + ((ck (3 * 2 + (dgt k 2).toNat)) + (wt 5 * (trn (dgt k 0) (dgt k 2) + trn (dgt k 1) (dgt k 2))))))), (6, .int (J (ck (3 * 2 + (dgt k 2).toNat)))), (5, .int (J (dgt k 2))), (0, .ref o), (1, .int (J ((k : Nat) : Int)))]) hx hb d_Pa_totalOf_88 hl rfl 3 (by omega) (by decide) rfl (fun ls hl => ?_)
                      refine lv_goto (tgt := 10) hx hb d_Pa_totalOf_91 (by decide) ?_
                      refine lv_iload hx hb d_Pa_totalOf_10 (lv_at hl 0 rfl) ?_
                      refine lv_iconst (v := J (3)) hx hb d_Pa_totalOf_12 rfl ?_
                      refine w_icmp_ge (tgt := 94) hx hb d_Pa_totalOf_13 (by decide) (by omega) (by omega) (fun c_13_4 => ?_) (fun c_13_4 => ?_)
                      · refine lv_iload_n hx hb d_Pa_totalOf_94 rfl (lv_at hl 2 rfl) ?_
                        refine lv_iload_n hx hb d_Pa_totalOf_95 rfl (lv_at hl 1 rfl) ?_
                        refine lv_aload_n hx hb d_Pa_totalOf_96 rfl (lv_at hl 5 rfl) ?_
                        refine va_get (D := D) (ci := 4) (v := .ref wo) (C := R_Pa) (T := T_Pa) (N := 4) hx hb hts i_Pa hown hK hP 0 rfl rfl 0 (by decide) (hts _ mw_144) (fun _ h9 => h9) rfl d_Pa_totalOf_97 ?_
                        refine Ri_call (va_runV (As := []) (rest := [.int (J (wc - 2 - 2)), .int (J ((0 + ((ck (3 * 0 + (dgt k 0).toNat)) + 0)) + ((ck (3 * 2 + (dgt k 2).toNat)) + (wt 5 * (trn (dgt k 0) (dgt k 2) + trn (dgt k 1) (dgt k 2))))))]) ⟨hx, hb, hml, hown, hts⟩ (c_We_missing l D cI cZ cJ wo wa wt ) (cwV 0 hts (g_V mw_396 mw_397 mw_398 mw_28 mw_399) rfl rfl rfl (by decide +kernel) ⟨Nat.le_of_ble_eq_true rfl, Nat.le_of_ble_eq_true rfl⟩) (pre_RV hP hK [1, 2] rfl 5 0 rfl rfl) rfl rfl hl.1 rfl (lv_room (Nat.le_of_ble_eq_true rfl)) d_Pa_totalOf_100 ⟨Nat.le_of_ble_eq_true rfl, Nat.le_of_ble_eq_true rfl⟩) ?_
                        refine w_imul hx hb d_Pa_totalOf_103 (wt 4 * (wc - 4)) (by rw [Int.mul_comm, show wc - 2 - 2 = wc - 4 by omega]) ?_
                        refine w_iadd hx hb d_Pa_totalOf_104 (((0 + ((ck (3 * 0 + (dgt k 0).toNat)) + 0)) + ((ck (3 * 2 + (dgt k 2).toNat)) + (wt 5 * (trn (dgt k 0) (dgt k 2) + trn (dgt k 1) (dgt k 2))))) + (wt 4 * (wc - 4))) (rfl) ?_
                        have eo : wc - 2 * (one (dgt k 0) + one (dgt k 1) + one (dgt k 2)) = wc - 4 := by rw [one_p (d := dgt k 0) (by omega), one_n (d := dgt k 1) (by omega), one_p (d := dgt k 2) (by omega)]; omega
                        have et : tcl wt ck wc (dgt k 0) (dgt k 1) (dgt k 2) = top wt ck wc (dgt k 0) (dgt k 1) (dgt k 2) := if_pos (by unfold okc; omega)
                        rw [top, eo, csv_p (w := 0) (d := dgt k 0) (by omega), csv_n (w := 1) (d := dgt k 1) (by omega), csv_p (w := 2) (d := dgt k 2) (by omega)] at et
                        exact Ri_ret hx hb hr hlocks hQ hH d_Pa_totalOf_105 nb_i (by rw [et]; simp only [trn_2 (a := dgt k 0) (b := dgt k 1) (show dgt k 1 < 0 by omega), trn_1 (a := dgt k 1) (b := dgt k 2) (show dgt k 1 < 0 by omega), Int.mul_add, Int.add_zero, Int.zero_add, Int.mul_zero] <;> omega)
                      · exfalso; omega
                    · have c_57_2 := b2_n0.mp c_57_2
                      refine lv_ldc (v := J (1000000)) hx hb hown (hts _ mw_378) d_Pa_totalOf_60 ?_
                      exact Ri_ret hx hb hr hlocks hQ hH d_Pa_totalOf_62 nb_i ((show tcl wt ck wc (dgt k 0) (dgt k 1) (dgt k 2) = 1000000 from if_neg (by unfold okc; omega)).symm)
            · refine lv_aload_n hx hb d_Pa_totalOf_29 rfl (lv_at hl 5 rfl) ?_
              refine va_get (D := D) (ci := 4) (v := .ref ac) (C := R_Pa) (T := T_Pa) (N := 4) hx hb hts i_Pa hown hK hP 0 rfl rfl 1 (by decide) (hts _ mw_145) (fun _ h9 => h9) rfl d_Pa_totalOf_30 ?_
              refine lv_iload hx hb d_Pa_totalOf_33 (lv_at hl 1 rfl) ?_
              refine lv_iconst (v := J (3)) hx hb d_Pa_totalOf_35 rfl ?_
              refine w_imul hx hb d_Pa_totalOf_36 3 (by decide) ?_
              refine lv_iload hx hb d_Pa_totalOf_37 (lv_at hl 0 rfl) ?_
              refine w_iadd hx hb d_Pa_totalOf_39 ((3 * 1 + (dgt k 1).toNat : Nat) : Int) (by omega) ?_
              refine w_iald hx hb hK hP 3 0 rfl rfl (3 * 1 + (dgt k 1).toNat) (by omega) (by omega) (by omega) d_Pa_totalOf_40 ?_
              refine lv_istore (lv' := [(6, .int (J (ck (3 * 1 + (dgt k 1).toNat)))), (5, .int (J (dgt k 1))), (4, .int (J 1)), (3, .int (J (wc - 2))), (2, .int (J (0 + ((ck (3 * 0 + (dgt k 0).toNat)) + 0)))), (0, .ref o), (1, .int (J ((k : Nat) : Int)))]) hx hb d_Pa_totalOf_41 hl (by decide) rfl (fun ls hl => ?_)
              have k1 := hck ((3 * 1 + (dgt k 1).toNat))
              refine lv_iload hx hb d_Pa_totalOf_43 (lv_at hl 0 rfl) ?_
              refine lv_iconst (v := J (-1)) hx hb d_Pa_totalOf_45 rfl ?_
              refine w_icmp_eq (tgt := 60) hx hb d_Pa_totalOf_46 (by decide) (by omega) (by omega) (fun c_46_2 => ?_) (fun c_46_2 => ?_)
              · refine lv_ldc (v := J (1000000)) hx hb hown (hts _ mw_378) d_Pa_totalOf_60 ?_
                exact Ri_ret hx hb hr hlocks hQ hH d_Pa_totalOf_62 nb_i ((show tcl wt ck wc (dgt k 0) (dgt k 1) (dgt k 2) = 1000000 from if_neg (by unfold okc; omega)).symm)
              · refine lv_iload_n hx hb d_Pa_totalOf_49 rfl (lv_at hl 6 rfl) ?_
                refine lv_iload hx hb d_Pa_totalOf_50 (lv_at hl 2 rfl) ?_
                refine lv_iload hx hb d_Pa_totalOf_52 (lv_at hl 1 rfl) ?_
                refine Ri_call (va_runS (As := [.int (J ((k : Nat) : Int)), .int (J 1), .int (J (dgt k 1))]) (rest := []) ⟨hx, hb, hml, hown, hts⟩ (c_Pa_isTaken l D cI cZ cJ k 1 (dgt k 1) (by first | assumption | omega) (by first | assumption | omega) (by first | assumption | omega)) (va_cwS 3 hts (g_S mw_386 mw_387 mw_31 mw_388) rfl rfl rfl (by decide +kernel) ⟨Nat.le_of_ble_eq_true rfl, Nat.le_of_ble_eq_true rfl⟩) (pre_RS hP hK [] rfl) rfl rfl hl.1 rfl (lv_room (Nat.le_of_ble_eq_true rfl)) d_Pa_totalOf_54 ⟨Nat.le_of_ble_eq_true rfl, Nat.le_of_ble_eq_true rfl⟩) ?_
                refine w_if_eq (tgt := 63) hx hb d_Pa_totalOf_57 (by decide) (rg_b2) (fun c_57_2 => ?_) (fun c_57_2 => ?_)
                · have c_57_2 := b2_0.mp c_57_2
                  refine lv_iload_n hx hb d_Pa_totalOf_63 rfl (lv_at hl 4 rfl) ?_
                  refine lv_iload hx hb d_Pa_totalOf_64 (lv_at hl 0 rfl) ?_
                  refine lv_iload_n hx hb d_Pa_totalOf_66 rfl (lv_at hl 6 rfl) ?_
                  refine lv_iload hx hb d_Pa_totalOf_67 (lv_at hl 2 rfl) ?_
                  refine lv_iload hx hb d_Pa_totalOf_69 (lv_at hl 1 rfl) ?_
                  refine Ri_call (va_runS (As := [.int (J ((k : Nat) : Int)), .int (J 1), .int (J (dgt k 1))]) (rest := [.int (J (ck (3 * 1 + (dgt k 1).toNat))), .int (J (0 + ((ck (3 * 0 + (dgt k 0).toNat)) + 0)))]) ⟨hx, hb, hml, hown, hts⟩ (c_Pa_turnedBefore l D cI cZ cJ k 1 (dgt k 1) (by first | assumption | omega) (by first | assumption | omega) (by first | assumption | omega)) (va_cwS 3 hts (g_S mw_389 mw_390 mw_31 mw_391) rfl rfl rfl (by decide +kernel) ⟨Nat.le_of_ble_eq_true rfl, Nat.le_of_ble_eq_true rfl⟩) (pre_RS hP hK [] rfl) rfl rfl hl.1 rfl (lv_room (Nat.le_of_ble_eq_true rfl)) d_Pa_totalOf_71 ⟨Nat.le_of_ble_eq_true rfl, Nat.le_of_ble_eq_true rfl⟩) ?_
                  refine lv_aload_n hx hb d_Pa_totalOf_74 rfl (lv_at hl 5 rfl) ?_
                  refine va_get (D := D) (ci := 4) (v := .ref wo) (C := R_Pa) (T := T_Pa) (N := 4) hx hb hts i_Pa hown hK hP 0 rfl rfl 0 (by decide) (hts _ mw_144) (fun _ h9 => h9) rfl d_Pa_totalOf_75 ?_
                  refine Ri_call (va_runV (As := []) (rest := [.int (J (tbf k 1 (dgt k 1))), .int (J (ck (3 * 1 + (dgt k 1).toNat))), .int (J (0 + ((ck (3 * 0 + (dgt k 0).toNat)) + 0)))]) ⟨hx, hb, hml, hown, hts⟩ (c_We_turned l D cI cZ cJ wo wa wt ) (cwV 0 hts (g_V mw_392 mw_393 mw_394 mw_28 mw_395) rfl rfl rfl (by decide +kernel) ⟨Nat.le_of_ble_eq_true rfl, Nat.le_of_ble_eq_true rfl⟩) (pre_RV hP hK [1, 2] rfl 5 0 rfl rfl) rfl rfl hl.1 rfl (lv_room (Nat.le_of_ble_eq_true rfl)) d_Pa_totalOf_78 ⟨Nat.le_of_ble_eq_true rfl, Nat.le_of_ble_eq_true rfl⟩) ?_
                  refine w_imul hx hb d_Pa_totalOf_81 (wt 5 * trn (dgt k 0) (dgt k 1)) (by rw [tbf_1 k (by omega), Int.mul_comm]) ?_
                  refine w_iadd hx hb d_Pa_totalOf_82 ((ck (3 * 1 + (dgt k 1).toNat)) + (wt 5 * trn (dgt k 0) (dgt k 1))) (rfl) ?_
                  refine w_iadd hx hb d_Pa_totalOf_83 ((0 + ((ck (3 * 0 + (dgt k 0).toNat)) + 0)) + ((ck (3 * 1 + (dgt k 1).toNat)) + (wt 5 * trn (dgt k 0) (dgt k 1)))) (rfl) ?_
                  refine lv_istore_n (lv' := [(2, .int (J ((0 + ((ck (3 * 0 + (dgt k 0).toNat)) + 0)) + ((ck (3 * 1 + (dgt k 1).toNat)) + (wt 5 * trn (dgt k 0) (dgt k 1)))))), (6, .int (J (ck (3 * 1 + (dgt k 1).toNat)))), (5, .int (J (dgt k 1))), (4, .int (J 1)), (3, .int (J (wc - 2))), (0, .ref o), (1, .int (J ((k : Nat) : Int)))]) hx hb d_Pa_totalOf_84 rfl hl (by decide) rfl (fun ls hl => ?_)
                  refine w_iinc (k := 4) (lv' := [(3, .int (J (wc - 2 - 2))), (2, .int (J ((0 + ((ck (3 * 0 + (dgt k 0).toNat)) + 0)) + ((ck (3 * 1 + (dgt k 1).toNat)) + (wt 5 * trn (dgt k 0) (dgt k 1)))))), (6, .int (J (ck (3 * 1 + (dgt k 1).toNat)))), (5, .int (J (dgt k 1))), (4, .int (J 1)), (0, .ref o), (1, .int (J ((k : Nat) : Int)))]) hx hb d_Pa_totalOf_85 hl rfl (wc - 2 - 2) (by omega) (by decide) rfl (fun ls hl => ?_)
                  refine w_iinc (k := 4) (lv' := [(4, .int (J 2)), (3, .int (J (wc - 2 - 2))), (2, .int (J ((0 + ((ck (3 * 0 + (dgt k 0).toNat)) + 0)) + ((ck (3 * 1 + (dgt k 1).toNat)) + (wt 5 * trn (dgt k 0) (dgt k 1)))))), (6, .int (J (ck (3 * 1 + (dgt k 1).toNat)))), (5, .int (J (dgt k 1))), (0, .ref o), (1, .int (J ((k : Nat) : Int)))]) hx hb d_Pa_totalOf_88 hl rfl 2 (by omega) (by decide) rfl (fun ls hl => ?_)
                  refine lv_goto (tgt := 10) hx hb d_Pa_totalOf_91 (by decide) ?_
                  refine lv_iload hx hb d_Pa_totalOf_10 (lv_at hl 0 rfl) ?_
                  refine lv_iconst (v := J (3)) hx hb d_Pa_totalOf_12 rfl ?_
                  refine w_icmp_ge (tgt := 94) hx hb d_Pa_totalOf_13 (by decide) (by omega) (by omega) (fun c_13_3 => ?_) (fun c_13_3 => ?_)
                  · exfalso; omega
                  · refine lv_iload_n hx hb d_Pa_totalOf_16 rfl (lv_at hl 6 rfl) ?_
                    refine lv_iload hx hb d_Pa_totalOf_17 (lv_at hl 0 rfl) ?_
                    refine Ri_call (va_runS (As := [.int (J ((k : Nat) : Int)), .int (J 2)]) (rest := []) ⟨hx, hb, hml, hown, hts⟩ (c_Pa_partner l D cI cZ cJ k 2 (by first | assumption | omega) (by first | assumption | omega)) (va_cwS 2 hts (g_S mw_383 mw_384 mw_31 mw_385) rfl rfl rfl (by decide +kernel) ⟨Nat.le_of_ble_eq_true rfl, Nat.le_of_ble_eq_true rfl⟩) (pre_RS hP hK [] rfl) rfl rfl hl.1 rfl (lv_room (Nat.le_of_ble_eq_true rfl)) d_Pa_totalOf_19 ⟨Nat.le_of_ble_eq_true rfl, Nat.le_of_ble_eq_true rfl⟩) ?_
                    refine lv_istore (lv' := [(5, .int (J (dgt k 2))), (4, .int (J 2)), (3, .int (J (wc - 2 - 2))), (2, .int (J ((0 + ((ck (3 * 0 + (dgt k 0).toNat)) + 0)) + ((ck (3 * 1 + (dgt k 1).toNat)) + (wt 5 * trn (dgt k 0) (dgt k 1)))))), (6, .int (J (ck (3 * 1 + (dgt k 1).toNat)))), (0, .ref o), (1, .int (J ((k : Nat) : Int)))]) hx hb d_Pa_totalOf_22 hl (by decide) rfl (fun ls hl => ?_)
                    refine lv_iload hx hb d_Pa_totalOf_24 (lv_at hl 0 rfl) ?_
                    refine w_if_lt (tgt := 88) hx hb d_Pa_totalOf_26 (by decide) (by omega) (fun c_26_3 => ?_) (fun c_26_3 => ?_)
                    · refine w_iinc (k := 1) (lv' := [(4, .int (J 3)), (5, .int (J (dgt k 2))), (3, .int (J (wc - 2 - 2))), (2, .int (J ((0 + ((ck (3 * 0 + (dgt k 0).toNat)) + 0)) + ((ck (3 * 1 + (dgt k 1).toNat)) + (wt 5 * trn (dgt k 0) (dgt k 1)))))), (6, .int (J (ck (3 * 1 + (dgt k 1).toNat)))), (0, .ref o), (1, .int (J ((k : Nat) : Int)))]) hx hb d_Pa_totalOf_88 hl rfl 3 (by omega) (by decide) rfl (fun ls hl => ?_)
                      refine lv_goto (tgt := 10) hx hb d_Pa_totalOf_91 (by decide) ?_
                      refine lv_iload hx hb d_Pa_totalOf_10 (lv_at hl 0 rfl) ?_
                      refine lv_iconst (v := J (3)) hx hb d_Pa_totalOf_12 rfl ?_
                      refine w_icmp_ge (tgt := 94) hx hb d_Pa_totalOf_13 (by decide) (by omega) (by omega) (fun c_13_4 => ?_) (fun c_13_4 => ?_)
                      · refine lv_iload_n hx hb d_Pa_totalOf_94 rfl (lv_at hl 3 rfl) ?_
                        refine lv_iload_n hx hb d_Pa_totalOf_95 rfl (lv_at hl 2 rfl) ?_
                        refine lv_aload_n hx hb d_Pa_totalOf_96 rfl (lv_at hl 5 rfl) ?_
                        refine va_get (D := D) (ci := 4) (v := .ref wo) (C := R_Pa) (T := T_Pa) (N := 4) hx hb hts i_Pa hown hK hP 0 rfl rfl 0 (by decide) (hts _ mw_144) (fun _ h9 => h9) rfl d_Pa_totalOf_97 ?_
                        refine Ri_call (va_runV (As := []) (rest := [.int (J (wc - 2 - 2)), .int (J ((0 + ((ck (3 * 0 + (dgt k 0).toNat)) + 0)) + ((ck (3 * 1 + (dgt k 1).toNat)) + (wt 5 * trn (dgt k 0) (dgt k 1)))))]) ⟨hx, hb, hml, hown, hts⟩ (c_We_missing l D cI cZ cJ wo wa wt ) (cwV 0 hts (g_V mw_396 mw_397 mw_398 mw_28 mw_399) rfl rfl rfl (by decide +kernel) ⟨Nat.le_of_ble_eq_true rfl, Nat.le_of_ble_eq_true rfl⟩) (pre_RV hP hK [1, 2] rfl 5 0 rfl rfl) rfl rfl hl.1 rfl (lv_room (Nat.le_of_ble_eq_true rfl)) d_Pa_totalOf_100 ⟨Nat.le_of_ble_eq_true rfl, Nat.le_of_ble_eq_true rfl⟩) ?_
                        refine w_imul hx hb d_Pa_totalOf_103 (wt 4 * (wc - 4)) (by rw [Int.mul_comm, show wc - 2 - 2 = wc - 4 by omega]) ?_
                        refine w_iadd hx hb d_Pa_totalOf_104 (((0 + ((ck (3 * 0 + (dgt k 0).toNat)) + 0)) + ((ck (3 * 1 + (dgt k 1).toNat)) + (wt 5 * trn (dgt k 0) (dgt k 1)))) + (wt 4 * (wc - 4))) (rfl) ?_
                        have eo : wc - 2 * (one (dgt k 0) + one (dgt k 1) + one (dgt k 2)) = wc - 4 := by rw [one_p (d := dgt k 0) (by omega), one_p (d := dgt k 1) (by omega), one_n (d := dgt k 2) (by omega)]; omega
                        have et : tcl wt ck wc (dgt k 0) (dgt k 1) (dgt k 2) = top wt ck wc (dgt k 0) (dgt k 1) (dgt k 2) := if_pos (by unfold okc; omega)
                        rw [top, eo, csv_p (w := 0) (d := dgt k 0) (by omega), csv_p (w := 1) (d := dgt k 1) (by omega), csv_n (w := 2) (d := dgt k 2) (by omega)] at et
                        exact Ri_ret hx hb hr hlocks hQ hH d_Pa_totalOf_105 nb_i (by rw [et]; simp only [trn_2 (a := dgt k 0) (b := dgt k 2) (show dgt k 2 < 0 by omega), trn_2 (a := dgt k 1) (b := dgt k 2) (show dgt k 2 < 0 by omega), Int.mul_add, Int.add_zero, Int.zero_add, Int.mul_zero] <;> omega)
                      · exfalso; omega
                    · refine lv_aload_n hx hb d_Pa_totalOf_29 rfl (lv_at hl 5 rfl) ?_
                      refine va_get (D := D) (ci := 4) (v := .ref ac) (C := R_Pa) (T := T_Pa) (N := 4) hx hb hts i_Pa hown hK hP 0 rfl rfl 1 (by decide) (hts _ mw_145) (fun _ h9 => h9) rfl d_Pa_totalOf_30 ?_
                      refine lv_iload hx hb d_Pa_totalOf_33 (lv_at hl 1 rfl) ?_
                      refine lv_iconst (v := J (3)) hx hb d_Pa_totalOf_35 rfl ?_
                      refine w_imul hx hb d_Pa_totalOf_36 6 (by decide) ?_
                      refine lv_iload hx hb d_Pa_totalOf_37 (lv_at hl 0 rfl) ?_
                      refine w_iadd hx hb d_Pa_totalOf_39 ((3 * 2 + (dgt k 2).toNat : Nat) : Int) (by omega) ?_
                      refine w_iald hx hb hK hP 3 0 rfl rfl (3 * 2 + (dgt k 2).toNat) (by omega) (by omega) (by omega) d_Pa_totalOf_40 ?_
                      refine lv_istore (lv' := [(6, .int (J (ck (3 * 2 + (dgt k 2).toNat)))), (5, .int (J (dgt k 2))), (4, .int (J 2)), (3, .int (J (wc - 2 - 2))), (2, .int (J ((0 + ((ck (3 * 0 + (dgt k 0).toNat)) + 0)) + ((ck (3 * 1 + (dgt k 1).toNat)) + (wt 5 * trn (dgt k 0) (dgt k 1)))))), (0, .ref o), (1, .int (J ((k : Nat) : Int)))]) hx hb d_Pa_totalOf_41 hl (by decide) rfl (fun ls hl => ?_)
                      have k2 := hck ((3 * 2 + (dgt k 2).toNat))
                      refine lv_iload hx hb d_Pa_totalOf_43 (lv_at hl 0 rfl) ?_
                      refine lv_iconst (v := J (-1)) hx hb d_Pa_totalOf_45 rfl ?_
                      refine w_icmp_eq (tgt := 60) hx hb d_Pa_totalOf_46 (by decide) (by omega) (by omega) (fun c_46_3 => ?_) (fun c_46_3 => ?_)
                      · refine lv_ldc (v := J (1000000)) hx hb hown (hts _ mw_378) d_Pa_totalOf_60 ?_
                        exact Ri_ret hx hb hr hlocks hQ hH d_Pa_totalOf_62 nb_i ((show tcl wt ck wc (dgt k 0) (dgt k 1) (dgt k 2) = 1000000 from if_neg (by unfold okc; omega)).symm)
                      · refine lv_iload_n hx hb d_Pa_totalOf_49 rfl (lv_at hl 6 rfl) ?_
                        refine lv_iload hx hb d_Pa_totalOf_50 (lv_at hl 2 rfl) ?_
                        refine lv_iload hx hb d_Pa_totalOf_52 (lv_at hl 1 rfl) ?_
                        refine Ri_call (va_runS (As := [.int (J ((k : Nat) : Int)), .int (J 2), .int (J (dgt k 2))]) (rest := []) ⟨hx, hb, hml, hown, hts⟩ (c_Pa_isTaken l D cI cZ cJ k 2 (dgt k 2) (by first | assumption | omega) (by first | assumption | omega) (by first | assumption | omega)) (va_cwS 3 hts (g_S mw_386 mw_387 mw_31 mw_388) rfl rfl rfl (by decide +kernel) ⟨Nat.le_of_ble_eq_true rfl, Nat.le_of_ble_eq_true rfl⟩) (pre_RS hP hK [] rfl) rfl rfl hl.1 rfl (lv_room (Nat.le_of_ble_eq_true rfl)) d_Pa_totalOf_54 ⟨Nat.le_of_ble_eq_true rfl, Nat.le_of_ble_eq_true rfl⟩) ?_
                        refine w_if_eq (tgt := 63) hx hb d_Pa_totalOf_57 (by decide) (rg_b2) (fun c_57_3 => ?_) (fun c_57_3 => ?_)
                        · have c_57_3 := b2_0.mp c_57_3
                          refine lv_iload_n hx hb d_Pa_totalOf_63 rfl (lv_at hl 4 rfl) ?_
                          refine lv_iload hx hb d_Pa_totalOf_64 (lv_at hl 0 rfl) ?_
                          refine lv_iload_n hx hb d_Pa_totalOf_66 rfl (lv_at hl 6 rfl) ?_
                          refine lv_iload hx hb d_Pa_totalOf_67 (lv_at hl 2 rfl) ?_
                          refine lv_iload hx hb d_Pa_totalOf_69 (lv_at hl 1 rfl) ?_
                          refine Ri_call (va_runS (As := [.int (J ((k : Nat) : Int)), .int (J 2), .int (J (dgt k 2))]) (rest := [.int (J (ck (3 * 2 + (dgt k 2).toNat))), .int (J ((0 + ((ck (3 * 0 + (dgt k 0).toNat)) + 0)) + ((ck (3 * 1 + (dgt k 1).toNat)) + (wt 5 * trn (dgt k 0) (dgt k 1)))))]) ⟨hx, hb, hml, hown, hts⟩ (c_Pa_turnedBefore l D cI cZ cJ k 2 (dgt k 2) (by first | assumption | omega) (by first | assumption | omega) (by first | assumption | omega)) (va_cwS 3 hts (g_S mw_389 mw_390 mw_31 mw_391) rfl rfl rfl (by decide +kernel) ⟨Nat.le_of_ble_eq_true rfl, Nat.le_of_ble_eq_true rfl⟩) (pre_RS hP hK [] rfl) rfl rfl hl.1 rfl (lv_room (Nat.le_of_ble_eq_true rfl)) d_Pa_totalOf_71 ⟨Nat.le_of_ble_eq_true rfl, Nat.le_of_ble_eq_true rfl⟩) ?_
                          refine lv_aload_n hx hb d_Pa_totalOf_74 rfl (lv_at hl 5 rfl) ?_
                          refine va_get (D := D) (ci := 4) (v := .ref wo) (C := R_Pa) (T := T_Pa) (N := 4) hx hb hts i_Pa hown hK hP 0 rfl rfl 0 (by decide) (hts _ mw_144) (fun _ h9 => h9) rfl d_Pa_totalOf_75 ?_
                          refine Ri_call (va_runV (As := []) (rest := [.int (J (tbf k 2 (dgt k 2))), .int (J (ck (3 * 2 + (dgt k 2).toNat))), .int (J ((0 + ((ck (3 * 0 + (dgt k 0).toNat)) + 0)) + ((ck (3 * 1 + (dgt k 1).toNat)) + (wt 5 * trn (dgt k 0) (dgt k 1)))))]) ⟨hx, hb, hml, hown, hts⟩ (c_We_turned l D cI cZ cJ wo wa wt ) (cwV 0 hts (g_V mw_392 mw_393 mw_394 mw_28 mw_395) rfl rfl rfl (by decide +kernel) ⟨Nat.le_of_ble_eq_true rfl, Nat.le_of_ble_eq_true rfl⟩) (pre_RV hP hK [1, 2] rfl 5 0 rfl rfl) rfl rfl hl.1 rfl (lv_room (Nat.le_of_ble_eq_true rfl)) d_Pa_totalOf_78 ⟨Nat.le_of_ble_eq_true rfl, Nat.le_of_ble_eq_true rfl⟩) ?_
                          refine w_imul hx hb d_Pa_totalOf_81 (wt 5 * (trn (dgt k 0) (dgt k 2) + trn (dgt k 1) (dgt k 2))) (by rw [tbf_2 k (by omega), Int.mul_comm]) ?_
                          refine w_iadd hx hb d_Pa_totalOf_82 ((ck (3 * 2 + (dgt k 2).toNat)) + (wt 5 * (trn (dgt k 0) (dgt k 2) + trn (dgt k 1) (dgt k 2)))) (rfl) ?_
                          refine w_iadd hx hb d_Pa_totalOf_83 (((0 + ((ck (3 * 0 + (dgt k 0).toNat)) + 0)) + ((ck (3 * 1 + (dgt k 1).toNat)) + (wt 5 * trn (dgt k 0) (dgt k 1)))) + ((ck (3 * 2 + (dgt k 2).toNat)) + (wt 5 * (trn (dgt k 0) (dgt k 2) + trn (dgt k 1) (dgt k 2))))) (rfl) ?_
                          refine lv_istore_n (lv' := [(2, .int (J (((0 + ((ck (3 * 0 + (dgt k 0).toNat)) + 0)) + ((ck (3 * 1 + (dgt k 1).toNat)) + (wt 5 * trn (dgt k 0) (dgt k 1)))) + ((ck (3 * 2 + (dgt k 2).toNat)) + (wt 5 * (trn (dgt k 0) (dgt k 2) + trn (dgt k 1) (dgt k 2))))))), (6, .int (J (ck (3 * 2 + (dgt k 2).toNat)))), (5, .int (J (dgt k 2))), (4, .int (J 2)), (3, .int (J (wc - 2 - 2))), (0, .ref o), (1, .int (J ((k : Nat) : Int)))]) hx hb d_Pa_totalOf_84 rfl hl (by decide) rfl (fun ls hl => ?_)
                          refine w_iinc (k := 4) (lv' := [(3, .int (J (wc - 2 - 2 - 2))), (2, .int (J (((0 + ((ck (3 * 0 + (dgt k 0).toNat)) + 0)) + ((ck (3 * 1 + (dgt k 1).toNat)) + (wt 5 * trn (dgt k 0) (dgt k 1)))) + ((ck (3 * 2 + (dgt k 2).toNat)) + (wt 5 * (trn (dgt k 0) (dgt k 2) + trn (dgt k 1) (dgt k 2))))))), (6, .int (J (ck (3 * 2 + (dgt k 2).toNat)))), (5, .int (J (dgt k 2))), (4, .int (J 2)), (0, .ref o), (1, .int (J ((k : Nat) : Int)))]) hx hb d_Pa_totalOf_85 hl rfl (wc - 2 - 2 - 2) (by omega) (by decide) rfl (fun ls hl => ?_)
                          refine w_iinc (k := 4) (lv' := [(4, .int (J 3)), (3, .int (J (wc - 2 - 2 - 2))), (2, .int (J (((0 + ((ck (3 * 0 + (dgt k 0).toNat)) + 0)) + ((ck (3 * 1 + (dgt k 1).toNat)) + (wt 5 * trn (dgt k 0) (dgt k 1)))) + ((ck (3 * 2 + (dgt k 2).toNat)) + (wt 5 * (trn (dgt k 0) (dgt k 2) + trn (dgt k 1) (dgt k 2))))))), (6, .int (J (ck (3 * 2 + (dgt k 2).toNat)))), (5, .int (J (dgt k 2))), (0, .ref o), (1, .int (J ((k : Nat) : Int)))]) hx hb d_Pa_totalOf_88 hl rfl 3 (by omega) (by decide) rfl (fun ls hl => ?_)
                          refine lv_goto (tgt := 10) hx hb d_Pa_totalOf_91 (by decide) ?_
                          refine lv_iload hx hb d_Pa_totalOf_10 (lv_at hl 0 rfl) ?_
                          refine lv_iconst (v := J (3)) hx hb d_Pa_totalOf_12 rfl ?_
                          refine w_icmp_ge (tgt := 94) hx hb d_Pa_totalOf_13 (by decide) (by omega) (by omega) (fun c_13_4 => ?_) (fun c_13_4 => ?_)
                          · refine lv_iload_n hx hb d_Pa_totalOf_94 rfl (lv_at hl 2 rfl) ?_
                            refine lv_iload_n hx hb d_Pa_totalOf_95 rfl (lv_at hl 1 rfl) ?_
                            refine lv_aload_n hx hb d_Pa_totalOf_96 rfl (lv_at hl 5 rfl) ?_
                            refine va_get (D := D) (ci := 4) (v := .ref wo) (C := R_Pa) (T := T_Pa) (N := 4) hx hb hts i_Pa hown hK hP 0 rfl rfl 0 (by decide) (hts _ mw_144) (fun _ h9 => h9) rfl d_Pa_totalOf_97 ?_
                            refine Ri_call (va_runV (As := []) (rest := [.int (J (wc - 2 - 2 - 2)), .int (J (((0 + ((ck (3 * 0 + (dgt k 0).toNat)) + 0)) + ((ck (3 * 1 + (dgt k 1).toNat)) + (wt 5 * trn (dgt k 0) (dgt k 1)))) + ((ck (3 * 2 + (dgt k 2).toNat)) + (wt 5 * (trn (dgt k 0) (dgt k 2) + trn (dgt k 1) (dgt k 2))))))]) ⟨hx, hb, hml, hown, hts⟩ (c_We_missing l D cI cZ cJ wo wa wt ) (cwV 0 hts (g_V mw_396 mw_397 mw_398 mw_28 mw_399) rfl rfl rfl (by decide +kernel) ⟨Nat.le_of_ble_eq_true rfl, Nat.le_of_ble_eq_true rfl⟩) (pre_RV hP hK [1, 2] rfl 5 0 rfl rfl) rfl rfl hl.1 rfl (lv_room (Nat.le_of_ble_eq_true rfl)) d_Pa_totalOf_100 ⟨Nat.le_of_ble_eq_true rfl, Nat.le_of_ble_eq_true rfl⟩) ?_
                            refine w_imul hx hb d_Pa_totalOf_103 (wt 4 * (wc - 6)) (by rw [Int.mul_comm, show wc - 2 - 2 - 2 = wc - 6 by omega]) ?_
                            refine w_iadd hx hb d_Pa_totalOf_104 ((((0 + ((ck (3 * 0 + (dgt k 0).toNat)) + 0)) + ((ck (3 * 1 + (dgt k 1).toNat)) + (wt 5 * trn (dgt k 0) (dgt k 1)))) + ((ck (3 * 2 + (dgt k 2).toNat)) + (wt 5 * (trn (dgt k 0) (dgt k 2) + trn (dgt k 1) (dgt k 2))))) + (wt 4 * (wc - 6))) (rfl) ?_
                            have eo : wc - 2 * (one (dgt k 0) + one (dgt k 1) + one (dgt k 2)) = wc - 6 := by rw [one_p (d := dgt k 0) (by omega), one_p (d := dgt k 1) (by omega), one_p (d := dgt k 2) (by omega)]; omega
                            have et : tcl wt ck wc (dgt k 0) (dgt k 1) (dgt k 2) = top wt ck wc (dgt k 0) (dgt k 1) (dgt k 2) := if_pos (by unfold okc; omega)
                            rw [top, eo, csv_p (w := 0) (d := dgt k 0) (by omega), csv_p (w := 1) (d := dgt k 1) (by omega), csv_p (w := 2) (d := dgt k 2) (by omega)] at et
                            exact Ri_ret hx hb hr hlocks hQ hH d_Pa_totalOf_105 nb_i (by rw [et]; simp only [Int.mul_add, Int.add_zero, Int.zero_add, Int.mul_zero] <;> omega)
                          · exfalso; omega
                        · have c_57_3 := b2_n0.mp c_57_3
                          refine lv_ldc (v := J (1000000)) hx hb hown (hts _ mw_378) d_Pa_totalOf_60 ?_
                          exact Ri_ret hx hb hr hlocks hQ hH d_Pa_totalOf_62 nb_i ((show tcl wt ck wc (dgt k 0) (dgt k 1) (dgt k 2) = 1000000 from if_neg (by unfold okc; omega)).symm)
                · have c_57_2 := b2_n0.mp c_57_2
                  refine lv_ldc (v := J (1000000)) hx hb hown (hts _ mw_378) d_Pa_totalOf_60 ?_
                  exact Ri_ret hx hb hr hlocks hQ hH d_Pa_totalOf_62 nb_i ((show tcl wt ck wc (dgt k 0) (dgt k 1) (dgt k 2) = 1000000 from if_neg (by unfold okc; omega)).symm)
        · have c_57 := b2_n0.mp c_57
          refine lv_ldc (v := J (1000000)) hx hb hown (hts _ mw_378) d_Pa_totalOf_60 ?_
          exact Ri_ret hx hb hr hlocks hQ hH d_Pa_totalOf_62 nb_i ((show tcl wt ck wc (dgt k 0) (dgt k 1) (dgt k 2) = 1000000 from if_neg (by unfold okc; omega)).symm)
