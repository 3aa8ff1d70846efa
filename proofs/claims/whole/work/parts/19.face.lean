theorem b2_01 {q : Prop} [Decidable q] : b2 q = 0 ∨ b2 q = 1 := by have := b2_rg (q := q); omega
set_option maxHeartbeats 1000000 in
set_option maxRecDepth 100000 in
theorem c_Nf_entry_bad (l : Launch) (D : va_G) (cI cZ cJ : ClassId) (o : Nat) (bk : Nat) (wA : Nat) (wo : Nat) (m1 : Nat) (m2 : Nat) (pa : Nat) (hi : Nat) (wB : Nat) (q1 : Nat) (q2 : Nat) (q3 : Nat) (q4 : Nat) (n : Nat) (ap : Int) (sw : Int) (z : Int) (hz : rg z) (hn : n ≤ 40) (hno : z < 0 ∨ 1000 ≤ z ∨ n = 40) : Ri l y_Nf_entry w_Nf_entry ({ frames := 1, cells := 0, slots := 0, locals := 20 }) D classes [(cI, .int), (cZ, .boolean), (cJ, .long)] [.ref o, .int (J z)] [(o, .inr (7, [.ref bk, .ref wA, .ref wo, .ref m1, .ref m2, .ref pa, .ref hi, .int (J ap), .int (J sw)])), (bk, .inr (0, [.ref wB, .ref q1, .ref q2, .ref q3, .ref q4, .int (J ((n : Nat) : Int))]))] (-1) := by
  refine Ri_of (cc := b_Nf_entry) (maxL := 2) (by decide) rfl (Nat.le_of_ble_eq_true rfl) ?_
  intro p e s m args below meth c hx hb hr hml hts hown hlocks hP hK Q hQ H hH ls hl
  rw [← hH] at hP
  have hl : lv_has ls 2 [(0, .ref o), (1, .int (J z))] := hl
  refine lv_iload_n hx hb d_Nf_entry_0 rfl (lv_at hl 1 rfl) ?_
  refine Ri_call (va_runS (As := [.int (J z)]) (rest := []) ⟨hx, hb, hml, hown, hts⟩ (c_Nf_isPlace l D cI cZ cJ z (by first | with_reducible assumption | omega)) (va_cwS 1 hts (g_S mw_218 mw_219 mw_25 mw_220) rfl rfl rfl (by decide +kernel) ⟨Nat.le_of_ble_eq_true rfl, Nat.le_of_ble_eq_true rfl⟩) (pre_RS hP hK [] rfl) rfl rfl hl.1 rfl (lv_room (Nat.le_of_ble_eq_true rfl)) d_Nf_entry_1 ⟨Nat.le_of_ble_eq_true rfl, Nat.le_of_ble_eq_true rfl⟩) ?_
  refine w_if_eq (tgt := 17) hx hb d_Nf_entry_4 (by decide) (rg_b2) (fun c_4 => ?_) (fun c_4 => ?_)
  · have c_4 := b2_0.mp c_4
    refine lv_iconst (v := J (-1)) hx hb d_Nf_entry_17 rfl ?_
    exact Ri_ret hx hb hr hlocks hQ hH d_Nf_entry_18 nb_i (by omega)
  · have c_4 := b2_n0.mp c_4
    refine lv_aload_n hx hb d_Nf_entry_7 rfl (lv_at hl 0 rfl) ?_
    refine va_get (D := D) (ci := 7) (v := .ref bk) (C := R_Nf) (T := T_Nf) (N := 9) hx hb hts i_Nf hown hK hP 0 rfl rfl 0 (by decide) (hts _ mw_186) (fun _ h9 => h9) rfl d_Nf_entry_8 ?_
    refine Ri_call (va_runV (As := []) (rest := []) ⟨hx, hb, hml, hown, hts⟩ (c_Bk_isFull l D cI cZ cJ bk wB q1 q2 q3 q4 n (by first | with_reducible assumption | omega)) (cwV 0 hts (g_V mw_221 mw_222 mw_223 mw_26 mw_224) rfl rfl rfl (by decide +kernel) ⟨Nat.le_of_ble_eq_true rfl, Nat.le_of_ble_eq_true rfl⟩) (pre_RV hP hK [1] rfl 0 0 rfl rfl) rfl rfl hl.1 rfl (lv_room (Nat.le_of_ble_eq_true rfl)) d_Nf_entry_11 ⟨Nat.le_of_ble_eq_true rfl, Nat.le_of_ble_eq_true rfl⟩) ?_
    refine w_if_eq (tgt := 19) hx hb d_Nf_entry_14 (by decide) (rg_b2) (fun c_14 => ?_) (fun c_14 => ?_)
    · have c_14 := b2_0.mp c_14
      exfalso; omega
    · have c_14 := b2_n0.mp c_14
      refine lv_iconst (v := J (-1)) hx hb d_Nf_entry_17 rfl ?_
      exact Ri_ret hx hb hr hlocks hQ hH d_Nf_entry_18 nb_i (by omega)
set_option maxHeartbeats 1000000 in
set_option maxRecDepth 100000 in
theorem c_Nf_entry (l : Launch) (D : va_G) (cI cZ cJ : ClassId) (sz : Nat) (o : Nat) (bk : Nat) (wA : Nat) (wo : Nat) (m1 : Nat) (m2 : Nat) (pa : Nat) (hi : Nat) (wB : Nat) (q1 : Nat) (q2 : Nat) (q3 : Nat) (q4 : Nat) (n : Nat) (ap : Int) (sw : Int) (pl : Nat → Int) (dc : Nat → Int) (z : Int) (hok : 0 ≤ z ∧ z < 1000 ∧ n < 40) : Mi l y_Nf_entry w_Nf_entry ({ frames := 1, cells := 0, slots := 0, locals := 22 }) false D classes [(cI, .int), (cZ, .boolean), (cJ, .long)] sz [.ref o, .int (J z)] [(o, .inr (7, [.ref bk, .ref wA, .ref wo, .ref m1, .ref m2, .ref pa, .ref hi, .int (J ap), .int (J sw)])), (bk, .inr (0, [.ref wB, .ref q1, .ref q2, .ref q3, .ref q4, .int (J ((n : Nat) : Int))])), (q1, ca cI 40 pl), (q2, ca cI 40 dc)] (((n : Nat) : Int)) (S := Unit) (fun _ => True) (fun u : Unit => [(o, .inr (7, [.ref bk, .ref wA, .ref wo, .ref m1, .ref m2, .ref pa, .ref hi, .int (J ap), .int (J sw)])), (bk, .inr (0, [.ref wB, .ref q1, .ref q2, .ref q3, .ref q4, .int (J ((n + 1 : Nat) : Int))])), (q1, ca cI 40 (iu pl n z)), (q2, ca cI 40 (iu dc n (-1)))]) 0 0 := by
  refine Mi_of (cc := b_Nf_entry) (maxL := 2) (by decide) rfl (Nat.le_of_ble_eq_true rfl) ?_
  intro p e s m args below meth c hx hb hr hml hts hown hlocks A hA hP hK hD hT hS Q hQ H hH ls hl
  subst hH
  have hl : lv_has ls 2 [(0, .ref o), (1, .int (J z))] := hl
  refine lv_iload_n hx hb d_Nf_entry_0 rfl (lv_at hl 1 rfl) ?_
  refine Ri_call (va_runS (As := [.int (J z)]) (rest := []) ⟨hx, hb, hml, hown, hts⟩ (c_Nf_isPlace l D cI cZ cJ z (by first | with_reducible assumption | omega)) (va_cwS 1 hts (g_S mw_218 mw_219 mw_25 mw_220) rfl rfl rfl (by decide +kernel) ⟨Nat.le_of_ble_eq_true rfl, Nat.le_of_ble_eq_true rfl⟩) (pre_RS hP hK [] rfl) rfl rfl hl.1 rfl (lv_room (Nat.le_of_ble_eq_true rfl)) d_Nf_entry_1 ⟨Nat.le_of_ble_eq_true rfl, Nat.le_of_ble_eq_true rfl⟩) ?_
  refine w_if_eq (tgt := 17) hx hb d_Nf_entry_4 (by decide) (rg_b2) (fun c_4 => ?_) (fun c_4 => ?_)
  · have c_4 := b2_0.mp c_4
    exfalso; omega
  · have c_4 := b2_n0.mp c_4
    refine lv_aload_n hx hb d_Nf_entry_7 rfl (lv_at hl 0 rfl) ?_
    refine va_get (D := D) (ci := 7) (v := .ref bk) (C := R_Nf) (T := T_Nf) (N := 9) hx hb hts i_Nf hown hK hP 0 rfl rfl 0 (by decide) (hts _ mw_186) (fun _ h9 => h9) rfl d_Nf_entry_8 ?_
    refine Ri_call (va_runV (As := []) (rest := []) ⟨hx, hb, hml, hown, hts⟩ (c_Bk_isFull l D cI cZ cJ bk wB q1 q2 q3 q4 n (by first | with_reducible assumption | omega)) (cwV 0 hts (g_V mw_221 mw_222 mw_223 mw_26 mw_224) rfl rfl rfl (by decide +kernel) ⟨Nat.le_of_ble_eq_true rfl, Nat.le_of_ble_eq_true rfl⟩) (pre_RV hP hK [1] rfl 0 0 rfl rfl) rfl rfl hl.1 rfl (lv_room (Nat.le_of_ble_eq_true rfl)) d_Nf_entry_11 ⟨Nat.le_of_ble_eq_true rfl, Nat.le_of_ble_eq_true rfl⟩) ?_
    refine w_if_eq (tgt := 19) hx hb d_Nf_entry_14 (by decide) (rg_b2) (fun c_14 => ?_) (fun c_14 => ?_)
    · have c_14 := b2_0.mp c_14
      refine lv_aload_n hx hb d_Nf_entry_19 rfl (lv_at hl 0 rfl) ?_
      refine va_get (D := D) (ci := 7) (v := .ref bk) (C := R_Nf) (T := T_Nf) (N := 9) hx hb hts i_Nf hown hK hP 0 rfl rfl 0 (by decide) (hts _ mw_186) (fun _ h9 => h9) rfl d_Nf_entry_20 ?_
      refine lv_iload_n hx hb d_Nf_entry_23 rfl (lv_at hl 1 rfl) ?_
      refine Mi_call (wr := [(o, .inr (7, [.ref bk, .ref wA, .ref wo, .ref m1, .ref m2, .ref pa, .ref hi, .int (J ap), .int (J sw)]))]) (va_runV (As := [.int (J z)]) (rest := []) ⟨hx, hb, hml, hown, hts⟩ (c_Bk_addEntry l D cI cZ cJ s.heap.size bk wB q1 q2 q3 q4 n pl dc z (by first | with_reducible assumption | omega)) (cwV 1 hts (g_V mw_225 mw_226 mw_227 mw_26 mw_228) rfl rfl rfl (by decide +kernel) ⟨Nat.le_of_ble_eq_true rfl, Nat.le_of_ble_eq_true rfl⟩) (pre_WV hP hK hD [1, 2, 3] rfl (by decide) 0 0 rfl rfl (fun h => Bool.noConfusion h)) rfl rfl hl.1 rfl (lv_room (Nat.le_of_ble_eq_true rfl)) d_Nf_entry_24 ⟨Nat.le_of_ble_eq_true rfl, Nat.le_of_ble_eq_true rfl⟩) hP hD hS hA [1, 2, 3] [0] rfl rfl (by decide) (by decide) (fun _u H locs _hu hP hD hS => ?_)
      have hP : va_P D classes [(o, .inr (7, [.ref bk, .ref wA, .ref wo, .ref m1, .ref m2, .ref pa, .ref hi, .int (J ap), .int (J sw)])), (bk, .inr (0, [.ref wB, .ref q1, .ref q2, .ref q3, .ref q4, .int (J ((n + 1 : Nat) : Int))])), (q1, ca cI 40 (iu pl n z)), (q2, ca cI 40 (iu dc n (-1)))] H := hP
      have hD : va_D A [(o, .inr (7, [.ref bk, .ref wA, .ref wo, .ref m1, .ref m2, .ref pa, .ref hi, .int (J ap), .int (J sw)])), (bk, .inr (0, [.ref wB, .ref q1, .ref q2, .ref q3, .ref q4, .int (J ((n + 1 : Nat) : Int))])), (q1, ca cI 40 (iu pl n z)), (q2, ca cI 40 (iu dc n (-1)))] := hD
      exact Mi_ret hx hb hr hlocks hQ d_Nf_entry_27 hP hK hD hS nb_i (rfl) () (trivial) [0, 1, 2, 3] rfl (by decide)
    · have c_14 := b2_n0.mp c_14
      exfalso; omega
set_option maxHeartbeats 1000000 in
set_option maxRecDepth 100000 in
theorem c_Nf_letter_bad (l : Launch) (D : va_G) (cI cZ cJ : ClassId) (o : Nat) (bk : Nat) (wA : Nat) (wo : Nat) (m1 : Nat) (m2 : Nat) (pa : Nat) (hi : Nat) (wB : Nat) (q1 : Nat) (q2 : Nat) (q3 : Nat) (q4 : Nat) (n : Nat) (ap : Int) (sw : Int) (z : Int) (y : Int) (x : Int) (hz : rg z) (hy : rg y) (hx : rg x) (hn : n ≤ 40) (hno : z < 0 ∨ (n : Int) ≤ z ∨ y < 0 ∨ 3 ≤ y ∨ x < 0 ∨ 26 ≤ x) : Ri l y_Nf_letter w_Nf_letter ({ frames := 1, cells := 0, slots := 0, locals := 21 }) D classes [(cI, .int), (cZ, .boolean), (cJ, .long)] [.ref o, .int (J z), .int (J y), .int (J x)] [(o, .inr (7, [.ref bk, .ref wA, .ref wo, .ref m1, .ref m2, .ref pa, .ref hi, .int (J ap), .int (J sw)])), (bk, .inr (0, [.ref wB, .ref q1, .ref q2, .ref q3, .ref q4, .int (J ((n : Nat) : Int))]))] (0) := by
  refine Ri_of (cc := b_Nf_letter) (maxL := 4) (by decide) rfl (Nat.le_of_ble_eq_true rfl) ?_
  intro p e s m args below meth c hx hb hr hml hts hown hlocks hP hK Q hQ H hH ls hl
  rw [← hH] at hP
  have hl : lv_has ls 4 [(0, .ref o), (1, .int (J z)), (2, .int (J y)), (3, .int (J x))] := hl
  refine lv_aload_n hx hb d_Nf_letter_0 rfl (lv_at hl 0 rfl) ?_
  refine va_get (D := D) (ci := 7) (v := .ref bk) (C := R_Nf) (T := T_Nf) (N := 9) hx hb hts i_Nf hown hK hP 0 rfl rfl 0 (by decide) (hts _ mw_186) (fun _ h9 => h9) rfl d_Nf_letter_1 ?_
  refine lv_iload_n hx hb d_Nf_letter_4 rfl (lv_at hl 1 rfl) ?_
  refine Ri_call (va_runV (As := [.int (J z)]) (rest := []) ⟨hx, hb, hml, hown, hts⟩ (c_Bk_has l D cI cZ cJ bk wB q1 q2 q3 q4 n z (by first | with_reducible assumption | omega) (by first | with_reducible assumption | omega)) (cwV 1 hts (g_V mw_233 mw_234 mw_235 mw_26 mw_236) rfl rfl rfl (by decide +kernel) ⟨Nat.le_of_ble_eq_true rfl, Nat.le_of_ble_eq_true rfl⟩) (pre_RV hP hK [1] rfl 0 0 rfl rfl) rfl rfl hl.1 rfl (lv_room (Nat.le_of_ble_eq_true rfl)) d_Nf_letter_5 ⟨Nat.le_of_ble_eq_true rfl, Nat.le_of_ble_eq_true rfl⟩) ?_
  refine w_if_eq (tgt := 25) hx hb d_Nf_letter_8 (by decide) (rg_b2) (fun c_8 => ?_) (fun c_8 => ?_)
  · have c_8 := b2_0.mp c_8
    refine lv_iconst (v := J (0)) hx hb d_Nf_letter_25 rfl ?_
    exact Ri_ret hx hb hr hlocks hQ hH d_Nf_letter_26 (nb_z (by omega)) (by omega)
  · have c_8 := b2_n0.mp c_8
    refine lv_iload_n hx hb d_Nf_letter_11 rfl (lv_at hl 2 rfl) ?_
    refine Ri_call (va_runS (As := [.int (J y)]) (rest := []) ⟨hx, hb, hml, hown, hts⟩ (c_Nf_isWord l D cI cZ cJ y (by first | with_reducible assumption | omega)) (va_cwS 1 hts (g_S mw_237 mw_238 mw_25 mw_239) rfl rfl rfl (by decide +kernel) ⟨Nat.le_of_ble_eq_true rfl, Nat.le_of_ble_eq_true rfl⟩) (pre_RS hP hK [] rfl) rfl rfl hl.1 rfl (lv_room (Nat.le_of_ble_eq_true rfl)) d_Nf_letter_12 ⟨Nat.le_of_ble_eq_true rfl, Nat.le_of_ble_eq_true rfl⟩) ?_
    refine w_if_eq (tgt := 25) hx hb d_Nf_letter_15 (by decide) (rg_b2) (fun c_15 => ?_) (fun c_15 => ?_)
    · have c_15 := b2_0.mp c_15
      refine lv_iconst (v := J (0)) hx hb d_Nf_letter_25 rfl ?_
      exact Ri_ret hx hb hr hlocks hQ hH d_Nf_letter_26 (nb_z (by omega)) (by omega)
    · have c_15 := b2_n0.mp c_15
      refine lv_iload_n hx hb d_Nf_letter_18 rfl (lv_at hl 3 rfl) ?_
      refine Ri_call (va_runS (As := [.int (J x)]) (rest := []) ⟨hx, hb, hml, hown, hts⟩ (c_Nf_isLetter l D cI cZ cJ x (by first | with_reducible assumption | omega)) (va_cwS 1 hts (g_S mw_240 mw_241 mw_25 mw_242) rfl rfl rfl (by decide +kernel) ⟨Nat.le_of_ble_eq_true rfl, Nat.le_of_ble_eq_true rfl⟩) (pre_RS hP hK [] rfl) rfl rfl hl.1 rfl (lv_room (Nat.le_of_ble_eq_true rfl)) d_Nf_letter_19 ⟨Nat.le_of_ble_eq_true rfl, Nat.le_of_ble_eq_true rfl⟩) ?_
      refine w_if_ne (tgt := 27) hx hb d_Nf_letter_22 (by decide) (rg_b2) (fun c_22 => ?_) (fun c_22 => ?_)
      · have c_22 := b2_n0.mp c_22
        exfalso; omega
      · have c_22 := b2_0.mp c_22
        refine lv_iconst (v := J (0)) hx hb d_Nf_letter_25 rfl ?_
        exact Ri_ret hx hb hr hlocks hQ hH d_Nf_letter_26 (nb_z (by omega)) (by omega)
set_option maxHeartbeats 1000000 in
set_option maxRecDepth 100000 in
theorem c_Nf_letter_full (l : Launch) (D : va_G) (cI cZ cJ : ClassId) (o : Nat) (bk : Nat) (wA : Nat) (wo : Nat) (m1 : Nat) (m2 : Nat) (pa : Nat) (hi : Nat) (wB : Nat) (q1 : Nat) (q2 : Nat) (q3 : Nat) (q4 : Nat) (n : Nat) (ap : Int) (sw : Int) (bL : Nat) (bN : Nat) (cb1 : Int) (gb : Nat → Int) (lt : Nat → Int) (en : Nat) (w : Nat) (x : Int) (hn : n ≤ 40) (hlt : ∀ k, 0 ≤ lt k ∧ lt k ≤ 10) (hok : en < n ∧ w < 3 ∧ 0 ≤ x ∧ x < 26) (hf : lt (en * 3 + w) = 10) : Ri l y_Nf_letter w_Nf_letter ({ frames := 1, cells := 0, slots := 0, locals := 22 }) D classes [(cI, .int), (cZ, .boolean), (cJ, .long)] [.ref o, .int (J ((en : Nat) : Int)), .int (J ((w : Nat) : Int)), .int (J x)] [(o, .inr (7, [.ref bk, .ref wA, .ref wo, .ref m1, .ref m2, .ref pa, .ref hi, .int (J ap), .int (J sw)])), (bk, .inr (0, [.ref wB, .ref q1, .ref q2, .ref q3, .ref q4, .int (J ((n : Nat) : Int))])), (wB, .inr (6, [.ref bL, .ref bN, .int (J cb1)])), (bL, ca cI 1200 gb), (bN, ca cI 120 lt)] (0) := by
  refine Ri_of (cc := b_Nf_letter) (maxL := 4) (by decide) rfl (Nat.le_of_ble_eq_true rfl) ?_
  intro p e s m args below meth c hx hb hr hml hts hown hlocks hP hK Q hQ H hH ls hl
  rw [← hH] at hP
  have hl : lv_has ls 4 [(0, .ref o), (1, .int (J ((en : Nat) : Int))), (2, .int (J ((w : Nat) : Int))), (3, .int (J x))] := hl
  refine lv_aload_n hx hb d_Nf_letter_0 rfl (lv_at hl 0 rfl) ?_
  refine va_get (D := D) (ci := 7) (v := .ref bk) (C := R_Nf) (T := T_Nf) (N := 9) hx hb hts i_Nf hown hK hP 0 rfl rfl 0 (by decide) (hts _ mw_186) (fun _ h9 => h9) rfl d_Nf_letter_1 ?_
  refine lv_iload_n hx hb d_Nf_letter_4 rfl (lv_at hl 1 rfl) ?_
  refine Ri_call (va_runV (As := [.int (J ((en : Nat) : Int))]) (rest := []) ⟨hx, hb, hml, hown, hts⟩ (c_Bk_has l D cI cZ cJ bk wB q1 q2 q3 q4 n ((en : Nat) : Int) (by first | with_reducible assumption | omega) (by first | with_reducible assumption | omega)) (cwV 1 hts (g_V mw_233 mw_234 mw_235 mw_26 mw_236) rfl rfl rfl (by decide +kernel) ⟨Nat.le_of_ble_eq_true rfl, Nat.le_of_ble_eq_true rfl⟩) (pre_RV hP hK [1] rfl 0 0 rfl rfl) rfl rfl hl.1 rfl (lv_room (Nat.le_of_ble_eq_true rfl)) d_Nf_letter_5 ⟨Nat.le_of_ble_eq_true rfl, Nat.le_of_ble_eq_true rfl⟩) ?_
  refine w_if_eq (tgt := 25) hx hb d_Nf_letter_8 (by decide) (rg_b2) (fun c_8 => ?_) (fun c_8 => ?_)
  · have c_8 := b2_0.mp c_8
    exfalso; omega
  · have c_8 := b2_n0.mp c_8
    refine lv_iload_n hx hb d_Nf_letter_11 rfl (lv_at hl 2 rfl) ?_
    refine Ri_call (va_runS (As := [.int (J ((w : Nat) : Int))]) (rest := []) ⟨hx, hb, hml, hown, hts⟩ (c_Nf_isWord l D cI cZ cJ ((w : Nat) : Int) (by first | with_reducible assumption | omega)) (va_cwS 1 hts (g_S mw_237 mw_238 mw_25 mw_239) rfl rfl rfl (by decide +kernel) ⟨Nat.le_of_ble_eq_true rfl, Nat.le_of_ble_eq_true rfl⟩) (pre_RS hP hK [] rfl) rfl rfl hl.1 rfl (lv_room (Nat.le_of_ble_eq_true rfl)) d_Nf_letter_12 ⟨Nat.le_of_ble_eq_true rfl, Nat.le_of_ble_eq_true rfl⟩) ?_
    refine w_if_eq (tgt := 25) hx hb d_Nf_letter_15 (by decide) (rg_b2) (fun c_15 => ?_) (fun c_15 => ?_)
    · have c_15 := b2_0.mp c_15
      exfalso; omega
    · have c_15 := b2_n0.mp c_15
      refine lv_iload_n hx hb d_Nf_letter_18 rfl (lv_at hl 3 rfl) ?_
      refine Ri_call (va_runS (As := [.int (J x)]) (rest := []) ⟨hx, hb, hml, hown, hts⟩ (c_Nf_isLetter l D cI cZ cJ x (by first | with_reducible assumption | omega)) (va_cwS 1 hts (g_S mw_240 mw_241 mw_25 mw_242) rfl rfl rfl (by decide +kernel) ⟨Nat.le_of_ble_eq_true rfl, Nat.le_of_ble_eq_true rfl⟩) (pre_RS hP hK [] rfl) rfl rfl hl.1 rfl (lv_room (Nat.le_of_ble_eq_true rfl)) d_Nf_letter_19 ⟨Nat.le_of_ble_eq_true rfl, Nat.le_of_ble_eq_true rfl⟩) ?_
      refine w_if_ne (tgt := 27) hx hb d_Nf_letter_22 (by decide) (rg_b2) (fun c_22 => ?_) (fun c_22 => ?_)
      · have c_22 := b2_n0.mp c_22
        refine lv_aload_n hx hb d_Nf_letter_27 rfl (lv_at hl 0 rfl) ?_
        refine va_get (D := D) (ci := 7) (v := .ref bk) (C := R_Nf) (T := T_Nf) (N := 9) hx hb hts i_Nf hown hK hP 0 rfl rfl 0 (by decide) (hts _ mw_186) (fun _ h9 => h9) rfl d_Nf_letter_28 ?_
        refine va_get (D := D) (ci := 0) (v := .ref wB) (C := R_Bk) (T := T_Bk) (N := 6) hx hb hts i_Bk hown hK hP 1 rfl rfl 0 (by decide) (hts _ mw_76) (fun _ h9 => h9) rfl d_Nf_letter_31 ?_
        refine lv_iload_n hx hb d_Nf_letter_34 rfl (lv_at hl 1 rfl) ?_
        refine lv_iload_n hx hb d_Nf_letter_35 rfl (lv_at hl 2 rfl) ?_
        refine Ri_call (va_runS (As := [.int (J ((en : Nat) : Int)), .int (J ((w : Nat) : Int))]) (rest := [.ref wB]) ⟨hx, hb, hml, hown, hts⟩ (c_Bk_wordAt l D cI cZ cJ en w ) (va_cwS 2 hts (g_S mw_243 mw_244 mw_26 mw_245) rfl rfl rfl (by decide +kernel) ⟨Nat.le_of_ble_eq_true rfl, Nat.le_of_ble_eq_true rfl⟩) (pre_RS hP hK [] rfl) rfl rfl hl.1 rfl (lv_room (Nat.le_of_ble_eq_true rfl)) d_Nf_letter_36 ⟨Nat.le_of_ble_eq_true rfl, Nat.le_of_ble_eq_true rfl⟩) ?_
        refine lv_iload_n hx hb d_Nf_letter_39 rfl (lv_at hl 3 rfl) ?_
        refine Ri_call (va_runV (As := [.int (J ((en * 3 + w : Nat) : Int)), .int (J x)]) (rest := []) ⟨hx, hb, hml, hown, hts⟩ (c_Wo_append_full l D cI cZ cJ wB bL bN 1200 120 cb1 gb lt (en * 3 + w) x (by first | with_reducible assumption | omega) (by first | with_reducible assumption | omega) (by first | with_reducible assumption | omega) (by first | with_reducible assumption | omega) (by first | with_reducible assumption | omega)) (cwV 2 hts (g_V mw_246 mw_247 mw_248 mw_27 mw_249) rfl rfl rfl (by decide +kernel) ⟨Nat.le_of_ble_eq_true rfl, Nat.le_of_ble_eq_true rfl⟩) (pre_RV hP hK [2, 3, 4] rfl 6 0 rfl rfl) rfl rfl hl.1 rfl (lv_room (Nat.le_of_ble_eq_true rfl)) d_Nf_letter_40 ⟨Nat.le_of_ble_eq_true rfl, Nat.le_of_ble_eq_true rfl⟩) ?_
        exact Ri_ret hx hb hr hlocks hQ hH d_Nf_letter_43 (nb_z (by omega)) (by omega)
      · have c_22 := b2_0.mp c_22
        exfalso; omega
set_option maxHeartbeats 1000000 in
set_option maxRecDepth 100000 in
theorem c_Nf_letter (l : Launch) (D : va_G) (cI cZ cJ : ClassId) (sz : Nat) (o : Nat) (bk : Nat) (wA : Nat) (wo : Nat) (m1 : Nat) (m2 : Nat) (pa : Nat) (hi : Nat) (wB : Nat) (q1 : Nat) (q2 : Nat) (q3 : Nat) (q4 : Nat) (n : Nat) (ap : Int) (sw : Int) (bL : Nat) (bN : Nat) (cb1 : Int) (gb : Nat → Int) (lt : Nat → Int) (en : Nat) (w : Nat) (x : Int) (hn : n ≤ 40) (hlt : ∀ k, 0 ≤ lt k ∧ lt k ≤ 10) (hok : en < n ∧ w < 3 ∧ 0 ≤ x ∧ x < 26) (hf : lt (en * 3 + w) < 10) : Mi l y_Nf_letter w_Nf_letter ({ frames := 2, cells := 0, slots := 0, locals := 42 }) false D classes [(cI, .int), (cZ, .boolean), (cJ, .long)] sz [.ref o, .int (J ((en : Nat) : Int)), .int (J ((w : Nat) : Int)), .int (J x)] [(o, .inr (7, [.ref bk, .ref wA, .ref wo, .ref m1, .ref m2, .ref pa, .ref hi, .int (J ap), .int (J sw)])), (bk, .inr (0, [.ref wB, .ref q1, .ref q2, .ref q3, .ref q4, .int (J ((n : Nat) : Int))])), (wB, .inr (6, [.ref bL, .ref bN, .int (J cb1)])), (bL, ca cI 1200 gb), (bN, ca cI 120 lt)] (1) (S := Unit) (fun _ => True) (fun u : Unit => [(o, .inr (7, [.ref bk, .ref wA, .ref wo, .ref m1, .ref m2, .ref pa, .ref hi, .int (J ap), .int (J sw)])), (bk, .inr (0, [.ref wB, .ref q1, .ref q2, .ref q3, .ref q4, .int (J ((n : Nat) : Int))])), (wB, .inr (6, [.ref bL, .ref bN, .int (J (cb1 + 1))])), (bL, ca cI 1200 (iu gb ((en * 3 + w) * 10 + (lt (en * 3 + w)).toNat) x)), (bN, ca cI 120 (iu lt (en * 3 + w) (lt (en * 3 + w) + 1)))]) 0 0 := by
  refine Mi_of (cc := b_Nf_letter) (maxL := 4) (by decide) rfl (Nat.le_of_ble_eq_true rfl) ?_
  intro p e s m args below meth c hx hb hr hml hts hown hlocks A hA hP hK hD hT hS Q hQ H hH ls hl
  subst hH
  have hl : lv_has ls 4 [(0, .ref o), (1, .int (J ((en : Nat) : Int))), (2, .int (J ((w : Nat) : Int))), (3, .int (J x))] := hl
  refine lv_aload_n hx hb d_Nf_letter_0 rfl (lv_at hl 0 rfl) ?_
  refine va_get (D := D) (ci := 7) (v := .ref bk) (C := R_Nf) (T := T_Nf) (N := 9) hx hb hts i_Nf hown hK hP 0 rfl rfl 0 (by decide) (hts _ mw_186) (fun _ h9 => h9) rfl d_Nf_letter_1 ?_
  refine lv_iload_n hx hb d_Nf_letter_4 rfl (lv_at hl 1 rfl) ?_
  refine Ri_call (va_runV (As := [.int (J ((en : Nat) : Int))]) (rest := []) ⟨hx, hb, hml, hown, hts⟩ (c_Bk_has l D cI cZ cJ bk wB q1 q2 q3 q4 n ((en : Nat) : Int) (by first | with_reducible assumption | omega) (by first | with_reducible assumption | omega)) (cwV 1 hts (g_V mw_233 mw_234 mw_235 mw_26 mw_236) rfl rfl rfl (by decide +kernel) ⟨Nat.le_of_ble_eq_true rfl, Nat.le_of_ble_eq_true rfl⟩) (pre_RV hP hK [1] rfl 0 0 rfl rfl) rfl rfl hl.1 rfl (lv_room (Nat.le_of_ble_eq_true rfl)) d_Nf_letter_5 ⟨Nat.le_of_ble_eq_true rfl, Nat.le_of_ble_eq_true rfl⟩) ?_
  refine w_if_eq (tgt := 25) hx hb d_Nf_letter_8 (by decide) (rg_b2) (fun c_8 => ?_) (fun c_8 => ?_)
  · have c_8 := b2_0.mp c_8
    exfalso; omega
  · have c_8 := b2_n0.mp c_8
    refine lv_iload_n hx hb d_Nf_letter_11 rfl (lv_at hl 2 rfl) ?_
    refine Ri_call (va_runS (As := [.int (J ((w : Nat) : Int))]) (rest := []) ⟨hx, hb, hml, hown, hts⟩ (c_Nf_isWord l D cI cZ cJ ((w : Nat) : Int) (by first | with_reducible assumption | omega)) (va_cwS 1 hts (g_S mw_237 mw_238 mw_25 mw_239) rfl rfl rfl (by decide +kernel) ⟨Nat.le_of_ble_eq_true rfl, Nat.le_of_ble_eq_true rfl⟩) (pre_RS hP hK [] rfl) rfl rfl hl.1 rfl (lv_room (Nat.le_of_ble_eq_true rfl)) d_Nf_letter_12 ⟨Nat.le_of_ble_eq_true rfl, Nat.le_of_ble_eq_true rfl⟩) ?_
    refine w_if_eq (tgt := 25) hx hb d_Nf_letter_15 (by decide) (rg_b2) (fun c_15 => ?_) (fun c_15 => ?_)
    · have c_15 := b2_0.mp c_15
      exfalso; omega
    · have c_15 := b2_n0.mp c_15
      refine lv_iload_n hx hb d_Nf_letter_18 rfl (lv_at hl 3 rfl) ?_
      refine Ri_call (va_runS (As := [.int (J x)]) (rest := []) ⟨hx, hb, hml, hown, hts⟩ (c_Nf_isLetter l D cI cZ cJ x (by first | with_reducible assumption | omega)) (va_cwS 1 hts (g_S mw_240 mw_241 mw_25 mw_242) rfl rfl rfl (by decide +kernel) ⟨Nat.le_of_ble_eq_true rfl, Nat.le_of_ble_eq_true rfl⟩) (pre_RS hP hK [] rfl) rfl rfl hl.1 rfl (lv_room (Nat.le_of_ble_eq_true rfl)) d_Nf_letter_19 ⟨Nat.le_of_ble_eq_true rfl, Nat.le_of_ble_eq_true rfl⟩) ?_
      refine w_if_ne (tgt := 27) hx hb d_Nf_letter_22 (by decide) (rg_b2) (fun c_22 => ?_) (fun c_22 => ?_)
      · have c_22 := b2_n0.mp c_22
        refine lv_aload_n hx hb d_Nf_letter_27 rfl (lv_at hl 0 rfl) ?_
        refine va_get (D := D) (ci := 7) (v := .ref bk) (C := R_Nf) (T := T_Nf) (N := 9) hx hb hts i_Nf hown hK hP 0 rfl rfl 0 (by decide) (hts _ mw_186) (fun _ h9 => h9) rfl d_Nf_letter_28 ?_
        refine va_get (D := D) (ci := 0) (v := .ref wB) (C := R_Bk) (T := T_Bk) (N := 6) hx hb hts i_Bk hown hK hP 1 rfl rfl 0 (by decide) (hts _ mw_76) (fun _ h9 => h9) rfl d_Nf_letter_31 ?_
        refine lv_iload_n hx hb d_Nf_letter_34 rfl (lv_at hl 1 rfl) ?_
        refine lv_iload_n hx hb d_Nf_letter_35 rfl (lv_at hl 2 rfl) ?_
        refine Ri_call (va_runS (As := [.int (J ((en : Nat) : Int)), .int (J ((w : Nat) : Int))]) (rest := [.ref wB]) ⟨hx, hb, hml, hown, hts⟩ (c_Bk_wordAt l D cI cZ cJ en w ) (va_cwS 2 hts (g_S mw_243 mw_244 mw_26 mw_245) rfl rfl rfl (by decide +kernel) ⟨Nat.le_of_ble_eq_true rfl, Nat.le_of_ble_eq_true rfl⟩) (pre_RS hP hK [] rfl) rfl rfl hl.1 rfl (lv_room (Nat.le_of_ble_eq_true rfl)) d_Nf_letter_36 ⟨Nat.le_of_ble_eq_true rfl, Nat.le_of_ble_eq_true rfl⟩) ?_
        refine lv_iload_n hx hb d_Nf_letter_39 rfl (lv_at hl 3 rfl) ?_
        refine Mi_call (wr := [(o, .inr (7, [.ref bk, .ref wA, .ref wo, .ref m1, .ref m2, .ref pa, .ref hi, .int (J ap), .int (J sw)])), (bk, .inr (0, [.ref wB, .ref q1, .ref q2, .ref q3, .ref q4, .int (J ((n : Nat) : Int))]))]) (va_runV (As := [.int (J ((en * 3 + w : Nat) : Int)), .int (J x)]) (rest := []) ⟨hx, hb, hml, hown, hts⟩ (c_Wo_append l D cI cZ cJ s.heap.size wB bL bN 1200 120 cb1 gb lt (en * 3 + w) x (by first | with_reducible assumption | omega) (by first | with_reducible assumption | omega) (by first | with_reducible assumption | omega) (by first | with_reducible assumption | omega) (by first | with_reducible assumption | omega)) (cwV 2 hts (g_V mw_246 mw_247 mw_248 mw_27 mw_249) rfl rfl rfl (by decide +kernel) ⟨Nat.le_of_ble_eq_true rfl, Nat.le_of_ble_eq_true rfl⟩) (pre_WV hP hK hD [2, 3, 4] rfl (by decide) 6 0 rfl rfl (fun h => Bool.noConfusion h)) rfl rfl hl.1 rfl (lv_room (Nat.le_of_ble_eq_true rfl)) d_Nf_letter_40 ⟨Nat.le_of_ble_eq_true rfl, Nat.le_of_ble_eq_true rfl⟩) hP hD hS hA [2, 3, 4] [0, 1] rfl rfl (by decide) (by decide) (fun _u H locs _hu hP hD hS => ?_)
        have hP : va_P D classes [(o, .inr (7, [.ref bk, .ref wA, .ref wo, .ref m1, .ref m2, .ref pa, .ref hi, .int (J ap), .int (J sw)])), (bk, .inr (0, [.ref wB, .ref q1, .ref q2, .ref q3, .ref q4, .int (J ((n : Nat) : Int))])), (wB, .inr (6, [.ref bL, .ref bN, .int (J (cb1 + 1))])), (bL, ca cI 1200 (iu gb ((en * 3 + w) * 10 + (lt (en * 3 + w)).toNat) x)), (bN, ca cI 120 (iu lt (en * 3 + w) (lt (en * 3 + w) + 1)))] H := hP
        have hD : va_D A [(o, .inr (7, [.ref bk, .ref wA, .ref wo, .ref m1, .ref m2, .ref pa, .ref hi, .int (J ap), .int (J sw)])), (bk, .inr (0, [.ref wB, .ref q1, .ref q2, .ref q3, .ref q4, .int (J ((n : Nat) : Int))])), (wB, .inr (6, [.ref bL, .ref bN, .int (J (cb1 + 1))])), (bL, ca cI 1200 (iu gb ((en * 3 + w) * 10 + (lt (en * 3 + w)).toNat) x)), (bN, ca cI 120 (iu lt (en * 3 + w) (lt (en * 3 + w) + 1)))] := hD
        exact Mi_ret hx hb hr hlocks hQ d_Nf_letter_43 hP hK hD hS (nb_z (by omega)) (by omega) () (trivial) [0, 1, 2, 3, 4] rfl (by decide)
      · have c_22 := b2_0.mp c_22
        exfalso; omega
set_option maxHeartbeats 1000000 in
set_option maxRecDepth 100000 in
theorem c_Nf_ask_bad (l : Launch) (D : va_G) (cI cZ cJ : ClassId) (o : Nat) (bk : Nat) (wA : Nat) (wo : Nat) (m1 : Nat) (m2 : Nat) (pa : Nat) (hi : Nat) (ap : Int) (sw : Int) (y : Int) (x : Int) (hy : rg y) (hx : rg x) (hno : y < 0 ∨ 3 ≤ y ∨ x < 0 ∨ 26 ≤ x) : Ri l y_Nf_ask w_Nf_ask ({ frames := 1, cells := 0, slots := 0, locals := 20 }) D classes [(cI, .int), (cZ, .boolean), (cJ, .long)] [.ref o, .int (J y), .int (J x)] [(o, .inr (7, [.ref bk, .ref wA, .ref wo, .ref m1, .ref m2, .ref pa, .ref hi, .int (J ap), .int (J sw)]))] (0) := by
  refine Ri_of (cc := b_Nf_ask) (maxL := 3) (by decide) rfl (Nat.le_of_ble_eq_true rfl) ?_
  intro p e s m args below meth c hx hb hr hml hts hown hlocks hP hK Q hQ H hH ls hl
  rw [← hH] at hP
  have hl : lv_has ls 3 [(0, .ref o), (1, .int (J y)), (2, .int (J x))] := hl
  refine lv_iload_n hx hb d_Nf_ask_0 rfl (lv_at hl 1 rfl) ?_
  refine Ri_call (va_runS (As := [.int (J y)]) (rest := []) ⟨hx, hb, hml, hown, hts⟩ (c_Nf_isWord l D cI cZ cJ y (by first | with_reducible assumption | omega)) (va_cwS 1 hts (g_S mw_237 mw_238 mw_25 mw_239) rfl rfl rfl (by decide +kernel) ⟨Nat.le_of_ble_eq_true rfl, Nat.le_of_ble_eq_true rfl⟩) (pre_RS hP hK [] rfl) rfl rfl hl.1 rfl (lv_room (Nat.le_of_ble_eq_true rfl)) d_Nf_ask_1 ⟨Nat.le_of_ble_eq_true rfl, Nat.le_of_ble_eq_true rfl⟩) ?_
  refine w_if_eq (tgt := 14) hx hb d_Nf_ask_4 (by decide) (rg_b2) (fun c_4 => ?_) (fun c_4 => ?_)
  · have c_4 := b2_0.mp c_4
    refine lv_iconst (v := J (0)) hx hb d_Nf_ask_14 rfl ?_
    exact Ri_ret hx hb hr hlocks hQ hH d_Nf_ask_15 (nb_z (by omega)) (by omega)
  · have c_4 := b2_n0.mp c_4
    refine lv_iload_n hx hb d_Nf_ask_7 rfl (lv_at hl 2 rfl) ?_
    refine Ri_call (va_runS (As := [.int (J x)]) (rest := []) ⟨hx, hb, hml, hown, hts⟩ (c_Nf_isLetter l D cI cZ cJ x (by first | with_reducible assumption | omega)) (va_cwS 1 hts (g_S mw_240 mw_241 mw_25 mw_242) rfl rfl rfl (by decide +kernel) ⟨Nat.le_of_ble_eq_true rfl, Nat.le_of_ble_eq_true rfl⟩) (pre_RS hP hK [] rfl) rfl rfl hl.1 rfl (lv_room (Nat.le_of_ble_eq_true rfl)) d_Nf_ask_8 ⟨Nat.le_of_ble_eq_true rfl, Nat.le_of_ble_eq_true rfl⟩) ?_
    refine w_if_ne (tgt := 16) hx hb d_Nf_ask_11 (by decide) (rg_b2) (fun c_11 => ?_) (fun c_11 => ?_)
    · have c_11 := b2_n0.mp c_11
      exfalso; omega
    · have c_11 := b2_0.mp c_11
      refine lv_iconst (v := J (0)) hx hb d_Nf_ask_14 rfl ?_
      exact Ri_ret hx hb hr hlocks hQ hH d_Nf_ask_15 (nb_z (by omega)) (by omega)
set_option maxHeartbeats 1000000 in
set_option maxRecDepth 100000 in
theorem c_Nf_ask_full (l : Launch) (D : va_G) (cI cZ cJ : ClassId) (o : Nat) (bk : Nat) (wA : Nat) (wo : Nat) (m1 : Nat) (m2 : Nat) (pa : Nat) (hi : Nat) (ap : Int) (sw : Int) (aL : Nat) (aN : Nat) (ca1 : Int) (ga : Nat → Int) (la : Nat → Int) (w : Nat) (x : Int) (hla : ∀ k, 0 ≤ la k ∧ la k ≤ 10) (hok : w < 3 ∧ 0 ≤ x ∧ x < 26) (hf : la w = 10) : Ri l y_Nf_ask w_Nf_ask ({ frames := 1, cells := 0, slots := 0, locals := 22 }) D classes [(cI, .int), (cZ, .boolean), (cJ, .long)] [.ref o, .int (J ((w : Nat) : Int)), .int (J x)] [(o, .inr (7, [.ref bk, .ref wA, .ref wo, .ref m1, .ref m2, .ref pa, .ref hi, .int (J ap), .int (J sw)])), (wA, .inr (6, [.ref aL, .ref aN, .int (J ca1)])), (aL, ca cI 30 ga), (aN, ca cI 3 la)] (0) := by
  refine Ri_of (cc := b_Nf_ask) (maxL := 3) (by decide) rfl (Nat.le_of_ble_eq_true rfl) ?_
  intro p e s m args below meth c hx hb hr hml hts hown hlocks hP hK Q hQ H hH ls hl
  rw [← hH] at hP
  have hl : lv_has ls 3 [(0, .ref o), (1, .int (J ((w : Nat) : Int))), (2, .int (J x))] := hl
  refine lv_iload_n hx hb d_Nf_ask_0 rfl (lv_at hl 1 rfl) ?_
  refine Ri_call (va_runS (As := [.int (J ((w : Nat) : Int))]) (rest := []) ⟨hx, hb, hml, hown, hts⟩ (c_Nf_isWord l D cI cZ cJ ((w : Nat) : Int) (by first | with_reducible assumption | omega)) (va_cwS 1 hts (g_S mw_237 mw_238 mw_25 mw_239) rfl rfl rfl (by decide +kernel) ⟨Nat.le_of_ble_eq_true rfl, Nat.le_of_ble_eq_true rfl⟩) (pre_RS hP hK [] rfl) rfl rfl hl.1 rfl (lv_room (Nat.le_of_ble_eq_true rfl)) d_Nf_ask_1 ⟨Nat.le_of_ble_eq_true rfl, Nat.le_of_ble_eq_true rfl⟩) ?_
  refine w_if_eq (tgt := 14) hx hb d_Nf_ask_4 (by decide) (rg_b2) (fun c_4 => ?_) (fun c_4 => ?_)
  · have c_4 := b2_0.mp c_4
    exfalso; omega
  · have c_4 := b2_n0.mp c_4
    refine lv_iload_n hx hb d_Nf_ask_7 rfl (lv_at hl 2 rfl) ?_
    refine Ri_call (va_runS (As := [.int (J x)]) (rest := []) ⟨hx, hb, hml, hown, hts⟩ (c_Nf_isLetter l D cI cZ cJ x (by first | with_reducible assumption | omega)) (va_cwS 1 hts (g_S mw_240 mw_241 mw_25 mw_242) rfl rfl rfl (by decide +kernel) ⟨Nat.le_of_ble_eq_true rfl, Nat.le_of_ble_eq_true rfl⟩) (pre_RS hP hK [] rfl) rfl rfl hl.1 rfl (lv_room (Nat.le_of_ble_eq_true rfl)) d_Nf_ask_8 ⟨Nat.le_of_ble_eq_true rfl, Nat.le_of_ble_eq_true rfl⟩) ?_
    refine w_if_ne (tgt := 16) hx hb d_Nf_ask_11 (by decide) (rg_b2) (fun c_11 => ?_) (fun c_11 => ?_)
    · have c_11 := b2_n0.mp c_11
      refine lv_aload_n hx hb d_Nf_ask_16 rfl (lv_at hl 0 rfl) ?_
      refine va_get (D := D) (ci := 7) (v := .ref wA) (C := R_Nf) (T := T_Nf) (N := 9) hx hb hts i_Nf hown hK hP 0 rfl rfl 1 (by decide) (hts _ mw_187) (fun _ h9 => h9) rfl d_Nf_ask_17 ?_
      refine lv_iload_n hx hb d_Nf_ask_20 rfl (lv_at hl 1 rfl) ?_
      refine lv_iload_n hx hb d_Nf_ask_21 rfl (lv_at hl 2 rfl) ?_
      refine Ri_call (va_runV (As := [.int (J ((w : Nat) : Int)), .int (J x)]) (rest := []) ⟨hx, hb, hml, hown, hts⟩ (c_Wo_append_full l D cI cZ cJ wA aL aN 30 3 ca1 ga la w x (by first | with_reducible assumption | omega) (by first | with_reducible assumption | omega) (by first | with_reducible assumption | omega) (by first | with_reducible assumption | omega) (by first | with_reducible assumption | omega)) (cwV 2 hts (g_V mw_246 mw_247 mw_248 mw_27 mw_249) rfl rfl rfl (by decide +kernel) ⟨Nat.le_of_ble_eq_true rfl, Nat.le_of_ble_eq_true rfl⟩) (pre_RV hP hK [1, 2, 3] rfl 6 0 rfl rfl) rfl rfl hl.1 rfl (lv_room (Nat.le_of_ble_eq_true rfl)) d_Nf_ask_22 ⟨Nat.le_of_ble_eq_true rfl, Nat.le_of_ble_eq_true rfl⟩) ?_
      exact Ri_ret hx hb hr hlocks hQ hH d_Nf_ask_25 (nb_z (by omega)) (by omega)
    · have c_11 := b2_0.mp c_11
      exfalso; omega
set_option maxHeartbeats 1000000 in
set_option maxRecDepth 100000 in
theorem c_Nf_ask (l : Launch) (D : va_G) (cI cZ cJ : ClassId) (sz : Nat) (o : Nat) (bk : Nat) (wA : Nat) (wo : Nat) (m1 : Nat) (m2 : Nat) (pa : Nat) (hi : Nat) (ap : Int) (sw : Int) (aL : Nat) (aN : Nat) (ca1 : Int) (ga : Nat → Int) (la : Nat → Int) (w : Nat) (x : Int) (hla : ∀ k, 0 ≤ la k ∧ la k ≤ 10) (hok : w < 3 ∧ 0 ≤ x ∧ x < 26) (hf : la w < 10) : Mi l y_Nf_ask w_Nf_ask ({ frames := 2, cells := 0, slots := 0, locals := 42 }) false D classes [(cI, .int), (cZ, .boolean), (cJ, .long)] sz [.ref o, .int (J ((w : Nat) : Int)), .int (J x)] [(o, .inr (7, [.ref bk, .ref wA, .ref wo, .ref m1, .ref m2, .ref pa, .ref hi, .int (J ap), .int (J sw)])), (wA, .inr (6, [.ref aL, .ref aN, .int (J ca1)])), (aL, ca cI 30 ga), (aN, ca cI 3 la)] (1) (S := Unit) (fun _ => True) (fun u : Unit => [(o, .inr (7, [.ref bk, .ref wA, .ref wo, .ref m1, .ref m2, .ref pa, .ref hi, .int (J ap), .int (J sw)])), (wA, .inr (6, [.ref aL, .ref aN, .int (J (ca1 + 1))])), (aL, ca cI 30 (iu ga (w * 10 + (la w).toNat) x)), (aN, ca cI 3 (iu la w (la w + 1)))]) 0 0 := by
  refine Mi_of (cc := b_Nf_ask) (maxL := 3) (by decide) rfl (Nat.le_of_ble_eq_true rfl) ?_
  intro p e s m args below meth c hx hb hr hml hts hown hlocks A hA hP hK hD hT hS Q hQ H hH ls hl
  subst hH
  have hl : lv_has ls 3 [(0, .ref o), (1, .int (J ((w : Nat) : Int))), (2, .int (J x))] := hl
  refine lv_iload_n hx hb d_Nf_ask_0 rfl (lv_at hl 1 rfl) ?_
  refine Ri_call (va_runS (As := [.int (J ((w : Nat) : Int))]) (rest := []) ⟨hx, hb, hml, hown, hts⟩ (c_Nf_isWord l D cI cZ cJ ((w : Nat) : Int) (by first | with_reducible assumption | omega)) (va_cwS 1 hts (g_S mw_237 mw_238 mw_25 mw_239) rfl rfl rfl (by decide +kernel) ⟨Nat.le_of_ble_eq_true rfl, Nat.le_of_ble_eq_true rfl⟩) (pre_RS hP hK [] rfl) rfl rfl hl.1 rfl (lv_room (Nat.le_of_ble_eq_true rfl)) d_Nf_ask_1 ⟨Nat.le_of_ble_eq_true rfl, Nat.le_of_ble_eq_true rfl⟩) ?_
  refine w_if_eq (tgt := 14) hx hb d_Nf_ask_4 (by decide) (rg_b2) (fun c_4 => ?_) (fun c_4 => ?_)
  · have c_4 := b2_0.mp c_4
    exfalso; omega
  · have c_4 := b2_n0.mp c_4
    refine lv_iload_n hx hb d_Nf_ask_7 rfl (lv_at hl 2 rfl) ?_
    refine Ri_call (va_runS (As := [.int (J x)]) (rest := []) ⟨hx, hb, hml, hown, hts⟩ (c_Nf_isLetter l D cI cZ cJ x (by first | with_reducible assumption | omega)) (va_cwS 1 hts (g_S mw_240 mw_241 mw_25 mw_242) rfl rfl rfl (by decide +kernel) ⟨Nat.le_of_ble_eq_true rfl, Nat.le_of_ble_eq_true rfl⟩) (pre_RS hP hK [] rfl) rfl rfl hl.1 rfl (lv_room (Nat.le_of_ble_eq_true rfl)) d_Nf_ask_8 ⟨Nat.le_of_ble_eq_true rfl, Nat.le_of_ble_eq_true rfl⟩) ?_
    refine w_if_ne (tgt := 16) hx hb d_Nf_ask_11 (by decide) (rg_b2) (fun c_11 => ?_) (fun c_11 => ?_)
    · have c_11 := b2_n0.mp c_11
      refine lv_aload_n hx hb d_Nf_ask_16 rfl (lv_at hl 0 rfl) ?_
      refine va_get (D := D) (ci := 7) (v := .ref wA) (C := R_Nf) (T := T_Nf) (N := 9) hx hb hts i_Nf hown hK hP 0 rfl rfl 1 (by decide) (hts _ mw_187) (fun _ h9 => h9) rfl d_Nf_ask_17 ?_
      refine lv_iload_n hx hb d_Nf_ask_20 rfl (lv_at hl 1 rfl) ?_
      refine lv_iload_n hx hb d_Nf_ask_21 rfl (lv_at hl 2 rfl) ?_
      refine Mi_call (wr := [(o, .inr (7, [.ref bk, .ref wA, .ref wo, .ref m1, .ref m2, .ref pa, .ref hi, .int (J ap), .int (J sw)]))]) (va_runV (As := [.int (J ((w : Nat) : Int)), .int (J x)]) (rest := []) ⟨hx, hb, hml, hown, hts⟩ (c_Wo_append l D cI cZ cJ s.heap.size wA aL aN 30 3 ca1 ga la w x (by first | with_reducible assumption | omega) (by first | with_reducible assumption | omega) (by first | with_reducible assumption | omega) (by first | with_reducible assumption | omega) (by first | with_reducible assumption | omega)) (cwV 2 hts (g_V mw_246 mw_247 mw_248 mw_27 mw_249) rfl rfl rfl (by decide +kernel) ⟨Nat.le_of_ble_eq_true rfl, Nat.le_of_ble_eq_true rfl⟩) (pre_WV hP hK hD [1, 2, 3] rfl (by decide) 6 0 rfl rfl (fun h => Bool.noConfusion h)) rfl rfl hl.1 rfl (lv_room (Nat.le_of_ble_eq_true rfl)) d_Nf_ask_22 ⟨Nat.le_of_ble_eq_true rfl, Nat.le_of_ble_eq_true rfl⟩) hP hD hS hA [1, 2, 3] [0] rfl rfl (by decide) (by decide) (fun _u H locs _hu hP hD hS => ?_)
      have hP : va_P D classes [(o, .inr (7, [.ref bk, .ref wA, .ref wo, .ref m1, .ref m2, .ref pa, .ref hi, .int (J ap), .int (J sw)])), (wA, .inr (6, [.ref aL, .ref aN, .int (J (ca1 + 1))])), (aL, ca cI 30 (iu ga (w * 10 + (la w).toNat) x)), (aN, ca cI 3 (iu la w (la w + 1)))] H := hP
      have hD : va_D A [(o, .inr (7, [.ref bk, .ref wA, .ref wo, .ref m1, .ref m2, .ref pa, .ref hi, .int (J ap), .int (J sw)])), (wA, .inr (6, [.ref aL, .ref aN, .int (J (ca1 + 1))])), (aL, ca cI 30 (iu ga (w * 10 + (la w).toNat) x)), (aN, ca cI 3 (iu la w (la w + 1)))] := hD
      exact Mi_ret hx hb hr hlocks hQ d_Nf_ask_25 hP hK hD hS (nb_z (by omega)) (by omega) () (trivial) [0, 1, 2, 3] rfl (by decide)
    · have c_11 := b2_0.mp c_11
      exfalso; omega
set_option maxHeartbeats 1000000 in
set_option maxRecDepth 100000 in
theorem c_Nf_asked_bad (l : Launch) (D : va_G) (cI cZ cJ : ClassId) (o : Nat) (bk : Nat) (wA : Nat) (wo : Nat) (m1 : Nat) (m2 : Nat) (pa : Nat) (hi : Nat) (ap : Int) (sw : Int) (z : Int) (hz : rg z) (hno : z < -1 ∨ 1000 ≤ z) : Ri l y_Nf_asked w_Nf_asked ({ frames := 1, cells := 0, slots := 0, locals := 20 }) D classes [(cI, .int), (cZ, .boolean), (cJ, .long)] [.ref o, .int (J z)] [(o, .inr (7, [.ref bk, .ref wA, .ref wo, .ref m1, .ref m2, .ref pa, .ref hi, .int (J ap), .int (J sw)]))] (0) := by
  refine Ri_of (cc := b_Nf_asked) (maxL := 2) (by decide) rfl (Nat.le_of_ble_eq_true rfl) ?_
  intro p e s m args below meth c hx hb hr hml hts hown hlocks hP hK Q hQ H hH ls hl
  rw [← hH] at hP
  have hl : lv_has ls 2 [(0, .ref o), (1, .int (J z))] := hl
  refine lv_iload_n hx hb d_Nf_asked_0 rfl (lv_at hl 1 rfl) ?_
  refine lv_iconst (v := J (-1)) hx hb d_Nf_asked_1 rfl ?_
  refine w_icmp_eq (tgt := 14) hx hb d_Nf_asked_2 (by decide) (by omega) (by omega) (fun c_2 => ?_) (fun c_2 => ?_)
  · exfalso; omega
  · refine lv_iload_n hx hb d_Nf_asked_5 rfl (lv_at hl 1 rfl) ?_
    refine Ri_call (va_runS (As := [.int (J z)]) (rest := []) ⟨hx, hb, hml, hown, hts⟩ (c_Nf_isPlace l D cI cZ cJ z (by first | with_reducible assumption | omega)) (va_cwS 1 hts (g_S mw_218 mw_219 mw_25 mw_220) rfl rfl rfl (by decide +kernel) ⟨Nat.le_of_ble_eq_true rfl, Nat.le_of_ble_eq_true rfl⟩) (pre_RS hP hK [] rfl) rfl rfl hl.1 rfl (lv_room (Nat.le_of_ble_eq_true rfl)) d_Nf_asked_6 ⟨Nat.le_of_ble_eq_true rfl, Nat.le_of_ble_eq_true rfl⟩) ?_
    refine w_if_ne (tgt := 14) hx hb d_Nf_asked_9 (by decide) (rg_b2) (fun c_9 => ?_) (fun c_9 => ?_)
    · have c_9 := b2_n0.mp c_9
      exfalso; omega
    · have c_9 := b2_0.mp c_9
      refine lv_iconst (v := J (0)) hx hb d_Nf_asked_12 rfl ?_
      exact Ri_ret hx hb hr hlocks hQ hH d_Nf_asked_13 (nb_z (by omega)) (by omega)
set_option maxHeartbeats 1000000 in
set_option maxRecDepth 100000 in
theorem c_Nf_asked (l : Launch) (D : va_G) (cI cZ cJ : ClassId) (sz : Nat) (o : Nat) (bk : Nat) (wA : Nat) (wo : Nat) (m1 : Nat) (m2 : Nat) (pa : Nat) (hi : Nat) (ap : Int) (sw : Int) (aL : Nat) (aN : Nat) (ca1 : Int) (ga : Nat → Int) (la : Nat → Int) (z : Int) (hok : -1 ≤ z ∧ z < 1000) : Mi l y_Nf_asked w_Nf_asked ({ frames := 1, cells := 0, slots := 0, locals := 21 }) false D classes [(cI, .int), (cZ, .boolean), (cJ, .long)] sz [.ref o, .int (J z)] [(o, .inr (7, [.ref bk, .ref wA, .ref wo, .ref m1, .ref m2, .ref pa, .ref hi, .int (J ap), .int (J sw)])), (wA, .inr (6, [.ref aL, .ref aN, .int (J ca1)])), (aL, ca cI 30 ga), (aN, ca cI 3 la)] (1) (S := Unit) (fun _ => True) (fun u : Unit => [(o, .inr (7, [.ref bk, .ref wA, .ref wo, .ref m1, .ref m2, .ref pa, .ref hi, .int (J z), .int (J sw)])), (wA, .inr (6, [.ref aL, .ref aN, .int (J 0)])), (aL, ca cI 30 ga), (aN, ca cI 3 (zr la 3))]) 0 0 := by
  refine Mi_of (cc := b_Nf_asked) (maxL := 2) (by decide) rfl (Nat.le_of_ble_eq_true rfl) ?_
  intro p e s m args below meth c hx hb hr hml hts hown hlocks A hA hP hK hD hT hS Q hQ H hH ls hl
  subst hH
  have hl : lv_has ls 2 [(0, .ref o), (1, .int (J z))] := hl
  refine lv_iload_n hx hb d_Nf_asked_0 rfl (lv_at hl 1 rfl) ?_
  refine lv_iconst (v := J (-1)) hx hb d_Nf_asked_1 rfl ?_
  refine w_icmp_eq (tgt := 14) hx hb d_Nf_asked_2 (by decide) (by omega) (by omega) (fun c_2 => ?_) (fun c_2 => ?_)
  · refine lv_aload_n hx hb d_Nf_asked_14 rfl (lv_at hl 0 rfl) ?_
    refine va_get (D := D) (ci := 7) (v := .ref wA) (C := R_Nf) (T := T_Nf) (N := 9) hx hb hts i_Nf hown hK hP 0 rfl rfl 1 (by decide) (hts _ mw_187) (fun _ h9 => h9) rfl d_Nf_asked_15 ?_
    refine Mv_call (wr := [(o, .inr (7, [.ref bk, .ref wA, .ref wo, .ref m1, .ref m2, .ref pa, .ref hi, .int (J ap), .int (J sw)]))]) (va_runV (As := []) (rest := []) ⟨hx, hb, hml, hown, hts⟩ (c_Wo_clear l D cI cZ cJ s.heap.size wA aL aN 30 3 ca1 ga la (by first | with_reducible assumption | omega)) (cwV 0 hts (g_V mw_261 mw_262 mw_263 mw_27 mw_264) rfl rfl rfl (by decide +kernel) ⟨Nat.le_of_ble_eq_true rfl, Nat.le_of_ble_eq_true rfl⟩) (pre_WV hP hK hD [1, 2, 3] rfl (by decide) 6 0 rfl rfl (fun h => Bool.noConfusion h)) rfl rfl hl.1 rfl (lv_room (Nat.le_of_ble_eq_true rfl)) d_Nf_asked_18 ⟨Nat.le_of_ble_eq_true rfl, Nat.le_of_ble_eq_true rfl⟩) hP hD hS hA [1, 2, 3] [0] rfl rfl (by decide) (by decide) (fun _u H locs _hu hP hD hS => ?_)
    have hP : va_P D classes [(o, .inr (7, [.ref bk, .ref wA, .ref wo, .ref m1, .ref m2, .ref pa, .ref hi, .int (J ap), .int (J sw)])), (wA, .inr (6, [.ref aL, .ref aN, .int (J 0)])), (aL, ca cI 30 ga), (aN, ca cI 3 (zr la 3))] H := hP
    have hD : va_D A [(o, .inr (7, [.ref bk, .ref wA, .ref wo, .ref m1, .ref m2, .ref pa, .ref hi, .int (J ap), .int (J sw)])), (wA, .inr (6, [.ref aL, .ref aN, .int (J 0)])), (aL, ca cI 30 ga), (aN, ca cI 3 (zr la 3))] := hD
    refine lv_aload_n hx hb d_Nf_asked_21 rfl (lv_at hl 0 rfl) ?_
    refine lv_iload_n hx hb d_Nf_asked_22 rfl (lv_at hl 1 rfl) ?_
    refine va_put (D := D) (ci := 7) (v := .int (J z)) (ty := .int) (C := R_Nf) (T := T_Nf) (N := 9) hx hb hts i_Nf t_Nf k_Nf n_Nf hown hK hP hD hS 0 rfl rfl 7 (by decide) (hts _ mw_193) (fun _ h9 => h9) rfl (by decide +kernel) rfl rfl (Nat.le_of_ble_eq_true rfl) d_Nf_asked_23 (fun H locs hP hD hS => ?_)
    have hP : va_P D classes [(o, .inr (7, [.ref bk, .ref wA, .ref wo, .ref m1, .ref m2, .ref pa, .ref hi, .int (J z), .int (J sw)])), (wA, .inr (6, [.ref aL, .ref aN, .int (J 0)])), (aL, ca cI 30 ga), (aN, ca cI 3 (zr la 3))] H := hP
    have hD : va_D A [(o, .inr (7, [.ref bk, .ref wA, .ref wo, .ref m1, .ref m2, .ref pa, .ref hi, .int (J z), .int (J sw)])), (wA, .inr (6, [.ref aL, .ref aN, .int (J 0)])), (aL, ca cI 30 ga), (aN, ca cI 3 (zr la 3))] := hD
    refine lv_iconst (v := J (1)) hx hb d_Nf_asked_26 rfl ?_
    exact Mi_ret hx hb hr hlocks hQ d_Nf_asked_27 hP hK hD hS (nb_z (by omega)) (by omega) () (trivial) [0, 1, 2, 3] rfl (by decide)
  · refine lv_iload_n hx hb d_Nf_asked_5 rfl (lv_at hl 1 rfl) ?_
    refine Ri_call (va_runS (As := [.int (J z)]) (rest := []) ⟨hx, hb, hml, hown, hts⟩ (c_Nf_isPlace l D cI cZ cJ z (by first | with_reducible assumption | omega)) (va_cwS 1 hts (g_S mw_218 mw_219 mw_25 mw_220) rfl rfl rfl (by decide +kernel) ⟨Nat.le_of_ble_eq_true rfl, Nat.le_of_ble_eq_true rfl⟩) (pre_RS hP hK [] rfl) rfl rfl hl.1 rfl (lv_room (Nat.le_of_ble_eq_true rfl)) d_Nf_asked_6 ⟨Nat.le_of_ble_eq_true rfl, Nat.le_of_ble_eq_true rfl⟩) ?_
    refine w_if_ne (tgt := 14) hx hb d_Nf_asked_9 (by decide) (rg_b2) (fun c_9 => ?_) (fun c_9 => ?_)
    · have c_9 := b2_n0.mp c_9
      refine lv_aload_n hx hb d_Nf_asked_14 rfl (lv_at hl 0 rfl) ?_
      refine va_get (D := D) (ci := 7) (v := .ref wA) (C := R_Nf) (T := T_Nf) (N := 9) hx hb hts i_Nf hown hK hP 0 rfl rfl 1 (by decide) (hts _ mw_187) (fun _ h9 => h9) rfl d_Nf_asked_15 ?_
      refine Mv_call (wr := [(o, .inr (7, [.ref bk, .ref wA, .ref wo, .ref m1, .ref m2, .ref pa, .ref hi, .int (J ap), .int (J sw)]))]) (va_runV (As := []) (rest := []) ⟨hx, hb, hml, hown, hts⟩ (c_Wo_clear l D cI cZ cJ s.heap.size wA aL aN 30 3 ca1 ga la (by first | with_reducible assumption | omega)) (cwV 0 hts (g_V mw_261 mw_262 mw_263 mw_27 mw_264) rfl rfl rfl (by decide +kernel) ⟨Nat.le_of_ble_eq_true rfl, Nat.le_of_ble_eq_true rfl⟩) (pre_WV hP hK hD [1, 2, 3] rfl (by decide) 6 0 rfl rfl (fun h => Bool.noConfusion h)) rfl rfl hl.1 rfl (lv_room (Nat.le_of_ble_eq_true rfl)) d_Nf_asked_18 ⟨Nat.le_of_ble_eq_true rfl, Nat.le_of_ble_eq_true rfl⟩) hP hD hS hA [1, 2, 3] [0] rfl rfl (by decide) (by decide) (fun _u H locs _hu hP hD hS => ?_)
      have hP : va_P D classes [(o, .inr (7, [.ref bk, .ref wA, .ref wo, .ref m1, .ref m2, .ref pa, .ref hi, .int (J ap), .int (J sw)])), (wA, .inr (6, [.ref aL, .ref aN, .int (J 0)])), (aL, ca cI 30 ga), (aN, ca cI 3 (zr la 3))] H := hP
      have hD : va_D A [(o, .inr (7, [.ref bk, .ref wA, .ref wo, .ref m1, .ref m2, .ref pa, .ref hi, .int (J ap), .int (J sw)])), (wA, .inr (6, [.ref aL, .ref aN, .int (J 0)])), (aL, ca cI 30 ga), (aN, ca cI 3 (zr la 3))] := hD
      refine lv_aload_n hx hb d_Nf_asked_21 rfl (lv_at hl 0 rfl) ?_
      refine lv_iload_n hx hb d_Nf_asked_22 rfl (lv_at hl 1 rfl) ?_
      refine va_put (D := D) (ci := 7) (v := .int (J z)) (ty := .int) (C := R_Nf) (T := T_Nf) (N := 9) hx hb hts i_Nf t_Nf k_Nf n_Nf hown hK hP hD hS 0 rfl rfl 7 (by decide) (hts _ mw_193) (fun _ h9 => h9) rfl (by decide +kernel) rfl rfl (Nat.le_of_ble_eq_true rfl) d_Nf_asked_23 (fun H locs hP hD hS => ?_)
      have hP : va_P D classes [(o, .inr (7, [.ref bk, .ref wA, .ref wo, .ref m1, .ref m2, .ref pa, .ref hi, .int (J z), .int (J sw)])), (wA, .inr (6, [.ref aL, .ref aN, .int (J 0)])), (aL, ca cI 30 ga), (aN, ca cI 3 (zr la 3))] H := hP
      have hD : va_D A [(o, .inr (7, [.ref bk, .ref wA, .ref wo, .ref m1, .ref m2, .ref pa, .ref hi, .int (J z), .int (J sw)])), (wA, .inr (6, [.ref aL, .ref aN, .int (J 0)])), (aL, ca cI 30 ga), (aN, ca cI 3 (zr la 3))] := hD
      refine lv_iconst (v := J (1)) hx hb d_Nf_asked_26 rfl ?_
      exact Mi_ret hx hb hr hlocks hQ d_Nf_asked_27 hP hK hD hS (nb_z (by omega)) (by omega) () (trivial) [0, 1, 2, 3] rfl (by decide)
    · have c_9 := b2_0.mp c_9
      exfalso; omega
set_option maxHeartbeats 1000000 in
set_option maxRecDepth 100000 in
theorem c_Nf_weight_bad (l : Launch) (D : va_G) (cI cZ cJ : ClassId) (o : Nat) (bk : Nat) (wA : Nat) (wo : Nat) (m1 : Nat) (m2 : Nat) (pa : Nat) (hi : Nat) (ap : Int) (sw : Int) (z : Int) (y : Int) (hz : rg z) (hy : rg y) (hno : z < 0 ∨ 6 ≤ z ∨ y < 0 ∨ 1000 < y) : Ri l y_Nf_weight w_Nf_weight ({ frames := 1, cells := 0, slots := 0, locals := 20 }) D classes [(cI, .int), (cZ, .boolean), (cJ, .long)] [.ref o, .int (J z), .int (J y)] [(o, .inr (7, [.ref bk, .ref wA, .ref wo, .ref m1, .ref m2, .ref pa, .ref hi, .int (J ap), .int (J sw)]))] (-1) := by
  refine Ri_of (cc := b_Nf_weight) (maxL := 3) (by decide) rfl (Nat.le_of_ble_eq_true rfl) ?_
  intro p e s m args below meth c hx hb hr hml hts hown hlocks hP hK Q hQ H hH ls hl
  rw [← hH] at hP
  have hl : lv_has ls 3 [(0, .ref o), (1, .int (J z)), (2, .int (J y))] := hl
  refine lv_iload_n hx hb d_Nf_weight_0 rfl (lv_at hl 1 rfl) ?_
  refine Ri_call (va_runS (As := [.int (J z)]) (rest := []) ⟨hx, hb, hml, hown, hts⟩ (c_We_isKind l D cI cZ cJ z (by first | with_reducible assumption | omega)) (va_cwS 1 hts (g_S mw_269 mw_270 mw_28 mw_271) rfl rfl rfl (by decide +kernel) ⟨Nat.le_of_ble_eq_true rfl, Nat.le_of_ble_eq_true rfl⟩) (pre_RS hP hK [] rfl) rfl rfl hl.1 rfl (lv_room (Nat.le_of_ble_eq_true rfl)) d_Nf_weight_1 ⟨Nat.le_of_ble_eq_true rfl, Nat.le_of_ble_eq_true rfl⟩) ?_
  refine w_if_eq (tgt := 14) hx hb d_Nf_weight_4 (by decide) (rg_b2) (fun c_4 => ?_) (fun c_4 => ?_)
  · have c_4 := b2_0.mp c_4
    refine lv_iconst (v := J (-1)) hx hb d_Nf_weight_14 rfl ?_
    exact Ri_ret hx hb hr hlocks hQ hH d_Nf_weight_15 nb_i (by omega)
  · have c_4 := b2_n0.mp c_4
    refine lv_iload_n hx hb d_Nf_weight_7 rfl (lv_at hl 2 rfl) ?_
    refine Ri_call (va_runS (As := [.int (J y)]) (rest := []) ⟨hx, hb, hml, hown, hts⟩ (c_We_isWeight l D cI cZ cJ y (by first | with_reducible assumption | omega)) (va_cwS 1 hts (g_S mw_272 mw_273 mw_28 mw_274) rfl rfl rfl (by decide +kernel) ⟨Nat.le_of_ble_eq_true rfl, Nat.le_of_ble_eq_true rfl⟩) (pre_RS hP hK [] rfl) rfl rfl hl.1 rfl (lv_room (Nat.le_of_ble_eq_true rfl)) d_Nf_weight_8 ⟨Nat.le_of_ble_eq_true rfl, Nat.le_of_ble_eq_true rfl⟩) ?_
    refine w_if_ne (tgt := 16) hx hb d_Nf_weight_11 (by decide) (rg_b2) (fun c_11 => ?_) (fun c_11 => ?_)
    · have c_11 := b2_n0.mp c_11
      exfalso; omega
    · have c_11 := b2_0.mp c_11
      refine lv_iconst (v := J (-1)) hx hb d_Nf_weight_14 rfl ?_
      exact Ri_ret hx hb hr hlocks hQ hH d_Nf_weight_15 nb_i (by omega)
set_option maxHeartbeats 1000000 in
set_option maxRecDepth 100000 in
theorem c_Nf_weight (l : Launch) (D : va_G) (cI cZ cJ : ClassId) (sz : Nat) (o : Nat) (bk : Nat) (wA : Nat) (wo : Nat) (m1 : Nat) (m2 : Nat) (pa : Nat) (hi : Nat) (ap : Int) (sw : Int) (wa : Nat) (wt : Nat → Int) (k : Nat) (y : Int) (hok : k < 6 ∧ 0 ≤ y ∧ y ≤ 1000) : Mi l y_Nf_weight w_Nf_weight ({ frames := 1, cells := 0, slots := 0, locals := 23 }) false D classes [(cI, .int), (cZ, .boolean), (cJ, .long)] sz [.ref o, .int (J ((k : Nat) : Int)), .int (J y)] [(o, .inr (7, [.ref bk, .ref wA, .ref wo, .ref m1, .ref m2, .ref pa, .ref hi, .int (J ap), .int (J sw)])), (wo, .inr (5, [.ref wa])), (wa, ca cI 6 wt)] (wt k) (S := Unit) (fun _ => True) (fun u : Unit => [(o, .inr (7, [.ref bk, .ref wA, .ref wo, .ref m1, .ref m2, .ref pa, .ref hi, .int (J ap), .int (J sw)])), (wo, .inr (5, [.ref wa])), (wa, ca cI 6 (iu wt k y))]) 0 0 := by
  refine Mi_of (cc := b_Nf_weight) (maxL := 3) (by decide) rfl (Nat.le_of_ble_eq_true rfl) ?_
  intro p e s m args below meth c hx hb hr hml hts hown hlocks A hA hP hK hD hT hS Q hQ H hH ls hl
  subst hH
  have hl : lv_has ls 3 [(0, .ref o), (1, .int (J ((k : Nat) : Int))), (2, .int (J y))] := hl
  refine lv_iload_n hx hb d_Nf_weight_0 rfl (lv_at hl 1 rfl) ?_
  refine Ri_call (va_runS (As := [.int (J ((k : Nat) : Int))]) (rest := []) ⟨hx, hb, hml, hown, hts⟩ (c_We_isKind l D cI cZ cJ ((k : Nat) : Int) (by first | with_reducible assumption | omega)) (va_cwS 1 hts (g_S mw_269 mw_270 mw_28 mw_271) rfl rfl rfl (by decide +kernel) ⟨Nat.le_of_ble_eq_true rfl, Nat.le_of_ble_eq_true rfl⟩) (pre_RS hP hK [] rfl) rfl rfl hl.1 rfl (lv_room (Nat.le_of_ble_eq_true rfl)) d_Nf_weight_1 ⟨Nat.le_of_ble_eq_true rfl, Nat.le_of_ble_eq_true rfl⟩) ?_
  refine w_if_eq (tgt := 14) hx hb d_Nf_weight_4 (by decide) (rg_b2) (fun c_4 => ?_) (fun c_4 => ?_)
  · have c_4 := b2_0.mp c_4
    exfalso; omega
  · have c_4 := b2_n0.mp c_4
    refine lv_iload_n hx hb d_Nf_weight_7 rfl (lv_at hl 2 rfl) ?_
    refine Ri_call (va_runS (As := [.int (J y)]) (rest := []) ⟨hx, hb, hml, hown, hts⟩ (c_We_isWeight l D cI cZ cJ y (by first | with_reducible assumption | omega)) (va_cwS 1 hts (g_S mw_272 mw_273 mw_28 mw_274) rfl rfl rfl (by decide +kernel) ⟨Nat.le_of_ble_eq_true rfl, Nat.le_of_ble_eq_true rfl⟩) (pre_RS hP hK [] rfl) rfl rfl hl.1 rfl (lv_room (Nat.le_of_ble_eq_true rfl)) d_Nf_weight_8 ⟨Nat.le_of_ble_eq_true rfl, Nat.le_of_ble_eq_true rfl⟩) ?_
    refine w_if_ne (tgt := 16) hx hb d_Nf_weight_11 (by decide) (rg_b2) (fun c_11 => ?_) (fun c_11 => ?_)
    · have c_11 := b2_n0.mp c_11
      refine lv_aload_n hx hb d_Nf_weight_16 rfl (lv_at hl 0 rfl) ?_
      refine va_get (D := D) (ci := 7) (v := .ref wo) (C := R_Nf) (T := T_Nf) (N := 9) hx hb hts i_Nf hown hK hP 0 rfl rfl 2 (by decide) (hts _ mw_188) (fun _ h9 => h9) rfl d_Nf_weight_17 ?_
      refine lv_iload_n hx hb d_Nf_weight_20 rfl (lv_at hl 1 rfl) ?_
      refine lv_iload_n hx hb d_Nf_weight_21 rfl (lv_at hl 2 rfl) ?_
      refine Mi_call (wr := [(o, .inr (7, [.ref bk, .ref wA, .ref wo, .ref m1, .ref m2, .ref pa, .ref hi, .int (J ap), .int (J sw)]))]) (va_runV (As := [.int (J ((k : Nat) : Int)), .int (J y)]) (rest := []) ⟨hx, hb, hml, hown, hts⟩ (c_We_replace l D cI cZ cJ s.heap.size wo wa wt k y (by first | with_reducible assumption | omega)) (cwV 2 hts (g_V mw_275 mw_276 mw_277 mw_28 mw_278) rfl rfl rfl (by decide +kernel) ⟨Nat.le_of_ble_eq_true rfl, Nat.le_of_ble_eq_true rfl⟩) (pre_WV hP hK hD [1, 2] rfl (by decide) 5 0 rfl rfl (fun h => Bool.noConfusion h)) rfl rfl hl.1 rfl (lv_room (Nat.le_of_ble_eq_true rfl)) d_Nf_weight_22 ⟨Nat.le_of_ble_eq_true rfl, Nat.le_of_ble_eq_true rfl⟩) hP hD hS hA [1, 2] [0] rfl rfl (by decide) (by decide) (fun _u H locs _hu hP hD hS => ?_)
      have hP : va_P D classes [(o, .inr (7, [.ref bk, .ref wA, .ref wo, .ref m1, .ref m2, .ref pa, .ref hi, .int (J ap), .int (J sw)])), (wo, .inr (5, [.ref wa])), (wa, ca cI 6 (iu wt k y))] H := hP
      have hD : va_D A [(o, .inr (7, [.ref bk, .ref wA, .ref wo, .ref m1, .ref m2, .ref pa, .ref hi, .int (J ap), .int (J sw)])), (wo, .inr (5, [.ref wa])), (wa, ca cI 6 (iu wt k y))] := hD
      exact Mi_ret hx hb hr hlocks hQ d_Nf_weight_25 hP hK hD hS nb_i (rfl) () (trivial) [0, 1, 2] rfl (by decide)
    · have c_11 := b2_0.mp c_11
      exfalso; omega
set_option maxHeartbeats 1000000 in
set_option maxRecDepth 100000 in
theorem c_Nf_worked (l : Launch) (D : va_G) (cI cZ cJ : ClassId) (o : Nat) (bk : Nat) (wA : Nat) (wo : Nat) (m1 : Nat) (m2 : Nat) (pa : Nat) (hi : Nat) (ap : Int) (sw : Int)  : Ri l y_Nf_worked w_Nf_worked ({ frames := 0, cells := 0, slots := 0, locals := 0 }) D classes [(cI, .int), (cZ, .boolean), (cJ, .long)] [.ref o] [(o, .inr (7, [.ref bk, .ref wA, .ref wo, .ref m1, .ref m2, .ref pa, .ref hi, .int (J ap), .int (J sw)]))] (sw) := by
  refine Ri_of (cc := b_Nf_worked) (maxL := 1) (by decide) rfl (Nat.le_of_ble_eq_true rfl) ?_
  intro p e s m args below meth c hx hb hr hml hts hown hlocks hP hK Q hQ H hH ls hl
  rw [← hH] at hP
  have hl : lv_has ls 1 [(0, .ref o)] := hl
  refine lv_aload_n hx hb d_Nf_worked_0 rfl (lv_at hl 0 rfl) ?_
  refine va_get (D := D) (ci := 7) (v := .int (J sw)) (C := R_Nf) (T := T_Nf) (N := 9) hx hb hts i_Nf hown hK hP 0 rfl rfl 8 (by decide) (hts _ mw_194) (fun _ h9 => h9) rfl d_Nf_worked_1 ?_
  exact Ri_ret hx hb hr hlocks hQ hH d_Nf_worked_4 nb_i (rfl)
set_option maxHeartbeats 1000000 in
set_option maxRecDepth 100000 in
theorem c_Nf_found (l : Launch) (D : va_G) (cI cZ cJ : ClassId) (o : Nat) (bk : Nat) (wA : Nat) (wo : Nat) (m1 : Nat) (m2 : Nat) (pa : Nat) (hi : Nat) (ap : Int) (sw : Int) (e0 : Nat) (e1 : Nat) (e2 : Nat) (mo0 : Int) (bd0 : Int) (fn : Nat) (fe : Nat → Int) (z : Int) (hz : rg z) (hfn : fn ≤ 40) : Ri l y_Nf_found w_Nf_found ({ frames := 1, cells := 0, slots := 0, locals := 21 }) D classes [(cI, .int), (cZ, .boolean), (cJ, .long)] [.ref o, .int (J z)] [(o, .inr (7, [.ref bk, .ref wA, .ref wo, .ref m1, .ref m2, .ref pa, .ref hi, .int (J ap), .int (J sw)])), (hi, .inr (3, [.ref e0, .ref e1, .ref e2, .int (J mo0), .int (J bd0), .int (J ((fn : Nat) : Int))])), (e0, ca cI 40 fe)] (if 0 ≤ z ∧ z < (fn : Int) then fe z.toNat else -1) := by
  refine Ri_of (cc := b_Nf_found) (maxL := 2) (by decide) rfl (Nat.le_of_ble_eq_true rfl) ?_
  intro p e s m args below meth c hx hb hr hml hts hown hlocks hP hK Q hQ H hH ls hl
  rw [← hH] at hP
  have hl : lv_has ls 2 [(0, .ref o), (1, .int (J z))] := hl
  refine lv_aload_n hx hb d_Nf_found_0 rfl (lv_at hl 0 rfl) ?_
  refine va_get (D := D) (ci := 7) (v := .ref hi) (C := R_Nf) (T := T_Nf) (N := 9) hx hb hts i_Nf hown hK hP 0 rfl rfl 6 (by decide) (hts _ mw_192) (fun _ h9 => h9) rfl d_Nf_found_1 ?_
  refine lv_iload_n hx hb d_Nf_found_4 rfl (lv_at hl 1 rfl) ?_
  refine Ri_call (va_runV (As := [.int (J z)]) (rest := []) ⟨hx, hb, hml, hown, hts⟩ (c_Hi_has l D cI cZ cJ hi e0 e1 e2 mo0 bd0 fn z (by first | with_reducible assumption | omega) (by first | with_reducible assumption | omega)) (cwV 1 hts (g_V mw_428 mw_429 mw_430 mw_32 mw_431) rfl rfl rfl (by decide +kernel) ⟨Nat.le_of_ble_eq_true rfl, Nat.le_of_ble_eq_true rfl⟩) (pre_RV hP hK [1] rfl 3 0 rfl rfl) rfl rfl hl.1 rfl (lv_room (Nat.le_of_ble_eq_true rfl)) d_Nf_found_5 ⟨Nat.le_of_ble_eq_true rfl, Nat.le_of_ble_eq_true rfl⟩) ?_
  refine w_if_eq (tgt := 23) hx hb d_Nf_found_8 (by decide) (rg_b2) (fun c_8 => ?_) (fun c_8 => ?_)
  · have c_8 := b2_0.mp c_8
    refine lv_iconst (v := J (-1)) hx hb d_Nf_found_23 rfl ?_
    exact Ri_ret hx hb hr hlocks hQ hH d_Nf_found_24 nb_i (by rw [if_neg (by omega)])
  · have c_8 := b2_n0.mp c_8
    refine lv_aload_n hx hb d_Nf_found_11 rfl (lv_at hl 0 rfl) ?_
    refine va_get (D := D) (ci := 7) (v := .ref hi) (C := R_Nf) (T := T_Nf) (N := 9) hx hb hts i_Nf hown hK hP 0 rfl rfl 6 (by decide) (hts _ mw_192) (fun _ h9 => h9) rfl d_Nf_found_12 ?_
    refine va_get (D := D) (ci := 3) (v := .ref e0) (C := R_Hi) (T := T_Hi) (N := 6) hx hb hts i_Hi hown hK hP 1 rfl rfl 0 (by decide) (hts _ mw_165) (fun _ h9 => h9) rfl d_Nf_found_15 ?_
    refine lv_iload_n hx hb d_Nf_found_18 rfl (lv_at hl 1 rfl) ?_
    refine w_iald hx hb hK hP 2 0 rfl rfl ((z).toNat) (by omega) (by omega) (by omega) d_Nf_found_19 ?_
    refine lv_goto (tgt := 24) hx hb d_Nf_found_20 (by decide) ?_
    exact Ri_ret hx hb hr hlocks hQ hH d_Nf_found_24 nb_i (by rw [if_pos (by omega)])
set_option maxHeartbeats 1000000 in
set_option maxRecDepth 100000 in
theorem c_Nf_sum (l : Launch) (D : va_G) (cI cZ cJ : ClassId) (o : Nat) (bk : Nat) (wA : Nat) (wo : Nat) (m1 : Nat) (m2 : Nat) (pa : Nat) (hi : Nat) (ap : Int) (sw : Int) (e0 : Nat) (e1 : Nat) (e2 : Nat) (mo0 : Int) (bd0 : Int) (fn : Nat) (fs : Nat → Int) (z : Int) (hz : rg z) (hfn : fn ≤ 40) : Ri l y_Nf_sum w_Nf_sum ({ frames := 1, cells := 0, slots := 0, locals := 21 }) D classes [(cI, .int), (cZ, .boolean), (cJ, .long)] [.ref o, .int (J z)] [(o, .inr (7, [.ref bk, .ref wA, .ref wo, .ref m1, .ref m2, .ref pa, .ref hi, .int (J ap), .int (J sw)])), (hi, .inr (3, [.ref e0, .ref e1, .ref e2, .int (J mo0), .int (J bd0), .int (J ((fn : Nat) : Int))])), (e1, ca cI 40 fs)] (if 0 ≤ z ∧ z < (fn : Int) then fs z.toNat else -1) := by
  refine Ri_of (cc := b_Nf_sum) (maxL := 2) (by decide) rfl (Nat.le_of_ble_eq_true rfl) ?_
  intro p e s m args below meth c hx hb hr hml hts hown hlocks hP hK Q hQ H hH ls hl
  rw [← hH] at hP
  have hl : lv_has ls 2 [(0, .ref o), (1, .int (J z))] := hl
  refine lv_aload_n hx hb d_Nf_sum_0 rfl (lv_at hl 0 rfl) ?_
  refine va_get (D := D) (ci := 7) (v := .ref hi) (C := R_Nf) (T := T_Nf) (N := 9) hx hb hts i_Nf hown hK hP 0 rfl rfl 6 (by decide) (hts _ mw_192) (fun _ h9 => h9) rfl d_Nf_sum_1 ?_
  refine lv_iload_n hx hb d_Nf_sum_4 rfl (lv_at hl 1 rfl) ?_
  refine Ri_call (va_runV (As := [.int (J z)]) (rest := []) ⟨hx, hb, hml, hown, hts⟩ (c_Hi_has l D cI cZ cJ hi e0 e1 e2 mo0 bd0 fn z (by first | with_reducible assumption | omega) (by first | with_reducible assumption | omega)) (cwV 1 hts (g_V mw_428 mw_429 mw_430 mw_32 mw_431) rfl rfl rfl (by decide +kernel) ⟨Nat.le_of_ble_eq_true rfl, Nat.le_of_ble_eq_true rfl⟩) (pre_RV hP hK [1] rfl 3 0 rfl rfl) rfl rfl hl.1 rfl (lv_room (Nat.le_of_ble_eq_true rfl)) d_Nf_sum_5 ⟨Nat.le_of_ble_eq_true rfl, Nat.le_of_ble_eq_true rfl⟩) ?_
  refine w_if_eq (tgt := 23) hx hb d_Nf_sum_8 (by decide) (rg_b2) (fun c_8 => ?_) (fun c_8 => ?_)
  · have c_8 := b2_0.mp c_8
    refine lv_iconst (v := J (-1)) hx hb d_Nf_sum_23 rfl ?_
    exact Ri_ret hx hb hr hlocks hQ hH d_Nf_sum_24 nb_i (by rw [if_neg (by omega)])
  · have c_8 := b2_n0.mp c_8
    refine lv_aload_n hx hb d_Nf_sum_11 rfl (lv_at hl 0 rfl) ?_
    refine va_get (D := D) (ci := 7) (v := .ref hi) (C := R_Nf) (T := T_Nf) (N := 9) hx hb hts i_Nf hown hK hP 0 rfl rfl 6 (by decide) (hts _ mw_192) (fun _ h9 => h9) rfl d_Nf_sum_12 ?_
    refine va_get (D := D) (ci := 3) (v := .ref e1) (C := R_Hi) (T := T_Hi) (N := 6) hx hb hts i_Hi hown hK hP 1 rfl rfl 1 (by decide) (hts _ mw_167) (fun _ h9 => h9) rfl d_Nf_sum_15 ?_
    refine lv_iload_n hx hb d_Nf_sum_18 rfl (lv_at hl 1 rfl) ?_
    refine w_iald hx hb hK hP 2 0 rfl rfl ((z).toNat) (by omega) (by omega) (by omega) d_Nf_sum_19 ?_
    refine lv_goto (tgt := 24) hx hb d_Nf_sum_20 (by decide) ?_
    exact Ri_ret hx hb hr hlocks hQ hH d_Nf_sum_24 nb_i (by rw [if_pos (by omega)])
set_option maxHeartbeats 1000000 in
set_option maxRecDepth 100000 in
theorem c_Nf_learned_bad (l : Launch) (D : va_G) (cI cZ cJ : ClassId) (o : Nat) (bk : Nat) (wA : Nat) (wo : Nat) (m1 : Nat) (m2 : Nat) (pa : Nat) (hi : Nat) (wB : Nat) (q1 : Nat) (q2 : Nat) (q3 : Nat) (q4 : Nat) (n : Nat) (ap : Int) (sw : Int) (z : Int) (y : Int) (hz : rg z) (hy : rg y) (hn : n ≤ 40) (hno : z < 0 ∨ (n : Int) ≤ z ∨ y < 0 ∨ 100000 < y) : Ri l y_Nf_learned w_Nf_learned ({ frames := 1, cells := 0, slots := 0, locals := 21 }) D classes [(cI, .int), (cZ, .boolean), (cJ, .long)] [.ref o, .int (J z), .int (J y)] [(o, .inr (7, [.ref bk, .ref wA, .ref wo, .ref m1, .ref m2, .ref pa, .ref hi, .int (J ap), .int (J sw)])), (bk, .inr (0, [.ref wB, .ref q1, .ref q2, .ref q3, .ref q4, .int (J ((n : Nat) : Int))]))] (-1) := by
  refine Ri_of (cc := b_Nf_learned) (maxL := 3) (by decide) rfl (Nat.le_of_ble_eq_true rfl) ?_
  intro p e s m args below meth c hx hb hr hml hts hown hlocks hP hK Q hQ H hH ls hl
  rw [← hH] at hP
  have hl : lv_has ls 3 [(0, .ref o), (1, .int (J z)), (2, .int (J y))] := hl
  refine lv_aload_n hx hb d_Nf_learned_0 rfl (lv_at hl 0 rfl) ?_
  refine va_get (D := D) (ci := 7) (v := .ref bk) (C := R_Nf) (T := T_Nf) (N := 9) hx hb hts i_Nf hown hK hP 0 rfl rfl 0 (by decide) (hts _ mw_186) (fun _ h9 => h9) rfl d_Nf_learned_1 ?_
  refine lv_iload_n hx hb d_Nf_learned_4 rfl (lv_at hl 1 rfl) ?_
  refine Ri_call (va_runV (As := [.int (J z)]) (rest := []) ⟨hx, hb, hml, hown, hts⟩ (c_Bk_has l D cI cZ cJ bk wB q1 q2 q3 q4 n z (by first | with_reducible assumption | omega) (by first | with_reducible assumption | omega)) (cwV 1 hts (g_V mw_233 mw_234 mw_235 mw_26 mw_236) rfl rfl rfl (by decide +kernel) ⟨Nat.le_of_ble_eq_true rfl, Nat.le_of_ble_eq_true rfl⟩) (pre_RV hP hK [1] rfl 0 0 rfl rfl) rfl rfl hl.1 rfl (lv_room (Nat.le_of_ble_eq_true rfl)) d_Nf_learned_5 ⟨Nat.le_of_ble_eq_true rfl, Nat.le_of_ble_eq_true rfl⟩) ?_
  refine w_if_eq (tgt := 21) hx hb d_Nf_learned_8 (by decide) (rg_b2) (fun c_8 => ?_) (fun c_8 => ?_)
  · have c_8 := b2_0.mp c_8
    refine lv_iconst (v := J (-1)) hx hb d_Nf_learned_21 rfl ?_
    exact Ri_ret hx hb hr hlocks hQ hH d_Nf_learned_22 nb_i (by omega)
  · have c_8 := b2_n0.mp c_8
    refine lv_iload_n hx hb d_Nf_learned_11 rfl (lv_at hl 2 rfl) ?_
    refine w_if_lt (tgt := 21) hx hb d_Nf_learned_12 (by decide) (by omega) (fun c_12 => ?_) (fun c_12 => ?_)
    · refine lv_iconst (v := J (-1)) hx hb d_Nf_learned_21 rfl ?_
      exact Ri_ret hx hb hr hlocks hQ hH d_Nf_learned_22 nb_i (by omega)
    · refine lv_iload_n hx hb d_Nf_learned_15 rfl (lv_at hl 2 rfl) ?_
      refine lv_ldc (v := J (100000)) hx hb hown (hts _ mw_453) d_Nf_learned_16 ?_
      refine w_icmp_le (tgt := 23) hx hb d_Nf_learned_18 (by decide) (by omega) (by omega) (fun c_18 => ?_) (fun c_18 => ?_)
      · exfalso; omega
      · refine lv_iconst (v := J (-1)) hx hb d_Nf_learned_21 rfl ?_
        exact Ri_ret hx hb hr hlocks hQ hH d_Nf_learned_22 nb_i (by omega)
set_option maxHeartbeats 1000000 in
set_option maxRecDepth 100000 in
theorem c_Nf_learned (l : Launch) (D : va_G) (cI cZ cJ : ClassId) (sz : Nat) (o : Nat) (bk : Nat) (wA : Nat) (wo : Nat) (m1 : Nat) (m2 : Nat) (pa : Nat) (hi : Nat) (wB : Nat) (q1 : Nat) (q2 : Nat) (q3 : Nat) (q4 : Nat) (n : Nat) (ap : Int) (sw : Int) (dc : Nat → Int) (tm : Nat → Int) (en : Nat) (y : Int) (hn : n ≤ 40) (hok : en < n ∧ 0 ≤ y ∧ y ≤ 100000) : Mi l y_Nf_learned w_Nf_learned ({ frames := 1, cells := 0, slots := 0, locals := 22 }) false D classes [(cI, .int), (cZ, .boolean), (cJ, .long)] sz [.ref o, .int (J ((en : Nat) : Int)), .int (J y)] [(o, .inr (7, [.ref bk, .ref wA, .ref wo, .ref m1, .ref m2, .ref pa, .ref hi, .int (J ap), .int (J sw)])), (bk, .inr (0, [.ref wB, .ref q1, .ref q2, .ref q3, .ref q4, .int (J ((n : Nat) : Int))])), (q2, ca cI 40 dc), (q3, ca cI 40 tm)] (tm en + 1) (S := Unit) (fun _ => True) (fun u : Unit => [(o, .inr (7, [.ref bk, .ref wA, .ref wo, .ref m1, .ref m2, .ref pa, .ref hi, .int (J ap), .int (J sw)])), (bk, .inr (0, [.ref wB, .ref q1, .ref q2, .ref q3, .ref q4, .int (J ((n : Nat) : Int))])), (q2, ca cI 40 (iu dc en y)), (q3, ca cI 40 (iu tm en (tm en + 1)))]) 0 0 := by
  refine Mi_of (cc := b_Nf_learned) (maxL := 3) (by decide) rfl (Nat.le_of_ble_eq_true rfl) ?_
  intro p e s m args below meth c hx hb hr hml hts hown hlocks A hA hP hK hD hT hS Q hQ H hH ls hl
  subst hH
  have hl : lv_has ls 3 [(0, .ref o), (1, .int (J ((en : Nat) : Int))), (2, .int (J y))] := hl
  refine lv_aload_n hx hb d_Nf_learned_0 rfl (lv_at hl 0 rfl) ?_
  refine va_get (D := D) (ci := 7) (v := .ref bk) (C := R_Nf) (T := T_Nf) (N := 9) hx hb hts i_Nf hown hK hP 0 rfl rfl 0 (by decide) (hts _ mw_186) (fun _ h9 => h9) rfl d_Nf_learned_1 ?_
  refine lv_iload_n hx hb d_Nf_learned_4 rfl (lv_at hl 1 rfl) ?_
  refine Ri_call (va_runV (As := [.int (J ((en : Nat) : Int))]) (rest := []) ⟨hx, hb, hml, hown, hts⟩ (c_Bk_has l D cI cZ cJ bk wB q1 q2 q3 q4 n ((en : Nat) : Int) (by first | with_reducible assumption | omega) (by first | with_reducible assumption | omega)) (cwV 1 hts (g_V mw_233 mw_234 mw_235 mw_26 mw_236) rfl rfl rfl (by decide +kernel) ⟨Nat.le_of_ble_eq_true rfl, Nat.le_of_ble_eq_true rfl⟩) (pre_RV hP hK [1] rfl 0 0 rfl rfl) rfl rfl hl.1 rfl (lv_room (Nat.le_of_ble_eq_true rfl)) d_Nf_learned_5 ⟨Nat.le_of_ble_eq_true rfl, Nat.le_of_ble_eq_true rfl⟩) ?_
  refine w_if_eq (tgt := 21) hx hb d_Nf_learned_8 (by decide) (rg_b2) (fun c_8 => ?_) (fun c_8 => ?_)
  · have c_8 := b2_0.mp c_8
    exfalso; omega
  · have c_8 := b2_n0.mp c_8
    refine lv_iload_n hx hb d_Nf_learned_11 rfl (lv_at hl 2 rfl) ?_
    refine w_if_lt (tgt := 21) hx hb d_Nf_learned_12 (by decide) (by omega) (fun c_12 => ?_) (fun c_12 => ?_)
    · exfalso; omega
    · refine lv_iload_n hx hb d_Nf_learned_15 rfl (lv_at hl 2 rfl) ?_
      refine lv_ldc (v := J (100000)) hx hb hown (hts _ mw_453) d_Nf_learned_16 ?_
      refine w_icmp_le (tgt := 23) hx hb d_Nf_learned_18 (by decide) (by omega) (by omega) (fun c_18 => ?_) (fun c_18 => ?_)
      · refine lv_aload_n hx hb d_Nf_learned_23 rfl (lv_at hl 0 rfl) ?_
        refine va_get (D := D) (ci := 7) (v := .ref bk) (C := R_Nf) (T := T_Nf) (N := 9) hx hb hts i_Nf hown hK hP 0 rfl rfl 0 (by decide) (hts _ mw_186) (fun _ h9 => h9) rfl d_Nf_learned_24 ?_
        refine lv_iload_n hx hb d_Nf_learned_27 rfl (lv_at hl 1 rfl) ?_
        refine lv_iload_n hx hb d_Nf_learned_28 rfl (lv_at hl 2 rfl) ?_
        refine Mi_call (wr := [(o, .inr (7, [.ref bk, .ref wA, .ref wo, .ref m1, .ref m2, .ref pa, .ref hi, .int (J ap), .int (J sw)]))]) (va_runV (As := [.int (J ((en : Nat) : Int)), .int (J y)]) (rest := []) ⟨hx, hb, hml, hown, hts⟩ (c_Bk_learn l D cI cZ cJ s.heap.size bk wB q1 q2 q3 q4 n dc tm en y (by first | with_reducible assumption | omega)) (cwV 2 hts (g_V mw_454 mw_455 mw_456 mw_26 mw_457) rfl rfl rfl (by decide +kernel) ⟨Nat.le_of_ble_eq_true rfl, Nat.le_of_ble_eq_true rfl⟩) (pre_WV hP hK hD [1, 2, 3] rfl (by decide) 0 0 rfl rfl (fun h => Bool.noConfusion h)) rfl rfl hl.1 rfl (lv_room (Nat.le_of_ble_eq_true rfl)) d_Nf_learned_29 ⟨Nat.le_of_ble_eq_true rfl, Nat.le_of_ble_eq_true rfl⟩) hP hD hS hA [1, 2, 3] [0] rfl rfl (by decide) (by decide) (fun _u H locs _hu hP hD hS => ?_)
        have hP : va_P D classes [(o, .inr (7, [.ref bk, .ref wA, .ref wo, .ref m1, .ref m2, .ref pa, .ref hi, .int (J ap), .int (J sw)])), (bk, .inr (0, [.ref wB, .ref q1, .ref q2, .ref q3, .ref q4, .int (J ((n : Nat) : Int))])), (q2, ca cI 40 (iu dc en y)), (q3, ca cI 40 (iu tm en (tm en + 1)))] H := hP
        have hD : va_D A [(o, .inr (7, [.ref bk, .ref wA, .ref wo, .ref m1, .ref m2, .ref pa, .ref hi, .int (J ap), .int (J sw)])), (bk, .inr (0, [.ref wB, .ref q1, .ref q2, .ref q3, .ref q4, .int (J ((n : Nat) : Int))])), (q2, ca cI 40 (iu dc en y)), (q3, ca cI 40 (iu tm en (tm en + 1)))] := hD
        exact Mi_ret hx hb hr hlocks hQ d_Nf_learned_32 hP hK hD hS nb_i (rfl) () (trivial) [0, 1, 2, 3] rfl (by decide)
      · exfalso; omega
set_option maxHeartbeats 1000000 in
set_option maxRecDepth 100000 in
theorem c_Nf_drop_bad (l : Launch) (D : va_G) (cI cZ cJ : ClassId) (o : Nat) (bk : Nat) (wA : Nat) (wo : Nat) (m1 : Nat) (m2 : Nat) (pa : Nat) (hi : Nat) (wB : Nat) (q1 : Nat) (q2 : Nat) (q3 : Nat) (q4 : Nat) (n : Nat) (ap : Int) (sw : Int) (z : Int) (y : Int) (hz : rg z) (hn : n ≤ 40) (hno : z < 0 ∨ (n : Int) ≤ z) : Ri l y_Nf_drop w_Nf_drop ({ frames := 1, cells := 0, slots := 0, locals := 21 }) D classes [(cI, .int), (cZ, .boolean), (cJ, .long)] [.ref o, .int (J z), .int (J y)] [(o, .inr (7, [.ref bk, .ref wA, .ref wo, .ref m1, .ref m2, .ref pa, .ref hi, .int (J ap), .int (J sw)])), (bk, .inr (0, [.ref wB, .ref q1, .ref q2, .ref q3, .ref q4, .int (J ((n : Nat) : Int))]))] (-1) := by
  refine Ri_of (cc := b_Nf_drop) (maxL := 4) (by decide) rfl (Nat.le_of_ble_eq_true rfl) ?_
  intro p e s m args below meth c hx hb hr hml hts hown hlocks hP hK Q hQ H hH ls hl
  rw [← hH] at hP
  have hl : lv_has ls 4 [(0, .ref o), (1, .int (J z)), (2, .int (J y))] := hl
  refine lv_aload_n hx hb d_Nf_drop_0 rfl (lv_at hl 0 rfl) ?_
  refine va_get (D := D) (ci := 7) (v := .ref bk) (C := R_Nf) (T := T_Nf) (N := 9) hx hb hts i_Nf hown hK hP 0 rfl rfl 0 (by decide) (hts _ mw_186) (fun _ h9 => h9) rfl d_Nf_drop_1 ?_
  refine lv_iload_n hx hb d_Nf_drop_4 rfl (lv_at hl 1 rfl) ?_
  refine Ri_call (va_runV (As := [.int (J z)]) (rest := []) ⟨hx, hb, hml, hown, hts⟩ (c_Bk_has l D cI cZ cJ bk wB q1 q2 q3 q4 n z (by first | with_reducible assumption | omega) (by first | with_reducible assumption | omega)) (cwV 1 hts (g_V mw_233 mw_234 mw_235 mw_26 mw_236) rfl rfl rfl (by decide +kernel) ⟨Nat.le_of_ble_eq_true rfl, Nat.le_of_ble_eq_true rfl⟩) (pre_RV hP hK [1] rfl 0 0 rfl rfl) rfl rfl hl.1 rfl (lv_room (Nat.le_of_ble_eq_true rfl)) d_Nf_drop_5 ⟨Nat.le_of_ble_eq_true rfl, Nat.le_of_ble_eq_true rfl⟩) ?_
  refine w_if_ne (tgt := 13) hx hb d_Nf_drop_8 (by decide) (rg_b2) (fun c_8 => ?_) (fun c_8 => ?_)
  · have c_8 := b2_n0.mp c_8
    exfalso; omega
  · have c_8 := b2_0.mp c_8
    refine lv_iconst (v := J (-1)) hx hb d_Nf_drop_11 rfl ?_
    exact Ri_ret hx hb hr hlocks hQ hH d_Nf_drop_12 nb_i (by omega)
set_option maxHeartbeats 1000000 in
set_option maxRecDepth 100000 in
theorem c_Nf_drop (l : Launch) (D : va_G) (cI cZ cJ : ClassId) (sz : Nat) (o : Nat) (bk : Nat) (wA : Nat) (wo : Nat) (m1 : Nat) (m2 : Nat) (pa : Nat) (hi : Nat) (wB : Nat) (q1 : Nat) (q2 : Nat) (q3 : Nat) (q4 : Nat) (n : Nat) (ap : Int) (sw : Int) (dr : Nat → Int) (en : Nat) (y : Int) (hn : n ≤ 40) (hdr : ∀ k, 0 ≤ dr k ∧ dr k ≤ 1) (hok : en < n ∧ 0 ≤ y ∧ y ≤ 1) : Mi l y_Nf_drop w_Nf_drop ({ frames := 1, cells := 0, slots := 0, locals := 21 }) false D classes [(cI, .int), (cZ, .boolean), (cJ, .long)] sz [.ref o, .int (J ((en : Nat) : Int)), .int (J y)] [(o, .inr (7, [.ref bk, .ref wA, .ref wo, .ref m1, .ref m2, .ref pa, .ref hi, .int (J ap), .int (J sw)])), (bk, .inr (0, [.ref wB, .ref q1, .ref q2, .ref q3, .ref q4, .int (J ((n : Nat) : Int))])), (q4, ca cZ 40 dr)] (dr en) (S := Unit) (fun _ => True) (fun u : Unit => [(o, .inr (7, [.ref bk, .ref wA, .ref wo, .ref m1, .ref m2, .ref pa, .ref hi, .int (J ap), .int (J sw)])), (bk, .inr (0, [.ref wB, .ref q1, .ref q2, .ref q3, .ref q4, .int (J ((n : Nat) : Int))])), (q4, ca cZ 40 (iu dr en y))]) 0 0 := by
  refine Mi_of (cc := b_Nf_drop) (maxL := 4) (by decide) rfl (Nat.le_of_ble_eq_true rfl) ?_
  intro p e s m args below meth c hx hb hr hml hts hown hlocks A hA hP hK hD hT hS Q hQ H hH ls hl
  subst hH
  have hl : lv_has ls 4 [(0, .ref o), (1, .int (J ((en : Nat) : Int))), (2, .int (J y))] := hl
  have r1 := hdr en
  refine lv_aload_n hx hb d_Nf_drop_0 rfl (lv_at hl 0 rfl) ?_
  refine va_get (D := D) (ci := 7) (v := .ref bk) (C := R_Nf) (T := T_Nf) (N := 9) hx hb hts i_Nf hown hK hP 0 rfl rfl 0 (by decide) (hts _ mw_186) (fun _ h9 => h9) rfl d_Nf_drop_1 ?_
  refine lv_iload_n hx hb d_Nf_drop_4 rfl (lv_at hl 1 rfl) ?_
  refine Ri_call (va_runV (As := [.int (J ((en : Nat) : Int))]) (rest := []) ⟨hx, hb, hml, hown, hts⟩ (c_Bk_has l D cI cZ cJ bk wB q1 q2 q3 q4 n ((en : Nat) : Int) (by first | with_reducible assumption | omega) (by first | with_reducible assumption | omega)) (cwV 1 hts (g_V mw_233 mw_234 mw_235 mw_26 mw_236) rfl rfl rfl (by decide +kernel) ⟨Nat.le_of_ble_eq_true rfl, Nat.le_of_ble_eq_true rfl⟩) (pre_RV hP hK [1] rfl 0 0 rfl rfl) rfl rfl hl.1 rfl (lv_room (Nat.le_of_ble_eq_true rfl)) d_Nf_drop_5 ⟨Nat.le_of_ble_eq_true rfl, Nat.le_of_ble_eq_true rfl⟩) ?_
  refine w_if_ne (tgt := 13) hx hb d_Nf_drop_8 (by decide) (rg_b2) (fun c_8 => ?_) (fun c_8 => ?_)
  · have c_8 := b2_n0.mp c_8
    refine lv_aload_n hx hb d_Nf_drop_13 rfl (lv_at hl 0 rfl) ?_
    refine va_get (D := D) (ci := 7) (v := .ref bk) (C := R_Nf) (T := T_Nf) (N := 9) hx hb hts i_Nf hown hK hP 0 rfl rfl 0 (by decide) (hts _ mw_186) (fun _ h9 => h9) rfl d_Nf_drop_14 ?_
    refine va_get (D := D) (ci := 0) (v := .ref q4) (C := R_Bk) (T := T_Bk) (N := 6) hx hb hts i_Bk hown hK hP 1 rfl rfl 4 (by decide) (hts _ mw_83) (fun _ h9 => h9) rfl d_Nf_drop_17 ?_
    refine lv_iload_n hx hb d_Nf_drop_20 rfl (lv_at hl 1 rfl) ?_
    refine w_zald hx hb hK hP 2 1 rfl rfl en (by omega) (by omega) (by omega) d_Nf_drop_21 ?_
    refine w_if_eq (tgt := 29) hx hb d_Nf_drop_22 (by decide) (by omega) (fun c_22 => ?_) (fun c_22 => ?_)
    · refine lv_iconst (v := J (0)) hx hb d_Nf_drop_29 rfl ?_
      refine lv_istore_n (lv' := [(3, .int (J 0)), (0, .ref o), (1, .int (J ((en : Nat) : Int))), (2, .int (J y))]) hx hb d_Nf_drop_30 rfl hl (by decide) rfl (fun ls hl => ?_)
      refine lv_aload_n hx hb d_Nf_drop_31 rfl (lv_at hl 1 rfl) ?_
      refine va_get (D := D) (ci := 7) (v := .ref bk) (C := R_Nf) (T := T_Nf) (N := 9) hx hb hts i_Nf hown hK hP 0 rfl rfl 0 (by decide) (hts _ mw_186) (fun _ h9 => h9) rfl d_Nf_drop_32 ?_
      refine va_get (D := D) (ci := 0) (v := .ref q4) (C := R_Bk) (T := T_Bk) (N := 6) hx hb hts i_Bk hown hK hP 1 rfl rfl 4 (by decide) (hts _ mw_83) (fun _ h9 => h9) rfl d_Nf_drop_35 ?_
      refine lv_iload_n hx hb d_Nf_drop_38 rfl (lv_at hl 2 rfl) ?_
      refine lv_iload_n hx hb d_Nf_drop_39 rfl (lv_at hl 3 rfl) ?_
      refine w_zast hx hb hK hP hD hS 2 1 rfl rfl en (by omega) (by omega) (by omega) (by omega) d_Nf_drop_40 (fun H locs hP hD hS => ?_)
      have hP : va_P D classes [(o, .inr (7, [.ref bk, .ref wA, .ref wo, .ref m1, .ref m2, .ref pa, .ref hi, .int (J ap), .int (J sw)])), (bk, .inr (0, [.ref wB, .ref q1, .ref q2, .ref q3, .ref q4, .int (J ((n : Nat) : Int))])), (q4, ca cZ 40 (iu dr en y))] H := hP
      have hD : va_D A [(o, .inr (7, [.ref bk, .ref wA, .ref wo, .ref m1, .ref m2, .ref pa, .ref hi, .int (J ap), .int (J sw)])), (bk, .inr (0, [.ref wB, .ref q1, .ref q2, .ref q3, .ref q4, .int (J ((n : Nat) : Int))])), (q4, ca cZ 40 (iu dr en y))] := hD
      refine lv_iload_n hx hb d_Nf_drop_41 rfl (lv_at hl 0 rfl) ?_
      exact Mi_ret hx hb hr hlocks hQ d_Nf_drop_42 hP hK hD hS nb_i (by omega) () (trivial) [0, 1, 2] rfl (by decide)
    · refine lv_iconst (v := J (1)) hx hb d_Nf_drop_25 rfl ?_
      refine lv_goto (tgt := 30) hx hb d_Nf_drop_26 (by decide) ?_
      refine lv_istore_n (lv' := [(3, .int (J 1)), (0, .ref o), (1, .int (J ((en : Nat) : Int))), (2, .int (J y))]) hx hb d_Nf_drop_30 rfl hl (by decide) rfl (fun ls hl => ?_)
      refine lv_aload_n hx hb d_Nf_drop_31 rfl (lv_at hl 1 rfl) ?_
      refine va_get (D := D) (ci := 7) (v := .ref bk) (C := R_Nf) (T := T_Nf) (N := 9) hx hb hts i_Nf hown hK hP 0 rfl rfl 0 (by decide) (hts _ mw_186) (fun _ h9 => h9) rfl d_Nf_drop_32 ?_
      refine va_get (D := D) (ci := 0) (v := .ref q4) (C := R_Bk) (T := T_Bk) (N := 6) hx hb hts i_Bk hown hK hP 1 rfl rfl 4 (by decide) (hts _ mw_83) (fun _ h9 => h9) rfl d_Nf_drop_35 ?_
      refine lv_iload_n hx hb d_Nf_drop_38 rfl (lv_at hl 2 rfl) ?_
      refine lv_iload_n hx hb d_Nf_drop_39 rfl (lv_at hl 3 rfl) ?_
      refine w_zast hx hb hK hP hD hS 2 1 rfl rfl en (by omega) (by omega) (by omega) (by omega) d_Nf_drop_40 (fun H locs hP hD hS => ?_)
      have hP : va_P D classes [(o, .inr (7, [.ref bk, .ref wA, .ref wo, .ref m1, .ref m2, .ref pa, .ref hi, .int (J ap), .int (J sw)])), (bk, .inr (0, [.ref wB, .ref q1, .ref q2, .ref q3, .ref q4, .int (J ((n : Nat) : Int))])), (q4, ca cZ 40 (iu dr en y))] H := hP
      have hD : va_D A [(o, .inr (7, [.ref bk, .ref wA, .ref wo, .ref m1, .ref m2, .ref pa, .ref hi, .int (J ap), .int (J sw)])), (bk, .inr (0, [.ref wB, .ref q1, .ref q2, .ref q3, .ref q4, .int (J ((n : Nat) : Int))])), (q4, ca cZ 40 (iu dr en y))] := hD
      refine lv_iload_n hx hb d_Nf_drop_41 rfl (lv_at hl 0 rfl) ?_
      exact Mi_ret hx hb hr hlocks hQ d_Nf_drop_42 hP hK hD hS nb_i (by omega) () (trivial) [0, 1, 2] rfl (by decide)
  · have c_8 := b2_0.mp c_8
    exfalso; omega
def ctv (n cb ca fn sd0 z : Int) : Int := if z = 0 then n else if z = 1 then cb else if z = 2 then ca else if z = 3 then fn else if z = 4 then sd0 else -1
set_option maxHeartbeats 1000000 in
set_option maxRecDepth 100000 in
theorem c_Nf_count (l : Launch) (D : va_G) (cI cZ cJ : ClassId) (o : Nat) (bk : Nat) (wA : Nat) (wo : Nat) (m1 : Nat) (m2 : Nat) (pa : Nat) (hi : Nat) (wB : Nat) (q1 : Nat) (q2 : Nat) (q3 : Nat) (q4 : Nat) (n : Nat) (ap : Int) (sw : Int) (bL : Nat) (bN : Nat) (cb1 : Int) (aL : Nat) (aN : Nat) (ca1 : Int) (e0 : Nat) (e1 : Nat) (e2 : Nat) (mo0 : Int) (bd0 : Int) (fn : Nat) (dr : Nat → Int) (z : Int) (hz : rg z) (hn : n ≤ 40) (hdr : ∀ k, 0 ≤ dr k ∧ dr k ≤ 1) : Ri l y_Nf_count w_Nf_count ({ frames := 1, cells := 0, slots := 0, locals := 22 }) D classes [(cI, .int), (cZ, .boolean), (cJ, .long)] [.ref o, .int (J z)] [(o, .inr (7, [.ref bk, .ref wA, .ref wo, .ref m1, .ref m2, .ref pa, .ref hi, .int (J ap), .int (J sw)])), (bk, .inr (0, [.ref wB, .ref q1, .ref q2, .ref q3, .ref q4, .int (J ((n : Nat) : Int))])), (wB, .inr (6, [.ref bL, .ref bN, .int (J cb1)])), (wA, .inr (6, [.ref aL, .ref aN, .int (J ca1)])), (hi, .inr (3, [.ref e0, .ref e1, .ref e2, .int (J mo0), .int (J bd0), .int (J ((fn : Nat) : Int))])), (q4, ca cZ 40 dr)] (ctv (n : Int) cb1 ca1 (fn : Int) (sm dr n) z) := by
  refine Ri_of (cc := b_Nf_count) (maxL := 2) (by decide) rfl (Nat.le_of_ble_eq_true rfl) ?_
  intro p e s m args below meth c hx hb hr hml hts hown hlocks hP hK Q hQ H hH ls hl
  rw [← hH] at hP
  have hl : lv_has ls 2 [(0, .ref o), (1, .int (J z))] := hl
  refine lv_iload_n hx hb d_Nf_count_0 rfl (lv_at hl 1 rfl) ?_
  rcases (show z = 0 ∨ z = 1 ∨ z = 2 ∨ z = 3 ∨ z = 4 ∨ (z < 0 ∨ 4 < z) by omega) with rfl | rfl | rfl | rfl | rfl | hz9
  · refine lv_tableIn (off := 35) (tgt := 36) hx hb d_Nf_count_1 (by decide) (by decide) (by decide) (by decide) ?_
    refine lv_aload_n hx hb d_Nf_count_36 rfl (lv_at hl 0 rfl) ?_
    refine va_get (D := D) (ci := 7) (v := .ref bk) (C := R_Nf) (T := T_Nf) (N := 9) hx hb hts i_Nf hown hK hP 0 rfl rfl 0 (by decide) (hts _ mw_186) (fun _ h9 => h9) rfl d_Nf_count_37 ?_
    refine va_get (D := D) (ci := 0) (v := .int (J ((n : Nat) : Int))) (C := R_Bk) (T := T_Bk) (N := 6) hx hb hts i_Bk hown hK hP 1 rfl rfl 5 (by decide) (hts _ mw_85) (fun _ h9 => h9) rfl d_Nf_count_40 ?_
    exact Ri_ret hx hb hr hlocks hQ hH d_Nf_count_43 nb_i (rfl)
  · refine lv_tableIn (off := 43) (tgt := 44) hx hb d_Nf_count_1 (by decide) (by decide) (by decide) (by decide) ?_
    refine lv_aload_n hx hb d_Nf_count_44 rfl (lv_at hl 0 rfl) ?_
    refine va_get (D := D) (ci := 7) (v := .ref bk) (C := R_Nf) (T := T_Nf) (N := 9) hx hb hts i_Nf hown hK hP 0 rfl rfl 0 (by decide) (hts _ mw_186) (fun _ h9 => h9) rfl d_Nf_count_45 ?_
    refine va_get (D := D) (ci := 0) (v := .ref wB) (C := R_Bk) (T := T_Bk) (N := 6) hx hb hts i_Bk hown hK hP 1 rfl rfl 0 (by decide) (hts _ mw_76) (fun _ h9 => h9) rfl d_Nf_count_48 ?_
    refine va_get (D := D) (ci := 6) (v := .int (J cb1)) (C := R_Wo) (T := T_Wo) (N := 3) hx hb hts i_Wo hown hK hP 2 rfl rfl 2 (by decide) (hts _ mw_66) (fun _ h9 => h9) rfl d_Nf_count_51 ?_
    exact Ri_ret hx hb hr hlocks hQ hH d_Nf_count_54 nb_i (rfl)
  · refine lv_tableIn (off := 54) (tgt := 55) hx hb d_Nf_count_1 (by decide) (by decide) (by decide) (by decide) ?_
    refine lv_aload_n hx hb d_Nf_count_55 rfl (lv_at hl 0 rfl) ?_
    refine va_get (D := D) (ci := 7) (v := .ref wA) (C := R_Nf) (T := T_Nf) (N := 9) hx hb hts i_Nf hown hK hP 0 rfl rfl 1 (by decide) (hts _ mw_187) (fun _ h9 => h9) rfl d_Nf_count_56 ?_
    refine va_get (D := D) (ci := 6) (v := .int (J ca1)) (C := R_Wo) (T := T_Wo) (N := 3) hx hb hts i_Wo hown hK hP 3 rfl rfl 2 (by decide) (hts _ mw_66) (fun _ h9 => h9) rfl d_Nf_count_59 ?_
    exact Ri_ret hx hb hr hlocks hQ hH d_Nf_count_62 nb_i (rfl)
  · refine lv_tableIn (off := 62) (tgt := 63) hx hb d_Nf_count_1 (by decide) (by decide) (by decide) (by decide) ?_
    refine lv_aload_n hx hb d_Nf_count_63 rfl (lv_at hl 0 rfl) ?_
    refine va_get (D := D) (ci := 7) (v := .ref hi) (C := R_Nf) (T := T_Nf) (N := 9) hx hb hts i_Nf hown hK hP 0 rfl rfl 6 (by decide) (hts _ mw_192) (fun _ h9 => h9) rfl d_Nf_count_64 ?_
    refine va_get (D := D) (ci := 3) (v := .int (J ((fn : Nat) : Int))) (C := R_Hi) (T := T_Hi) (N := 6) hx hb hts i_Hi hown hK hP 4 rfl rfl 5 (by decide) (hts _ mw_172) (fun _ h9 => h9) rfl d_Nf_count_67 ?_
    exact Ri_ret hx hb hr hlocks hQ hH d_Nf_count_70 nb_i (rfl)
  · refine lv_tableIn (off := 70) (tgt := 71) hx hb d_Nf_count_1 (by decide) (by decide) (by decide) (by decide) ?_
    refine lv_aload_n hx hb d_Nf_count_71 rfl (lv_at hl 0 rfl) ?_
    refine va_get (D := D) (ci := 7) (v := .ref bk) (C := R_Nf) (T := T_Nf) (N := 9) hx hb hts i_Nf hown hK hP 0 rfl rfl 0 (by decide) (hts _ mw_186) (fun _ h9 => h9) rfl d_Nf_count_72 ?_
    refine Ri_call (va_runV (As := []) (rest := []) ⟨hx, hb, hml, hown, hts⟩ (c_Bk_droppedOnes l D cI cZ cJ bk wB q1 q2 q3 q4 n dr (by first | with_reducible assumption | omega) (by first | with_reducible assumption | omega)) (cwV 0 hts (g_V mw_466 mw_467 mw_468 mw_26 mw_469) rfl rfl rfl (by decide +kernel) ⟨Nat.le_of_ble_eq_true rfl, Nat.le_of_ble_eq_true rfl⟩) (pre_RV hP hK [1, 5] rfl 0 0 rfl rfl) rfl rfl hl.1 rfl (lv_room (Nat.le_of_ble_eq_true rfl)) d_Nf_count_75 ⟨Nat.le_of_ble_eq_true rfl, Nat.le_of_ble_eq_true rfl⟩) ?_
    exact Ri_ret hx hb hr hlocks hQ hH d_Nf_count_78 nb_i (rfl)
  · refine lv_tableOut (tgt := 79) hx hb d_Nf_count_1 (by rw [J_toInt (by omega)]; omega) (by decide) ?_
    refine lv_iconst (v := J (-1)) hx hb d_Nf_count_79 rfl ?_
    exact Ri_ret hx hb hr hlocks hQ hH d_Nf_count_80 nb_i (by unfold ctv; rw [if_neg (by omega), if_neg (by omega), if_neg (by omega), if_neg (by omega), if_neg (by omega)])
