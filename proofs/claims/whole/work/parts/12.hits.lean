theorem tcl_rg {la lt wt cs ck : Nat → Int} (hw : ∀ k, 0 ≤ wt k ∧ wt k ≤ 1000) (hcs : ∀ j, 0 ≤ cs j ∧ cs j ≤ 20000) (h : ckf la lt cs ck) (n : Nat) : 0 ≤ tcl wt ck (nw la + nw lt) (dgt n 0) (dgt n 1) (dgt n 2) ∧ tcl wt ck (nw la + nw lt) (dgt n 0) (dgt n 1) (dgt n 2) ≤ 1000000 := by
  have e0 := okc_okp (fun j => (hcs j).1) h (dgt_rg n 0) (dgt_rg n 1) (dgt_rg n 2)
  unfold tcl
  by_cases q : okc ck (dgt n 0) (dgt n 1) (dgt n 2)
  · have q2 := e0.mp q
    have := top_rg hw hcs (dgt_rg n 0) (dgt_rg n 1) (dgt_rg n 2) q2
    rw [if_pos q, top_ck h wt _ (dgt_rg n 0) (dgt_rg n 1) (dgt_rg n 2) q2]
    omega
  · rw [if_neg q]
    omega
set_option maxHeartbeats 4000000 in
set_option maxRecDepth 100000 in
theorem c_Pa_choose (l : Launch) (D : va_G) (cI cZ cJ : ClassId) (sz : Nat) (o : Nat) (wo : Nat) (wa : Nat) (ac : Nat) (bw : Int) (wt : Nat → Int) (ck : Nat → Int) (la : Nat → Int) (lt : Nat → Int) (cs : Nat → Int) (hw : ∀ k, 0 ≤ wt k ∧ wt k ≤ 1000) (hck : ∀ j, -1 ≤ ck j ∧ ck j ≤ 20000) (hcs : ∀ j, 0 ≤ cs j ∧ cs j ≤ 20000) (hck2 : ckf la lt cs ck) : Mi l y_Pa_choose w_Pa_choose ({ frames := 3, cells := 0, slots := 0, locals := 71 }) false D classes [(cI, .int), (cZ, .boolean), (cJ, .long)] sz [.ref o] [(o, .inr (4, [.ref wo, .ref ac, .int (J (nw la + nw lt)), .int (J bw)])), (wo, .inr (5, [.ref wa])), (wa, ca cI 6 wt), (ac, ca cI 9 ck)] ((pkw la lt wt cs (nw la + nw lt) 64).1) (S := Unit) (fun _ => True) (fun u : Unit => [(o, .inr (4, [.ref wo, .ref ac, .int (J (nw la + nw lt)), .int (J (((pkw la lt wt cs (nw la + nw lt) 64).2 : Nat) : Int))])), (wo, .inr (5, [.ref wa])), (wa, ca cI 6 wt), (ac, ca cI 9 ck)]) 0 0 := by
  refine Mi_of (cc := b_Pa_choose) (maxL := 4) (by decide) rfl (Nat.le_of_ble_eq_true rfl) ?_
  intro p e s m args below meth c hx hb hr hml hts hown hlocks A hA hP hK hD hT hS Q hQ H hH ls hl
  subst hH
  have hl : lv_has ls 4 [(0, .ref o)] := hl
  refine lv_ldc (v := J (1000000)) hx hb hown (hts _ mw_378) d_Pa_choose_0 ?_
  refine lv_istore_n (lv' := [(1, .int (J 1000000)), (0, .ref o)]) hx hb d_Pa_choose_2 rfl hl (by decide) rfl (fun ls hl => ?_)
  refine lv_iconst (v := J (0)) hx hb d_Pa_choose_3 rfl ?_
  refine lv_istore_n (lv' := [(2, .int (J 0)), (1, .int (J 1000000)), (0, .ref o)]) hx hb d_Pa_choose_4 rfl hl (by decide) rfl (fun ls hl => ?_)
  have lp_5 : ∀ (fu : Nat) (i : Nat) (t : Int) (y : Int), (i ≤ 64) → (t = lst la lt wt cs (nw la + nw lt) i) → (0 < i → y = (((pkw la lt wt cs (nw la + nw lt) i).2 : Nat) : Int)) → (64 - i) < fu → ∀ (H : Heap) (locs : List Loc), va_P D classes [(o, .inr (4, [.ref wo, .ref ac, .int (J (nw la + nw lt)), .int (J y)])), (wo, .inr (5, [.ref wa])), (wa, ca cI 6 wt), (ac, ca cI 9 ck)] H → va_D A [(o, .inr (4, [.ref wo, .ref ac, .int (J (nw la + nw lt)), .int (J y)])), (wo, .inr (5, [.ref wa])), (wa, ca cI 6 wt), (ac, ca cI 9 ck)] → va_S A s.heap H locs → ∀ ls : Array Slot, lv_has ls 4 [(0, .ref o), (1, .int (J t)), (2, .int (J ((i : Nat) : Int)))] → W p l e ({ frames := 3, cells := 0, slots := 0, locals := 71 }) s m args below meth c H locs 0 0 Q (F0 m 5 ls []) := by
    intro fu
    induction fu with
    | zero => intro i t y hi ht hy hfu; exact absurd hfu (Nat.not_lt_zero _)
    | succ fu ih_5 =>
      intro i t y hi ht hy hfu H locs hP hD hS ls hl
      refine lv_iload_n hx hb d_Pa_choose_5 rfl (lv_at hl 2 rfl) ?_
      refine lv_bipush (v := J (64)) hx hb d_Pa_choose_6 (by decide) ?_
      refine w_icmp_ge (tgt := 35) hx hb d_Pa_choose_8 (by decide) (by omega) (by omega) (fun c_8 => ?_) (fun c_8 => ?_)
      · obtain rfl : 64 = i := by omega
        rw [hy (by decide)] at hP hD
        refine lv_iload_n hx hb d_Pa_choose_35 rfl (lv_at hl 1 rfl) ?_
        exact Mi_ret hx hb hr hlocks hQ d_Pa_choose_36 hP hK hD hS nb_i (by rw [ht]; rfl) () (trivial) [0, 1, 2, 3] rfl (by decide)
      · refine lv_aload_n hx hb d_Pa_choose_11 rfl (lv_at hl 0 rfl) ?_
        refine lv_iload_n hx hb d_Pa_choose_12 rfl (lv_at hl 2 rfl) ?_
        refine Ri_call (va_runV (As := [.int (J ((i : Nat) : Int))]) (rest := []) ⟨hx, hb, hml, hown, hts⟩ (c_Pa_totalOf l D cI cZ cJ o wo wa ac (nw la + nw lt) y wt ck i (by first | assumption | omega) (by first | assumption | omega)) (cwV 1 hts (g_V mw_379 mw_381 mw_6 mw_31 mw_382) rfl rfl rfl (by decide +kernel) ⟨Nat.le_of_ble_eq_true rfl, Nat.le_of_ble_eq_true rfl⟩) (pre_RV hP hK [0, 1, 2, 3] rfl 4 0 rfl rfl) rfl rfl hl.1 rfl (lv_room (Nat.le_of_ble_eq_true rfl)) d_Pa_choose_13 ⟨Nat.le_of_ble_eq_true rfl, Nat.le_of_ble_eq_true rfl⟩) ?_
        have t1 := tcl_rg hw hcs hck2 i
        have t2 := lst_rg (la := la) (lt := lt) hw hcs i
        rw [← ht] at t2
        refine lv_istore_n (lv' := [(3, .int (J (tcl wt ck (nw la + nw lt) (dgt i 0) (dgt i 1) (dgt i 2)))), (0, .ref o), (1, .int (J t)), (2, .int (J ((i : Nat) : Int)))]) hx hb d_Pa_choose_16 rfl hl (by decide) rfl (fun ls hl => ?_)
        refine lv_iload_n hx hb d_Pa_choose_17 rfl (lv_at hl 0 rfl) ?_
        refine lv_iload_n hx hb d_Pa_choose_18 rfl (lv_at hl 2 rfl) ?_
        refine w_icmp_ge (tgt := 29) hx hb d_Pa_choose_19 (by decide) (by omega) (by omega) (fun c_19 => ?_) (fun c_19 => ?_)
        · refine w_iinc (k := 3) (lv' := [(2, .int (J ((i + 1 : Nat) : Int))), (3, .int (J (tcl wt ck (nw la + nw lt) (dgt i 0) (dgt i 1) (dgt i 2)))), (0, .ref o), (1, .int (J t))]) hx hb d_Pa_choose_29 hl rfl ((i + 1 : Nat) : Int) (by omega) (by decide) rfl (fun ls hl => ?_)
          refine lv_goto (tgt := 5) hx hb d_Pa_choose_32 (by decide) ?_
          have e9 := lst_ge hw hcs hck2 i (by rw [← ht]; omega)
          exact ih_5 (i + 1) t y (by omega) (by unfold lst at ht ⊢; rw [if_neg (by omega)] at ht ⊢; rw [e9.2]; exact ht) (fun _ => by rw [e9.2]; exact hy e9.1) (by omega) _ _ (P_map hP [0, 1, 2, 3] rfl) (hD.sub [0, 1, 2, 3] (by decide) rfl) hS ls (lv_sub hl [2, 3, 0] rfl)
        · refine lv_iload_n hx hb d_Pa_choose_22 rfl (lv_at hl 0 rfl) ?_
          refine lv_istore_n (lv' := [(1, .int (J (tcl wt ck (nw la + nw lt) (dgt i 0) (dgt i 1) (dgt i 2)))), (3, .int (J (tcl wt ck (nw la + nw lt) (dgt i 0) (dgt i 1) (dgt i 2)))), (0, .ref o), (2, .int (J ((i : Nat) : Int)))]) hx hb d_Pa_choose_23 rfl hl (by decide) rfl (fun ls hl => ?_)
          refine lv_aload_n hx hb d_Pa_choose_24 rfl (lv_at hl 2 rfl) ?_
          refine lv_iload_n hx hb d_Pa_choose_25 rfl (lv_at hl 3 rfl) ?_
          refine va_put (D := D) (ci := 4) (v := .int (J ((i : Nat) : Int))) (ty := .int) (C := R_Pa) (T := T_Pa) (N := 4) hx hb hts i_Pa t_Pa k_Pa n_Pa hown hK hP hD hS 0 rfl rfl 3 (by decide) (hts _ mw_147) (fun _ h9 => h9) rfl (by decide +kernel) rfl rfl (Nat.le_of_ble_eq_true rfl) d_Pa_choose_26 (fun H locs hP hD hS => ?_)
          have hP : va_P D classes [(o, .inr (4, [.ref wo, .ref ac, .int (J (nw la + nw lt)), .int (J ((i : Nat) : Int))])), (wo, .inr (5, [.ref wa])), (wa, ca cI 6 wt), (ac, ca cI 9 ck)] H := hP
          have hD : va_D A [(o, .inr (4, [.ref wo, .ref ac, .int (J (nw la + nw lt)), .int (J ((i : Nat) : Int))])), (wo, .inr (5, [.ref wa])), (wa, ca cI 6 wt), (ac, ca cI 9 ck)] := hD
          refine w_iinc (k := 3) (lv' := [(2, .int (J ((i + 1 : Nat) : Int))), (1, .int (J (tcl wt ck (nw la + nw lt) (dgt i 0) (dgt i 1) (dgt i 2)))), (3, .int (J (tcl wt ck (nw la + nw lt) (dgt i 0) (dgt i 1) (dgt i 2)))), (0, .ref o)]) hx hb d_Pa_choose_29 hl rfl ((i + 1 : Nat) : Int) (by omega) (by decide) rfl (fun ls hl => ?_)
          refine lv_goto (tgt := 5) hx hb d_Pa_choose_32 (by decide) ?_
          have e9 := lst_lt hw hcs hck2 i (by rw [← ht]; omega)
          exact ih_5 (i + 1) (tcl wt ck (nw la + nw lt) (dgt i 0) (dgt i 1) (dgt i 2)) ((i : Nat) : Int) (by omega) (by unfold lst; rw [if_neg (by omega), e9]) (fun _ => by rw [e9]) (by omega) _ _ (P_map hP [0, 1, 2, 3] rfl) (hD.sub [0, 1, 2, 3] (by decide) rfl) hS ls (lv_sub hl [3, 1, 0] rfl)
  exact lp_5 ((64 - 0) + 1) 0 1000000 bw (by omega) (rfl) (fun h => absurd h (Nat.lt_irrefl 0)) (Nat.lt_succ_self _) _ _ (P_map hP [0, 1, 2, 3] rfl) (hD.sub [0, 1, 2, 3] (by decide) rfl) hS ls (lv_sub hl [2, 1, 0] rfl)
set_option maxHeartbeats 4000000 in
set_option maxRecDepth 100000 in
theorem c_Hi_start (l : Launch) (D : va_G) (cI cZ cJ : ClassId) (sz : Nat) (o : Nat) (e0 : Nat) (e1 : Nat) (e2 : Nat) (mo : Int) (bd : Int) (s0 : Int) (k : Int) (b : Int)  : Mv l y_Hi_start w_Hi_start ({ frames := 0, cells := 0, slots := 0, locals := 0 }) false D classes [(cI, .int), (cZ, .boolean), (cJ, .long)] sz [.ref o, .int (J k), .int (J b)] [(o, .inr (3, [.ref e0, .ref e1, .ref e2, .int (J mo), .int (J bd), .int (J s0)]))] (S := Unit) (fun _ => True) (fun u : Unit => [(o, .inr (3, [.ref e0, .ref e1, .ref e2, .int (J k), .int (J b), .int (J 0)]))]) 0 0 := by
  refine Mv_of (cc := b_Hi_start) (maxL := 3) (by decide) rfl (Nat.le_of_ble_eq_true rfl) ?_
  intro p e s m args below meth c hx hb hr hml hts hown hlocks hin A hA hP hK hD hT hS Q hQ H hH ls hl
  subst hH
  have hl : lv_has ls 3 [(0, .ref o), (1, .int (J k)), (2, .int (J b))] := hl
  refine lv_aload_n hx hb d_Hi_start_0 rfl (lv_at hl 0 rfl) ?_
  refine lv_iload_n hx hb d_Hi_start_1 rfl (lv_at hl 1 rfl) ?_
  refine va_put (D := D) (ci := 3) (v := .int (J k)) (ty := .int) (C := R_Hi) (T := T_Hi) (N := 6) hx hb hts i_Hi t_Hi k_Hi n_Hi hown hK hP hD hS 0 rfl rfl 3 (by decide) (hts _ mw_169) (fun _ h9 => h9) rfl (by decide +kernel) rfl rfl (Nat.le_of_ble_eq_true rfl) d_Hi_start_2 (fun H locs hP hD hS => ?_)
  have hP : va_P D classes [(o, .inr (3, [.ref e0, .ref e1, .ref e2, .int (J k), .int (J bd), .int (J s0)]))] H := hP
  have hD : va_D A [(o, .inr (3, [.ref e0, .ref e1, .ref e2, .int (J k), .int (J bd), .int (J s0)]))] := hD
  refine lv_aload_n hx hb d_Hi_start_5 rfl (lv_at hl 0 rfl) ?_
  refine lv_iload_n hx hb d_Hi_start_6 rfl (lv_at hl 2 rfl) ?_
  refine va_put (D := D) (ci := 3) (v := .int (J b)) (ty := .int) (C := R_Hi) (T := T_Hi) (N := 6) hx hb hts i_Hi t_Hi k_Hi n_Hi hown hK hP hD hS 0 rfl rfl 4 (by decide) (hts _ mw_170) (fun _ h9 => h9) rfl (by decide +kernel) rfl rfl (Nat.le_of_ble_eq_true rfl) d_Hi_start_7 (fun H locs hP hD hS => ?_)
  have hP : va_P D classes [(o, .inr (3, [.ref e0, .ref e1, .ref e2, .int (J k), .int (J b), .int (J s0)]))] H := hP
  have hD : va_D A [(o, .inr (3, [.ref e0, .ref e1, .ref e2, .int (J k), .int (J b), .int (J s0)]))] := hD
  refine lv_aload_n hx hb d_Hi_start_10 rfl (lv_at hl 0 rfl) ?_
  refine lv_iconst (v := J (0)) hx hb d_Hi_start_11 rfl ?_
  refine va_put (D := D) (ci := 3) (v := .int (J 0)) (ty := .int) (C := R_Hi) (T := T_Hi) (N := 6) hx hb hts i_Hi t_Hi k_Hi n_Hi hown hK hP hD hS 0 rfl rfl 5 (by decide) (hts _ mw_171) (fun _ h9 => h9) rfl (by decide +kernel) rfl rfl (Nat.le_of_ble_eq_true rfl) d_Hi_start_12 (fun H locs hP hD hS => ?_)
  have hP : va_P D classes [(o, .inr (3, [.ref e0, .ref e1, .ref e2, .int (J k), .int (J b), .int (J 0)]))] H := hP
  have hD : va_D A [(o, .inr (3, [.ref e0, .ref e1, .ref e2, .int (J k), .int (J b), .int (J 0)]))] := hD
  exact Mv_ret hx hb hr hlocks hQ d_Hi_start_15 hP hK hD hS () (trivial) [0] rfl (by decide)
set_option maxHeartbeats 4000000 in
set_option maxRecDepth 100000 in
theorem c_Hi_has (l : Launch) (D : va_G) (cI cZ cJ : ClassId) (o : Nat) (e0 : Nat) (e1 : Nat) (e2 : Nat) (mo : Int) (bd : Int) (n : Nat) (z : Int) (hz : rg z) (hn : n ≤ 40) : Ri l y_Hi_has w_Hi_has ({ frames := 0, cells := 0, slots := 0, locals := 0 }) D classes [(cI, .int), (cZ, .boolean), (cJ, .long)] [.ref o, .int (J z)] [(o, .inr (3, [.ref e0, .ref e1, .ref e2, .int (J mo), .int (J bd), .int (J ((n : Nat) : Int))]))] (b2 (0 ≤ z ∧ z < (n : Int))) := by
  refine Ri_of (cc := b_Hi_has) (maxL := 2) (by decide) rfl (Nat.le_of_ble_eq_true rfl) ?_
  intro p e s m args below meth c hx hb hr hml hts hown hlocks hP hK Q hQ H hH ls hl
  rw [← hH] at hP
  have hl : lv_has ls 2 [(0, .ref o), (1, .int (J z))] := hl
  refine lv_iload_n hx hb d_Hi_has_0 rfl (lv_at hl 1 rfl) ?_
  refine w_if_lt (tgt := 16) hx hb d_Hi_has_1 (by decide) (by omega) (fun c_1 => ?_) (fun c_1 => ?_)
  · refine lv_iconst (v := J (0)) hx hb d_Hi_has_16 rfl ?_
    exact Ri_ret hx hb hr hlocks hQ hH d_Hi_has_17 (nb_z (by omega)) (by unfold b2; split <;> omega)
  · refine lv_iload_n hx hb d_Hi_has_4 rfl (lv_at hl 1 rfl) ?_
    refine lv_aload_n hx hb d_Hi_has_5 rfl (lv_at hl 0 rfl) ?_
    refine va_get (D := D) (ci := 3) (v := .int (J ((n : Nat) : Int))) (C := R_Hi) (T := T_Hi) (N := 6) hx hb hts i_Hi hown hK hP 0 rfl rfl 5 (by decide) (hts _ mw_171) (fun _ h9 => h9) rfl d_Hi_has_6 ?_
    refine w_icmp_ge (tgt := 16) hx hb d_Hi_has_9 (by decide) (by omega) (by omega) (fun c_9 => ?_) (fun c_9 => ?_)
    · refine lv_iconst (v := J (0)) hx hb d_Hi_has_16 rfl ?_
      exact Ri_ret hx hb hr hlocks hQ hH d_Hi_has_17 (nb_z (by omega)) (by unfold b2; split <;> omega)
    · refine lv_iconst (v := J (1)) hx hb d_Hi_has_12 rfl ?_
      refine lv_goto (tgt := 17) hx hb d_Hi_has_13 (by decide) ?_
      exact Ri_ret hx hb hr hlocks hQ hH d_Hi_has_17 (nb_z (by omega)) (by unfold b2; split <;> omega)
set_option maxHeartbeats 4000000 in
set_option maxRecDepth 100000 in
theorem c_Hi_limit (l : Launch) (D : va_G) (cI cZ cJ : ClassId) (o : Nat) (e0 : Nat) (e1 : Nat) (e2 : Nat) (bd : Int) (n : Nat) (k : Nat) (fs : Nat → Int) (hn : n ≤ k) (hk : 1 ≤ k ∧ k ≤ 40) : Ri l y_Hi_limit w_Hi_limit ({ frames := 0, cells := 0, slots := 0, locals := 0 }) D classes [(cI, .int), (cZ, .boolean), (cJ, .long)] [.ref o] [(o, .inr (3, [.ref e0, .ref e1, .ref e2, .int (J ((k : Nat) : Int)), .int (J bd), .int (J ((n : Nat) : Int))])), (e1, ca cI 40 fs)] (if n = k then fs (k - 1) else bd) := by
  refine Ri_of (cc := b_Hi_limit) (maxL := 1) (by decide) rfl (Nat.le_of_ble_eq_true rfl) ?_
  intro p e s m args below meth c hx hb hr hml hts hown hlocks hP hK Q hQ H hH ls hl
  rw [← hH] at hP
  have hl : lv_has ls 1 [(0, .ref o)] := hl
  refine lv_aload_n hx hb d_Hi_limit_0 rfl (lv_at hl 0 rfl) ?_
  refine va_get (D := D) (ci := 3) (v := .int (J ((n : Nat) : Int))) (C := R_Hi) (T := T_Hi) (N := 6) hx hb hts i_Hi hown hK hP 0 rfl rfl 5 (by decide) (hts _ mw_171) (fun _ h9 => h9) rfl d_Hi_limit_1 ?_
  refine w_if_le (tgt := 32) hx hb d_Hi_limit_4 (by decide) (by omega) (fun c_4 => ?_) (fun c_4 => ?_)
  · refine lv_aload_n hx hb d_Hi_limit_32 rfl (lv_at hl 0 rfl) ?_
    refine va_get (D := D) (ci := 3) (v := .int (J bd)) (C := R_Hi) (T := T_Hi) (N := 6) hx hb hts i_Hi hown hK hP 0 rfl rfl 4 (by decide) (hts _ mw_170) (fun _ h9 => h9) rfl d_Hi_limit_33 ?_
    exact Ri_ret hx hb hr hlocks hQ hH d_Hi_limit_36 nb_i (by rw [if_neg (by omega)])
  · refine lv_aload_n hx hb d_Hi_limit_7 rfl (lv_at hl 0 rfl) ?_
    refine va_get (D := D) (ci := 3) (v := .int (J ((n : Nat) : Int))) (C := R_Hi) (T := T_Hi) (N := 6) hx hb hts i_Hi hown hK hP 0 rfl rfl 5 (by decide) (hts _ mw_171) (fun _ h9 => h9) rfl d_Hi_limit_8 ?_
    refine lv_aload_n hx hb d_Hi_limit_11 rfl (lv_at hl 0 rfl) ?_
    refine va_get (D := D) (ci := 3) (v := .int (J ((k : Nat) : Int))) (C := R_Hi) (T := T_Hi) (N := 6) hx hb hts i_Hi hown hK hP 0 rfl rfl 3 (by decide) (hts _ mw_169) (fun _ h9 => h9) rfl d_Hi_limit_12 ?_
    refine w_icmp_lt (tgt := 32) hx hb d_Hi_limit_15 (by decide) (by omega) (by omega) (fun c_15 => ?_) (fun c_15 => ?_)
    · refine lv_aload_n hx hb d_Hi_limit_32 rfl (lv_at hl 0 rfl) ?_
      refine va_get (D := D) (ci := 3) (v := .int (J bd)) (C := R_Hi) (T := T_Hi) (N := 6) hx hb hts i_Hi hown hK hP 0 rfl rfl 4 (by decide) (hts _ mw_170) (fun _ h9 => h9) rfl d_Hi_limit_33 ?_
      exact Ri_ret hx hb hr hlocks hQ hH d_Hi_limit_36 nb_i (by rw [if_neg (by omega)])
    · refine lv_aload_n hx hb d_Hi_limit_18 rfl (lv_at hl 0 rfl) ?_
      refine va_get (D := D) (ci := 3) (v := .ref e1) (C := R_Hi) (T := T_Hi) (N := 6) hx hb hts i_Hi hown hK hP 0 rfl rfl 1 (by decide) (hts _ mw_166) (fun _ h9 => h9) rfl d_Hi_limit_19 ?_
      refine lv_aload_n hx hb d_Hi_limit_22 rfl (lv_at hl 0 rfl) ?_
      refine va_get (D := D) (ci := 3) (v := .int (J ((n : Nat) : Int))) (C := R_Hi) (T := T_Hi) (N := 6) hx hb hts i_Hi hown hK hP 0 rfl rfl 5 (by decide) (hts _ mw_171) (fun _ h9 => h9) rfl d_Hi_limit_23 ?_
      refine lv_iconst (v := J (1)) hx hb d_Hi_limit_26 rfl ?_
      refine w_isub hx hb d_Hi_limit_27 ((n - 1 : Nat) : Int) (by omega) ?_
      refine w_iald hx hb hK hP 1 0 rfl rfl (n - 1) (by omega) (by omega) (by omega) d_Hi_limit_28 ?_
      refine lv_goto (tgt := 36) hx hb d_Hi_limit_29 (by decide) ?_
      exact Ri_ret hx hb hr hlocks hQ hH d_Hi_limit_36 nb_i (by rw [if_pos (by omega), show n - 1 = k - 1 by omega])
set_option maxHeartbeats 4000000 in
set_option maxRecDepth 100000 in
theorem c_Hi_isNearer (l : Launch) (D : va_G) (cI cZ cJ : ClassId) (o : Nat) (e0 : Nat) (e1 : Nat) (e2 : Nat) (mo : Int) (bd : Int) (n : Nat) (fs : Nat → Int) (hd : Nat → Int) (z : Int) (y : Int) (i : Nat) (hz : rg z) (hy : rg y) (hi : i < 40) (hfs : ∀ k, rg (fs k)) (hhd : ∀ k, rg (hd k)) : Ri l y_Hi_isNearer w_Hi_isNearer ({ frames := 0, cells := 0, slots := 0, locals := 0 }) D classes [(cI, .int), (cZ, .boolean), (cJ, .long)] [.ref o, .int (J z), .int (J y), .int (J ((i : Nat) : Int))] [(o, .inr (3, [.ref e0, .ref e1, .ref e2, .int (J mo), .int (J bd), .int (J ((n : Nat) : Int))])), (e1, ca cI 40 fs), (e2, ca cI 40 hd)] (b2 (nr fs hd z y i)) := by
  refine Ri_of (cc := b_Hi_isNearer) (maxL := 4) (by decide) rfl (Nat.le_of_ble_eq_true rfl) ?_
  intro p e s m args below meth c hx hb hr hml hts hown hlocks hP hK Q hQ H hH ls hl
  rw [← hH] at hP
  have hl : lv_has ls 4 [(0, .ref o), (1, .int (J z)), (2, .int (J y)), (3, .int (J ((i : Nat) : Int)))] := hl
  have f1 := hfs i
  have f2 := hhd i
  refine lv_iload_n hx hb d_Hi_isNearer_0 rfl (lv_at hl 1 rfl) ?_
  refine lv_aload_n hx hb d_Hi_isNearer_1 rfl (lv_at hl 0 rfl) ?_
  refine va_get (D := D) (ci := 3) (v := .ref e1) (C := R_Hi) (T := T_Hi) (N := 6) hx hb hts i_Hi hown hK hP 0 rfl rfl 1 (by decide) (hts _ mw_166) (fun _ h9 => h9) rfl d_Hi_isNearer_2 ?_
  refine lv_iload_n hx hb d_Hi_isNearer_5 rfl (lv_at hl 3 rfl) ?_
  refine w_iald hx hb hK hP 1 0 rfl rfl i (by omega) (by omega) (by omega) d_Hi_isNearer_6 ?_
  refine w_icmp_lt (tgt := 30) hx hb d_Hi_isNearer_7 (by decide) (by omega) (by omega) (fun c_7 => ?_) (fun c_7 => ?_)
  · refine lv_iconst (v := J (1)) hx hb d_Hi_isNearer_30 rfl ?_
    refine lv_goto (tgt := 35) hx hb d_Hi_isNearer_31 (by decide) ?_
    exact Ri_ret hx hb hr hlocks hQ hH d_Hi_isNearer_35 (nb_z (by omega)) (by unfold b2 nr; split <;> omega)
  · refine lv_iload_n hx hb d_Hi_isNearer_10 rfl (lv_at hl 1 rfl) ?_
    refine lv_aload_n hx hb d_Hi_isNearer_11 rfl (lv_at hl 0 rfl) ?_
    refine va_get (D := D) (ci := 3) (v := .ref e1) (C := R_Hi) (T := T_Hi) (N := 6) hx hb hts i_Hi hown hK hP 0 rfl rfl 1 (by decide) (hts _ mw_166) (fun _ h9 => h9) rfl d_Hi_isNearer_12 ?_
    refine lv_iload_n hx hb d_Hi_isNearer_15 rfl (lv_at hl 3 rfl) ?_
    refine w_iald hx hb hK hP 1 0 rfl rfl i (by omega) (by omega) (by omega) d_Hi_isNearer_16 ?_
    refine w_icmp_ne (tgt := 34) hx hb d_Hi_isNearer_17 (by decide) (by omega) (by omega) (fun c_17 => ?_) (fun c_17 => ?_)
    · refine lv_iconst (v := J (0)) hx hb d_Hi_isNearer_34 rfl ?_
      exact Ri_ret hx hb hr hlocks hQ hH d_Hi_isNearer_35 (nb_z (by omega)) (by unfold b2 nr; split <;> omega)
    · refine lv_iload_n hx hb d_Hi_isNearer_20 rfl (lv_at hl 2 rfl) ?_
      refine lv_aload_n hx hb d_Hi_isNearer_21 rfl (lv_at hl 0 rfl) ?_
      refine va_get (D := D) (ci := 3) (v := .ref e2) (C := R_Hi) (T := T_Hi) (N := 6) hx hb hts i_Hi hown hK hP 0 rfl rfl 2 (by decide) (hts _ mw_168) (fun _ h9 => h9) rfl d_Hi_isNearer_22 ?_
      refine lv_iload_n hx hb d_Hi_isNearer_25 rfl (lv_at hl 3 rfl) ?_
      refine w_iald hx hb hK hP 2 0 rfl rfl i (by omega) (by omega) (by omega) d_Hi_isNearer_26 ?_
      refine w_icmp_le (tgt := 34) hx hb d_Hi_isNearer_27 (by decide) (by omega) (by omega) (fun c_27 => ?_) (fun c_27 => ?_)
      · refine lv_iconst (v := J (0)) hx hb d_Hi_isNearer_34 rfl ?_
        exact Ri_ret hx hb hr hlocks hQ hH d_Hi_isNearer_35 (nb_z (by omega)) (by unfold b2 nr; split <;> omega)
      · refine lv_iconst (v := J (1)) hx hb d_Hi_isNearer_30 rfl ?_
        refine lv_goto (tgt := 35) hx hb d_Hi_isNearer_31 (by decide) ?_
        exact Ri_ret hx hb hr hlocks hQ hH d_Hi_isNearer_35 (nb_z (by omega)) (by unfold b2 nr; split <;> omega)
set_option maxHeartbeats 4000000 in
set_option maxRecDepth 100000 in
theorem c_Hi_copy (l : Launch) (D : va_G) (cI cZ cJ : ClassId) (sz : Nat) (o : Nat) (e0 : Nat) (e1 : Nat) (e2 : Nat) (mo : Int) (bd : Int) (n : Nat) (fe : Nat → Int) (fs : Nat → Int) (hd : Nat → Int) (i : Nat) (j : Nat) (hi : i < 40) (hj : j < 40) : Mv l y_Hi_copy w_Hi_copy ({ frames := 0, cells := 0, slots := 0, locals := 0 }) false D classes [(cI, .int), (cZ, .boolean), (cJ, .long)] sz [.ref o, .int (J ((i : Nat) : Int)), .int (J ((j : Nat) : Int))] [(o, .inr (3, [.ref e0, .ref e1, .ref e2, .int (J mo), .int (J bd), .int (J ((n : Nat) : Int))])), (e0, ca cI 40 fe), (e1, ca cI 40 fs), (e2, ca cI 40 hd)] (S := Unit) (fun _ => True) (fun u : Unit => [(o, .inr (3, [.ref e0, .ref e1, .ref e2, .int (J mo), .int (J bd), .int (J ((n : Nat) : Int))])), (e0, ca cI 40 (iu fe j (fe i))), (e1, ca cI 40 (iu fs j (fs i))), (e2, ca cI 40 (iu hd j (hd i)))]) 0 0 := by
  refine Mv_of (cc := b_Hi_copy) (maxL := 3) (by decide) rfl (Nat.le_of_ble_eq_true rfl) ?_
  intro p e s m args below meth c hx hb hr hml hts hown hlocks hin A hA hP hK hD hT hS Q hQ H hH ls hl
  subst hH
  have hl : lv_has ls 3 [(0, .ref o), (1, .int (J ((i : Nat) : Int))), (2, .int (J ((j : Nat) : Int)))] := hl
  refine lv_aload_n hx hb d_Hi_copy_0 rfl (lv_at hl 0 rfl) ?_
  refine va_get (D := D) (ci := 3) (v := .ref e0) (C := R_Hi) (T := T_Hi) (N := 6) hx hb hts i_Hi hown hK hP 0 rfl rfl 0 (by decide) (hts _ mw_164) (fun _ h9 => h9) rfl d_Hi_copy_1 ?_
  refine lv_iload_n hx hb d_Hi_copy_4 rfl (lv_at hl 2 rfl) ?_
  refine lv_aload_n hx hb d_Hi_copy_5 rfl (lv_at hl 0 rfl) ?_
  refine va_get (D := D) (ci := 3) (v := .ref e0) (C := R_Hi) (T := T_Hi) (N := 6) hx hb hts i_Hi hown hK hP 0 rfl rfl 0 (by decide) (hts _ mw_164) (fun _ h9 => h9) rfl d_Hi_copy_6 ?_
  refine lv_iload_n hx hb d_Hi_copy_9 rfl (lv_at hl 1 rfl) ?_
  refine w_iald hx hb hK hP 1 0 rfl rfl i (by omega) (by omega) (by omega) d_Hi_copy_10 ?_
  refine w_iast hx hb hK hP hD hS 1 0 rfl rfl j (by omega) (by omega) (by omega) d_Hi_copy_11 (fun H locs hP hD hS => ?_)
  have hP : va_P D classes [(o, .inr (3, [.ref e0, .ref e1, .ref e2, .int (J mo), .int (J bd), .int (J ((n : Nat) : Int))])), (e0, ca cI 40 (iu fe j (fe i))), (e1, ca cI 40 fs), (e2, ca cI 40 hd)] H := hP
  have hD : va_D A [(o, .inr (3, [.ref e0, .ref e1, .ref e2, .int (J mo), .int (J bd), .int (J ((n : Nat) : Int))])), (e0, ca cI 40 (iu fe j (fe i))), (e1, ca cI 40 fs), (e2, ca cI 40 hd)] := hD
  refine lv_aload_n hx hb d_Hi_copy_12 rfl (lv_at hl 0 rfl) ?_
  refine va_get (D := D) (ci := 3) (v := .ref e1) (C := R_Hi) (T := T_Hi) (N := 6) hx hb hts i_Hi hown hK hP 0 rfl rfl 1 (by decide) (hts _ mw_166) (fun _ h9 => h9) rfl d_Hi_copy_13 ?_
  refine lv_iload_n hx hb d_Hi_copy_16 rfl (lv_at hl 2 rfl) ?_
  refine lv_aload_n hx hb d_Hi_copy_17 rfl (lv_at hl 0 rfl) ?_
  refine va_get (D := D) (ci := 3) (v := .ref e1) (C := R_Hi) (T := T_Hi) (N := 6) hx hb hts i_Hi hown hK hP 0 rfl rfl 1 (by decide) (hts _ mw_166) (fun _ h9 => h9) rfl d_Hi_copy_18 ?_
  refine lv_iload_n hx hb d_Hi_copy_21 rfl (lv_at hl 1 rfl) ?_
  refine w_iald hx hb hK hP 2 0 rfl rfl i (by omega) (by omega) (by omega) d_Hi_copy_22 ?_
  refine w_iast hx hb hK hP hD hS 2 0 rfl rfl j (by omega) (by omega) (by omega) d_Hi_copy_23 (fun H locs hP hD hS => ?_)
  have hP : va_P D classes [(o, .inr (3, [.ref e0, .ref e1, .ref e2, .int (J mo), .int (J bd), .int (J ((n : Nat) : Int))])), (e0, ca cI 40 (iu fe j (fe i))), (e1, ca cI 40 (iu fs j (fs i))), (e2, ca cI 40 hd)] H := hP
  have hD : va_D A [(o, .inr (3, [.ref e0, .ref e1, .ref e2, .int (J mo), .int (J bd), .int (J ((n : Nat) : Int))])), (e0, ca cI 40 (iu fe j (fe i))), (e1, ca cI 40 (iu fs j (fs i))), (e2, ca cI 40 hd)] := hD
  refine lv_aload_n hx hb d_Hi_copy_24 rfl (lv_at hl 0 rfl) ?_
  refine va_get (D := D) (ci := 3) (v := .ref e2) (C := R_Hi) (T := T_Hi) (N := 6) hx hb hts i_Hi hown hK hP 0 rfl rfl 2 (by decide) (hts _ mw_168) (fun _ h9 => h9) rfl d_Hi_copy_25 ?_
  refine lv_iload_n hx hb d_Hi_copy_28 rfl (lv_at hl 2 rfl) ?_
  refine lv_aload_n hx hb d_Hi_copy_29 rfl (lv_at hl 0 rfl) ?_
  refine va_get (D := D) (ci := 3) (v := .ref e2) (C := R_Hi) (T := T_Hi) (N := 6) hx hb hts i_Hi hown hK hP 0 rfl rfl 2 (by decide) (hts _ mw_168) (fun _ h9 => h9) rfl d_Hi_copy_30 ?_
  refine lv_iload_n hx hb d_Hi_copy_33 rfl (lv_at hl 1 rfl) ?_
  refine w_iald hx hb hK hP 3 0 rfl rfl i (by omega) (by omega) (by omega) d_Hi_copy_34 ?_
  refine w_iast hx hb hK hP hD hS 3 0 rfl rfl j (by omega) (by omega) (by omega) d_Hi_copy_35 (fun H locs hP hD hS => ?_)
  have hP : va_P D classes [(o, .inr (3, [.ref e0, .ref e1, .ref e2, .int (J mo), .int (J bd), .int (J ((n : Nat) : Int))])), (e0, ca cI 40 (iu fe j (fe i))), (e1, ca cI 40 (iu fs j (fs i))), (e2, ca cI 40 (iu hd j (hd i)))] H := hP
  have hD : va_D A [(o, .inr (3, [.ref e0, .ref e1, .ref e2, .int (J mo), .int (J bd), .int (J ((n : Nat) : Int))])), (e0, ca cI 40 (iu fe j (fe i))), (e1, ca cI 40 (iu fs j (fs i))), (e2, ca cI 40 (iu hd j (hd i)))] := hD
  exact Mv_ret hx hb hr hlocks hQ d_Hi_copy_36 hP hK hD hS () (trivial) [0, 1, 2, 3] rfl (by decide)
