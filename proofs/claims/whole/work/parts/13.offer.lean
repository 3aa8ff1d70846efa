theorem sd_rg (j : Nat) : 0 ≤ sd j ∧ sd j ≤ 13 := by
  by_cases h : j < 26
  · have : ∀ j, j < 26 → 0 ≤ sd j ∧ sd j ≤ 13 := by decide
    exact this j h
  · unfold sd
    rw [List.getD_eq_getElem?_getD, List.getElem?_eq_none (by simpa using h)]
    decide
theorem w_ti {p : Program} {l : Launch} {e : Env} {R : Room} {s : State} {m : MethodId} {args : Array Value} {below : List Frame} {meth : Method} {c : Code} {H : Heap} {locs : List Loc} {cells slots : Nat} {Q : State → Prop} {cc : ByteArray} {pc : Nat} {ls : Array Slot} {rest : List Value} {A : Nat → Prop} {t : Nat}
    (hexec : p.tables.exec = Jvm.exec) (hb : c.code = cc) (hT : va_T .int t 26 (fun j => .int (J (sd j))) A s s.heap) (hS : va_S A s.heap H locs) (k : Nat) {z : Int} (hz : z = (k : Int)) (hk : k < 26) (hdg : decode cc pc = .ok (.iaload, 1))
    (kk : W p l e R s m args below meth c H locs cells slots Q (F0 m (pc + 1) ls (.int (J (sd k)) :: rest))) : W p l e R s m args below meth c H locs cells slots Q (F0 m pc ls (.int (J z) :: .ref t :: rest)) := by
  subst hz
  refine va_ti (v := .int (J (sd k))) hexec hb hT hS (J_in hk (by decide)) ?_ hdg kk
  rw [J_cl (by omega)]
/-- f below i, g from there on -/
def rwl (f g : Nat → Int) (i : Nat) : Nat → Int := fun j => if j < i then f j else g j
theorem rwl_0 (f g : Nat → Int) : rwl f g 0 = g := by funext k; unfold rwl; rw [if_neg (by omega)]
theorem rwl_lt (f g : Nat → Int) {i j : Nat} (h : j < i) : rwl f g i j = f j := if_pos h
theorem rwl_ge (f g : Nat → Int) {i j : Nat} (h : i ≤ j) : rwl f g i j = g j := if_neg (by omega)
theorem rwl_s (f g : Nat → Int) (i : Nat) : iu (rwl f g i) i (f i) = rwl f g (i + 1) := by
  funext k
  by_cases h : k = i
  · subst h; rw [iu_s, rwl_lt _ _ (by omega)]
  · rw [iu_n _ _ h]
    by_cases q : k < i
    · rw [rwl_lt _ _ q, rwl_lt _ _ (by omega)]
    · rw [rwl_ge _ _ (by omega), rwl_ge _ _ (by omega)]
theorem rwl_1 (f g : Nat → Int) {v : Int} (h : v = f 0) : iu g 0 v = rwl f g 1 := by
  rw [h, ← rwl_s, rwl_0]
theorem edr_eq {wt : Nat → Int} {a : Int} {v pr pr' : Nat → Int} {m : Nat} (h : ∀ j, j ≤ m → pr j = pr' j) : ∀ j, j ≤ m → edr wt a v pr j = edr wt a v pr' j
  | 0, _ => by rw [edr, edr, h 0 (by omega)]
  | j + 1, hj => by rw [edr, edr, h j (by omega), h (j + 1) hj, edr_eq h j (by omega)]
theorem rwl_ed (wt : Nat → Int) (x v r : Nat → Int) (i m : Nat) : rwl (edr wt (x i) v (rwl (ed wt x v i) r (m + 1))) (rwl (ed wt x v i) r (m + 1)) (m + 1) = rwl (ed wt x v (i + 1)) r (m + 1) := by
  funext j
  by_cases h : j < m + 1
  · rw [rwl_lt _ _ h, rwl_lt _ _ h]
    exact edr_eq (m := m) (fun q hq => rwl_lt _ _ (by omega)) j (by omega)
  · rw [rwl_ge _ _ (by omega), rwl_ge _ _ (by omega), rwl_ge _ _ (by omega)]
set_option maxHeartbeats 4000000 in
set_option maxRecDepth 100000 in
theorem c_Hi_offer_no (l : Launch) (D : va_G) (cI cZ cJ : ClassId) (sz : Nat) (o : Nat) (e0 : Nat) (e1 : Nat) (e2 : Nat) (bd : Int) (n : Nat) (k : Nat) (fe : Nat → Int) (fs : Nat → Int) (hd : Nat → Int) (en : Int) (z : Int) (y : Int) (q : Nat) (hz : rg z) (hy : rg y) (hbd : rg bd) (hfs : ∀ k, rg (fs k)) (hhd : ∀ k, rg (hd k)) (hnk : n ≤ k) (hk : 1 ≤ k ∧ k ≤ 40) (hqn : psn fs hd z y n = q) (hno : bd < z ∨ k ≤ q) : Mv l y_Hi_offer w_Hi_offer ({ frames := 1, cells := 0, slots := 0, locals := 23 }) false D classes [(cI, .int), (cZ, .boolean), (cJ, .long)] sz [.ref o, .int (J en), .int (J z), .int (J y)] [(o, .inr (3, [.ref e0, .ref e1, .ref e2, .int (J ((k : Nat) : Int)), .int (J bd), .int (J ((n : Nat) : Int))])), (e0, ca cI 40 fe), (e1, ca cI 40 fs), (e2, ca cI 40 hd)] (S := Unit) (fun _ => True) (fun u : Unit => [(o, .inr (3, [.ref e0, .ref e1, .ref e2, .int (J ((k : Nat) : Int)), .int (J bd), .int (J ((n : Nat) : Int))])), (e0, ca cI 40 fe), (e1, ca cI 40 fs), (e2, ca cI 40 hd)]) 0 0 := by
  refine Mv_of (cc := b_Hi_offer) (maxL := 6) (by decide) rfl (Nat.le_of_ble_eq_true rfl) ?_
  intro p e s m args below meth c hx hb hr hml hts hown hlocks hin A hA hP hK hD hT hS Q hQ H hH ls hl
  subst hH
  have hl : lv_has ls 6 [(0, .ref o), (1, .int (J en)), (2, .int (J z)), (3, .int (J y))] := hl
  have q1 := psn_le fs hd z y n
  refine lv_iload_n hx hb d_Hi_offer_0 rfl (lv_at hl 2 rfl) ?_
  refine lv_aload_n hx hb d_Hi_offer_1 rfl (lv_at hl 0 rfl) ?_
  refine va_get (D := D) (ci := 3) (v := .int (J bd)) (C := R_Hi) (T := T_Hi) (N := 6) hx hb hts i_Hi hown hK hP 0 rfl rfl 4 (by decide) (hts _ mw_170) (fun _ h9 => h9) rfl d_Hi_offer_2 ?_
  refine w_icmp_le (tgt := 9) hx hb d_Hi_offer_5 (by decide) (by omega) (by omega) (fun c_5 => ?_) (fun c_5 => ?_)
  · refine lv_aload_n hx hb d_Hi_offer_9 rfl (lv_at hl 0 rfl) ?_
    refine va_get (D := D) (ci := 3) (v := .int (J ((n : Nat) : Int))) (C := R_Hi) (T := T_Hi) (N := 6) hx hb hts i_Hi hown hK hP 0 rfl rfl 5 (by decide) (hts _ mw_171) (fun _ h9 => h9) rfl d_Hi_offer_10 ?_
    refine lv_istore (lv' := [(4, .int (J ((n : Nat) : Int))), (0, .ref o), (1, .int (J en)), (2, .int (J z)), (3, .int (J y))]) hx hb d_Hi_offer_13 hl (by decide) rfl (fun ls hl => ?_)
    have lp_15 : ∀ (fu : Nat) (j : Nat), (j ≤ n) → (psn fs hd z y n = psn fs hd z y j) → j < fu → ∀ (H : Heap) (locs : List Loc), va_P D classes [(o, .inr (3, [.ref e0, .ref e1, .ref e2, .int (J ((k : Nat) : Int)), .int (J bd), .int (J ((n : Nat) : Int))])), (e0, ca cI 40 fe), (e1, ca cI 40 fs), (e2, ca cI 40 hd)] H → va_D A [(o, .inr (3, [.ref e0, .ref e1, .ref e2, .int (J ((k : Nat) : Int)), .int (J bd), .int (J ((n : Nat) : Int))])), (e0, ca cI 40 fe), (e1, ca cI 40 fs), (e2, ca cI 40 hd)] → va_S A s.heap H locs → ∀ ls : Array Slot, lv_has ls 6 [(0, .ref o), (1, .int (J en)), (2, .int (J z)), (3, .int (J y)), (4, .int (J ((j : Nat) : Int)))] → W p l e ({ frames := 1, cells := 0, slots := 0, locals := 23 }) s m args below meth c H locs 0 0 Q (F0 m 15 ls []) := by
      intro fu
      induction fu with
      | zero => intro j hj hps hfu; exact absurd hfu (Nat.not_lt_zero _)
      | succ fu ih_15 =>
        intro j hj hps hfu H locs hP hD hS ls hl
        refine lv_iload hx hb d_Hi_offer_15 (lv_at hl 4 rfl) ?_
        refine w_if_le (tgt := 39) hx hb d_Hi_offer_17 (by decide) (by omega) (fun c_17 => ?_) (fun c_17 => ?_)
        · obtain rfl : q = j := by rw [← hqn, hps, show j = 0 by omega]; rfl
          refine lv_iload hx hb d_Hi_offer_39 (lv_at hl 4 rfl) ?_
          refine lv_aload_n hx hb d_Hi_offer_41 rfl (lv_at hl 0 rfl) ?_
          refine va_get (D := D) (ci := 3) (v := .int (J ((k : Nat) : Int))) (C := R_Hi) (T := T_Hi) (N := 6) hx hb hts i_Hi hown hK hP 0 rfl rfl 3 (by decide) (hts _ mw_169) (fun _ h9 => h9) rfl d_Hi_offer_42 ?_
          refine w_icmp_lt (tgt := 49) hx hb d_Hi_offer_45 (by decide) (by omega) (by omega) (fun c_45 => ?_) (fun c_45 => ?_)
          · exfalso; omega
          · exact Mv_ret hx hb hr hlocks hQ d_Hi_offer_48 hP hK hD hS () (trivial) [0, 1, 2, 3] rfl (by decide)
        · obtain ⟨i, rfl⟩ : ∃ i : Nat, j = i + 1 := ⟨j - 1, by omega⟩
          refine lv_aload_n hx hb d_Hi_offer_20 rfl (lv_at hl 0 rfl) ?_
          refine lv_iload_n hx hb d_Hi_offer_21 rfl (lv_at hl 2 rfl) ?_
          refine lv_iload_n hx hb d_Hi_offer_22 rfl (lv_at hl 3 rfl) ?_
          refine lv_iload hx hb d_Hi_offer_23 (lv_at hl 4 rfl) ?_
          refine lv_iconst (v := J (1)) hx hb d_Hi_offer_25 rfl ?_
          refine w_isub hx hb d_Hi_offer_26 ((i : Nat) : Int) (by omega) ?_
          refine Ri_call (va_runV (As := [.int (J z), .int (J y), .int (J ((i : Nat) : Int))]) (rest := []) ⟨hx, hb, hml, hown, hts⟩ (c_Hi_isNearer l D cI cZ cJ o e0 e1 e2 ((k : Nat) : Int) bd n fs hd z y i (by first | assumption | omega) (by first | assumption | omega) (by first | assumption | omega) (by first | assumption | omega) (by first | assumption | omega)) (cwV 3 hts (g_V mw_408 mw_410 mw_7 mw_32 mw_411) rfl rfl rfl (by decide +kernel) ⟨Nat.le_of_ble_eq_true rfl, Nat.le_of_ble_eq_true rfl⟩) (pre_RV hP hK [0, 2, 3] rfl 3 0 rfl rfl) rfl rfl hl.1 rfl (lv_room (Nat.le_of_ble_eq_true rfl)) d_Hi_offer_27 ⟨Nat.le_of_ble_eq_true rfl, Nat.le_of_ble_eq_true rfl⟩) ?_
          refine w_if_eq (tgt := 39) hx hb d_Hi_offer_30 (by decide) (rg_b2) (fun c_30 => ?_) (fun c_30 => ?_)
          · have c_30 := b2_0.mp c_30
            have e9 : q = i + 1 := by rw [← hqn, hps, psn, if_neg c_30]
            rw [← e9] at hl
            refine lv_iload hx hb d_Hi_offer_39 (lv_at hl 4 rfl) ?_
            refine lv_aload_n hx hb d_Hi_offer_41 rfl (lv_at hl 0 rfl) ?_
            refine va_get (D := D) (ci := 3) (v := .int (J ((k : Nat) : Int))) (C := R_Hi) (T := T_Hi) (N := 6) hx hb hts i_Hi hown hK hP 0 rfl rfl 3 (by decide) (hts _ mw_169) (fun _ h9 => h9) rfl d_Hi_offer_42 ?_
            refine w_icmp_lt (tgt := 49) hx hb d_Hi_offer_45 (by decide) (by omega) (by omega) (fun c_45 => ?_) (fun c_45 => ?_)
            · exfalso; omega
            · exact Mv_ret hx hb hr hlocks hQ d_Hi_offer_48 hP hK hD hS () (trivial) [0, 1, 2, 3] rfl (by decide)
          · have c_30 := b2_n0.mp c_30
            refine w_iinc (k := 4) (lv' := [(4, .int (J ((i : Nat) : Int))), (0, .ref o), (1, .int (J en)), (2, .int (J z)), (3, .int (J y))]) hx hb d_Hi_offer_33 hl rfl ((i : Nat) : Int) (by omega) (by decide) rfl (fun ls hl => ?_)
            refine lv_goto (tgt := 15) hx hb d_Hi_offer_36 (by decide) ?_
            exact ih_15 i (by omega) (by rw [hps, psn, if_pos c_30]) (by omega) _ _ (P_map hP [0, 1, 2, 3] rfl) (hD.sub [0, 1, 2, 3] (by decide) rfl) hS ls (lv_sub hl [1, 2, 3, 4, 0] rfl)
    exact lp_15 (n + 1) n (by omega) (rfl) (Nat.lt_succ_self _) _ _ (P_map hP [0, 1, 2, 3] rfl) (hD.sub [0, 1, 2, 3] (by decide) rfl) hS ls (lv_sub hl [1, 2, 3, 4, 0] rfl)
  · exact Mv_ret hx hb hr hlocks hQ d_Hi_offer_8 hP hK hD hS () (trivial) [0, 1, 2, 3] rfl (by decide)
set_option maxHeartbeats 4000000 in
set_option maxRecDepth 100000 in
theorem c_Hi_offer_lt (l : Launch) (D : va_G) (cI cZ cJ : ClassId) (sz : Nat) (o : Nat) (e0 : Nat) (e1 : Nat) (e2 : Nat) (bd : Int) (n : Nat) (k : Nat) (fe : Nat → Int) (fs : Nat → Int) (hd : Nat → Int) (en : Int) (z : Int) (y : Int) (q : Nat) (hz : rg z) (hy : rg y) (hbd : rg bd) (hfs : ∀ k, rg (fs k)) (hhd : ∀ k, rg (hd k)) (hnk : n ≤ k) (hk : 1 ≤ k ∧ k ≤ 40) (hqn : psn fs hd z y n = q) (hyes : z ≤ bd ∧ q < k ∧ n < k) : Mv l y_Hi_offer w_Hi_offer ({ frames := 1, cells := 0, slots := 0, locals := 23 }) false D classes [(cI, .int), (cZ, .boolean), (cJ, .long)] sz [.ref o, .int (J en), .int (J z), .int (J y)] [(o, .inr (3, [.ref e0, .ref e1, .ref e2, .int (J ((k : Nat) : Int)), .int (J bd), .int (J ((n : Nat) : Int))])), (e0, ca cI 40 fe), (e1, ca cI 40 fs), (e2, ca cI 40 hd)] (S := Unit) (fun _ => True) (fun u : Unit => [(o, .inr (3, [.ref e0, .ref e1, .ref e2, .int (J ((k : Nat) : Int)), .int (J bd), .int (J ((n + 1 : Nat) : Int))])), (e0, ca cI 40 (ins fe q (n + 1) en)), (e1, ca cI 40 (ins fs q (n + 1) z)), (e2, ca cI 40 (ins hd q (n + 1) y))]) 0 0 := by
  refine Mv_of (cc := b_Hi_offer) (maxL := 6) (by decide) rfl (Nat.le_of_ble_eq_true rfl) ?_
  intro p e s m args below meth c hx hb hr hml hts hown hlocks hin A hA hP hK hD hT hS Q hQ H hH ls hl
  subst hH
  have hl : lv_has ls 6 [(0, .ref o), (1, .int (J en)), (2, .int (J z)), (3, .int (J y))] := hl
  have q1 := psn_le fs hd z y n
  refine lv_iload_n hx hb d_Hi_offer_0 rfl (lv_at hl 2 rfl) ?_
  refine lv_aload_n hx hb d_Hi_offer_1 rfl (lv_at hl 0 rfl) ?_
  refine va_get (D := D) (ci := 3) (v := .int (J bd)) (C := R_Hi) (T := T_Hi) (N := 6) hx hb hts i_Hi hown hK hP 0 rfl rfl 4 (by decide) (hts _ mw_170) (fun _ h9 => h9) rfl d_Hi_offer_2 ?_
  refine w_icmp_le (tgt := 9) hx hb d_Hi_offer_5 (by decide) (by omega) (by omega) (fun c_5 => ?_) (fun c_5 => ?_)
  · refine lv_aload_n hx hb d_Hi_offer_9 rfl (lv_at hl 0 rfl) ?_
    refine va_get (D := D) (ci := 3) (v := .int (J ((n : Nat) : Int))) (C := R_Hi) (T := T_Hi) (N := 6) hx hb hts i_Hi hown hK hP 0 rfl rfl 5 (by decide) (hts _ mw_171) (fun _ h9 => h9) rfl d_Hi_offer_10 ?_
    refine lv_istore (lv' := [(4, .int (J ((n : Nat) : Int))), (0, .ref o), (1, .int (J en)), (2, .int (J z)), (3, .int (J y))]) hx hb d_Hi_offer_13 hl (by decide) rfl (fun ls hl => ?_)
    have lp_15 : ∀ (fu : Nat) (j : Nat), (j ≤ n) → (psn fs hd z y n = psn fs hd z y j) → j < fu → ∀ (H : Heap) (locs : List Loc), va_P D classes [(o, .inr (3, [.ref e0, .ref e1, .ref e2, .int (J ((k : Nat) : Int)), .int (J bd), .int (J ((n : Nat) : Int))])), (e0, ca cI 40 fe), (e1, ca cI 40 fs), (e2, ca cI 40 hd)] H → va_D A [(o, .inr (3, [.ref e0, .ref e1, .ref e2, .int (J ((k : Nat) : Int)), .int (J bd), .int (J ((n : Nat) : Int))])), (e0, ca cI 40 fe), (e1, ca cI 40 fs), (e2, ca cI 40 hd)] → va_S A s.heap H locs → ∀ ls : Array Slot, lv_has ls 6 [(0, .ref o), (1, .int (J en)), (2, .int (J z)), (3, .int (J y)), (4, .int (J ((j : Nat) : Int)))] → W p l e ({ frames := 1, cells := 0, slots := 0, locals := 23 }) s m args below meth c H locs 0 0 Q (F0 m 15 ls []) := by
      intro fu
      induction fu with
      | zero => intro j hj hps hfu; exact absurd hfu (Nat.not_lt_zero _)
      | succ fu ih_15 =>
        intro j hj hps hfu H locs hP hD hS ls hl
        refine lv_iload hx hb d_Hi_offer_15 (lv_at hl 4 rfl) ?_
        refine w_if_le (tgt := 39) hx hb d_Hi_offer_17 (by decide) (by omega) (fun c_17 => ?_) (fun c_17 => ?_)
        · obtain rfl : q = j := by rw [← hqn, hps, show j = 0 by omega]; rfl
          refine lv_iload hx hb d_Hi_offer_39 (lv_at hl 4 rfl) ?_
          refine lv_aload_n hx hb d_Hi_offer_41 rfl (lv_at hl 0 rfl) ?_
          refine va_get (D := D) (ci := 3) (v := .int (J ((k : Nat) : Int))) (C := R_Hi) (T := T_Hi) (N := 6) hx hb hts i_Hi hown hK hP 0 rfl rfl 3 (by decide) (hts _ mw_169) (fun _ h9 => h9) rfl d_Hi_offer_42 ?_
          refine w_icmp_lt (tgt := 49) hx hb d_Hi_offer_45 (by decide) (by omega) (by omega) (fun c_45 => ?_) (fun c_45 => ?_)
          · refine lv_aload_n hx hb d_Hi_offer_49 rfl (lv_at hl 0 rfl) ?_
            refine va_get (D := D) (ci := 3) (v := .int (J ((n : Nat) : Int))) (C := R_Hi) (T := T_Hi) (N := 6) hx hb hts i_Hi hown hK hP 0 rfl rfl 5 (by decide) (hts _ mw_171) (fun _ h9 => h9) rfl d_Hi_offer_50 ?_
            refine lv_aload_n hx hb d_Hi_offer_53 rfl (lv_at hl 0 rfl) ?_
            refine va_get (D := D) (ci := 3) (v := .int (J ((k : Nat) : Int))) (C := R_Hi) (T := T_Hi) (N := 6) hx hb hts i_Hi hown hK hP 0 rfl rfl 3 (by decide) (hts _ mw_169) (fun _ h9 => h9) rfl d_Hi_offer_54 ?_
            refine w_icmp_ge (tgt := 70) hx hb d_Hi_offer_57 (by decide) (by omega) (by omega) (fun c_57 => ?_) (fun c_57 => ?_)
            · exfalso; omega
            · refine lv_aload_n hx hb d_Hi_offer_60 rfl (lv_at hl 0 rfl) ?_
              refine lv_dup hx hb d_Hi_offer_61 rfl ?_
              refine va_get (D := D) (ci := 3) (v := .int (J ((n : Nat) : Int))) (C := R_Hi) (T := T_Hi) (N := 6) hx hb hts i_Hi hown hK hP 0 rfl rfl 5 (by decide) (hts _ mw_171) (fun _ h9 => h9) rfl d_Hi_offer_62 ?_
              refine lv_iconst (v := J (1)) hx hb d_Hi_offer_65 rfl ?_
              refine w_iadd hx hb d_Hi_offer_66 ((n + 1 : Nat) : Int) (by omega) ?_
              refine va_put (D := D) (ci := 3) (v := .int (J ((n + 1 : Nat) : Int))) (ty := .int) (C := R_Hi) (T := T_Hi) (N := 6) hx hb hts i_Hi t_Hi k_Hi n_Hi hown hK hP hD hS 0 rfl rfl 5 (by decide) (hts _ mw_171) (fun _ h9 => h9) rfl (by decide +kernel) rfl rfl (Nat.le_of_ble_eq_true rfl) d_Hi_offer_67 (fun H locs hP hD hS => ?_)
              have hP : va_P D classes [(o, .inr (3, [.ref e0, .ref e1, .ref e2, .int (J ((k : Nat) : Int)), .int (J bd), .int (J ((n + 1 : Nat) : Int))])), (e0, ca cI 40 fe), (e1, ca cI 40 fs), (e2, ca cI 40 hd)] H := hP
              have hD : va_D A [(o, .inr (3, [.ref e0, .ref e1, .ref e2, .int (J ((k : Nat) : Int)), .int (J bd), .int (J ((n + 1 : Nat) : Int))])), (e0, ca cI 40 fe), (e1, ca cI 40 fs), (e2, ca cI 40 hd)] := hD
              refine lv_aload_n hx hb d_Hi_offer_70 rfl (lv_at hl 0 rfl) ?_
              refine va_get (D := D) (ci := 3) (v := .int (J ((n + 1 : Nat) : Int))) (C := R_Hi) (T := T_Hi) (N := 6) hx hb hts i_Hi hown hK hP 0 rfl rfl 5 (by decide) (hts _ mw_171) (fun _ h9 => h9) rfl d_Hi_offer_71 ?_
              refine lv_iconst (v := J (1)) hx hb d_Hi_offer_74 rfl ?_
              refine w_isub hx hb d_Hi_offer_75 ((n : Nat) : Int) (by omega) ?_
              refine lv_istore (lv' := [(5, .int (J ((n : Nat) : Int))), (0, .ref o), (1, .int (J en)), (2, .int (J z)), (3, .int (J y)), (4, .int (J ((q : Nat) : Int)))]) hx hb d_Hi_offer_76 hl (by decide) rfl (fun ls hl => ?_)
              have lp_78 : ∀ (fu : Nat) (j : Nat), (q ≤ j) → (j < n + 1) → (j - q) < fu → ∀ (H : Heap) (locs : List Loc), va_P D classes [(o, .inr (3, [.ref e0, .ref e1, .ref e2, .int (J ((k : Nat) : Int)), .int (J bd), .int (J ((n + 1 : Nat) : Int))])), (e0, ca cI 40 (mvd fe j (n + 1))), (e1, ca cI 40 (mvd fs j (n + 1))), (e2, ca cI 40 (mvd hd j (n + 1)))] H → va_D A [(o, .inr (3, [.ref e0, .ref e1, .ref e2, .int (J ((k : Nat) : Int)), .int (J bd), .int (J ((n + 1 : Nat) : Int))])), (e0, ca cI 40 (mvd fe j (n + 1))), (e1, ca cI 40 (mvd fs j (n + 1))), (e2, ca cI 40 (mvd hd j (n + 1)))] → va_S A s.heap H locs → ∀ ls : Array Slot, lv_has ls 6 [(0, .ref o), (1, .int (J en)), (2, .int (J z)), (3, .int (J y)), (4, .int (J ((q : Nat) : Int))), (5, .int (J ((j : Nat) : Int)))] → W p l e ({ frames := 1, cells := 0, slots := 0, locals := 23 }) s m args below meth c H locs 0 0 Q (F0 m 78 ls []) := by
                intro fu
                induction fu with
                | zero => intro j hj hj2 hfu; exact absurd hfu (Nat.not_lt_zero _)
                | succ fu ih_78 =>
                  intro j hj hj2 hfu H locs hP hD hS ls hl
                  refine lv_iload hx hb d_Hi_offer_78 (lv_at hl 5 rfl) ?_
                  refine lv_iload hx hb d_Hi_offer_80 (lv_at hl 4 rfl) ?_
                  refine w_icmp_le (tgt := 101) hx hb d_Hi_offer_82 (by decide) (by omega) (by omega) (fun c_82 => ?_) (fun c_82 => ?_)
                  · obtain rfl : q = j := by omega
                    refine lv_aload_n hx hb d_Hi_offer_101 rfl (lv_at hl 0 rfl) ?_
                    refine va_get (D := D) (ci := 3) (v := .ref e0) (C := R_Hi) (T := T_Hi) (N := 6) hx hb hts i_Hi hown hK hP 0 rfl rfl 0 (by decide) (hts _ mw_164) (fun _ h9 => h9) rfl d_Hi_offer_102 ?_
                    refine lv_iload hx hb d_Hi_offer_105 (lv_at hl 4 rfl) ?_
                    refine lv_iload_n hx hb d_Hi_offer_107 rfl (lv_at hl 1 rfl) ?_
                    refine w_iast hx hb hK hP hD hS 1 0 rfl rfl q (by omega) (by omega) (by omega) d_Hi_offer_108 (fun H locs hP hD hS => ?_)
                    have hP : va_P D classes [(o, .inr (3, [.ref e0, .ref e1, .ref e2, .int (J ((k : Nat) : Int)), .int (J bd), .int (J ((n + 1 : Nat) : Int))])), (e0, ca cI 40 (iu (mvd fe q (n + 1)) q en)), (e1, ca cI 40 (mvd fs q (n + 1))), (e2, ca cI 40 (mvd hd q (n + 1)))] H := hP
                    have hD : va_D A [(o, .inr (3, [.ref e0, .ref e1, .ref e2, .int (J ((k : Nat) : Int)), .int (J bd), .int (J ((n + 1 : Nat) : Int))])), (e0, ca cI 40 (iu (mvd fe q (n + 1)) q en)), (e1, ca cI 40 (mvd fs q (n + 1))), (e2, ca cI 40 (mvd hd q (n + 1)))] := hD
                    have eg : iu (mvd fe q (n + 1)) q en = ins fe q (n + 1) en := mvd_e fe (by omega) en
                    rw [eg] at hP hD
                    clear eg
                    refine lv_aload_n hx hb d_Hi_offer_109 rfl (lv_at hl 0 rfl) ?_
                    refine va_get (D := D) (ci := 3) (v := .ref e1) (C := R_Hi) (T := T_Hi) (N := 6) hx hb hts i_Hi hown hK hP 0 rfl rfl 1 (by decide) (hts _ mw_166) (fun _ h9 => h9) rfl d_Hi_offer_110 ?_
                    refine lv_iload hx hb d_Hi_offer_113 (lv_at hl 4 rfl) ?_
                    refine lv_iload_n hx hb d_Hi_offer_115 rfl (lv_at hl 2 rfl) ?_
                    refine w_iast hx hb hK hP hD hS 2 0 rfl rfl q (by omega) (by omega) (by omega) d_Hi_offer_116 (fun H locs hP hD hS => ?_)
                    have hP : va_P D classes [(o, .inr (3, [.ref e0, .ref e1, .ref e2, .int (J ((k : Nat) : Int)), .int (J bd), .int (J ((n + 1 : Nat) : Int))])), (e0, ca cI 40 (ins fe q (n + 1) en)), (e1, ca cI 40 (iu (mvd fs q (n + 1)) q z)), (e2, ca cI 40 (mvd hd q (n + 1)))] H := hP
                    have hD : va_D A [(o, .inr (3, [.ref e0, .ref e1, .ref e2, .int (J ((k : Nat) : Int)), .int (J bd), .int (J ((n + 1 : Nat) : Int))])), (e0, ca cI 40 (ins fe q (n + 1) en)), (e1, ca cI 40 (iu (mvd fs q (n + 1)) q z)), (e2, ca cI 40 (mvd hd q (n + 1)))] := hD
                    have eg : iu (mvd fs q (n + 1)) q z = ins fs q (n + 1) z := mvd_e fs (by omega) z
                    rw [eg] at hP hD
                    clear eg
                    refine lv_aload_n hx hb d_Hi_offer_117 rfl (lv_at hl 0 rfl) ?_
                    refine va_get (D := D) (ci := 3) (v := .ref e2) (C := R_Hi) (T := T_Hi) (N := 6) hx hb hts i_Hi hown hK hP 0 rfl rfl 2 (by decide) (hts _ mw_168) (fun _ h9 => h9) rfl d_Hi_offer_118 ?_
                    refine lv_iload hx hb d_Hi_offer_121 (lv_at hl 4 rfl) ?_
                    refine lv_iload_n hx hb d_Hi_offer_123 rfl (lv_at hl 3 rfl) ?_
                    refine w_iast hx hb hK hP hD hS 3 0 rfl rfl q (by omega) (by omega) (by omega) d_Hi_offer_124 (fun H locs hP hD hS => ?_)
                    have hP : va_P D classes [(o, .inr (3, [.ref e0, .ref e1, .ref e2, .int (J ((k : Nat) : Int)), .int (J bd), .int (J ((n + 1 : Nat) : Int))])), (e0, ca cI 40 (ins fe q (n + 1) en)), (e1, ca cI 40 (ins fs q (n + 1) z)), (e2, ca cI 40 (iu (mvd hd q (n + 1)) q y))] H := hP
                    have hD : va_D A [(o, .inr (3, [.ref e0, .ref e1, .ref e2, .int (J ((k : Nat) : Int)), .int (J bd), .int (J ((n + 1 : Nat) : Int))])), (e0, ca cI 40 (ins fe q (n + 1) en)), (e1, ca cI 40 (ins fs q (n + 1) z)), (e2, ca cI 40 (iu (mvd hd q (n + 1)) q y))] := hD
                    have eg : iu (mvd hd q (n + 1)) q y = ins hd q (n + 1) y := mvd_e hd (by omega) y
                    rw [eg] at hP hD
                    clear eg
                    exact Mv_ret hx hb hr hlocks hQ d_Hi_offer_125 hP hK hD hS () (trivial) [0, 1, 2, 3] rfl (by decide)
                  · obtain ⟨i, rfl⟩ : ∃ i : Nat, j = i + 1 := ⟨j - 1, by omega⟩
                    refine lv_aload_n hx hb d_Hi_offer_85 rfl (lv_at hl 0 rfl) ?_
                    refine lv_iload hx hb d_Hi_offer_86 (lv_at hl 5 rfl) ?_
                    refine lv_iconst (v := J (1)) hx hb d_Hi_offer_88 rfl ?_
                    refine w_isub hx hb d_Hi_offer_89 ((i : Nat) : Int) (by omega) ?_
                    refine lv_iload hx hb d_Hi_offer_90 (lv_at hl 5 rfl) ?_
                    refine Mv_call (wr := []) (va_runV (As := [.int (J ((i : Nat) : Int)), .int (J ((i + 1 : Nat) : Int))]) (rest := []) ⟨hx, hb, hml, hown, hts⟩ (c_Hi_copy l D cI cZ cJ H.size o e0 e1 e2 ((k : Nat) : Int) bd (n + 1) (mvd fe (i + 1) (n + 1)) (mvd fs (i + 1) (n + 1)) (mvd hd (i + 1) (n + 1)) i (i + 1) (by first | assumption | omega) (by first | assumption | omega)) (cwV 2 hts (g_V mw_412 mw_414 mw_8 mw_32 mw_415) rfl rfl rfl (by decide +kernel) ⟨Nat.le_of_ble_eq_true rfl, Nat.le_of_ble_eq_true rfl⟩) (pre_WV hP hK hD [0, 1, 2, 3] rfl (by decide) 3 0 rfl rfl (fun h => Bool.noConfusion h)) rfl rfl hl.1 rfl (lv_room (Nat.le_of_ble_eq_true rfl)) d_Hi_offer_92 ⟨Nat.le_of_ble_eq_true rfl, Nat.le_of_ble_eq_true rfl⟩) hP hD hS hA [0, 1, 2, 3] [] rfl rfl (by decide) (by decide) (fun _u H locs _hu hP hD hS => ?_)
                    have hP : va_P D classes [(o, .inr (3, [.ref e0, .ref e1, .ref e2, .int (J ((k : Nat) : Int)), .int (J bd), .int (J (((n + 1) : Nat) : Int))])), (e0, ca cI 40 (iu (mvd fe (i + 1) (n + 1)) (i + 1) ((mvd fe (i + 1) (n + 1)) i))), (e1, ca cI 40 (iu (mvd fs (i + 1) (n + 1)) (i + 1) ((mvd fs (i + 1) (n + 1)) i))), (e2, ca cI 40 (iu (mvd hd (i + 1) (n + 1)) (i + 1) ((mvd hd (i + 1) (n + 1)) i)))] H := hP
                    have hD : va_D A [(o, .inr (3, [.ref e0, .ref e1, .ref e2, .int (J ((k : Nat) : Int)), .int (J bd), .int (J (((n + 1) : Nat) : Int))])), (e0, ca cI 40 (iu (mvd fe (i + 1) (n + 1)) (i + 1) ((mvd fe (i + 1) (n + 1)) i))), (e1, ca cI 40 (iu (mvd fs (i + 1) (n + 1)) (i + 1) ((mvd fs (i + 1) (n + 1)) i))), (e2, ca cI 40 (iu (mvd hd (i + 1) (n + 1)) (i + 1) ((mvd hd (i + 1) (n + 1)) i)))] := hD
                    have eg : iu (mvd fe (i + 1) (n + 1)) (i + 1) ((mvd fe (i + 1) (n + 1)) i) = mvd fe i (n + 1) := mvd_s fe (by omega)
                    rw [eg] at hP hD
                    clear eg
                    have eg : iu (mvd fs (i + 1) (n + 1)) (i + 1) ((mvd fs (i + 1) (n + 1)) i) = mvd fs i (n + 1) := mvd_s fs (by omega)
                    rw [eg] at hP hD
                    clear eg
                    have eg : iu (mvd hd (i + 1) (n + 1)) (i + 1) ((mvd hd (i + 1) (n + 1)) i) = mvd hd i (n + 1) := mvd_s hd (by omega)
                    rw [eg] at hP hD
                    clear eg
                    refine w_iinc (k := 5) (lv' := [(5, .int (J ((i : Nat) : Int))), (0, .ref o), (1, .int (J en)), (2, .int (J z)), (3, .int (J y)), (4, .int (J ((q : Nat) : Int)))]) hx hb d_Hi_offer_95 hl rfl ((i : Nat) : Int) (by omega) (by decide) rfl (fun ls hl => ?_)
                    refine lv_goto (tgt := 78) hx hb d_Hi_offer_98 (by decide) ?_
                    exact ih_78 i (by omega) (by omega) (by omega) _ _ (P_map hP [0, 1, 2, 3] rfl) (hD.sub [0, 1, 2, 3] (by decide) rfl) hS ls (lv_sub hl [1, 2, 3, 4, 5, 0] rfl)
              rw [← mvd_0 fe (i := n) (n := n + 1) (by omega), ← mvd_0 fs (i := n) (n := n + 1) (by omega), ← mvd_0 hd (i := n) (n := n + 1) (by omega)] at hP hD
              exact lp_78 ((n - q) + 1) n (by omega) (by omega) (Nat.lt_succ_self _) _ _ (P_map hP [0, 1, 2, 3] rfl) (hD.sub [0, 1, 2, 3] (by decide) rfl) hS ls (lv_sub hl [1, 2, 3, 4, 5, 0] rfl)
          · exfalso; omega
        · obtain ⟨i, rfl⟩ : ∃ i : Nat, j = i + 1 := ⟨j - 1, by omega⟩
          refine lv_aload_n hx hb d_Hi_offer_20 rfl (lv_at hl 0 rfl) ?_
          refine lv_iload_n hx hb d_Hi_offer_21 rfl (lv_at hl 2 rfl) ?_
          refine lv_iload_n hx hb d_Hi_offer_22 rfl (lv_at hl 3 rfl) ?_
          refine lv_iload hx hb d_Hi_offer_23 (lv_at hl 4 rfl) ?_
          refine lv_iconst (v := J (1)) hx hb d_Hi_offer_25 rfl ?_
          refine w_isub hx hb d_Hi_offer_26 ((i : Nat) : Int) (by omega) ?_
          refine Ri_call (va_runV (As := [.int (J z), .int (J y), .int (J ((i : Nat) : Int))]) (rest := []) ⟨hx, hb, hml, hown, hts⟩ (c_Hi_isNearer l D cI cZ cJ o e0 e1 e2 ((k : Nat) : Int) bd n fs hd z y i (by first | assumption | omega) (by first | assumption | omega) (by first | assumption | omega) (by first | assumption | omega) (by first | assumption | omega)) (cwV 3 hts (g_V mw_408 mw_410 mw_7 mw_32 mw_411) rfl rfl rfl (by decide +kernel) ⟨Nat.le_of_ble_eq_true rfl, Nat.le_of_ble_eq_true rfl⟩) (pre_RV hP hK [0, 2, 3] rfl 3 0 rfl rfl) rfl rfl hl.1 rfl (lv_room (Nat.le_of_ble_eq_true rfl)) d_Hi_offer_27 ⟨Nat.le_of_ble_eq_true rfl, Nat.le_of_ble_eq_true rfl⟩) ?_
          refine w_if_eq (tgt := 39) hx hb d_Hi_offer_30 (by decide) (rg_b2) (fun c_30 => ?_) (fun c_30 => ?_)
          · have c_30 := b2_0.mp c_30
            have e9 : q = i + 1 := by rw [← hqn, hps, psn, if_neg c_30]
            rw [← e9] at hl
            refine lv_iload hx hb d_Hi_offer_39 (lv_at hl 4 rfl) ?_
            refine lv_aload_n hx hb d_Hi_offer_41 rfl (lv_at hl 0 rfl) ?_
            refine va_get (D := D) (ci := 3) (v := .int (J ((k : Nat) : Int))) (C := R_Hi) (T := T_Hi) (N := 6) hx hb hts i_Hi hown hK hP 0 rfl rfl 3 (by decide) (hts _ mw_169) (fun _ h9 => h9) rfl d_Hi_offer_42 ?_
            refine w_icmp_lt (tgt := 49) hx hb d_Hi_offer_45 (by decide) (by omega) (by omega) (fun c_45 => ?_) (fun c_45 => ?_)
            · refine lv_aload_n hx hb d_Hi_offer_49 rfl (lv_at hl 0 rfl) ?_
              refine va_get (D := D) (ci := 3) (v := .int (J ((n : Nat) : Int))) (C := R_Hi) (T := T_Hi) (N := 6) hx hb hts i_Hi hown hK hP 0 rfl rfl 5 (by decide) (hts _ mw_171) (fun _ h9 => h9) rfl d_Hi_offer_50 ?_
              refine lv_aload_n hx hb d_Hi_offer_53 rfl (lv_at hl 0 rfl) ?_
              refine va_get (D := D) (ci := 3) (v := .int (J ((k : Nat) : Int))) (C := R_Hi) (T := T_Hi) (N := 6) hx hb hts i_Hi hown hK hP 0 rfl rfl 3 (by decide) (hts _ mw_169) (fun _ h9 => h9) rfl d_Hi_offer_54 ?_
              refine w_icmp_ge (tgt := 70) hx hb d_Hi_offer_57 (by decide) (by omega) (by omega) (fun c_57 => ?_) (fun c_57 => ?_)
              · exfalso; omega
              · refine lv_aload_n hx hb d_Hi_offer_60 rfl (lv_at hl 0 rfl) ?_
                refine lv_dup hx hb d_Hi_offer_61 rfl ?_
                refine va_get (D := D) (ci := 3) (v := .int (J ((n : Nat) : Int))) (C := R_Hi) (T := T_Hi) (N := 6) hx hb hts i_Hi hown hK hP 0 rfl rfl 5 (by decide) (hts _ mw_171) (fun _ h9 => h9) rfl d_Hi_offer_62 ?_
                refine lv_iconst (v := J (1)) hx hb d_Hi_offer_65 rfl ?_
                refine w_iadd hx hb d_Hi_offer_66 ((n + 1 : Nat) : Int) (by omega) ?_
                refine va_put (D := D) (ci := 3) (v := .int (J ((n + 1 : Nat) : Int))) (ty := .int) (C := R_Hi) (T := T_Hi) (N := 6) hx hb hts i_Hi t_Hi k_Hi n_Hi hown hK hP hD hS 0 rfl rfl 5 (by decide) (hts _ mw_171) (fun _ h9 => h9) rfl (by decide +kernel) rfl rfl (Nat.le_of_ble_eq_true rfl) d_Hi_offer_67 (fun H locs hP hD hS => ?_)
                have hP : va_P D classes [(o, .inr (3, [.ref e0, .ref e1, .ref e2, .int (J ((k : Nat) : Int)), .int (J bd), .int (J ((n + 1 : Nat) : Int))])), (e0, ca cI 40 fe), (e1, ca cI 40 fs), (e2, ca cI 40 hd)] H := hP
                have hD : va_D A [(o, .inr (3, [.ref e0, .ref e1, .ref e2, .int (J ((k : Nat) : Int)), .int (J bd), .int (J ((n + 1 : Nat) : Int))])), (e0, ca cI 40 fe), (e1, ca cI 40 fs), (e2, ca cI 40 hd)] := hD
                refine lv_aload_n hx hb d_Hi_offer_70 rfl (lv_at hl 0 rfl) ?_
                refine va_get (D := D) (ci := 3) (v := .int (J ((n + 1 : Nat) : Int))) (C := R_Hi) (T := T_Hi) (N := 6) hx hb hts i_Hi hown hK hP 0 rfl rfl 5 (by decide) (hts _ mw_171) (fun _ h9 => h9) rfl d_Hi_offer_71 ?_
                refine lv_iconst (v := J (1)) hx hb d_Hi_offer_74 rfl ?_
                refine w_isub hx hb d_Hi_offer_75 ((n : Nat) : Int) (by omega) ?_
                refine lv_istore (lv' := [(5, .int (J ((n : Nat) : Int))), (0, .ref o), (1, .int (J en)), (2, .int (J z)), (3, .int (J y)), (4, .int (J ((q : Nat) : Int)))]) hx hb d_Hi_offer_76 hl (by decide) rfl (fun ls hl => ?_)
                have lp_78 : ∀ (fu : Nat) (j : Nat), (q ≤ j) → (j < n + 1) → (j - q) < fu → ∀ (H : Heap) (locs : List Loc), va_P D classes [(o, .inr (3, [.ref e0, .ref e1, .ref e2, .int (J ((k : Nat) : Int)), .int (J bd), .int (J ((n + 1 : Nat) : Int))])), (e0, ca cI 40 (mvd fe j (n + 1))), (e1, ca cI 40 (mvd fs j (n + 1))), (e2, ca cI 40 (mvd hd j (n + 1)))] H → va_D A [(o, .inr (3, [.ref e0, .ref e1, .ref e2, .int (J ((k : Nat) : Int)), .int (J bd), .int (J ((n + 1 : Nat) : Int))])), (e0, ca cI 40 (mvd fe j (n + 1))), (e1, ca cI 40 (mvd fs j (n + 1))), (e2, ca cI 40 (mvd hd j (n + 1)))] → va_S A s.heap H locs → ∀ ls : Array Slot, lv_has ls 6 [(0, .ref o), (1, .int (J en)), (2, .int (J z)), (3, .int (J y)), (4, .int (J ((q : Nat) : Int))), (5, .int (J ((j : Nat) : Int)))] → W p l e ({ frames := 1, cells := 0, slots := 0, locals := 23 }) s m args below meth c H locs 0 0 Q (F0 m 78 ls []) := by
                  intro fu
                  induction fu with
                  | zero => intro j hj hj2 hfu; exact absurd hfu (Nat.not_lt_zero _)
                  | succ fu ih_78 =>
                    intro j hj hj2 hfu H locs hP hD hS ls hl
                    refine lv_iload hx hb d_Hi_offer_78 (lv_at hl 5 rfl) ?_
                    refine lv_iload hx hb d_Hi_offer_80 (lv_at hl 4 rfl) ?_
                    refine w_icmp_le (tgt := 101) hx hb d_Hi_offer_82 (by decide) (by omega) (by omega) (fun c_82 => ?_) (fun c_82 => ?_)
                    · obtain rfl : q = j := by omega
                      refine lv_aload_n hx hb d_Hi_offer_101 rfl (lv_at hl 0 rfl) ?_
                      refine va_get (D := D) (ci := 3) (v := .ref e0) (C := R_Hi) (T := T_Hi) (N := 6) hx hb hts i_Hi hown hK hP 0 rfl rfl 0 (by decide) (hts _ mw_164) (fun _ h9 => h9) rfl d_Hi_offer_102 ?_
                      refine lv_iload hx hb d_Hi_offer_105 (lv_at hl 4 rfl) ?_
                      refine lv_iload_n hx hb d_Hi_offer_107 rfl (lv_at hl 1 rfl) ?_
                      refine w_iast hx hb hK hP hD hS 1 0 rfl rfl q (by omega) (by omega) (by omega) d_Hi_offer_108 (fun H locs hP hD hS => ?_)
                      have hP : va_P D classes [(o, .inr (3, [.ref e0, .ref e1, .ref e2, .int (J ((k : Nat) : Int)), .int (J bd), .int (J ((n + 1 : Nat) : Int))])), (e0, ca cI 40 (iu (mvd fe q (n + 1)) q en)), (e1, ca cI 40 (mvd fs q (n + 1))), (e2, ca cI 40 (mvd hd q (n + 1)))] H := hP
                      have hD : va_D A [(o, .inr (3, [.ref e0, .ref e1, .ref e2, .int (J ((k : Nat) : Int)), .int (J bd), .int (J ((n + 1 : Nat) : Int))])), (e0, ca cI 40 (iu (mvd fe q (n + 1)) q en)), (e1, ca cI 40 (mvd fs q (n + 1))), (e2, ca cI 40 (mvd hd q (n + 1)))] := hD
                      have eg : iu (mvd fe q (n + 1)) q en = ins fe q (n + 1) en := mvd_e fe (by omega) en
                      rw [eg] at hP hD
                      clear eg
                      refine lv_aload_n hx hb d_Hi_offer_109 rfl (lv_at hl 0 rfl) ?_
                      refine va_get (D := D) (ci := 3) (v := .ref e1) (C := R_Hi) (T := T_Hi) (N := 6) hx hb hts i_Hi hown hK hP 0 rfl rfl 1 (by decide) (hts _ mw_166) (fun _ h9 => h9) rfl d_Hi_offer_110 ?_
                      refine lv_iload hx hb d_Hi_offer_113 (lv_at hl 4 rfl) ?_
                      refine lv_iload_n hx hb d_Hi_offer_115 rfl (lv_at hl 2 rfl) ?_
                      refine w_iast hx hb hK hP hD hS 2 0 rfl rfl q (by omega) (by omega) (by omega) d_Hi_offer_116 (fun H locs hP hD hS => ?_)
                      have hP : va_P D classes [(o, .inr (3, [.ref e0, .ref e1, .ref e2, .int (J ((k : Nat) : Int)), .int (J bd), .int (J ((n + 1 : Nat) : Int))])), (e0, ca cI 40 (ins fe q (n + 1) en)), (e1, ca cI 40 (iu (mvd fs q (n + 1)) q z)), (e2, ca cI 40 (mvd hd q (n + 1)))] H := hP
                      have hD : va_D A [(o, .inr (3, [.ref e0, .ref e1, .ref e2, .int (J ((k : Nat) : Int)), .int (J bd), .int (J ((n + 1 : Nat) : Int))])), (e0, ca cI 40 (ins fe q (n + 1) en)), (e1, ca cI 40 (iu (mvd fs q (n + 1)) q z)), (e2, ca cI 40 (mvd hd q (n + 1)))] := hD
                      have eg : iu (mvd fs q (n + 1)) q z = ins fs q (n + 1) z := mvd_e fs (by omega) z
                      rw [eg] at hP hD
                      clear eg
                      refine lv_aload_n hx hb d_Hi_offer_117 rfl (lv_at hl 0 rfl) ?_
                      refine va_get (D := D) (ci := 3) (v := .ref e2) (C := R_Hi) (T := T_Hi) (N := 6) hx hb hts i_Hi hown hK hP 0 rfl rfl 2 (by decide) (hts _ mw_168) (fun _ h9 => h9) rfl d_Hi_offer_118 ?_
                      refine lv_iload hx hb d_Hi_offer_121 (lv_at hl 4 rfl) ?_
                      refine lv_iload_n hx hb d_Hi_offer_123 rfl (lv_at hl 3 rfl) ?_
                      refine w_iast hx hb hK hP hD hS 3 0 rfl rfl q (by omega) (by omega) (by omega) d_Hi_offer_124 (fun H locs hP hD hS => ?_)
                      have hP : va_P D classes [(o, .inr (3, [.ref e0, .ref e1, .ref e2, .int (J ((k : Nat) : Int)), .int (J bd), .int (J ((n + 1 : Nat) : Int))])), (e0, ca cI 40 (ins fe q (n + 1) en)), (e1, ca cI 40 (ins fs q (n + 1) z)), (e2, ca cI 40 (iu (mvd hd q (n + 1)) q y))] H := hP
                      have hD : va_D A [(o, .inr (3, [.ref e0, .ref e1, .ref e2, .int (J ((k : Nat) : Int)), .int (J bd), .int (J ((n + 1 : Nat) : Int))])), (e0, ca cI 40 (ins fe q (n + 1) en)), (e1, ca cI 40 (ins fs q (n + 1) z)), (e2, ca cI 40 (iu (mvd hd q (n + 1)) q y))] := hD
                      have eg : iu (mvd hd q (n + 1)) q y = ins hd q (n + 1) y := mvd_e hd (by omega) y
                      rw [eg] at hP hD
                      clear eg
                      exact Mv_ret hx hb hr hlocks hQ d_Hi_offer_125 hP hK hD hS () (trivial) [0, 1, 2, 3] rfl (by decide)
                    · obtain ⟨i, rfl⟩ : ∃ i : Nat, j = i + 1 := ⟨j - 1, by omega⟩
                      refine lv_aload_n hx hb d_Hi_offer_85 rfl (lv_at hl 0 rfl) ?_
                      refine lv_iload hx hb d_Hi_offer_86 (lv_at hl 5 rfl) ?_
                      refine lv_iconst (v := J (1)) hx hb d_Hi_offer_88 rfl ?_
                      refine w_isub hx hb d_Hi_offer_89 ((i : Nat) : Int) (by omega) ?_
                      refine lv_iload hx hb d_Hi_offer_90 (lv_at hl 5 rfl) ?_
                      refine Mv_call (wr := []) (va_runV (As := [.int (J ((i : Nat) : Int)), .int (J ((i + 1 : Nat) : Int))]) (rest := []) ⟨hx, hb, hml, hown, hts⟩ (c_Hi_copy l D cI cZ cJ H.size o e0 e1 e2 ((k : Nat) : Int) bd (n + 1) (mvd fe (i + 1) (n + 1)) (mvd fs (i + 1) (n + 1)) (mvd hd (i + 1) (n + 1)) i (i + 1) (by first | assumption | omega) (by first | assumption | omega)) (cwV 2 hts (g_V mw_412 mw_414 mw_8 mw_32 mw_415) rfl rfl rfl (by decide +kernel) ⟨Nat.le_of_ble_eq_true rfl, Nat.le_of_ble_eq_true rfl⟩) (pre_WV hP hK hD [0, 1, 2, 3] rfl (by decide) 3 0 rfl rfl (fun h => Bool.noConfusion h)) rfl rfl hl.1 rfl (lv_room (Nat.le_of_ble_eq_true rfl)) d_Hi_offer_92 ⟨Nat.le_of_ble_eq_true rfl, Nat.le_of_ble_eq_true rfl⟩) hP hD hS hA [0, 1, 2, 3] [] rfl rfl (by decide) (by decide) (fun _u H locs _hu hP hD hS => ?_)
                      have hP : va_P D classes [(o, .inr (3, [.ref e0, .ref e1, .ref e2, .int (J ((k : Nat) : Int)), .int (J bd), .int (J (((n + 1) : Nat) : Int))])), (e0, ca cI 40 (iu (mvd fe (i + 1) (n + 1)) (i + 1) ((mvd fe (i + 1) (n + 1)) i))), (e1, ca cI 40 (iu (mvd fs (i + 1) (n + 1)) (i + 1) ((mvd fs (i + 1) (n + 1)) i))), (e2, ca cI 40 (iu (mvd hd (i + 1) (n + 1)) (i + 1) ((mvd hd (i + 1) (n + 1)) i)))] H := hP
                      have hD : va_D A [(o, .inr (3, [.ref e0, .ref e1, .ref e2, .int (J ((k : Nat) : Int)), .int (J bd), .int (J (((n + 1) : Nat) : Int))])), (e0, ca cI 40 (iu (mvd fe (i + 1) (n + 1)) (i + 1) ((mvd fe (i + 1) (n + 1)) i))), (e1, ca cI 40 (iu (mvd fs (i + 1) (n + 1)) (i + 1) ((mvd fs (i + 1) (n + 1)) i))), (e2, ca cI 40 (iu (mvd hd (i + 1) (n + 1)) (i + 1) ((mvd hd (i + 1) (n + 1)) i)))] := hD
                      have eg : iu (mvd fe (i + 1) (n + 1)) (i + 1) ((mvd fe (i + 1) (n + 1)) i) = mvd fe i (n + 1) := mvd_s fe (by omega)
                      rw [eg] at hP hD
                      clear eg
                      have eg : iu (mvd fs (i + 1) (n + 1)) (i + 1) ((mvd fs (i + 1) (n + 1)) i) = mvd fs i (n + 1) := mvd_s fs (by omega)
                      rw [eg] at hP hD
                      clear eg
                      have eg : iu (mvd hd (i + 1) (n + 1)) (i + 1) ((mvd hd (i + 1) (n + 1)) i) = mvd hd i (n + 1) := mvd_s hd (by omega)
                      rw [eg] at hP hD
                      clear eg
                      refine w_iinc (k := 5) (lv' := [(5, .int (J ((i : Nat) : Int))), (0, .ref o), (1, .int (J en)), (2, .int (J z)), (3, .int (J y)), (4, .int (J ((q : Nat) : Int)))]) hx hb d_Hi_offer_95 hl rfl ((i : Nat) : Int) (by omega) (by decide) rfl (fun ls hl => ?_)
                      refine lv_goto (tgt := 78) hx hb d_Hi_offer_98 (by decide) ?_
                      exact ih_78 i (by omega) (by omega) (by omega) _ _ (P_map hP [0, 1, 2, 3] rfl) (hD.sub [0, 1, 2, 3] (by decide) rfl) hS ls (lv_sub hl [1, 2, 3, 4, 5, 0] rfl)
                rw [← mvd_0 fe (i := n) (n := n + 1) (by omega), ← mvd_0 fs (i := n) (n := n + 1) (by omega), ← mvd_0 hd (i := n) (n := n + 1) (by omega)] at hP hD
                exact lp_78 ((n - q) + 1) n (by omega) (by omega) (Nat.lt_succ_self _) _ _ (P_map hP [0, 1, 2, 3] rfl) (hD.sub [0, 1, 2, 3] (by decide) rfl) hS ls (lv_sub hl [1, 2, 3, 4, 5, 0] rfl)
            · exfalso; omega
          · have c_30 := b2_n0.mp c_30
            refine w_iinc (k := 4) (lv' := [(4, .int (J ((i : Nat) : Int))), (0, .ref o), (1, .int (J en)), (2, .int (J z)), (3, .int (J y))]) hx hb d_Hi_offer_33 hl rfl ((i : Nat) : Int) (by omega) (by decide) rfl (fun ls hl => ?_)
            refine lv_goto (tgt := 15) hx hb d_Hi_offer_36 (by decide) ?_
            exact ih_15 i (by omega) (by rw [hps, psn, if_pos c_30]) (by omega) _ _ (P_map hP [0, 1, 2, 3] rfl) (hD.sub [0, 1, 2, 3] (by decide) rfl) hS ls (lv_sub hl [1, 2, 3, 4, 0] rfl)
    exact lp_15 (n + 1) n (by omega) (rfl) (Nat.lt_succ_self _) _ _ (P_map hP [0, 1, 2, 3] rfl) (hD.sub [0, 1, 2, 3] (by decide) rfl) hS ls (lv_sub hl [1, 2, 3, 4, 0] rfl)
  · exfalso; omega
set_option maxHeartbeats 4000000 in
set_option maxRecDepth 100000 in
theorem c_Hi_offer_eq (l : Launch) (D : va_G) (cI cZ cJ : ClassId) (sz : Nat) (o : Nat) (e0 : Nat) (e1 : Nat) (e2 : Nat) (bd : Int) (n : Nat) (k : Nat) (fe : Nat → Int) (fs : Nat → Int) (hd : Nat → Int) (en : Int) (z : Int) (y : Int) (q : Nat) (hz : rg z) (hy : rg y) (hbd : rg bd) (hfs : ∀ k, rg (fs k)) (hhd : ∀ k, rg (hd k)) (hnk : n ≤ k) (hk : 1 ≤ k ∧ k ≤ 40) (hqn : psn fs hd z y n = q) (hyes : z ≤ bd ∧ q < k ∧ n = k) : Mv l y_Hi_offer w_Hi_offer ({ frames := 1, cells := 0, slots := 0, locals := 23 }) false D classes [(cI, .int), (cZ, .boolean), (cJ, .long)] sz [.ref o, .int (J en), .int (J z), .int (J y)] [(o, .inr (3, [.ref e0, .ref e1, .ref e2, .int (J ((k : Nat) : Int)), .int (J bd), .int (J ((n : Nat) : Int))])), (e0, ca cI 40 fe), (e1, ca cI 40 fs), (e2, ca cI 40 hd)] (S := Unit) (fun _ => True) (fun u : Unit => [(o, .inr (3, [.ref e0, .ref e1, .ref e2, .int (J ((k : Nat) : Int)), .int (J bd), .int (J ((n : Nat) : Int))])), (e0, ca cI 40 (ins fe q n en)), (e1, ca cI 40 (ins fs q n z)), (e2, ca cI 40 (ins hd q n y))]) 0 0 := by
  refine Mv_of (cc := b_Hi_offer) (maxL := 6) (by decide) rfl (Nat.le_of_ble_eq_true rfl) ?_
  intro p e s m args below meth c hx hb hr hml hts hown hlocks hin A hA hP hK hD hT hS Q hQ H hH ls hl
  subst hH
  have hl : lv_has ls 6 [(0, .ref o), (1, .int (J en)), (2, .int (J z)), (3, .int (J y))] := hl
  have q1 := psn_le fs hd z y n
  refine lv_iload_n hx hb d_Hi_offer_0 rfl (lv_at hl 2 rfl) ?_
  refine lv_aload_n hx hb d_Hi_offer_1 rfl (lv_at hl 0 rfl) ?_
  refine va_get (D := D) (ci := 3) (v := .int (J bd)) (C := R_Hi) (T := T_Hi) (N := 6) hx hb hts i_Hi hown hK hP 0 rfl rfl 4 (by decide) (hts _ mw_170) (fun _ h9 => h9) rfl d_Hi_offer_2 ?_
  refine w_icmp_le (tgt := 9) hx hb d_Hi_offer_5 (by decide) (by omega) (by omega) (fun c_5 => ?_) (fun c_5 => ?_)
  · refine lv_aload_n hx hb d_Hi_offer_9 rfl (lv_at hl 0 rfl) ?_
    refine va_get (D := D) (ci := 3) (v := .int (J ((n : Nat) : Int))) (C := R_Hi) (T := T_Hi) (N := 6) hx hb hts i_Hi hown hK hP 0 rfl rfl 5 (by decide) (hts _ mw_171) (fun _ h9 => h9) rfl d_Hi_offer_10 ?_
    refine lv_istore (lv' := [(4, .int (J ((n : Nat) : Int))), (0, .ref o), (1, .int (J en)), (2, .int (J z)), (3, .int (J y))]) hx hb d_Hi_offer_13 hl (by decide) rfl (fun ls hl => ?_)
    have lp_15 : ∀ (fu : Nat) (j : Nat), (j ≤ n) → (psn fs hd z y n = psn fs hd z y j) → j < fu → ∀ (H : Heap) (locs : List Loc), va_P D classes [(o, .inr (3, [.ref e0, .ref e1, .ref e2, .int (J ((k : Nat) : Int)), .int (J bd), .int (J ((n : Nat) : Int))])), (e0, ca cI 40 fe), (e1, ca cI 40 fs), (e2, ca cI 40 hd)] H → va_D A [(o, .inr (3, [.ref e0, .ref e1, .ref e2, .int (J ((k : Nat) : Int)), .int (J bd), .int (J ((n : Nat) : Int))])), (e0, ca cI 40 fe), (e1, ca cI 40 fs), (e2, ca cI 40 hd)] → va_S A s.heap H locs → ∀ ls : Array Slot, lv_has ls 6 [(0, .ref o), (1, .int (J en)), (2, .int (J z)), (3, .int (J y)), (4, .int (J ((j : Nat) : Int)))] → W p l e ({ frames := 1, cells := 0, slots := 0, locals := 23 }) s m args below meth c H locs 0 0 Q (F0 m 15 ls []) := by
      intro fu
      induction fu with
      | zero => intro j hj hps hfu; exact absurd hfu (Nat.not_lt_zero _)
      | succ fu ih_15 =>
        intro j hj hps hfu H locs hP hD hS ls hl
        refine lv_iload hx hb d_Hi_offer_15 (lv_at hl 4 rfl) ?_
        refine w_if_le (tgt := 39) hx hb d_Hi_offer_17 (by decide) (by omega) (fun c_17 => ?_) (fun c_17 => ?_)
        · obtain rfl : q = j := by rw [← hqn, hps, show j = 0 by omega]; rfl
          refine lv_iload hx hb d_Hi_offer_39 (lv_at hl 4 rfl) ?_
          refine lv_aload_n hx hb d_Hi_offer_41 rfl (lv_at hl 0 rfl) ?_
          refine va_get (D := D) (ci := 3) (v := .int (J ((k : Nat) : Int))) (C := R_Hi) (T := T_Hi) (N := 6) hx hb hts i_Hi hown hK hP 0 rfl rfl 3 (by decide) (hts _ mw_169) (fun _ h9 => h9) rfl d_Hi_offer_42 ?_
          refine w_icmp_lt (tgt := 49) hx hb d_Hi_offer_45 (by decide) (by omega) (by omega) (fun c_45 => ?_) (fun c_45 => ?_)
          · refine lv_aload_n hx hb d_Hi_offer_49 rfl (lv_at hl 0 rfl) ?_
            refine va_get (D := D) (ci := 3) (v := .int (J ((n : Nat) : Int))) (C := R_Hi) (T := T_Hi) (N := 6) hx hb hts i_Hi hown hK hP 0 rfl rfl 5 (by decide) (hts _ mw_171) (fun _ h9 => h9) rfl d_Hi_offer_50 ?_
            refine lv_aload_n hx hb d_Hi_offer_53 rfl (lv_at hl 0 rfl) ?_
            refine va_get (D := D) (ci := 3) (v := .int (J ((k : Nat) : Int))) (C := R_Hi) (T := T_Hi) (N := 6) hx hb hts i_Hi hown hK hP 0 rfl rfl 3 (by decide) (hts _ mw_169) (fun _ h9 => h9) rfl d_Hi_offer_54 ?_
            refine w_icmp_ge (tgt := 70) hx hb d_Hi_offer_57 (by decide) (by omega) (by omega) (fun c_57 => ?_) (fun c_57 => ?_)
            · refine lv_aload_n hx hb d_Hi_offer_70 rfl (lv_at hl 0 rfl) ?_
              refine va_get (D := D) (ci := 3) (v := .int (J ((n : Nat) : Int))) (C := R_Hi) (T := T_Hi) (N := 6) hx hb hts i_Hi hown hK hP 0 rfl rfl 5 (by decide) (hts _ mw_171) (fun _ h9 => h9) rfl d_Hi_offer_71 ?_
              refine lv_iconst (v := J (1)) hx hb d_Hi_offer_74 rfl ?_
              refine w_isub hx hb d_Hi_offer_75 ((n - 1 : Nat) : Int) (by omega) ?_
              refine lv_istore (lv' := [(5, .int (J ((n - 1 : Nat) : Int))), (0, .ref o), (1, .int (J en)), (2, .int (J z)), (3, .int (J y)), (4, .int (J ((q : Nat) : Int)))]) hx hb d_Hi_offer_76 hl (by decide) rfl (fun ls hl => ?_)
              have lp_78 : ∀ (fu : Nat) (j : Nat), (q ≤ j) → (j < n) → (j - q) < fu → ∀ (H : Heap) (locs : List Loc), va_P D classes [(o, .inr (3, [.ref e0, .ref e1, .ref e2, .int (J ((k : Nat) : Int)), .int (J bd), .int (J ((n : Nat) : Int))])), (e0, ca cI 40 (mvd fe j (n))), (e1, ca cI 40 (mvd fs j (n))), (e2, ca cI 40 (mvd hd j (n)))] H → va_D A [(o, .inr (3, [.ref e0, .ref e1, .ref e2, .int (J ((k : Nat) : Int)), .int (J bd), .int (J ((n : Nat) : Int))])), (e0, ca cI 40 (mvd fe j (n))), (e1, ca cI 40 (mvd fs j (n))), (e2, ca cI 40 (mvd hd j (n)))] → va_S A s.heap H locs → ∀ ls : Array Slot, lv_has ls 6 [(0, .ref o), (1, .int (J en)), (2, .int (J z)), (3, .int (J y)), (4, .int (J ((q : Nat) : Int))), (5, .int (J ((j : Nat) : Int)))] → W p l e ({ frames := 1, cells := 0, slots := 0, locals := 23 }) s m args below meth c H locs 0 0 Q (F0 m 78 ls []) := by
                intro fu
                induction fu with
                | zero => intro j hj hj2 hfu; exact absurd hfu (Nat.not_lt_zero _)
                | succ fu ih_78 =>
                  intro j hj hj2 hfu H locs hP hD hS ls hl
                  refine lv_iload hx hb d_Hi_offer_78 (lv_at hl 5 rfl) ?_
                  refine lv_iload hx hb d_Hi_offer_80 (lv_at hl 4 rfl) ?_
                  refine w_icmp_le (tgt := 101) hx hb d_Hi_offer_82 (by decide) (by omega) (by omega) (fun c_82 => ?_) (fun c_82 => ?_)
                  · obtain rfl : q = j := by omega
                    refine lv_aload_n hx hb d_Hi_offer_101 rfl (lv_at hl 0 rfl) ?_
                    refine va_get (D := D) (ci := 3) (v := .ref e0) (C := R_Hi) (T := T_Hi) (N := 6) hx hb hts i_Hi hown hK hP 0 rfl rfl 0 (by decide) (hts _ mw_164) (fun _ h9 => h9) rfl d_Hi_offer_102 ?_
                    refine lv_iload hx hb d_Hi_offer_105 (lv_at hl 4 rfl) ?_
                    refine lv_iload_n hx hb d_Hi_offer_107 rfl (lv_at hl 1 rfl) ?_
                    refine w_iast hx hb hK hP hD hS 1 0 rfl rfl q (by omega) (by omega) (by omega) d_Hi_offer_108 (fun H locs hP hD hS => ?_)
                    have hP : va_P D classes [(o, .inr (3, [.ref e0, .ref e1, .ref e2, .int (J ((k : Nat) : Int)), .int (J bd), .int (J ((n : Nat) : Int))])), (e0, ca cI 40 (iu (mvd fe q (n)) q en)), (e1, ca cI 40 (mvd fs q (n))), (e2, ca cI 40 (mvd hd q (n)))] H := hP
                    have hD : va_D A [(o, .inr (3, [.ref e0, .ref e1, .ref e2, .int (J ((k : Nat) : Int)), .int (J bd), .int (J ((n : Nat) : Int))])), (e0, ca cI 40 (iu (mvd fe q (n)) q en)), (e1, ca cI 40 (mvd fs q (n))), (e2, ca cI 40 (mvd hd q (n)))] := hD
                    have eg : iu (mvd fe q (n)) q en = ins fe q n en := mvd_e fe (by omega) en
                    rw [eg] at hP hD
                    clear eg
                    refine lv_aload_n hx hb d_Hi_offer_109 rfl (lv_at hl 0 rfl) ?_
                    refine va_get (D := D) (ci := 3) (v := .ref e1) (C := R_Hi) (T := T_Hi) (N := 6) hx hb hts i_Hi hown hK hP 0 rfl rfl 1 (by decide) (hts _ mw_166) (fun _ h9 => h9) rfl d_Hi_offer_110 ?_
                    refine lv_iload hx hb d_Hi_offer_113 (lv_at hl 4 rfl) ?_
                    refine lv_iload_n hx hb d_Hi_offer_115 rfl (lv_at hl 2 rfl) ?_
                    refine w_iast hx hb hK hP hD hS 2 0 rfl rfl q (by omega) (by omega) (by omega) d_Hi_offer_116 (fun H locs hP hD hS => ?_)
                    have hP : va_P D classes [(o, .inr (3, [.ref e0, .ref e1, .ref e2, .int (J ((k : Nat) : Int)), .int (J bd), .int (J ((n : Nat) : Int))])), (e0, ca cI 40 (ins fe q n en)), (e1, ca cI 40 (iu (mvd fs q (n)) q z)), (e2, ca cI 40 (mvd hd q (n)))] H := hP
                    have hD : va_D A [(o, .inr (3, [.ref e0, .ref e1, .ref e2, .int (J ((k : Nat) : Int)), .int (J bd), .int (J ((n : Nat) : Int))])), (e0, ca cI 40 (ins fe q n en)), (e1, ca cI 40 (iu (mvd fs q (n)) q z)), (e2, ca cI 40 (mvd hd q (n)))] := hD
                    have eg : iu (mvd fs q (n)) q z = ins fs q n z := mvd_e fs (by omega) z
                    rw [eg] at hP hD
                    clear eg
                    refine lv_aload_n hx hb d_Hi_offer_117 rfl (lv_at hl 0 rfl) ?_
                    refine va_get (D := D) (ci := 3) (v := .ref e2) (C := R_Hi) (T := T_Hi) (N := 6) hx hb hts i_Hi hown hK hP 0 rfl rfl 2 (by decide) (hts _ mw_168) (fun _ h9 => h9) rfl d_Hi_offer_118 ?_
                    refine lv_iload hx hb d_Hi_offer_121 (lv_at hl 4 rfl) ?_
                    refine lv_iload_n hx hb d_Hi_offer_123 rfl (lv_at hl 3 rfl) ?_
                    refine w_iast hx hb hK hP hD hS 3 0 rfl rfl q (by omega) (by omega) (by omega) d_Hi_offer_124 (fun H locs hP hD hS => ?_)
                    have hP : va_P D classes [(o, .inr (3, [.ref e0, .ref e1, .ref e2, .int (J ((k : Nat) : Int)), .int (J bd), .int (J ((n : Nat) : Int))])), (e0, ca cI 40 (ins fe q n en)), (e1, ca cI 40 (ins fs q n z)), (e2, ca cI 40 (iu (mvd hd q (n)) q y))] H := hP
                    have hD : va_D A [(o, .inr (3, [.ref e0, .ref e1, .ref e2, .int (J ((k : Nat) : Int)), .int (J bd), .int (J ((n : Nat) : Int))])), (e0, ca cI 40 (ins fe q n en)), (e1, ca cI 40 (ins fs q n z)), (e2, ca cI 40 (iu (mvd hd q (n)) q y))] := hD
                    have eg : iu (mvd hd q (n)) q y = ins hd q n y := mvd_e hd (by omega) y
                    rw [eg] at hP hD
                    clear eg
                    exact Mv_ret hx hb hr hlocks hQ d_Hi_offer_125 hP hK hD hS () (trivial) [0, 1, 2, 3] rfl (by decide)
                  · obtain ⟨i, rfl⟩ : ∃ i : Nat, j = i + 1 := ⟨j - 1, by omega⟩
                    refine lv_aload_n hx hb d_Hi_offer_85 rfl (lv_at hl 0 rfl) ?_
                    refine lv_iload hx hb d_Hi_offer_86 (lv_at hl 5 rfl) ?_
                    refine lv_iconst (v := J (1)) hx hb d_Hi_offer_88 rfl ?_
                    refine w_isub hx hb d_Hi_offer_89 ((i : Nat) : Int) (by omega) ?_
                    refine lv_iload hx hb d_Hi_offer_90 (lv_at hl 5 rfl) ?_
                    refine Mv_call (wr := []) (va_runV (As := [.int (J ((i : Nat) : Int)), .int (J ((i + 1 : Nat) : Int))]) (rest := []) ⟨hx, hb, hml, hown, hts⟩ (c_Hi_copy l D cI cZ cJ H.size o e0 e1 e2 ((k : Nat) : Int) bd n (mvd fe (i + 1) (n)) (mvd fs (i + 1) (n)) (mvd hd (i + 1) (n)) i (i + 1) (by first | assumption | omega) (by first | assumption | omega)) (cwV 2 hts (g_V mw_412 mw_414 mw_8 mw_32 mw_415) rfl rfl rfl (by decide +kernel) ⟨Nat.le_of_ble_eq_true rfl, Nat.le_of_ble_eq_true rfl⟩) (pre_WV hP hK hD [0, 1, 2, 3] rfl (by decide) 3 0 rfl rfl (fun h => Bool.noConfusion h)) rfl rfl hl.1 rfl (lv_room (Nat.le_of_ble_eq_true rfl)) d_Hi_offer_92 ⟨Nat.le_of_ble_eq_true rfl, Nat.le_of_ble_eq_true rfl⟩) hP hD hS hA [0, 1, 2, 3] [] rfl rfl (by decide) (by decide) (fun _u H locs _hu hP hD hS => ?_)
                    have hP : va_P D classes [(o, .inr (3, [.ref e0, .ref e1, .ref e2, .int (J ((k : Nat) : Int)), .int (J bd), .int (J ((n : Nat) : Int))])), (e0, ca cI 40 (iu (mvd fe (i + 1) (n)) (i + 1) ((mvd fe (i + 1) (n)) i))), (e1, ca cI 40 (iu (mvd fs (i + 1) (n)) (i + 1) ((mvd fs (i + 1) (n)) i))), (e2, ca cI 40 (iu (mvd hd (i + 1) (n)) (i + 1) ((mvd hd (i + 1) (n)) i)))] H := hP
                    have hD : va_D A [(o, .inr (3, [.ref e0, .ref e1, .ref e2, .int (J ((k : Nat) : Int)), .int (J bd), .int (J ((n : Nat) : Int))])), (e0, ca cI 40 (iu (mvd fe (i + 1) (n)) (i + 1) ((mvd fe (i + 1) (n)) i))), (e1, ca cI 40 (iu (mvd fs (i + 1) (n)) (i + 1) ((mvd fs (i + 1) (n)) i))), (e2, ca cI 40 (iu (mvd hd (i + 1) (n)) (i + 1) ((mvd hd (i + 1) (n)) i)))] := hD
                    have eg : iu (mvd fe (i + 1) (n)) (i + 1) ((mvd fe (i + 1) (n)) i) = mvd fe i (n) := mvd_s fe (by omega)
                    rw [eg] at hP hD
                    clear eg
                    have eg : iu (mvd fs (i + 1) (n)) (i + 1) ((mvd fs (i + 1) (n)) i) = mvd fs i (n) := mvd_s fs (by omega)
                    rw [eg] at hP hD
                    clear eg
                    have eg : iu (mvd hd (i + 1) (n)) (i + 1) ((mvd hd (i + 1) (n)) i) = mvd hd i (n) := mvd_s hd (by omega)
                    rw [eg] at hP hD
                    clear eg
                    refine w_iinc (k := 5) (lv' := [(5, .int (J ((i : Nat) : Int))), (0, .ref o), (1, .int (J en)), (2, .int (J z)), (3, .int (J y)), (4, .int (J ((q : Nat) : Int)))]) hx hb d_Hi_offer_95 hl rfl ((i : Nat) : Int) (by omega) (by decide) rfl (fun ls hl => ?_)
                    refine lv_goto (tgt := 78) hx hb d_Hi_offer_98 (by decide) ?_
                    exact ih_78 i (by omega) (by omega) (by omega) _ _ (P_map hP [0, 1, 2, 3] rfl) (hD.sub [0, 1, 2, 3] (by decide) rfl) hS ls (lv_sub hl [1, 2, 3, 4, 5, 0] rfl)
              rw [← mvd_0 fe (i := n - 1) (n := n) (by omega), ← mvd_0 fs (i := n - 1) (n := n) (by omega), ← mvd_0 hd (i := n - 1) (n := n) (by omega)] at hP hD
              exact lp_78 (((n - 1) - q) + 1) (n - 1) (by omega) (by omega) (Nat.lt_succ_self _) _ _ (P_map hP [0, 1, 2, 3] rfl) (hD.sub [0, 1, 2, 3] (by decide) rfl) hS ls (lv_sub hl [1, 2, 3, 4, 5, 0] rfl)
            · exfalso; omega
          · exfalso; omega
        · obtain ⟨i, rfl⟩ : ∃ i : Nat, j = i + 1 := ⟨j - 1, by omega⟩
          refine lv_aload_n hx hb d_Hi_offer_20 rfl (lv_at hl 0 rfl) ?_
          refine lv_iload_n hx hb d_Hi_offer_21 rfl (lv_at hl 2 rfl) ?_
          refine lv_iload_n hx hb d_Hi_offer_22 rfl (lv_at hl 3 rfl) ?_
          refine lv_iload hx hb d_Hi_offer_23 (lv_at hl 4 rfl) ?_
          refine lv_iconst (v := J (1)) hx hb d_Hi_offer_25 rfl ?_
          refine w_isub hx hb d_Hi_offer_26 ((i : Nat) : Int) (by omega) ?_
          refine Ri_call (va_runV (As := [.int (J z), .int (J y), .int (J ((i : Nat) : Int))]) (rest := []) ⟨hx, hb, hml, hown, hts⟩ (c_Hi_isNearer l D cI cZ cJ o e0 e1 e2 ((k : Nat) : Int) bd n fs hd z y i (by first | assumption | omega) (by first | assumption | omega) (by first | assumption | omega) (by first | assumption | omega) (by first | assumption | omega)) (cwV 3 hts (g_V mw_408 mw_410 mw_7 mw_32 mw_411) rfl rfl rfl (by decide +kernel) ⟨Nat.le_of_ble_eq_true rfl, Nat.le_of_ble_eq_true rfl⟩) (pre_RV hP hK [0, 2, 3] rfl 3 0 rfl rfl) rfl rfl hl.1 rfl (lv_room (Nat.le_of_ble_eq_true rfl)) d_Hi_offer_27 ⟨Nat.le_of_ble_eq_true rfl, Nat.le_of_ble_eq_true rfl⟩) ?_
          refine w_if_eq (tgt := 39) hx hb d_Hi_offer_30 (by decide) (rg_b2) (fun c_30 => ?_) (fun c_30 => ?_)
          · have c_30 := b2_0.mp c_30
            have e9 : q = i + 1 := by rw [← hqn, hps, psn, if_neg c_30]
            rw [← e9] at hl
            refine lv_iload hx hb d_Hi_offer_39 (lv_at hl 4 rfl) ?_
            refine lv_aload_n hx hb d_Hi_offer_41 rfl (lv_at hl 0 rfl) ?_
            refine va_get (D := D) (ci := 3) (v := .int (J ((k : Nat) : Int))) (C := R_Hi) (T := T_Hi) (N := 6) hx hb hts i_Hi hown hK hP 0 rfl rfl 3 (by decide) (hts _ mw_169) (fun _ h9 => h9) rfl d_Hi_offer_42 ?_
            refine w_icmp_lt (tgt := 49) hx hb d_Hi_offer_45 (by decide) (by omega) (by omega) (fun c_45 => ?_) (fun c_45 => ?_)
            · refine lv_aload_n hx hb d_Hi_offer_49 rfl (lv_at hl 0 rfl) ?_
              refine va_get (D := D) (ci := 3) (v := .int (J ((n : Nat) : Int))) (C := R_Hi) (T := T_Hi) (N := 6) hx hb hts i_Hi hown hK hP 0 rfl rfl 5 (by decide) (hts _ mw_171) (fun _ h9 => h9) rfl d_Hi_offer_50 ?_
              refine lv_aload_n hx hb d_Hi_offer_53 rfl (lv_at hl 0 rfl) ?_
              refine va_get (D := D) (ci := 3) (v := .int (J ((k : Nat) : Int))) (C := R_Hi) (T := T_Hi) (N := 6) hx hb hts i_Hi hown hK hP 0 rfl rfl 3 (by decide) (hts _ mw_169) (fun _ h9 => h9) rfl d_Hi_offer_54 ?_
              refine w_icmp_ge (tgt := 70) hx hb d_Hi_offer_57 (by decide) (by omega) (by omega) (fun c_57 => ?_) (fun c_57 => ?_)
              · refine lv_aload_n hx hb d_Hi_offer_70 rfl (lv_at hl 0 rfl) ?_
                refine va_get (D := D) (ci := 3) (v := .int (J ((n : Nat) : Int))) (C := R_Hi) (T := T_Hi) (N := 6) hx hb hts i_Hi hown hK hP 0 rfl rfl 5 (by decide) (hts _ mw_171) (fun _ h9 => h9) rfl d_Hi_offer_71 ?_
                refine lv_iconst (v := J (1)) hx hb d_Hi_offer_74 rfl ?_
                refine w_isub hx hb d_Hi_offer_75 ((n - 1 : Nat) : Int) (by omega) ?_
                refine lv_istore (lv' := [(5, .int (J ((n - 1 : Nat) : Int))), (0, .ref o), (1, .int (J en)), (2, .int (J z)), (3, .int (J y)), (4, .int (J ((q : Nat) : Int)))]) hx hb d_Hi_offer_76 hl (by decide) rfl (fun ls hl => ?_)
                have lp_78 : ∀ (fu : Nat) (j : Nat), (q ≤ j) → (j < n) → (j - q) < fu → ∀ (H : Heap) (locs : List Loc), va_P D classes [(o, .inr (3, [.ref e0, .ref e1, .ref e2, .int (J ((k : Nat) : Int)), .int (J bd), .int (J ((n : Nat) : Int))])), (e0, ca cI 40 (mvd fe j (n))), (e1, ca cI 40 (mvd fs j (n))), (e2, ca cI 40 (mvd hd j (n)))] H → va_D A [(o, .inr (3, [.ref e0, .ref e1, .ref e2, .int (J ((k : Nat) : Int)), .int (J bd), .int (J ((n : Nat) : Int))])), (e0, ca cI 40 (mvd fe j (n))), (e1, ca cI 40 (mvd fs j (n))), (e2, ca cI 40 (mvd hd j (n)))] → va_S A s.heap H locs → ∀ ls : Array Slot, lv_has ls 6 [(0, .ref o), (1, .int (J en)), (2, .int (J z)), (3, .int (J y)), (4, .int (J ((q : Nat) : Int))), (5, .int (J ((j : Nat) : Int)))] → W p l e ({ frames := 1, cells := 0, slots := 0, locals := 23 }) s m args below meth c H locs 0 0 Q (F0 m 78 ls []) := by
                  intro fu
                  induction fu with
                  | zero => intro j hj hj2 hfu; exact absurd hfu (Nat.not_lt_zero _)
                  | succ fu ih_78 =>
                    intro j hj hj2 hfu H locs hP hD hS ls hl
                    refine lv_iload hx hb d_Hi_offer_78 (lv_at hl 5 rfl) ?_
                    refine lv_iload hx hb d_Hi_offer_80 (lv_at hl 4 rfl) ?_
                    refine w_icmp_le (tgt := 101) hx hb d_Hi_offer_82 (by decide) (by omega) (by omega) (fun c_82 => ?_) (fun c_82 => ?_)
                    · obtain rfl : q = j := by omega
                      refine lv_aload_n hx hb d_Hi_offer_101 rfl (lv_at hl 0 rfl) ?_
                      refine va_get (D := D) (ci := 3) (v := .ref e0) (C := R_Hi) (T := T_Hi) (N := 6) hx hb hts i_Hi hown hK hP 0 rfl rfl 0 (by decide) (hts _ mw_164) (fun _ h9 => h9) rfl d_Hi_offer_102 ?_
                      refine lv_iload hx hb d_Hi_offer_105 (lv_at hl 4 rfl) ?_
                      refine lv_iload_n hx hb d_Hi_offer_107 rfl (lv_at hl 1 rfl) ?_
                      refine w_iast hx hb hK hP hD hS 1 0 rfl rfl q (by omega) (by omega) (by omega) d_Hi_offer_108 (fun H locs hP hD hS => ?_)
                      have hP : va_P D classes [(o, .inr (3, [.ref e0, .ref e1, .ref e2, .int (J ((k : Nat) : Int)), .int (J bd), .int (J ((n : Nat) : Int))])), (e0, ca cI 40 (iu (mvd fe q (n)) q en)), (e1, ca cI 40 (mvd fs q (n))), (e2, ca cI 40 (mvd hd q (n)))] H := hP
                      have hD : va_D A [(o, .inr (3, [.ref e0, .ref e1, .ref e2, .int (J ((k : Nat) : Int)), .int (J bd), .int (J ((n : Nat) : Int))])), (e0, ca cI 40 (iu (mvd fe q (n)) q en)), (e1, ca cI 40 (mvd fs q (n))), (e2, ca cI 40 (mvd hd q (n)))] := hD
                      have eg : iu (mvd fe q (n)) q en = ins fe q n en := mvd_e fe (by omega) en
                      rw [eg] at hP hD
                      clear eg
                      refine lv_aload_n hx hb d_Hi_offer_109 rfl (lv_at hl 0 rfl) ?_
                      refine va_get (D := D) (ci := 3) (v := .ref e1) (C := R_Hi) (T := T_Hi) (N := 6) hx hb hts i_Hi hown hK hP 0 rfl rfl 1 (by decide) (hts _ mw_166) (fun _ h9 => h9) rfl d_Hi_offer_110 ?_
                      refine lv_iload hx hb d_Hi_offer_113 (lv_at hl 4 rfl) ?_
                      refine lv_iload_n hx hb d_Hi_offer_115 rfl (lv_at hl 2 rfl) ?_
                      refine w_iast hx hb hK hP hD hS 2 0 rfl rfl q (by omega) (by omega) (by omega) d_Hi_offer_116 (fun H locs hP hD hS => ?_)
                      have hP : va_P D classes [(o, .inr (3, [.ref e0, .ref e1, .ref e2, .int (J ((k : Nat) : Int)), .int (J bd), .int (J ((n : Nat) : Int))])), (e0, ca cI 40 (ins fe q n en)), (e1, ca cI 40 (iu (mvd fs q (n)) q z)), (e2, ca cI 40 (mvd hd q (n)))] H := hP
                      have hD : va_D A [(o, .inr (3, [.ref e0, .ref e1, .ref e2, .int (J ((k : Nat) : Int)), .int (J bd), .int (J ((n : Nat) : Int))])), (e0, ca cI 40 (ins fe q n en)), (e1, ca cI 40 (iu (mvd fs q (n)) q z)), (e2, ca cI 40 (mvd hd q (n)))] := hD
                      have eg : iu (mvd fs q (n)) q z = ins fs q n z := mvd_e fs (by omega) z
                      rw [eg] at hP hD
                      clear eg
                      refine lv_aload_n hx hb d_Hi_offer_117 rfl (lv_at hl 0 rfl) ?_
                      refine va_get (D := D) (ci := 3) (v := .ref e2) (C := R_Hi) (T := T_Hi) (N := 6) hx hb hts i_Hi hown hK hP 0 rfl rfl 2 (by decide) (hts _ mw_168) (fun _ h9 => h9) rfl d_Hi_offer_118 ?_
                      refine lv_iload hx hb d_Hi_offer_121 (lv_at hl 4 rfl) ?_
                      refine lv_iload_n hx hb d_Hi_offer_123 rfl (lv_at hl 3 rfl) ?_
                      refine w_iast hx hb hK hP hD hS 3 0 rfl rfl q (by omega) (by omega) (by omega) d_Hi_offer_124 (fun H locs hP hD hS => ?_)
                      have hP : va_P D classes [(o, .inr (3, [.ref e0, .ref e1, .ref e2, .int (J ((k : Nat) : Int)), .int (J bd), .int (J ((n : Nat) : Int))])), (e0, ca cI 40 (ins fe q n en)), (e1, ca cI 40 (ins fs q n z)), (e2, ca cI 40 (iu (mvd hd q (n)) q y))] H := hP
                      have hD : va_D A [(o, .inr (3, [.ref e0, .ref e1, .ref e2, .int (J ((k : Nat) : Int)), .int (J bd), .int (J ((n : Nat) : Int))])), (e0, ca cI 40 (ins fe q n en)), (e1, ca cI 40 (ins fs q n z)), (e2, ca cI 40 (iu (mvd hd q (n)) q y))] := hD
                      have eg : iu (mvd hd q (n)) q y = ins hd q n y := mvd_e hd (by omega) y
                      rw [eg] at hP hD
                      clear eg
                      exact Mv_ret hx hb hr hlocks hQ d_Hi_offer_125 hP hK hD hS () (trivial) [0, 1, 2, 3] rfl (by decide)
                    · obtain ⟨i, rfl⟩ : ∃ i : Nat, j = i + 1 := ⟨j - 1, by omega⟩
                      refine lv_aload_n hx hb d_Hi_offer_85 rfl (lv_at hl 0 rfl) ?_
                      refine lv_iload hx hb d_Hi_offer_86 (lv_at hl 5 rfl) ?_
                      refine lv_iconst (v := J (1)) hx hb d_Hi_offer_88 rfl ?_
                      refine w_isub hx hb d_Hi_offer_89 ((i : Nat) : Int) (by omega) ?_
                      refine lv_iload hx hb d_Hi_offer_90 (lv_at hl 5 rfl) ?_
                      refine Mv_call (wr := []) (va_runV (As := [.int (J ((i : Nat) : Int)), .int (J ((i + 1 : Nat) : Int))]) (rest := []) ⟨hx, hb, hml, hown, hts⟩ (c_Hi_copy l D cI cZ cJ H.size o e0 e1 e2 ((k : Nat) : Int) bd n (mvd fe (i + 1) (n)) (mvd fs (i + 1) (n)) (mvd hd (i + 1) (n)) i (i + 1) (by first | assumption | omega) (by first | assumption | omega)) (cwV 2 hts (g_V mw_412 mw_414 mw_8 mw_32 mw_415) rfl rfl rfl (by decide +kernel) ⟨Nat.le_of_ble_eq_true rfl, Nat.le_of_ble_eq_true rfl⟩) (pre_WV hP hK hD [0, 1, 2, 3] rfl (by decide) 3 0 rfl rfl (fun h => Bool.noConfusion h)) rfl rfl hl.1 rfl (lv_room (Nat.le_of_ble_eq_true rfl)) d_Hi_offer_92 ⟨Nat.le_of_ble_eq_true rfl, Nat.le_of_ble_eq_true rfl⟩) hP hD hS hA [0, 1, 2, 3] [] rfl rfl (by decide) (by decide) (fun _u H locs _hu hP hD hS => ?_)
                      have hP : va_P D classes [(o, .inr (3, [.ref e0, .ref e1, .ref e2, .int (J ((k : Nat) : Int)), .int (J bd), .int (J ((n : Nat) : Int))])), (e0, ca cI 40 (iu (mvd fe (i + 1) (n)) (i + 1) ((mvd fe (i + 1) (n)) i))), (e1, ca cI 40 (iu (mvd fs (i + 1) (n)) (i + 1) ((mvd fs (i + 1) (n)) i))), (e2, ca cI 40 (iu (mvd hd (i + 1) (n)) (i + 1) ((mvd hd (i + 1) (n)) i)))] H := hP
                      have hD : va_D A [(o, .inr (3, [.ref e0, .ref e1, .ref e2, .int (J ((k : Nat) : Int)), .int (J bd), .int (J ((n : Nat) : Int))])), (e0, ca cI 40 (iu (mvd fe (i + 1) (n)) (i + 1) ((mvd fe (i + 1) (n)) i))), (e1, ca cI 40 (iu (mvd fs (i + 1) (n)) (i + 1) ((mvd fs (i + 1) (n)) i))), (e2, ca cI 40 (iu (mvd hd (i + 1) (n)) (i + 1) ((mvd hd (i + 1) (n)) i)))] := hD
                      have eg : iu (mvd fe (i + 1) (n)) (i + 1) ((mvd fe (i + 1) (n)) i) = mvd fe i (n) := mvd_s fe (by omega)
                      rw [eg] at hP hD
                      clear eg
                      have eg : iu (mvd fs (i + 1) (n)) (i + 1) ((mvd fs (i + 1) (n)) i) = mvd fs i (n) := mvd_s fs (by omega)
                      rw [eg] at hP hD
                      clear eg
                      have eg : iu (mvd hd (i + 1) (n)) (i + 1) ((mvd hd (i + 1) (n)) i) = mvd hd i (n) := mvd_s hd (by omega)
                      rw [eg] at hP hD
                      clear eg
                      refine w_iinc (k := 5) (lv' := [(5, .int (J ((i : Nat) : Int))), (0, .ref o), (1, .int (J en)), (2, .int (J z)), (3, .int (J y)), (4, .int (J ((q : Nat) : Int)))]) hx hb d_Hi_offer_95 hl rfl ((i : Nat) : Int) (by omega) (by decide) rfl (fun ls hl => ?_)
                      refine lv_goto (tgt := 78) hx hb d_Hi_offer_98 (by decide) ?_
                      exact ih_78 i (by omega) (by omega) (by omega) _ _ (P_map hP [0, 1, 2, 3] rfl) (hD.sub [0, 1, 2, 3] (by decide) rfl) hS ls (lv_sub hl [1, 2, 3, 4, 5, 0] rfl)
                rw [← mvd_0 fe (i := n - 1) (n := n) (by omega), ← mvd_0 fs (i := n - 1) (n := n) (by omega), ← mvd_0 hd (i := n - 1) (n := n) (by omega)] at hP hD
                exact lp_78 (((n - 1) - q) + 1) (n - 1) (by omega) (by omega) (Nat.lt_succ_self _) _ _ (P_map hP [0, 1, 2, 3] rfl) (hD.sub [0, 1, 2, 3] (by decide) rfl) hS ls (lv_sub hl [1, 2, 3, 4, 5, 0] rfl)
              · exfalso; omega
            · exfalso; omega
          · have c_30 := b2_n0.mp c_30
            refine w_iinc (k := 4) (lv' := [(4, .int (J ((i : Nat) : Int))), (0, .ref o), (1, .int (J en)), (2, .int (J z)), (3, .int (J y))]) hx hb d_Hi_offer_33 hl rfl ((i : Nat) : Int) (by omega) (by decide) rfl (fun ls hl => ?_)
            refine lv_goto (tgt := 15) hx hb d_Hi_offer_36 (by decide) ?_
            exact ih_15 i (by omega) (by rw [hps, psn, if_pos c_30]) (by omega) _ _ (P_map hP [0, 1, 2, 3] rfl) (hD.sub [0, 1, 2, 3] (by decide) rfl) hS ls (lv_sub hl [1, 2, 3, 4, 0] rfl)
    exact lp_15 (n + 1) n (by omega) (rfl) (Nat.lt_succ_self _) _ _ (P_map hP [0, 1, 2, 3] rfl) (hD.sub [0, 1, 2, 3] (by decide) rfl) hS ls (lv_sub hl [1, 2, 3, 4, 0] rfl)
  · exfalso; omega
