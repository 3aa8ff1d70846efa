set_option maxHeartbeats 1000000 in
set_option maxRecDepth 100000 in
theorem c_Mo_beyond (l : Launch) (D : va_G) (cI cZ cJ : ClassId) (o : Nat) (p1 : Nat) (p2 : Nat) (p3 : Nat) (p4 : Nat) (p5 : Nat) (p6 : Nat) (p7 : Nat) (p8 : Nat) (p9 : Nat) (pA : Nat) (pB : Nat) (pC : Nat) (th : Int) (n : Nat) (ap : Int) (fn : Nat) (wk : Int) (ln : Nat → Int) (gl : Nat → Int) (wd : Nat) (ot : Nat) (hln : ∀ k, 0 ≤ ln k ∧ ln k ≤ 10) (hgl : ∀ k, 0 ≤ gl k ∧ gl k < 26) (hwo : wd < 123 ∧ ot < 123) : Ri l y_Mo_beyond w_Mo_beyond ({ frames := 0, cells := 0, slots := 0, locals := 0 }) D classes [(cI, .int), (cZ, .boolean), (cJ, .long)] [.ref o, .int (J ((wd : Nat) : Int)), .int (J ((ot : Nat) : Int))] [(o, .inr (8, [.int (J th), .int (J ((n : Nat) : Int)), .ref p1, .ref p2, .ref p3, .ref p4, .ref p5, .ref p6, .int (J ap), .ref p7, .int (J ((fn : Nat) : Int)), .ref p8, .ref p9, .int (J wk), .ref pA, .ref pB, .ref pC])), (p5, ca cI 123 ln), (p6, ca cI 1230 gl)] (bey (fun t => gl (10 * wd + t)) (ln wd).toNat (fun t => gl (10 * ot + t)) (ln ot).toNat) := by
  refine Ri_of (cc := b_Mo_beyond) (maxL := 7) (by decide) rfl (Nat.le_of_ble_eq_true rfl) ?_
  intro p e s m args below meth c hx hb hr hml hts hown hlocks hP hK Q hQ H hH ls hl
  rw [← hH] at hP
  have hl : lv_has ls 7 [(0, .ref o), (1, .int (J ((wd : Nat) : Int))), (2, .int (J ((ot : Nat) : Int)))] := hl
  have l1 := hln wd
  have l2 := hln ot
  refine lv_iconst (v := J (0)) hx hb d_Mo_beyond_0 rfl ?_
  refine lv_istore_n (lv' := [(3, .int (J 0)), (0, .ref o), (1, .int (J ((wd : Nat) : Int))), (2, .int (J ((ot : Nat) : Int)))]) hx hb d_Mo_beyond_1 rfl hl (by decide) rfl (fun ls hl => ?_)
  refine lv_iconst (v := J (0)) hx hb d_Mo_beyond_2 rfl ?_
  refine lv_istore (lv' := [(4, .int (J 0)), (3, .int (J 0)), (0, .ref o), (1, .int (J ((wd : Nat) : Int))), (2, .int (J ((ot : Nat) : Int)))]) hx hb d_Mo_beyond_3 hl (by decide) rfl (fun ls hl => ?_)
  have lp_5 : ∀ (fu : Nat) (q : Nat) (t : Int), (q ≤ 26) → (t = sm (fun c => max 0 (cnt (fun t => gl (10 * wd + t)) (ln wd).toNat (c : Int) - cnt (fun t => gl (10 * ot + t)) (ln ot).toNat (c : Int))) q) → (0 ≤ t ∧ t ≤ 10 * (q : Int)) → (26 - q) < fu → ∀ ls : Array Slot, lv_has ls 7 [(0, .ref o), (1, .int (J ((wd : Nat) : Int))), (2, .int (J ((ot : Nat) : Int))), (3, .int (J t)), (4, .int (J ((q : Nat) : Int)))] → W p l e ({ frames := 0, cells := 0, slots := 0, locals := 0 }) s m args below meth c H [] 0 0 Q (F0 m 5 ls []) := by
    intro fu
    induction fu with
    | zero => intro q t hq ht htr hfu; exact absurd hfu (Nat.not_lt_zero _)
    | succ fu ih_5 =>
      intro q t hq ht htr hfu ls hl
      refine lv_iload hx hb d_Mo_beyond_5 (lv_at hl 4 rfl) ?_
      refine lv_bipush (v := J (26)) hx hb d_Mo_beyond_7 (by decide) ?_
      refine w_icmp_ge (tgt := 131) hx hb d_Mo_beyond_9 (by decide) (by omega) (by omega) (fun c_9 => ?_) (fun c_9 => ?_)
      · obtain rfl : 26 = q := by omega
        refine lv_iload_n hx hb d_Mo_beyond_131 rfl (lv_at hl 3 rfl) ?_
        exact Ri_ret hx hb hr hlocks hQ hH d_Mo_beyond_132 nb_i (ht)
      · refine lv_iconst (v := J (0)) hx hb d_Mo_beyond_12 rfl ?_
        refine lv_istore (lv' := [(5, .int (J 0)), (0, .ref o), (1, .int (J ((wd : Nat) : Int))), (2, .int (J ((ot : Nat) : Int))), (3, .int (J t)), (4, .int (J ((q : Nat) : Int)))]) hx hb d_Mo_beyond_13 hl (by decide) rfl (fun ls hl => ?_)
        refine lv_iconst (v := J (0)) hx hb d_Mo_beyond_15 rfl ?_
        refine lv_istore (lv' := [(6, .int (J 0)), (5, .int (J 0)), (0, .ref o), (1, .int (J ((wd : Nat) : Int))), (2, .int (J ((ot : Nat) : Int))), (3, .int (J t)), (4, .int (J ((q : Nat) : Int)))]) hx hb d_Mo_beyond_16 hl (by decide) rfl (fun ls hl => ?_)
        have lp_18 : ∀ (fu : Nat) (i : Nat) (x : Int), (i ≤ (ln wd).toNat) → (x = cnt (fun t => gl (10 * wd + t)) i (((q : Nat)) : Int)) → (0 ≤ x ∧ x ≤ (i : Int)) → ((ln wd).toNat - i) < fu → ∀ ls : Array Slot, lv_has ls 7 [(0, .ref o), (1, .int (J ((wd : Nat) : Int))), (2, .int (J ((ot : Nat) : Int))), (3, .int (J t)), (4, .int (J ((q : Nat) : Int))), (5, .int (J x)), (6, .int (J ((i : Nat) : Int)))] → W p l e ({ frames := 0, cells := 0, slots := 0, locals := 0 }) s m args below meth c H [] 0 0 Q (F0 m 18 ls []) := by
          intro fu
          induction fu with
          | zero => intro i x hi hx9 hxr hfu; exact absurd hfu (Nat.not_lt_zero _)
          | succ fu ih_18 =>
            intro i x hi hx9 hxr hfu ls hl
            have g1 := hgl (10 * wd + i)
            refine lv_iload hx hb d_Mo_beyond_18 (lv_at hl 6 rfl) ?_
            refine lv_aload_n hx hb d_Mo_beyond_20 rfl (lv_at hl 0 rfl) ?_
            refine va_get (D := D) (ci := 8) (v := .ref p5) (C := R_Mo) (T := T_Mo) (N := 17) hx hb hts i_Mo hown hK hP 0 rfl rfl 6 (by decide) (hts _ mw_557) (fun _ h9 => h9) rfl d_Mo_beyond_21 ?_
            refine lv_iload_n hx hb d_Mo_beyond_24 rfl (lv_at hl 1 rfl) ?_
            refine w_iald hx hb hK hP 1 0 rfl rfl wd (by omega) (by omega) (by omega) d_Mo_beyond_25 ?_
            refine tp_J (y := (((ln wd).toNat : Nat) : Int)) (by omega) ?_
            refine w_icmp_ge (tgt := 63) hx hb d_Mo_beyond_26 (by decide) (by omega) (by omega) (fun c_26 => ?_) (fun c_26 => ?_)
            · obtain rfl : i = (ln wd).toNat := by omega
              refine lv_iconst (v := J (0)) hx hb d_Mo_beyond_63 rfl ?_
              refine lv_istore (lv' := [(6, .int (J 0)), (0, .ref o), (1, .int (J ((wd : Nat) : Int))), (2, .int (J ((ot : Nat) : Int))), (3, .int (J t)), (4, .int (J ((q : Nat) : Int))), (5, .int (J x))]) hx hb d_Mo_beyond_64 hl (by decide) rfl (fun ls hl => ?_)
              have lp_66 : ∀ (fu : Nat) (j : Nat) (y : Int), (j ≤ (ln ot).toNat) → (y = x - cnt (fun t => gl (10 * ot + t)) j (((q : Nat)) : Int)) → (-10 ≤ y ∧ y ≤ 10) → ((ln ot).toNat - j) < fu → ∀ ls : Array Slot, lv_has ls 7 [(0, .ref o), (1, .int (J ((wd : Nat) : Int))), (2, .int (J ((ot : Nat) : Int))), (3, .int (J t)), (4, .int (J ((q : Nat) : Int))), (5, .int (J y)), (6, .int (J ((j : Nat) : Int)))] → W p l e ({ frames := 0, cells := 0, slots := 0, locals := 0 }) s m args below meth c H [] 0 0 Q (F0 m 66 ls []) := by
                intro fu
                induction fu with
                | zero => intro j y hj hy9 hyr hfu; exact absurd hfu (Nat.not_lt_zero _)
                | succ fu ih_66 =>
                  intro j y hj hy9 hyr hfu ls hl
                  have g2 := hgl (10 * ot + j)
                  have k1 := cnt_rg (fun t => gl (10 * ot + t)) j ((q : Nat) : Int)
                  refine lv_iload hx hb d_Mo_beyond_66 (lv_at hl 6 rfl) ?_
                  refine lv_aload_n hx hb d_Mo_beyond_68 rfl (lv_at hl 0 rfl) ?_
                  refine va_get (D := D) (ci := 8) (v := .ref p5) (C := R_Mo) (T := T_Mo) (N := 17) hx hb hts i_Mo hown hK hP 0 rfl rfl 6 (by decide) (hts _ mw_557) (fun _ h9 => h9) rfl d_Mo_beyond_69 ?_
                  refine lv_iload_n hx hb d_Mo_beyond_72 rfl (lv_at hl 2 rfl) ?_
                  refine w_iald hx hb hK hP 1 0 rfl rfl ot (by omega) (by omega) (by omega) d_Mo_beyond_73 ?_
                  refine tp_J (y := (((ln ot).toNat : Nat) : Int)) (by omega) ?_
                  refine w_icmp_ge (tgt := 111) hx hb d_Mo_beyond_74 (by decide) (by omega) (by omega) (fun c_74 => ?_) (fun c_74 => ?_)
                  · obtain rfl : j = (ln ot).toNat := by omega
                    refine lv_iload hx hb d_Mo_beyond_111 (lv_at hl 5 rfl) ?_
                    refine w_if_le (tgt := 123) hx hb d_Mo_beyond_113 (by decide) (by omega) (fun c_113 => ?_) (fun c_113 => ?_)
                    · refine lv_iload_n hx hb d_Mo_beyond_123 rfl (lv_at hl 3 rfl) ?_
                      refine lv_istore_n (lv' := [(3, .int (J t)), (0, .ref o), (1, .int (J ((wd : Nat) : Int))), (2, .int (J ((ot : Nat) : Int))), (4, .int (J ((q : Nat) : Int))), (5, .int (J y)), (6, .int (J ((((ln ot).toNat) : Nat) : Int)))]) hx hb d_Mo_beyond_124 rfl hl (by decide) rfl (fun ls hl => ?_)
                      refine w_iinc (k := 4) (lv' := [(4, .int (J ((q + 1 : Nat) : Int))), (3, .int (J t)), (0, .ref o), (1, .int (J ((wd : Nat) : Int))), (2, .int (J ((ot : Nat) : Int))), (5, .int (J y)), (6, .int (J ((((ln ot).toNat) : Nat) : Int)))]) hx hb d_Mo_beyond_125 hl rfl ((q + 1 : Nat) : Int) (by omega) (by decide) rfl (fun ls hl => ?_)
                      refine lv_goto (tgt := 5) hx hb d_Mo_beyond_128 (by decide) ?_
                      exact ih_5 (q + 1) t (by omega) (by rw [sm, ← ht]; (try dsimp only); omega) (by omega) (by omega) ls (lv_sub hl [2, 3, 4, 1, 0] rfl)
                    · refine lv_iload_n hx hb d_Mo_beyond_116 rfl (lv_at hl 3 rfl) ?_
                      refine lv_iload hx hb d_Mo_beyond_117 (lv_at hl 5 rfl) ?_
                      refine w_iadd hx hb d_Mo_beyond_119 (t + y) (rfl) ?_
                      refine lv_goto (tgt := 124) hx hb d_Mo_beyond_120 (by decide) ?_
                      refine lv_istore_n (lv' := [(3, .int (J (t + y))), (0, .ref o), (1, .int (J ((wd : Nat) : Int))), (2, .int (J ((ot : Nat) : Int))), (4, .int (J ((q : Nat) : Int))), (5, .int (J y)), (6, .int (J ((((ln ot).toNat) : Nat) : Int)))]) hx hb d_Mo_beyond_124 rfl hl (by decide) rfl (fun ls hl => ?_)
                      refine w_iinc (k := 4) (lv' := [(4, .int (J ((q + 1 : Nat) : Int))), (3, .int (J (t + y))), (0, .ref o), (1, .int (J ((wd : Nat) : Int))), (2, .int (J ((ot : Nat) : Int))), (5, .int (J y)), (6, .int (J ((((ln ot).toNat) : Nat) : Int)))]) hx hb d_Mo_beyond_125 hl rfl ((q + 1 : Nat) : Int) (by omega) (by decide) rfl (fun ls hl => ?_)
                      refine lv_goto (tgt := 5) hx hb d_Mo_beyond_128 (by decide) ?_
                      exact ih_5 (q + 1) (t + y) (by omega) (by rw [sm, ← ht]; (try dsimp only); omega) (by omega) (by omega) ls (lv_sub hl [2, 3, 4, 1, 0] rfl)
                  · refine lv_aload_n hx hb d_Mo_beyond_77 rfl (lv_at hl 0 rfl) ?_
                    refine va_get (D := D) (ci := 8) (v := .ref p6) (C := R_Mo) (T := T_Mo) (N := 17) hx hb hts i_Mo hown hK hP 0 rfl rfl 7 (by decide) (hts _ mw_558) (fun _ h9 => h9) rfl d_Mo_beyond_78 ?_
                    refine lv_bipush (v := J (10)) hx hb d_Mo_beyond_81 (by decide) ?_
                    refine lv_iload_n hx hb d_Mo_beyond_83 rfl (lv_at hl 2 rfl) ?_
                    refine w_imul hx hb d_Mo_beyond_84 ((10 * ot : Nat) : Int) (by omega) ?_
                    refine lv_iload hx hb d_Mo_beyond_85 (lv_at hl 6 rfl) ?_
                    refine w_iadd hx hb d_Mo_beyond_87 (((10 * ot) + j : Nat) : Int) (by omega) ?_
                    refine w_iald hx hb hK hP 2 0 rfl rfl ((10 * ot) + j) (by omega) (by omega) (by omega) d_Mo_beyond_88 ?_
                    refine lv_iload hx hb d_Mo_beyond_89 (lv_at hl 4 rfl) ?_
                    refine w_icmp_ne (tgt := 101) hx hb d_Mo_beyond_91 (by decide) (by omega) (by omega) (fun c_91 => ?_) (fun c_91 => ?_)
                    · refine lv_iload hx hb d_Mo_beyond_101 (lv_at hl 5 rfl) ?_
                      refine lv_istore (lv' := [(5, .int (J y)), (0, .ref o), (1, .int (J ((wd : Nat) : Int))), (2, .int (J ((ot : Nat) : Int))), (3, .int (J t)), (4, .int (J ((q : Nat) : Int))), (6, .int (J ((j : Nat) : Int)))]) hx hb d_Mo_beyond_103 hl (by decide) rfl (fun ls hl => ?_)
                      refine w_iinc (k := 6) (lv' := [(6, .int (J ((j + 1 : Nat) : Int))), (5, .int (J y)), (0, .ref o), (1, .int (J ((wd : Nat) : Int))), (2, .int (J ((ot : Nat) : Int))), (3, .int (J t)), (4, .int (J ((q : Nat) : Int)))]) hx hb d_Mo_beyond_105 hl rfl ((j + 1 : Nat) : Int) (by omega) (by decide) rfl (fun ls hl => ?_)
                      refine lv_goto (tgt := 66) hx hb d_Mo_beyond_108 (by decide) ?_
                      exact ih_66 (j + 1) y (by omega) (by rw [cnt]; (try dsimp only); rw [if_neg c_91]; omega) (by have k1 := cnt_rg (fun t => gl (10 * ot + t)) j ((q : Nat) : Int); have k2 := cnt_rg (fun t => gl (10 * ot + t)) (j + 1) ((q : Nat) : Int); omega) (by omega) ls (lv_sub hl [2, 3, 4, 5, 6, 1, 0] rfl)
                    · refine lv_iload hx hb d_Mo_beyond_94 (lv_at hl 5 rfl) ?_
                      refine lv_iconst (v := J (1)) hx hb d_Mo_beyond_96 rfl ?_
                      refine w_isub hx hb d_Mo_beyond_97 (y - 1) (rfl) ?_
                      refine lv_goto (tgt := 103) hx hb d_Mo_beyond_98 (by decide) ?_
                      refine lv_istore (lv' := [(5, .int (J (y - 1))), (0, .ref o), (1, .int (J ((wd : Nat) : Int))), (2, .int (J ((ot : Nat) : Int))), (3, .int (J t)), (4, .int (J ((q : Nat) : Int))), (6, .int (J ((j : Nat) : Int)))]) hx hb d_Mo_beyond_103 hl (by decide) rfl (fun ls hl => ?_)
                      refine w_iinc (k := 6) (lv' := [(6, .int (J ((j + 1 : Nat) : Int))), (5, .int (J (y - 1))), (0, .ref o), (1, .int (J ((wd : Nat) : Int))), (2, .int (J ((ot : Nat) : Int))), (3, .int (J t)), (4, .int (J ((q : Nat) : Int)))]) hx hb d_Mo_beyond_105 hl rfl ((j + 1 : Nat) : Int) (by omega) (by decide) rfl (fun ls hl => ?_)
                      refine lv_goto (tgt := 66) hx hb d_Mo_beyond_108 (by decide) ?_
                      exact ih_66 (j + 1) (y - 1) (by omega) (by rw [cnt]; (try dsimp only); rw [if_pos c_91]; omega) (by have k1 := cnt_rg (fun t => gl (10 * ot + t)) j ((q : Nat) : Int); have k2 := cnt_rg (fun t => gl (10 * ot + t)) (j + 1) ((q : Nat) : Int); omega) (by omega) ls (lv_sub hl [2, 3, 4, 5, 6, 1, 0] rfl)
              exact lp_66 (((ln ot).toNat - 0) + 1) 0 x (by omega) (by show x = x - 0; omega) (by omega) (Nat.lt_succ_self _) ls (lv_sub hl [1, 2, 3, 4, 5, 6, 0] rfl)
            · refine lv_aload_n hx hb d_Mo_beyond_29 rfl (lv_at hl 0 rfl) ?_
              refine va_get (D := D) (ci := 8) (v := .ref p6) (C := R_Mo) (T := T_Mo) (N := 17) hx hb hts i_Mo hown hK hP 0 rfl rfl 7 (by decide) (hts _ mw_558) (fun _ h9 => h9) rfl d_Mo_beyond_30 ?_
              refine lv_bipush (v := J (10)) hx hb d_Mo_beyond_33 (by decide) ?_
              refine lv_iload_n hx hb d_Mo_beyond_35 rfl (lv_at hl 1 rfl) ?_
              refine w_imul hx hb d_Mo_beyond_36 ((10 * wd : Nat) : Int) (by omega) ?_
              refine lv_iload hx hb d_Mo_beyond_37 (lv_at hl 6 rfl) ?_
              refine w_iadd hx hb d_Mo_beyond_39 (((10 * wd) + i : Nat) : Int) (by omega) ?_
              refine w_iald hx hb hK hP 2 0 rfl rfl ((10 * wd) + i) (by omega) (by omega) (by omega) d_Mo_beyond_40 ?_
              refine lv_iload hx hb d_Mo_beyond_41 (lv_at hl 4 rfl) ?_
              refine w_icmp_ne (tgt := 53) hx hb d_Mo_beyond_43 (by decide) (by omega) (by omega) (fun c_43 => ?_) (fun c_43 => ?_)
              · refine lv_iload hx hb d_Mo_beyond_53 (lv_at hl 5 rfl) ?_
                refine lv_istore (lv' := [(5, .int (J x)), (0, .ref o), (1, .int (J ((wd : Nat) : Int))), (2, .int (J ((ot : Nat) : Int))), (3, .int (J t)), (4, .int (J ((q : Nat) : Int))), (6, .int (J ((i : Nat) : Int)))]) hx hb d_Mo_beyond_55 hl (by decide) rfl (fun ls hl => ?_)
                refine w_iinc (k := 6) (lv' := [(6, .int (J ((i + 1 : Nat) : Int))), (5, .int (J x)), (0, .ref o), (1, .int (J ((wd : Nat) : Int))), (2, .int (J ((ot : Nat) : Int))), (3, .int (J t)), (4, .int (J ((q : Nat) : Int)))]) hx hb d_Mo_beyond_57 hl rfl ((i + 1 : Nat) : Int) (by omega) (by decide) rfl (fun ls hl => ?_)
                refine lv_goto (tgt := 18) hx hb d_Mo_beyond_60 (by decide) ?_
                exact ih_18 (i + 1) x (by omega) (by rw [cnt, ← hx9]; (try dsimp only); rw [if_neg c_43]; omega) (by omega) (by omega) ls (lv_sub hl [2, 3, 4, 5, 6, 1, 0] rfl)
              · refine lv_iload hx hb d_Mo_beyond_46 (lv_at hl 5 rfl) ?_
                refine lv_iconst (v := J (1)) hx hb d_Mo_beyond_48 rfl ?_
                refine w_iadd hx hb d_Mo_beyond_49 (x + 1) (rfl) ?_
                refine lv_goto (tgt := 55) hx hb d_Mo_beyond_50 (by decide) ?_
                refine lv_istore (lv' := [(5, .int (J (x + 1))), (0, .ref o), (1, .int (J ((wd : Nat) : Int))), (2, .int (J ((ot : Nat) : Int))), (3, .int (J t)), (4, .int (J ((q : Nat) : Int))), (6, .int (J ((i : Nat) : Int)))]) hx hb d_Mo_beyond_55 hl (by decide) rfl (fun ls hl => ?_)
                refine w_iinc (k := 6) (lv' := [(6, .int (J ((i + 1 : Nat) : Int))), (5, .int (J (x + 1))), (0, .ref o), (1, .int (J ((wd : Nat) : Int))), (2, .int (J ((ot : Nat) : Int))), (3, .int (J t)), (4, .int (J ((q : Nat) : Int)))]) hx hb d_Mo_beyond_57 hl rfl ((i + 1 : Nat) : Int) (by omega) (by decide) rfl (fun ls hl => ?_)
                refine lv_goto (tgt := 18) hx hb d_Mo_beyond_60 (by decide) ?_
                exact ih_18 (i + 1) (x + 1) (by omega) (by rw [cnt, ← hx9]; (try dsimp only); rw [if_pos c_43]) (by omega) (by omega) ls (lv_sub hl [2, 3, 4, 5, 6, 1, 0] rfl)
        exact lp_18 (((ln wd).toNat - 0) + 1) 0 0 (by omega) (rfl) (by omega) (Nat.lt_succ_self _) ls (lv_sub hl [2, 3, 4, 5, 6, 1, 0] rfl)
  exact lp_5 ((26 - 0) + 1) 0 0 (by omega) (rfl) (by omega) (Nat.lt_succ_self _) ls (lv_sub hl [2, 3, 4, 1, 0] rfl)
set_option maxHeartbeats 1000000 in
set_option maxRecDepth 100000 in
theorem c_Mo_counted (l : Launch) (D : va_G) (cI cZ cJ : ClassId) (o : Nat) (p1 : Nat) (p2 : Nat) (p3 : Nat) (p4 : Nat) (p5 : Nat) (p6 : Nat) (p7 : Nat) (p8 : Nat) (p9 : Nat) (pA : Nat) (pB : Nat) (pC : Nat) (th : Int) (n : Nat) (ap : Int) (fn : Nat) (wk : Int) (ln : Nat → Int) (gl : Nat → Int) (wt : Nat → Int) (fr : Nat) (tg : Nat) (hw : ∀ k, 0 ≤ wt k ∧ wt k ≤ 1000) (hln : ∀ k, 0 ≤ ln k ∧ ln k ≤ 10) (hgl : ∀ k, 0 ≤ gl k ∧ gl k < 26) (hft : fr < 123 ∧ tg < 123) : Ri l y_Mo_counted w_Mo_counted ({ frames := 1, cells := 0, slots := 0, locals := 26 }) D classes [(cI, .int), (cZ, .boolean), (cJ, .long)] [.ref o, .int (J ((fr : Nat) : Int)), .int (J ((tg : Nat) : Int))] [(o, .inr (8, [.int (J th), .int (J ((n : Nat) : Int)), .ref p1, .ref p2, .ref p3, .ref p4, .ref p5, .ref p6, .int (J ap), .ref p7, .int (J ((fn : Nat) : Int)), .ref p8, .ref p9, .int (J wk), .ref pA, .ref pB, .ref pC])), (p5, ca cI 123 ln), (p6, ca cI 1230 gl), (p7, ca cI 6 wt)] (lb wt (fun t => gl (10 * fr + t)) (ln fr).toNat (fun t => gl (10 * tg + t)) (ln tg).toNat) := by
  refine Ri_of (cc := b_Mo_counted) (maxL := 6) (by decide) rfl (Nat.le_of_ble_eq_true rfl) ?_
  intro p e s m args below meth c hx hb hr hml hts hown hlocks hP hK Q hQ H hH ls hl
  rw [← hH] at hP
  have hl : lv_has ls 6 [(0, .ref o), (1, .int (J ((fr : Nat) : Int))), (2, .int (J ((tg : Nat) : Int)))] := hl
  have l1 := hln fr
  have l2 := hln tg
  have w0 := hw 0
  have w1 := hw 1
  have w2 := hw 2
  have w3 := hw 3
  have m1 := bey_m (x := (fun t => gl (10 * fr + t))) (v := (fun t => gl (10 * tg + t))) (n := (ln fr).toNat) (k := (ln tg).toNat) (fun j => hgl (10 * fr + j)) (by omega) (z := min (wt 1) (min (wt 2) (wt 3))) (by omega)
  have m2 := bey_m (x := (fun t => gl (10 * tg + t))) (v := (fun t => gl (10 * fr + t))) (n := (ln tg).toNat) (k := (ln fr).toNat) (fun j => hgl (10 * tg + j)) (by omega) (z := min (wt 0) (min (wt 2) (wt 3))) (by omega)
  refine lv_aload_n hx hb d_Mo_counted_0 rfl (lv_at hl 0 rfl) ?_
  refine va_get (D := D) (ci := 8) (v := .ref p7) (C := R_Mo) (T := T_Mo) (N := 17) hx hb hts i_Mo hown hK hP 0 rfl rfl 9 (by decide) (hts _ mw_560) (fun _ h9 => h9) rfl d_Mo_counted_1 ?_
  refine lv_iconst (v := J (2)) hx hb d_Mo_counted_4 rfl ?_
  refine w_iald hx hb hK hP 3 0 rfl rfl 2 (by omega) (by omega) (by omega) d_Mo_counted_5 ?_
  refine lv_aload_n hx hb d_Mo_counted_6 rfl (lv_at hl 0 rfl) ?_
  refine va_get (D := D) (ci := 8) (v := .ref p7) (C := R_Mo) (T := T_Mo) (N := 17) hx hb hts i_Mo hown hK hP 0 rfl rfl 9 (by decide) (hts _ mw_560) (fun _ h9 => h9) rfl d_Mo_counted_7 ?_
  refine lv_iconst (v := J (3)) hx hb d_Mo_counted_10 rfl ?_
  refine w_iald hx hb hK hP 3 0 rfl rfl 3 (by omega) (by omega) (by omega) d_Mo_counted_11 ?_
  refine Ri_call (va_runS (As := [.int (J (wt 2)), .int (J (wt 3))]) (rest := []) ⟨hx, hb, hml, hown, hts⟩ (c_Mo_lesser l D cI cZ cJ (wt 2) (wt 3) (by first | with_reducible assumption | omega) (by first | with_reducible assumption | omega)) (va_cwS 2 hts (g_S mw_662 mw_663 mw_33 mw_664) rfl rfl rfl (by decide +kernel) ⟨Nat.le_of_ble_eq_true rfl, Nat.le_of_ble_eq_true rfl⟩) (pre_RS hP hK [] rfl) rfl rfl hl.1 rfl (lv_room (Nat.le_of_ble_eq_true rfl)) d_Mo_counted_12 ⟨Nat.le_of_ble_eq_true rfl, Nat.le_of_ble_eq_true rfl⟩) ?_
  refine lv_istore_n (lv' := [(3, .int (J (min (wt 2) (wt 3)))), (0, .ref o), (1, .int (J ((fr : Nat) : Int))), (2, .int (J ((tg : Nat) : Int)))]) hx hb d_Mo_counted_15 rfl hl (by decide) rfl (fun ls hl => ?_)
  refine lv_aload_n hx hb d_Mo_counted_16 rfl (lv_at hl 1 rfl) ?_
  refine lv_iload_n hx hb d_Mo_counted_17 rfl (lv_at hl 2 rfl) ?_
  refine lv_iload_n hx hb d_Mo_counted_18 rfl (lv_at hl 3 rfl) ?_
  refine Ri_call (va_runV (As := [.int (J ((fr : Nat) : Int)), .int (J ((tg : Nat) : Int))]) (rest := []) ⟨hx, hb, hml, hown, hts⟩ (c_Mo_beyond l D cI cZ cJ o p1 p2 p3 p4 p5 p6 p7 p8 p9 pA pB pC th n ap fn wk ln gl fr tg (by first | with_reducible assumption | omega) (by first | with_reducible assumption | omega) (by first | with_reducible assumption | omega)) (cwV 2 hts (g_V mw_665 mw_667 mw_17 mw_33 mw_668) rfl rfl rfl (by decide +kernel) ⟨Nat.le_of_ble_eq_true rfl, Nat.le_of_ble_eq_true rfl⟩) (pre_RV hP hK [0, 1, 2] rfl 8 0 rfl rfl) rfl rfl hl.1 rfl (lv_room (Nat.le_of_ble_eq_true rfl)) d_Mo_counted_19 ⟨Nat.le_of_ble_eq_true rfl, Nat.le_of_ble_eq_true rfl⟩) ?_
  refine lv_aload_n hx hb d_Mo_counted_22 rfl (lv_at hl 1 rfl) ?_
  refine va_get (D := D) (ci := 8) (v := .ref p7) (C := R_Mo) (T := T_Mo) (N := 17) hx hb hts i_Mo hown hK hP 0 rfl rfl 9 (by decide) (hts _ mw_560) (fun _ h9 => h9) rfl d_Mo_counted_23 ?_
  refine lv_iconst (v := J (1)) hx hb d_Mo_counted_26 rfl ?_
  refine w_iald hx hb hK hP 3 0 rfl rfl 1 (by omega) (by omega) (by omega) d_Mo_counted_27 ?_
  refine lv_iload_n hx hb d_Mo_counted_28 rfl (lv_at hl 0 rfl) ?_
  refine Ri_call (va_runS (As := [.int (J (wt 1)), .int (J (min (wt 2) (wt 3)))]) (rest := [.int (J (bey (fun t => gl (10 * fr + t)) (ln fr).toNat (fun t => gl (10 * tg + t)) (ln tg).toNat))]) ⟨hx, hb, hml, hown, hts⟩ (c_Mo_lesser l D cI cZ cJ (wt 1) (min (wt 2) (wt 3)) (by first | with_reducible assumption | omega) (by first | with_reducible assumption | omega)) (va_cwS 2 hts (g_S mw_662 mw_663 mw_33 mw_664) rfl rfl rfl (by decide +kernel) ⟨Nat.le_of_ble_eq_true rfl, Nat.le_of_ble_eq_true rfl⟩) (pre_RS hP hK [] rfl) rfl rfl hl.1 rfl (lv_room (Nat.le_of_ble_eq_true rfl)) d_Mo_counted_29 ⟨Nat.le_of_ble_eq_true rfl, Nat.le_of_ble_eq_true rfl⟩) ?_
  refine w_imul hx hb d_Mo_counted_32 ((bey (fun t => gl (10 * fr + t)) (ln fr).toNat (fun t => gl (10 * tg + t)) (ln tg).toNat) * (min (wt 1) (min (wt 2) (wt 3)))) (rfl) ?_
  refine lv_istore (lv' := [(4, .int (J ((bey (fun t => gl (10 * fr + t)) (ln fr).toNat (fun t => gl (10 * tg + t)) (ln tg).toNat) * (min (wt 1) (min (wt 2) (wt 3)))))), (3, .int (J (min (wt 2) (wt 3)))), (0, .ref o), (1, .int (J ((fr : Nat) : Int))), (2, .int (J ((tg : Nat) : Int)))]) hx hb d_Mo_counted_33 hl (by decide) rfl (fun ls hl => ?_)
  refine lv_aload_n hx hb d_Mo_counted_35 rfl (lv_at hl 2 rfl) ?_
  refine lv_iload_n hx hb d_Mo_counted_36 rfl (lv_at hl 4 rfl) ?_
  refine lv_iload_n hx hb d_Mo_counted_37 rfl (lv_at hl 3 rfl) ?_
  refine Ri_call (va_runV (As := [.int (J ((tg : Nat) : Int)), .int (J ((fr : Nat) : Int))]) (rest := []) ⟨hx, hb, hml, hown, hts⟩ (c_Mo_beyond l D cI cZ cJ o p1 p2 p3 p4 p5 p6 p7 p8 p9 pA pB pC th n ap fn wk ln gl tg fr (by first | with_reducible assumption | omega) (by first | with_reducible assumption | omega) (by first | with_reducible assumption | omega)) (cwV 2 hts (g_V mw_665 mw_667 mw_17 mw_33 mw_668) rfl rfl rfl (by decide +kernel) ⟨Nat.le_of_ble_eq_true rfl, Nat.le_of_ble_eq_true rfl⟩) (pre_RV hP hK [0, 1, 2] rfl 8 0 rfl rfl) rfl rfl hl.1 rfl (lv_room (Nat.le_of_ble_eq_true rfl)) d_Mo_counted_38 ⟨Nat.le_of_ble_eq_true rfl, Nat.le_of_ble_eq_true rfl⟩) ?_
  refine lv_aload_n hx hb d_Mo_counted_41 rfl (lv_at hl 2 rfl) ?_
  refine va_get (D := D) (ci := 8) (v := .ref p7) (C := R_Mo) (T := T_Mo) (N := 17) hx hb hts i_Mo hown hK hP 0 rfl rfl 9 (by decide) (hts _ mw_560) (fun _ h9 => h9) rfl d_Mo_counted_42 ?_
  refine lv_iconst (v := J (0)) hx hb d_Mo_counted_45 rfl ?_
  refine w_iald hx hb hK hP 3 0 rfl rfl 0 (by omega) (by omega) (by omega) d_Mo_counted_46 ?_
  refine lv_iload_n hx hb d_Mo_counted_47 rfl (lv_at hl 1 rfl) ?_
  refine Ri_call (va_runS (As := [.int (J (wt 0)), .int (J (min (wt 2) (wt 3)))]) (rest := [.int (J (bey (fun t => gl (10 * tg + t)) (ln tg).toNat (fun t => gl (10 * fr + t)) (ln fr).toNat))]) ⟨hx, hb, hml, hown, hts⟩ (c_Mo_lesser l D cI cZ cJ (wt 0) (min (wt 2) (wt 3)) (by first | with_reducible assumption | omega) (by first | with_reducible assumption | omega)) (va_cwS 2 hts (g_S mw_662 mw_663 mw_33 mw_664) rfl rfl rfl (by decide +kernel) ⟨Nat.le_of_ble_eq_true rfl, Nat.le_of_ble_eq_true rfl⟩) (pre_RS hP hK [] rfl) rfl rfl hl.1 rfl (lv_room (Nat.le_of_ble_eq_true rfl)) d_Mo_counted_48 ⟨Nat.le_of_ble_eq_true rfl, Nat.le_of_ble_eq_true rfl⟩) ?_
  refine w_imul hx hb d_Mo_counted_51 ((bey (fun t => gl (10 * tg + t)) (ln tg).toNat (fun t => gl (10 * fr + t)) (ln fr).toNat) * (min (wt 0) (min (wt 2) (wt 3)))) (rfl) ?_
  refine lv_istore (lv' := [(5, .int (J ((bey (fun t => gl (10 * tg + t)) (ln tg).toNat (fun t => gl (10 * fr + t)) (ln fr).toNat) * (min (wt 0) (min (wt 2) (wt 3)))))), (4, .int (J ((bey (fun t => gl (10 * fr + t)) (ln fr).toNat (fun t => gl (10 * tg + t)) (ln tg).toNat) * (min (wt 1) (min (wt 2) (wt 3)))))), (3, .int (J (min (wt 2) (wt 3)))), (0, .ref o), (1, .int (J ((fr : Nat) : Int))), (2, .int (J ((tg : Nat) : Int)))]) hx hb d_Mo_counted_52 hl (by decide) rfl (fun ls hl => ?_)
  refine lv_iload hx hb d_Mo_counted_54 (lv_at hl 1 rfl) ?_
  refine lv_iload hx hb d_Mo_counted_56 (lv_at hl 0 rfl) ?_
  refine w_icmp_le (tgt := 66) hx hb d_Mo_counted_58 (by decide) (by omega) (by omega) (fun c_58 => ?_) (fun c_58 => ?_)
  · refine lv_iload hx hb d_Mo_counted_66 (lv_at hl 0 rfl) ?_
    exact Ri_ret hx hb hr hlocks hQ hH d_Mo_counted_68 nb_i (by unfold lb; omega)
  · refine lv_iload hx hb d_Mo_counted_61 (lv_at hl 1 rfl) ?_
    refine lv_goto (tgt := 68) hx hb d_Mo_counted_63 (by decide) ?_
    exact Ri_ret hx hb hr hlocks hQ hH d_Mo_counted_68 nb_i (by unfold lb; omega)
set_option maxHeartbeats 1000000 in
set_option maxRecDepth 100000 in
theorem c_Mo_come_no (l : Launch) (D : va_G) (cI cZ cJ : ClassId) (sz : Nat) (o : Nat) (p1 : Nat) (p2 : Nat) (p3 : Nat) (p4 : Nat) (p5 : Nat) (p6 : Nat) (p7 : Nat) (p8 : Nat) (p9 : Nat) (pA : Nat) (pB : Nat) (pC : Nat) (th : Int) (n : Nat) (ap : Int) (fn : Nat) (wk : Int) (dy : Nat → Int) (fe : Nat → Int) (fs : Nat → Int) (en : Nat) (z : Int) (k : Nat) (q : Nat) (hen : en < 40) (hz : rg z) (hdy : ∀ j, -1 ≤ dy j ∧ dy j ≤ 100000) (hfe : ∀ j, j < fn → 0 ≤ fe j ∧ fe j < (en : Int)) (hfs : ∀ j, rg (fs j)) (hnk : fn ≤ k) (hk : 1 ≤ k ∧ k ≤ 40) (hqn : psn fs (fun t => dy (fe t).toNat) z (dy en) fn = q) (hno : k = q) : Mv l y_Mo_come w_Mo_come ({ frames := 1, cells := 0, slots := 0, locals := 24 }) false D classes [(cI, .int), (cZ, .boolean), (cJ, .long)] sz [.ref o, .int (J ((en : Nat) : Int)), .int (J z), .int (J ((k : Nat) : Int))] [(o, .inr (8, [.int (J th), .int (J ((n : Nat) : Int)), .ref p1, .ref p2, .ref p3, .ref p4, .ref p5, .ref p6, .int (J ap), .ref p7, .int (J ((fn : Nat) : Int)), .ref p8, .ref p9, .int (J wk), .ref pA, .ref pB, .ref pC])), (p2, ca cI 40 dy), (p8, ca cI 40 fe), (p9, ca cI 40 fs)] (S := Unit) (fun _ => True) (fun u : Unit => [(o, .inr (8, [.int (J th), .int (J ((n : Nat) : Int)), .ref p1, .ref p2, .ref p3, .ref p4, .ref p5, .ref p6, .int (J ap), .ref p7, .int (J ((fn : Nat) : Int)), .ref p8, .ref p9, .int (J wk), .ref pA, .ref pB, .ref pC])), (p2, ca cI 40 dy), (p8, ca cI 40 fe), (p9, ca cI 40 fs)]) 0 0 := by
  refine Mv_of (cc := b_Mo_come) (maxL := 6) (by decide) rfl (Nat.le_of_ble_eq_true rfl) ?_
  intro p e s m args below meth c hx hb hr hml hts hown hlocks hin A hA hP hK hD hT hS Q hQ H hH ls hl
  subst hH
  have hl : lv_has ls 6 [(0, .ref o), (1, .int (J ((en : Nat) : Int))), (2, .int (J z)), (3, .int (J ((k : Nat) : Int)))] := hl
  have q1 := psn_le fs (fun t => dy (fe t).toNat) z (dy en) fn
  refine lv_aload_n hx hb d_Mo_come_0 rfl (lv_at hl 0 rfl) ?_
  refine va_get (D := D) (ci := 8) (v := .int (J ((fn : Nat) : Int))) (C := R_Mo) (T := T_Mo) (N := 17) hx hb hts i_Mo hown hK hP 0 rfl rfl 10 (by decide) (hts _ mw_561) (fun _ h9 => h9) rfl d_Mo_come_1 ?_
  refine lv_istore (lv' := [(4, .int (J ((fn : Nat) : Int))), (0, .ref o), (1, .int (J ((en : Nat) : Int))), (2, .int (J z)), (3, .int (J ((k : Nat) : Int)))]) hx hb d_Mo_come_4 hl (by decide) rfl (fun ls hl => ?_)
  have lp_6 : ∀ (fu : Nat) (j : Nat), (j ≤ fn) → (psn fs (fun t => dy (fe t).toNat) z (dy en) fn = psn fs (fun t => dy (fe t).toNat) z (dy en) j) → j < fu → ∀ (H : Heap) (locs : List Loc), va_P D classes [(o, .inr (8, [.int (J th), .int (J ((n : Nat) : Int)), .ref p1, .ref p2, .ref p3, .ref p4, .ref p5, .ref p6, .int (J ap), .ref p7, .int (J ((fn : Nat) : Int)), .ref p8, .ref p9, .int (J wk), .ref pA, .ref pB, .ref pC])), (p2, ca cI 40 dy), (p8, ca cI 40 fe), (p9, ca cI 40 fs)] H → va_D A [(o, .inr (8, [.int (J th), .int (J ((n : Nat) : Int)), .ref p1, .ref p2, .ref p3, .ref p4, .ref p5, .ref p6, .int (J ap), .ref p7, .int (J ((fn : Nat) : Int)), .ref p8, .ref p9, .int (J wk), .ref pA, .ref pB, .ref pC])), (p2, ca cI 40 dy), (p8, ca cI 40 fe), (p9, ca cI 40 fs)] → va_S A s.heap H locs → ∀ ls : Array Slot, lv_has ls 6 [(0, .ref o), (1, .int (J ((en : Nat) : Int))), (2, .int (J z)), (3, .int (J ((k : Nat) : Int))), (4, .int (J ((j : Nat) : Int)))] → W p l e ({ frames := 1, cells := 0, slots := 0, locals := 24 }) s m args below meth c H locs 0 0 Q (F0 m 6 ls []) := by
    intro fu
    induction fu with
    | zero => intro j hj hps hfu; exact absurd hfu (Nat.not_lt_zero _)
    | succ fu ih_6 =>
      intro j hj hps hfu H locs hP hD hS ls hl
      refine lv_iload hx hb d_Mo_come_6 (lv_at hl 4 rfl) ?_
      refine w_if_le (tgt := 30) hx hb d_Mo_come_8 (by decide) (by omega) (fun c_8 => ?_) (fun c_8 => ?_)
      · obtain rfl : q = j := by rw [← hqn, hps, show j = 0 by omega]; rfl
        refine lv_iload hx hb d_Mo_come_30 (lv_at hl 4 rfl) ?_
        refine lv_iload_n hx hb d_Mo_come_32 rfl (lv_at hl 3 rfl) ?_
        refine w_icmp_ne (tgt := 37) hx hb d_Mo_come_33 (by decide) (by omega) (by omega) (fun c_33 => ?_) (fun c_33 => ?_)
        · exfalso; omega
        · exact Mv_ret hx hb hr hlocks hQ d_Mo_come_36 hP hK hD hS () (trivial) [0, 1, 2, 3] rfl (by decide)
      · obtain ⟨i, rfl⟩ : ∃ i : Nat, j = i + 1 := ⟨j - 1, by omega⟩
        refine lv_aload_n hx hb d_Mo_come_11 rfl (lv_at hl 0 rfl) ?_
        refine lv_iload_n hx hb d_Mo_come_12 rfl (lv_at hl 1 rfl) ?_
        refine lv_iload_n hx hb d_Mo_come_13 rfl (lv_at hl 2 rfl) ?_
        refine lv_iload hx hb d_Mo_come_14 (lv_at hl 4 rfl) ?_
        refine lv_iconst (v := J (1)) hx hb d_Mo_come_16 rfl ?_
        refine w_isub hx hb d_Mo_come_17 ((i : Nat) : Int) (by omega) ?_
        refine Ri_call (va_runV (As := [.int (J ((en : Nat) : Int)), .int (J z), .int (J ((i : Nat) : Int))]) (rest := []) ⟨hx, hb, hml, hown, hts⟩ (c_Mo_isBefore l D cI cZ cJ o p1 p2 p3 p4 p5 p6 p7 p8 p9 pA pB pC th n ap fn wk dy fe fs en z i (by first | with_reducible assumption | omega) (by first | with_reducible assumption | omega) (by first | with_reducible assumption | omega) (by first | with_reducible assumption | omega) (hfe i (by omega)) (by first | with_reducible assumption | omega)) (cwV 3 hts (g_V mw_696 mw_698 mw_23 mw_33 mw_699) rfl rfl rfl (by decide +kernel) ⟨Nat.le_of_ble_eq_true rfl, Nat.le_of_ble_eq_true rfl⟩) (pre_RV hP hK [0, 1, 2, 3] rfl 8 0 rfl rfl) rfl rfl hl.1 rfl (lv_room (Nat.le_of_ble_eq_true rfl)) d_Mo_come_18 ⟨Nat.le_of_ble_eq_true rfl, Nat.le_of_ble_eq_true rfl⟩) ?_
        refine w_if_eq (tgt := 30) hx hb d_Mo_come_21 (by decide) (rg_b2) (fun c_21 => ?_) (fun c_21 => ?_)
        · have c_21 := b2_0.mp c_21
          have e9 : q = i + 1 := by rw [← hqn, hps, psn, if_neg c_21]
          rw [← e9] at hl
          refine lv_iload hx hb d_Mo_come_30 (lv_at hl 4 rfl) ?_
          refine lv_iload_n hx hb d_Mo_come_32 rfl (lv_at hl 3 rfl) ?_
          refine w_icmp_ne (tgt := 37) hx hb d_Mo_come_33 (by decide) (by omega) (by omega) (fun c_33 => ?_) (fun c_33 => ?_)
          · exfalso; omega
          · exact Mv_ret hx hb hr hlocks hQ d_Mo_come_36 hP hK hD hS () (trivial) [0, 1, 2, 3] rfl (by decide)
        · have c_21 := b2_n0.mp c_21
          refine w_iinc (k := 4) (lv' := [(4, .int (J ((i : Nat) : Int))), (0, .ref o), (1, .int (J ((en : Nat) : Int))), (2, .int (J z)), (3, .int (J ((k : Nat) : Int)))]) hx hb d_Mo_come_24 hl rfl ((i : Nat) : Int) (by omega) (by decide) rfl (fun ls hl => ?_)
          refine lv_goto (tgt := 6) hx hb d_Mo_come_27 (by decide) ?_
          exact ih_6 i (by omega) (by rw [hps, psn, if_pos c_21]) (by omega) _ _ (P_map hP [0, 1, 2, 3] rfl) (hD.sub [0, 1, 2, 3] (by decide) rfl) hS ls (lv_sub hl [1, 2, 3, 4, 0] rfl)
  exact lp_6 (fn + 1) fn (by omega) (rfl) (Nat.lt_succ_self _) _ _ (P_map hP [0, 1, 2, 3] rfl) (hD.sub [0, 1, 2, 3] (by decide) rfl) hS ls (lv_sub hl [1, 2, 3, 4, 0] rfl)
set_option maxHeartbeats 1000000 in
set_option maxRecDepth 100000 in
theorem c_Mo_come_lt (l : Launch) (D : va_G) (cI cZ cJ : ClassId) (sz : Nat) (o : Nat) (p1 : Nat) (p2 : Nat) (p3 : Nat) (p4 : Nat) (p5 : Nat) (p6 : Nat) (p7 : Nat) (p8 : Nat) (p9 : Nat) (pA : Nat) (pB : Nat) (pC : Nat) (th : Int) (n : Nat) (ap : Int) (fn : Nat) (wk : Int) (dy : Nat → Int) (fe : Nat → Int) (fs : Nat → Int) (en : Nat) (z : Int) (k : Nat) (q : Nat) (hen : en < 40) (hz : rg z) (hdy : ∀ j, -1 ≤ dy j ∧ dy j ≤ 100000) (hfe : ∀ j, j < fn → 0 ≤ fe j ∧ fe j < (en : Int)) (hfs : ∀ j, rg (fs j)) (hnk : fn ≤ k) (hk : 1 ≤ k ∧ k ≤ 40) (hqn : psn fs (fun t => dy (fe t).toNat) z (dy en) fn = q) (hyes : q < k ∧ fn < k) : Mv l y_Mo_come w_Mo_come ({ frames := 1, cells := 0, slots := 0, locals := 24 }) false D classes [(cI, .int), (cZ, .boolean), (cJ, .long)] sz [.ref o, .int (J ((en : Nat) : Int)), .int (J z), .int (J ((k : Nat) : Int))] [(o, .inr (8, [.int (J th), .int (J ((n : Nat) : Int)), .ref p1, .ref p2, .ref p3, .ref p4, .ref p5, .ref p6, .int (J ap), .ref p7, .int (J ((fn : Nat) : Int)), .ref p8, .ref p9, .int (J wk), .ref pA, .ref pB, .ref pC])), (p2, ca cI 40 dy), (p8, ca cI 40 fe), (p9, ca cI 40 fs)] (S := Unit) (fun _ => True) (fun u : Unit => [(o, .inr (8, [.int (J th), .int (J ((n : Nat) : Int)), .ref p1, .ref p2, .ref p3, .ref p4, .ref p5, .ref p6, .int (J ap), .ref p7, .int (J ((fn + 1 : Nat) : Int)), .ref p8, .ref p9, .int (J wk), .ref pA, .ref pB, .ref pC])), (p2, ca cI 40 dy), (p8, ca cI 40 (ins fe q (fn + 1) ((en : Nat) : Int))), (p9, ca cI 40 (ins fs q (fn + 1) z))]) 0 0 := by
  refine Mv_of (cc := b_Mo_come) (maxL := 6) (by decide) rfl (Nat.le_of_ble_eq_true rfl) ?_
  intro p e s m args below meth c hx hb hr hml hts hown hlocks hin A hA hP hK hD hT hS Q hQ H hH ls hl
  subst hH
  have hl : lv_has ls 6 [(0, .ref o), (1, .int (J ((en : Nat) : Int))), (2, .int (J z)), (3, .int (J ((k : Nat) : Int)))] := hl
  have q1 := psn_le fs (fun t => dy (fe t).toNat) z (dy en) fn
  refine lv_aload_n hx hb d_Mo_come_0 rfl (lv_at hl 0 rfl) ?_
  refine va_get (D := D) (ci := 8) (v := .int (J ((fn : Nat) : Int))) (C := R_Mo) (T := T_Mo) (N := 17) hx hb hts i_Mo hown hK hP 0 rfl rfl 10 (by decide) (hts _ mw_561) (fun _ h9 => h9) rfl d_Mo_come_1 ?_
  refine lv_istore (lv' := [(4, .int (J ((fn : Nat) : Int))), (0, .ref o), (1, .int (J ((en : Nat) : Int))), (2, .int (J z)), (3, .int (J ((k : Nat) : Int)))]) hx hb d_Mo_come_4 hl (by decide) rfl (fun ls hl => ?_)
  have lp_6 : ∀ (fu : Nat) (j : Nat), (j ≤ fn) → (psn fs (fun t => dy (fe t).toNat) z (dy en) fn = psn fs (fun t => dy (fe t).toNat) z (dy en) j) → j < fu → ∀ (H : Heap) (locs : List Loc), va_P D classes [(o, .inr (8, [.int (J th), .int (J ((n : Nat) : Int)), .ref p1, .ref p2, .ref p3, .ref p4, .ref p5, .ref p6, .int (J ap), .ref p7, .int (J ((fn : Nat) : Int)), .ref p8, .ref p9, .int (J wk), .ref pA, .ref pB, .ref pC])), (p2, ca cI 40 dy), (p8, ca cI 40 fe), (p9, ca cI 40 fs)] H → va_D A [(o, .inr (8, [.int (J th), .int (J ((n : Nat) : Int)), .ref p1, .ref p2, .ref p3, .ref p4, .ref p5, .ref p6, .int (J ap), .ref p7, .int (J ((fn : Nat) : Int)), .ref p8, .ref p9, .int (J wk), .ref pA, .ref pB, .ref pC])), (p2, ca cI 40 dy), (p8, ca cI 40 fe), (p9, ca cI 40 fs)] → va_S A s.heap H locs → ∀ ls : Array Slot, lv_has ls 6 [(0, .ref o), (1, .int (J ((en : Nat) : Int))), (2, .int (J z)), (3, .int (J ((k : Nat) : Int))), (4, .int (J ((j : Nat) : Int)))] → W p l e ({ frames := 1, cells := 0, slots := 0, locals := 24 }) s m args below meth c H locs 0 0 Q (F0 m 6 ls []) := by
    intro fu
    induction fu with
    | zero => intro j hj hps hfu; exact absurd hfu (Nat.not_lt_zero _)
    | succ fu ih_6 =>
      intro j hj hps hfu H locs hP hD hS ls hl
      refine lv_iload hx hb d_Mo_come_6 (lv_at hl 4 rfl) ?_
      refine w_if_le (tgt := 30) hx hb d_Mo_come_8 (by decide) (by omega) (fun c_8 => ?_) (fun c_8 => ?_)
      · obtain rfl : q = j := by rw [← hqn, hps, show j = 0 by omega]; rfl
        refine lv_iload hx hb d_Mo_come_30 (lv_at hl 4 rfl) ?_
        refine lv_iload_n hx hb d_Mo_come_32 rfl (lv_at hl 3 rfl) ?_
        refine w_icmp_ne (tgt := 37) hx hb d_Mo_come_33 (by decide) (by omega) (by omega) (fun c_33 => ?_) (fun c_33 => ?_)
        · refine lv_aload_n hx hb d_Mo_come_37 rfl (lv_at hl 0 rfl) ?_
          refine lv_aload_n hx hb d_Mo_come_38 rfl (lv_at hl 0 rfl) ?_
          refine va_get (D := D) (ci := 8) (v := .int (J ((fn : Nat) : Int))) (C := R_Mo) (T := T_Mo) (N := 17) hx hb hts i_Mo hown hK hP 0 rfl rfl 10 (by decide) (hts _ mw_561) (fun _ h9 => h9) rfl d_Mo_come_39 ?_
          refine lv_iload_n hx hb d_Mo_come_42 rfl (lv_at hl 3 rfl) ?_
          refine w_icmp_ge (tgt := 55) hx hb d_Mo_come_43 (by decide) (by omega) (by omega) (fun c_43 => ?_) (fun c_43 => ?_)
          · exfalso; omega
          · refine lv_aload_n hx hb d_Mo_come_46 rfl (lv_at hl 0 rfl) ?_
            refine va_get (D := D) (ci := 8) (v := .int (J ((fn : Nat) : Int))) (C := R_Mo) (T := T_Mo) (N := 17) hx hb hts i_Mo hown hK hP 0 rfl rfl 10 (by decide) (hts _ mw_561) (fun _ h9 => h9) rfl d_Mo_come_47 ?_
            refine lv_iconst (v := J (1)) hx hb d_Mo_come_50 rfl ?_
            refine w_iadd hx hb d_Mo_come_51 ((fn + 1 : Nat) : Int) (by omega) ?_
            refine lv_goto (tgt := 56) hx hb d_Mo_come_52 (by decide) ?_
            refine va_put (D := D) (ci := 8) (v := .int (J ((fn + 1 : Nat) : Int))) (ty := .int) (C := R_Mo) (T := T_Mo) (N := 17) hx hb hts i_Mo t_Mo k_Mo n_Mo hown hK hP hD hS 0 rfl rfl 10 (by decide) (hts _ mw_561) (fun _ h9 => h9) rfl (by decide +kernel) rfl rfl (Nat.le_of_ble_eq_true rfl) d_Mo_come_56 (fun H locs hP hD hS => ?_)
            have hP : va_P D classes [(o, .inr (8, [.int (J th), .int (J ((n : Nat) : Int)), .ref p1, .ref p2, .ref p3, .ref p4, .ref p5, .ref p6, .int (J ap), .ref p7, .int (J ((fn + 1 : Nat) : Int)), .ref p8, .ref p9, .int (J wk), .ref pA, .ref pB, .ref pC])), (p2, ca cI 40 dy), (p8, ca cI 40 fe), (p9, ca cI 40 fs)] H := hP
            have hD : va_D A [(o, .inr (8, [.int (J th), .int (J ((n : Nat) : Int)), .ref p1, .ref p2, .ref p3, .ref p4, .ref p5, .ref p6, .int (J ap), .ref p7, .int (J ((fn + 1 : Nat) : Int)), .ref p8, .ref p9, .int (J wk), .ref pA, .ref pB, .ref pC])), (p2, ca cI 40 dy), (p8, ca cI 40 fe), (p9, ca cI 40 fs)] := hD
            refine lv_aload_n hx hb d_Mo_come_59 rfl (lv_at hl 0 rfl) ?_
            refine va_get (D := D) (ci := 8) (v := .int (J ((fn + 1 : Nat) : Int))) (C := R_Mo) (T := T_Mo) (N := 17) hx hb hts i_Mo hown hK hP 0 rfl rfl 10 (by decide) (hts _ mw_561) (fun _ h9 => h9) rfl d_Mo_come_60 ?_
            refine lv_iconst (v := J (1)) hx hb d_Mo_come_63 rfl ?_
            refine w_isub hx hb d_Mo_come_64 ((fn : Nat) : Int) (by omega) ?_
            refine lv_istore (lv' := [(5, .int (J ((fn : Nat) : Int))), (0, .ref o), (1, .int (J ((en : Nat) : Int))), (2, .int (J z)), (3, .int (J ((k : Nat) : Int))), (4, .int (J ((q : Nat) : Int)))]) hx hb d_Mo_come_65 hl (by decide) rfl (fun ls hl => ?_)
            have lp_67 : ∀ (fu : Nat) (j : Nat), (q ≤ j) → (j < fn + 1) → (j - q) < fu → ∀ (H : Heap) (locs : List Loc), va_P D classes [(o, .inr (8, [.int (J th), .int (J ((n : Nat) : Int)), .ref p1, .ref p2, .ref p3, .ref p4, .ref p5, .ref p6, .int (J ap), .ref p7, .int (J ((fn + 1 : Nat) : Int)), .ref p8, .ref p9, .int (J wk), .ref pA, .ref pB, .ref pC])), (p2, ca cI 40 dy), (p8, ca cI 40 (mvd fe j (fn + 1))), (p9, ca cI 40 (mvd fs j (fn + 1)))] H → va_D A [(o, .inr (8, [.int (J th), .int (J ((n : Nat) : Int)), .ref p1, .ref p2, .ref p3, .ref p4, .ref p5, .ref p6, .int (J ap), .ref p7, .int (J ((fn + 1 : Nat) : Int)), .ref p8, .ref p9, .int (J wk), .ref pA, .ref pB, .ref pC])), (p2, ca cI 40 dy), (p8, ca cI 40 (mvd fe j (fn + 1))), (p9, ca cI 40 (mvd fs j (fn + 1)))] → va_S A s.heap H locs → ∀ ls : Array Slot, lv_has ls 6 [(0, .ref o), (1, .int (J ((en : Nat) : Int))), (2, .int (J z)), (3, .int (J ((k : Nat) : Int))), (4, .int (J ((q : Nat) : Int))), (5, .int (J ((j : Nat) : Int)))] → W p l e ({ frames := 1, cells := 0, slots := 0, locals := 24 }) s m args below meth c H locs 0 0 Q (F0 m 67 ls []) := by
              intro fu
              induction fu with
              | zero => intro j hj hj2 hfu; exact absurd hfu (Nat.not_lt_zero _)
              | succ fu ih_67 =>
                intro j hj hj2 hfu H locs hP hD hS ls hl
                refine lv_iload hx hb d_Mo_come_67 (lv_at hl 5 rfl) ?_
                refine lv_iload hx hb d_Mo_come_69 (lv_at hl 4 rfl) ?_
                refine w_icmp_le (tgt := 112) hx hb d_Mo_come_71 (by decide) (by omega) (by omega) (fun c_71 => ?_) (fun c_71 => ?_)
                · obtain rfl : q = j := by omega
                  refine lv_aload_n hx hb d_Mo_come_112 rfl (lv_at hl 0 rfl) ?_
                  refine va_get (D := D) (ci := 8) (v := .ref p8) (C := R_Mo) (T := T_Mo) (N := 17) hx hb hts i_Mo hown hK hP 0 rfl rfl 11 (by decide) (hts _ mw_562) (fun _ h9 => h9) rfl d_Mo_come_113 ?_
                  refine lv_iload hx hb d_Mo_come_116 (lv_at hl 4 rfl) ?_
                  refine lv_iload_n hx hb d_Mo_come_118 rfl (lv_at hl 1 rfl) ?_
                  refine w_iast hx hb hK hP hD hS 2 0 rfl rfl q (by omega) (by omega) (by omega) d_Mo_come_119 (fun H locs hP hD hS => ?_)
                  have hP : va_P D classes [(o, .inr (8, [.int (J th), .int (J ((n : Nat) : Int)), .ref p1, .ref p2, .ref p3, .ref p4, .ref p5, .ref p6, .int (J ap), .ref p7, .int (J ((fn + 1 : Nat) : Int)), .ref p8, .ref p9, .int (J wk), .ref pA, .ref pB, .ref pC])), (p2, ca cI 40 dy), (p8, ca cI 40 (iu (mvd fe q (fn + 1)) q ((en : Nat) : Int))), (p9, ca cI 40 (mvd fs q (fn + 1)))] H := hP
                  have hD : va_D A [(o, .inr (8, [.int (J th), .int (J ((n : Nat) : Int)), .ref p1, .ref p2, .ref p3, .ref p4, .ref p5, .ref p6, .int (J ap), .ref p7, .int (J ((fn + 1 : Nat) : Int)), .ref p8, .ref p9, .int (J wk), .ref pA, .ref pB, .ref pC])), (p2, ca cI 40 dy), (p8, ca cI 40 (iu (mvd fe q (fn + 1)) q ((en : Nat) : Int))), (p9, ca cI 40 (mvd fs q (fn + 1)))] := hD
                  have eg : iu (mvd fe q (fn + 1)) q ((en : Nat) : Int) = ins fe q (fn + 1) ((en : Nat) : Int) := mvd_e fe (by omega) _
                  rw [eg] at hP hD
                  clear eg
                  refine lv_aload_n hx hb d_Mo_come_120 rfl (lv_at hl 0 rfl) ?_
                  refine va_get (D := D) (ci := 8) (v := .ref p9) (C := R_Mo) (T := T_Mo) (N := 17) hx hb hts i_Mo hown hK hP 0 rfl rfl 12 (by decide) (hts _ mw_563) (fun _ h9 => h9) rfl d_Mo_come_121 ?_
                  refine lv_iload hx hb d_Mo_come_124 (lv_at hl 4 rfl) ?_
                  refine lv_iload_n hx hb d_Mo_come_126 rfl (lv_at hl 2 rfl) ?_
                  refine w_iast hx hb hK hP hD hS 3 0 rfl rfl q (by omega) (by omega) (by omega) d_Mo_come_127 (fun H locs hP hD hS => ?_)
                  have hP : va_P D classes [(o, .inr (8, [.int (J th), .int (J ((n : Nat) : Int)), .ref p1, .ref p2, .ref p3, .ref p4, .ref p5, .ref p6, .int (J ap), .ref p7, .int (J ((fn + 1 : Nat) : Int)), .ref p8, .ref p9, .int (J wk), .ref pA, .ref pB, .ref pC])), (p2, ca cI 40 dy), (p8, ca cI 40 (ins fe q (fn + 1) ((en : Nat) : Int))), (p9, ca cI 40 (iu (mvd fs q (fn + 1)) q z))] H := hP
                  have hD : va_D A [(o, .inr (8, [.int (J th), .int (J ((n : Nat) : Int)), .ref p1, .ref p2, .ref p3, .ref p4, .ref p5, .ref p6, .int (J ap), .ref p7, .int (J ((fn + 1 : Nat) : Int)), .ref p8, .ref p9, .int (J wk), .ref pA, .ref pB, .ref pC])), (p2, ca cI 40 dy), (p8, ca cI 40 (ins fe q (fn + 1) ((en : Nat) : Int))), (p9, ca cI 40 (iu (mvd fs q (fn + 1)) q z))] := hD
                  have eg : iu (mvd fs q (fn + 1)) q z = ins fs q (fn + 1) z := mvd_e fs (by omega) z
                  rw [eg] at hP hD
                  clear eg
                  exact Mv_ret hx hb hr hlocks hQ d_Mo_come_128 hP hK hD hS () (trivial) [0, 1, 2, 3] rfl (by decide)
                · obtain ⟨i, rfl⟩ : ∃ i : Nat, j = i + 1 := ⟨j - 1, by omega⟩
                  refine lv_aload_n hx hb d_Mo_come_74 rfl (lv_at hl 0 rfl) ?_
                  refine va_get (D := D) (ci := 8) (v := .ref p8) (C := R_Mo) (T := T_Mo) (N := 17) hx hb hts i_Mo hown hK hP 0 rfl rfl 11 (by decide) (hts _ mw_562) (fun _ h9 => h9) rfl d_Mo_come_75 ?_
                  refine lv_iload hx hb d_Mo_come_78 (lv_at hl 5 rfl) ?_
                  refine lv_aload_n hx hb d_Mo_come_80 rfl (lv_at hl 0 rfl) ?_
                  refine va_get (D := D) (ci := 8) (v := .ref p8) (C := R_Mo) (T := T_Mo) (N := 17) hx hb hts i_Mo hown hK hP 0 rfl rfl 11 (by decide) (hts _ mw_562) (fun _ h9 => h9) rfl d_Mo_come_81 ?_
                  refine lv_iload hx hb d_Mo_come_84 (lv_at hl 5 rfl) ?_
                  refine lv_iconst (v := J (1)) hx hb d_Mo_come_86 rfl ?_
                  refine w_isub hx hb d_Mo_come_87 ((i : Nat) : Int) (by omega) ?_
                  refine w_iald hx hb hK hP 2 0 rfl rfl i (by omega) (by omega) (by omega) d_Mo_come_88 ?_
                  refine w_iast hx hb hK hP hD hS 2 0 rfl rfl (i + 1) (by omega) (by omega) (by omega) d_Mo_come_89 (fun H locs hP hD hS => ?_)
                  have hP : va_P D classes [(o, .inr (8, [.int (J th), .int (J ((n : Nat) : Int)), .ref p1, .ref p2, .ref p3, .ref p4, .ref p5, .ref p6, .int (J ap), .ref p7, .int (J ((fn + 1 : Nat) : Int)), .ref p8, .ref p9, .int (J wk), .ref pA, .ref pB, .ref pC])), (p2, ca cI 40 dy), (p8, ca cI 40 (iu (mvd fe (i + 1) (fn + 1)) (i + 1) ((mvd fe (i + 1) (fn + 1)) i))), (p9, ca cI 40 (mvd fs (i + 1) (fn + 1)))] H := hP
                  have hD : va_D A [(o, .inr (8, [.int (J th), .int (J ((n : Nat) : Int)), .ref p1, .ref p2, .ref p3, .ref p4, .ref p5, .ref p6, .int (J ap), .ref p7, .int (J ((fn + 1 : Nat) : Int)), .ref p8, .ref p9, .int (J wk), .ref pA, .ref pB, .ref pC])), (p2, ca cI 40 dy), (p8, ca cI 40 (iu (mvd fe (i + 1) (fn + 1)) (i + 1) ((mvd fe (i + 1) (fn + 1)) i))), (p9, ca cI 40 (mvd fs (i + 1) (fn + 1)))] := hD
                  have eg : iu (mvd fe (i + 1) (fn + 1)) (i + 1) ((mvd fe (i + 1) (fn + 1)) i) = mvd fe i (fn + 1) := mvd_s fe (by omega)
                  rw [eg] at hP hD
                  clear eg
                  refine lv_aload_n hx hb d_Mo_come_90 rfl (lv_at hl 0 rfl) ?_
                  refine va_get (D := D) (ci := 8) (v := .ref p9) (C := R_Mo) (T := T_Mo) (N := 17) hx hb hts i_Mo hown hK hP 0 rfl rfl 12 (by decide) (hts _ mw_563) (fun _ h9 => h9) rfl d_Mo_come_91 ?_
                  refine lv_iload hx hb d_Mo_come_94 (lv_at hl 5 rfl) ?_
                  refine lv_aload_n hx hb d_Mo_come_96 rfl (lv_at hl 0 rfl) ?_
                  refine va_get (D := D) (ci := 8) (v := .ref p9) (C := R_Mo) (T := T_Mo) (N := 17) hx hb hts i_Mo hown hK hP 0 rfl rfl 12 (by decide) (hts _ mw_563) (fun _ h9 => h9) rfl d_Mo_come_97 ?_
                  refine lv_iload hx hb d_Mo_come_100 (lv_at hl 5 rfl) ?_
                  refine lv_iconst (v := J (1)) hx hb d_Mo_come_102 rfl ?_
                  refine w_isub hx hb d_Mo_come_103 ((i : Nat) : Int) (by omega) ?_
                  refine w_iald hx hb hK hP 3 0 rfl rfl i (by omega) (by omega) (by omega) d_Mo_come_104 ?_
                  refine w_iast hx hb hK hP hD hS 3 0 rfl rfl (i + 1) (by omega) (by omega) (by omega) d_Mo_come_105 (fun H locs hP hD hS => ?_)
                  have hP : va_P D classes [(o, .inr (8, [.int (J th), .int (J ((n : Nat) : Int)), .ref p1, .ref p2, .ref p3, .ref p4, .ref p5, .ref p6, .int (J ap), .ref p7, .int (J ((fn + 1 : Nat) : Int)), .ref p8, .ref p9, .int (J wk), .ref pA, .ref pB, .ref pC])), (p2, ca cI 40 dy), (p8, ca cI 40 (mvd fe i (fn + 1))), (p9, ca cI 40 (iu (mvd fs (i + 1) (fn + 1)) (i + 1) ((mvd fs (i + 1) (fn + 1)) i)))] H := hP
                  have hD : va_D A [(o, .inr (8, [.int (J th), .int (J ((n : Nat) : Int)), .ref p1, .ref p2, .ref p3, .ref p4, .ref p5, .ref p6, .int (J ap), .ref p7, .int (J ((fn + 1 : Nat) : Int)), .ref p8, .ref p9, .int (J wk), .ref pA, .ref pB, .ref pC])), (p2, ca cI 40 dy), (p8, ca cI 40 (mvd fe i (fn + 1))), (p9, ca cI 40 (iu (mvd fs (i + 1) (fn + 1)) (i + 1) ((mvd fs (i + 1) (fn + 1)) i)))] := hD
                  have eg : iu (mvd fs (i + 1) (fn + 1)) (i + 1) ((mvd fs (i + 1) (fn + 1)) i) = mvd fs i (fn + 1) := mvd_s fs (by omega)
                  rw [eg] at hP hD
                  clear eg
                  refine w_iinc (k := 5) (lv' := [(5, .int (J ((i : Nat) : Int))), (0, .ref o), (1, .int (J ((en : Nat) : Int))), (2, .int (J z)), (3, .int (J ((k : Nat) : Int))), (4, .int (J ((q : Nat) : Int)))]) hx hb d_Mo_come_106 hl rfl ((i : Nat) : Int) (by omega) (by decide) rfl (fun ls hl => ?_)
                  refine lv_goto (tgt := 67) hx hb d_Mo_come_109 (by decide) ?_
                  exact ih_67 i (by omega) (by omega) (by omega) _ _ (P_map hP [0, 1, 2, 3] rfl) (hD.sub [0, 1, 2, 3] (by decide) rfl) hS ls (lv_sub hl [1, 2, 3, 4, 5, 0] rfl)
            rw [← mvd_0 fe (i := fn) (n := fn + 1) (by omega), ← mvd_0 fs (i := fn) (n := fn + 1) (by omega)] at hP hD
            exact lp_67 ((fn - q) + 1) fn (by omega) (by omega) (Nat.lt_succ_self _) _ _ (P_map hP [0, 1, 2, 3] rfl) (hD.sub [0, 1, 2, 3] (by decide) rfl) hS ls (lv_sub hl [1, 2, 3, 4, 5, 0] rfl)
        · exfalso; omega
      · obtain ⟨i, rfl⟩ : ∃ i : Nat, j = i + 1 := ⟨j - 1, by omega⟩
        refine lv_aload_n hx hb d_Mo_come_11 rfl (lv_at hl 0 rfl) ?_
        refine lv_iload_n hx hb d_Mo_come_12 rfl (lv_at hl 1 rfl) ?_
        refine lv_iload_n hx hb d_Mo_come_13 rfl (lv_at hl 2 rfl) ?_
        refine lv_iload hx hb d_Mo_come_14 (lv_at hl 4 rfl) ?_
        refine lv_iconst (v := J (1)) hx hb d_Mo_come_16 rfl ?_
        refine w_isub hx hb d_Mo_come_17 ((i : Nat) : Int) (by omega) ?_
        refine Ri_call (va_runV (As := [.int (J ((en : Nat) : Int)), .int (J z), .int (J ((i : Nat) : Int))]) (rest := []) ⟨hx, hb, hml, hown, hts⟩ (c_Mo_isBefore l D cI cZ cJ o p1 p2 p3 p4 p5 p6 p7 p8 p9 pA pB pC th n ap fn wk dy fe fs en z i (by first | with_reducible assumption | omega) (by first | with_reducible assumption | omega) (by first | with_reducible assumption | omega) (by first | with_reducible assumption | omega) (hfe i (by omega)) (by first | with_reducible assumption | omega)) (cwV 3 hts (g_V mw_696 mw_698 mw_23 mw_33 mw_699) rfl rfl rfl (by decide +kernel) ⟨Nat.le_of_ble_eq_true rfl, Nat.le_of_ble_eq_true rfl⟩) (pre_RV hP hK [0, 1, 2, 3] rfl 8 0 rfl rfl) rfl rfl hl.1 rfl (lv_room (Nat.le_of_ble_eq_true rfl)) d_Mo_come_18 ⟨Nat.le_of_ble_eq_true rfl, Nat.le_of_ble_eq_true rfl⟩) ?_
        refine w_if_eq (tgt := 30) hx hb d_Mo_come_21 (by decide) (rg_b2) (fun c_21 => ?_) (fun c_21 => ?_)
        · have c_21 := b2_0.mp c_21
          have e9 : q = i + 1 := by rw [← hqn, hps, psn, if_neg c_21]
          rw [← e9] at hl
          refine lv_iload hx hb d_Mo_come_30 (lv_at hl 4 rfl) ?_
          refine lv_iload_n hx hb d_Mo_come_32 rfl (lv_at hl 3 rfl) ?_
          refine w_icmp_ne (tgt := 37) hx hb d_Mo_come_33 (by decide) (by omega) (by omega) (fun c_33 => ?_) (fun c_33 => ?_)
          · refine lv_aload_n hx hb d_Mo_come_37 rfl (lv_at hl 0 rfl) ?_
            refine lv_aload_n hx hb d_Mo_come_38 rfl (lv_at hl 0 rfl) ?_
            refine va_get (D := D) (ci := 8) (v := .int (J ((fn : Nat) : Int))) (C := R_Mo) (T := T_Mo) (N := 17) hx hb hts i_Mo hown hK hP 0 rfl rfl 10 (by decide) (hts _ mw_561) (fun _ h9 => h9) rfl d_Mo_come_39 ?_
            refine lv_iload_n hx hb d_Mo_come_42 rfl (lv_at hl 3 rfl) ?_
            refine w_icmp_ge (tgt := 55) hx hb d_Mo_come_43 (by decide) (by omega) (by omega) (fun c_43 => ?_) (fun c_43 => ?_)
            · exfalso; omega
            · refine lv_aload_n hx hb d_Mo_come_46 rfl (lv_at hl 0 rfl) ?_
              refine va_get (D := D) (ci := 8) (v := .int (J ((fn : Nat) : Int))) (C := R_Mo) (T := T_Mo) (N := 17) hx hb hts i_Mo hown hK hP 0 rfl rfl 10 (by decide) (hts _ mw_561) (fun _ h9 => h9) rfl d_Mo_come_47 ?_
              refine lv_iconst (v := J (1)) hx hb d_Mo_come_50 rfl ?_
              refine w_iadd hx hb d_Mo_come_51 ((fn + 1 : Nat) : Int) (by omega) ?_
              refine lv_goto (tgt := 56) hx hb d_Mo_come_52 (by decide) ?_
              refine va_put (D := D) (ci := 8) (v := .int (J ((fn + 1 : Nat) : Int))) (ty := .int) (C := R_Mo) (T := T_Mo) (N := 17) hx hb hts i_Mo t_Mo k_Mo n_Mo hown hK hP hD hS 0 rfl rfl 10 (by decide) (hts _ mw_561) (fun _ h9 => h9) rfl (by decide +kernel) rfl rfl (Nat.le_of_ble_eq_true rfl) d_Mo_come_56 (fun H locs hP hD hS => ?_)
              have hP : va_P D classes [(o, .inr (8, [.int (J th), .int (J ((n : Nat) : Int)), .ref p1, .ref p2, .ref p3, .ref p4, .ref p5, .ref p6, .int (J ap), .ref p7, .int (J ((fn + 1 : Nat) : Int)), .ref p8, .ref p9, .int (J wk), .ref pA, .ref pB, .ref pC])), (p2, ca cI 40 dy), (p8, ca cI 40 fe), (p9, ca cI 40 fs)] H := hP
              have hD : va_D A [(o, .inr (8, [.int (J th), .int (J ((n : Nat) : Int)), .ref p1, .ref p2, .ref p3, .ref p4, .ref p5, .ref p6, .int (J ap), .ref p7, .int (J ((fn + 1 : Nat) : Int)), .ref p8, .ref p9, .int (J wk), .ref pA, .ref pB, .ref pC])), (p2, ca cI 40 dy), (p8, ca cI 40 fe), (p9, ca cI 40 fs)] := hD
              refine lv_aload_n hx hb d_Mo_come_59 rfl (lv_at hl 0 rfl) ?_
              refine va_get (D := D) (ci := 8) (v := .int (J ((fn + 1 : Nat) : Int))) (C := R_Mo) (T := T_Mo) (N := 17) hx hb hts i_Mo hown hK hP 0 rfl rfl 10 (by decide) (hts _ mw_561) (fun _ h9 => h9) rfl d_Mo_come_60 ?_
              refine lv_iconst (v := J (1)) hx hb d_Mo_come_63 rfl ?_
              refine w_isub hx hb d_Mo_come_64 ((fn : Nat) : Int) (by omega) ?_
              refine lv_istore (lv' := [(5, .int (J ((fn : Nat) : Int))), (0, .ref o), (1, .int (J ((en : Nat) : Int))), (2, .int (J z)), (3, .int (J ((k : Nat) : Int))), (4, .int (J ((q : Nat) : Int)))]) hx hb d_Mo_come_65 hl (by decide) rfl (fun ls hl => ?_)
              have lp_67 : ∀ (fu : Nat) (j : Nat), (q ≤ j) → (j < fn + 1) → (j - q) < fu → ∀ (H : Heap) (locs : List Loc), va_P D classes [(o, .inr (8, [.int (J th), .int (J ((n : Nat) : Int)), .ref p1, .ref p2, .ref p3, .ref p4, .ref p5, .ref p6, .int (J ap), .ref p7, .int (J ((fn + 1 : Nat) : Int)), .ref p8, .ref p9, .int (J wk), .ref pA, .ref pB, .ref pC])), (p2, ca cI 40 dy), (p8, ca cI 40 (mvd fe j (fn + 1))), (p9, ca cI 40 (mvd fs j (fn + 1)))] H → va_D A [(o, .inr (8, [.int (J th), .int (J ((n : Nat) : Int)), .ref p1, .ref p2, .ref p3, .ref p4, .ref p5, .ref p6, .int (J ap), .ref p7, .int (J ((fn + 1 : Nat) : Int)), .ref p8, .ref p9, .int (J wk), .ref pA, .ref pB, .ref pC])), (p2, ca cI 40 dy), (p8, ca cI 40 (mvd fe j (fn + 1))), (p9, ca cI 40 (mvd fs j (fn + 1)))] → va_S A s.heap H locs → ∀ ls : Array Slot, lv_has ls 6 [(0, .ref o), (1, .int (J ((en : Nat) : Int))), (2, .int (J z)), (3, .int (J ((k : Nat) : Int))), (4, .int (J ((q : Nat) : Int))), (5, .int (J ((j : Nat) : Int)))] → W p l e ({ frames := 1, cells := 0, slots := 0, locals := 24 }) s m args below meth c H locs 0 0 Q (F0 m 67 ls []) := by
                intro fu
                induction fu with
                | zero => intro j hj hj2 hfu; exact absurd hfu (Nat.not_lt_zero _)
                | succ fu ih_67 =>
                  intro j hj hj2 hfu H locs hP hD hS ls hl
                  refine lv_iload hx hb d_Mo_come_67 (lv_at hl 5 rfl) ?_
                  refine lv_iload hx hb d_Mo_come_69 (lv_at hl 4 rfl) ?_
                  refine w_icmp_le (tgt := 112) hx hb d_Mo_come_71 (by decide) (by omega) (by omega) (fun c_71 => ?_) (fun c_71 => ?_)
                  · obtain rfl : q = j := by omega
                    refine lv_aload_n hx hb d_Mo_come_112 rfl (lv_at hl 0 rfl) ?_
                    refine va_get (D := D) (ci := 8) (v := .ref p8) (C := R_Mo) (T := T_Mo) (N := 17) hx hb hts i_Mo hown hK hP 0 rfl rfl 11 (by decide) (hts _ mw_562) (fun _ h9 => h9) rfl d_Mo_come_113 ?_
                    refine lv_iload hx hb d_Mo_come_116 (lv_at hl 4 rfl) ?_
                    refine lv_iload_n hx hb d_Mo_come_118 rfl (lv_at hl 1 rfl) ?_
                    refine w_iast hx hb hK hP hD hS 2 0 rfl rfl q (by omega) (by omega) (by omega) d_Mo_come_119 (fun H locs hP hD hS => ?_)
                    have hP : va_P D classes [(o, .inr (8, [.int (J th), .int (J ((n : Nat) : Int)), .ref p1, .ref p2, .ref p3, .ref p4, .ref p5, .ref p6, .int (J ap), .ref p7, .int (J ((fn + 1 : Nat) : Int)), .ref p8, .ref p9, .int (J wk), .ref pA, .ref pB, .ref pC])), (p2, ca cI 40 dy), (p8, ca cI 40 (iu (mvd fe q (fn + 1)) q ((en : Nat) : Int))), (p9, ca cI 40 (mvd fs q (fn + 1)))] H := hP
                    have hD : va_D A [(o, .inr (8, [.int (J th), .int (J ((n : Nat) : Int)), .ref p1, .ref p2, .ref p3, .ref p4, .ref p5, .ref p6, .int (J ap), .ref p7, .int (J ((fn + 1 : Nat) : Int)), .ref p8, .ref p9, .int (J wk), .ref pA, .ref pB, .ref pC])), (p2, ca cI 40 dy), (p8, ca cI 40 (iu (mvd fe q (fn + 1)) q ((en : Nat) : Int))), (p9, ca cI 40 (mvd fs q (fn + 1)))] := hD
                    have eg : iu (mvd fe q (fn + 1)) q ((en : Nat) : Int) = ins fe q (fn + 1) ((en : Nat) : Int) := mvd_e fe (by omega) _
                    rw [eg] at hP hD
                    clear eg
                    refine lv_aload_n hx hb d_Mo_come_120 rfl (lv_at hl 0 rfl) ?_
                    refine va_get (D := D) (ci := 8) (v := .ref p9) (C := R_Mo) (T := T_Mo) (N := 17) hx hb hts i_Mo hown hK hP 0 rfl rfl 12 (by decide) (hts _ mw_563) (fun _ h9 => h9) rfl d_Mo_come_121 ?_
                    refine lv_iload hx hb d_Mo_come_124 (lv_at hl 4 rfl) ?_
                    refine lv_iload_n hx hb d_Mo_come_126 rfl (lv_at hl 2 rfl) ?_
                    refine w_iast hx hb hK hP hD hS 3 0 rfl rfl q (by omega) (by omega) (by omega) d_Mo_come_127 (fun H locs hP hD hS => ?_)
                    have hP : va_P D classes [(o, .inr (8, [.int (J th), .int (J ((n : Nat) : Int)), .ref p1, .ref p2, .ref p3, .ref p4, .ref p5, .ref p6, .int (J ap), .ref p7, .int (J ((fn + 1 : Nat) : Int)), .ref p8, .ref p9, .int (J wk), .ref pA, .ref pB, .ref pC])), (p2, ca cI 40 dy), (p8, ca cI 40 (ins fe q (fn + 1) ((en : Nat) : Int))), (p9, ca cI 40 (iu (mvd fs q (fn + 1)) q z))] H := hP
                    have hD : va_D A [(o, .inr (8, [.int (J th), .int (J ((n : Nat) : Int)), .ref p1, .ref p2, .ref p3, .ref p4, .ref p5, .ref p6, .int (J ap), .ref p7, .int (J ((fn + 1 : Nat) : Int)), .ref p8, .ref p9, .int (J wk), .ref pA, .ref pB, .ref pC])), (p2, ca cI 40 dy), (p8, ca cI 40 (ins fe q (fn + 1) ((en : Nat) : Int))), (p9, ca cI 40 (iu (mvd fs q (fn + 1)) q z))] := hD
                    have eg : iu (mvd fs q (fn + 1)) q z = ins fs q (fn + 1) z := mvd_e fs (by omega) z
                    rw [eg] at hP hD
                    clear eg
                    exact Mv_ret hx hb hr hlocks hQ d_Mo_come_128 hP hK hD hS () (trivial) [0, 1, 2, 3] rfl (by decide)
                  · obtain ⟨i, rfl⟩ : ∃ i : Nat, j = i + 1 := ⟨j - 1, by omega⟩
                    refine lv_aload_n hx hb d_Mo_come_74 rfl (lv_at hl 0 rfl) ?_
                    refine va_get (D := D) (ci := 8) (v := .ref p8) (C := R_Mo) (T := T_Mo) (N := 17) hx hb hts i_Mo hown hK hP 0 rfl rfl 11 (by decide) (hts _ mw_562) (fun _ h9 => h9) rfl d_Mo_come_75 ?_
                    refine lv_iload hx hb d_Mo_come_78 (lv_at hl 5 rfl) ?_
                    refine lv_aload_n hx hb d_Mo_come_80 rfl (lv_at hl 0 rfl) ?_
                    refine va_get (D := D) (ci := 8) (v := .ref p8) (C := R_Mo) (T := T_Mo) (N := 17) hx hb hts i_Mo hown hK hP 0 rfl rfl 11 (by decide) (hts _ mw_562) (fun _ h9 => h9) rfl d_Mo_come_81 ?_
                    refine lv_iload hx hb d_Mo_come_84 (lv_at hl 5 rfl) ?_
                    refine lv_iconst (v := J (1)) hx hb d_Mo_come_86 rfl ?_
                    refine w_isub hx hb d_Mo_come_87 ((i : Nat) : Int) (by omega) ?_
                    refine w_iald hx hb hK hP 2 0 rfl rfl i (by omega) (by omega) (by omega) d_Mo_come_88 ?_
                    refine w_iast hx hb hK hP hD hS 2 0 rfl rfl (i + 1) (by omega) (by omega) (by omega) d_Mo_come_89 (fun H locs hP hD hS => ?_)
                    have hP : va_P D classes [(o, .inr (8, [.int (J th), .int (J ((n : Nat) : Int)), .ref p1, .ref p2, .ref p3, .ref p4, .ref p5, .ref p6, .int (J ap), .ref p7, .int (J ((fn + 1 : Nat) : Int)), .ref p8, .ref p9, .int (J wk), .ref pA, .ref pB, .ref pC])), (p2, ca cI 40 dy), (p8, ca cI 40 (iu (mvd fe (i + 1) (fn + 1)) (i + 1) ((mvd fe (i + 1) (fn + 1)) i))), (p9, ca cI 40 (mvd fs (i + 1) (fn + 1)))] H := hP
                    have hD : va_D A [(o, .inr (8, [.int (J th), .int (J ((n : Nat) : Int)), .ref p1, .ref p2, .ref p3, .ref p4, .ref p5, .ref p6, .int (J ap), .ref p7, .int (J ((fn + 1 : Nat) : Int)), .ref p8, .ref p9, .int (J wk), .ref pA, .ref pB, .ref pC])), (p2, ca cI 40 dy), (p8, ca cI 40 (iu (mvd fe (i + 1) (fn + 1)) (i + 1) ((mvd fe (i + 1) (fn + 1)) i))), (p9, ca cI 40 (mvd fs (i + 1) (fn + 1)))] := hD
                    have eg : iu (mvd fe (i + 1) (fn + 1)) (i + 1) ((mvd fe (i + 1) (fn + 1)) i) = mvd fe i (fn + 1) := mvd_s fe (by omega)
                    rw [eg] at hP hD
                    clear eg
                    refine lv_aload_n hx hb d_Mo_come_90 rfl (lv_at hl 0 rfl) ?_
                    refine va_get (D := D) (ci := 8) (v := .ref p9) (C := R_Mo) (T := T_Mo) (N := 17) hx hb hts i_Mo hown hK hP 0 rfl rfl 12 (by decide) (hts _ mw_563) (fun _ h9 => h9) rfl d_Mo_come_91 ?_
                    refine lv_iload hx hb d_Mo_come_94 (lv_at hl 5 rfl) ?_
                    refine lv_aload_n hx hb d_Mo_come_96 rfl (lv_at hl 0 rfl) ?_
                    refine va_get (D := D) (ci := 8) (v := .ref p9) (C := R_Mo) (T := T_Mo) (N := 17) hx hb hts i_Mo hown hK hP 0 rfl rfl 12 (by decide) (hts _ mw_563) (fun _ h9 => h9) rfl d_Mo_come_97 ?_
                    refine lv_iload hx hb d_Mo_come_100 (lv_at hl 5 rfl) ?_
                    refine lv_iconst (v := J (1)) hx hb d_Mo_come_102 rfl ?_
                    refine w_isub hx hb d_Mo_come_103 ((i : Nat) : Int) (by omega) ?_
                    refine w_iald hx hb hK hP 3 0 rfl rfl i (by omega) (by omega) (by omega) d_Mo_come_104 ?_
                    refine w_iast hx hb hK hP hD hS 3 0 rfl rfl (i + 1) (by omega) (by omega) (by omega) d_Mo_come_105 (fun H locs hP hD hS => ?_)
                    have hP : va_P D classes [(o, .inr (8, [.int (J th), .int (J ((n : Nat) : Int)), .ref p1, .ref p2, .ref p3, .ref p4, .ref p5, .ref p6, .int (J ap), .ref p7, .int (J ((fn + 1 : Nat) : Int)), .ref p8, .ref p9, .int (J wk), .ref pA, .ref pB, .ref pC])), (p2, ca cI 40 dy), (p8, ca cI 40 (mvd fe i (fn + 1))), (p9, ca cI 40 (iu (mvd fs (i + 1) (fn + 1)) (i + 1) ((mvd fs (i + 1) (fn + 1)) i)))] H := hP
                    have hD : va_D A [(o, .inr (8, [.int (J th), .int (J ((n : Nat) : Int)), .ref p1, .ref p2, .ref p3, .ref p4, .ref p5, .ref p6, .int (J ap), .ref p7, .int (J ((fn + 1 : Nat) : Int)), .ref p8, .ref p9, .int (J wk), .ref pA, .ref pB, .ref pC])), (p2, ca cI 40 dy), (p8, ca cI 40 (mvd fe i (fn + 1))), (p9, ca cI 40 (iu (mvd fs (i + 1) (fn + 1)) (i + 1) ((mvd fs (i + 1) (fn + 1)) i)))] := hD
                    have eg : iu (mvd fs (i + 1) (fn + 1)) (i + 1) ((mvd fs (i + 1) (fn + 1)) i) = mvd fs i (fn + 1) := mvd_s fs (by omega)
                    rw [eg] at hP hD
                    clear eg
                    refine w_iinc (k := 5) (lv' := [(5, .int (J ((i : Nat) : Int))), (0, .ref o), (1, .int (J ((en : Nat) : Int))), (2, .int (J z)), (3, .int (J ((k : Nat) : Int))), (4, .int (J ((q : Nat) : Int)))]) hx hb d_Mo_come_106 hl rfl ((i : Nat) : Int) (by omega) (by decide) rfl (fun ls hl => ?_)
                    refine lv_goto (tgt := 67) hx hb d_Mo_come_109 (by decide) ?_
                    exact ih_67 i (by omega) (by omega) (by omega) _ _ (P_map hP [0, 1, 2, 3] rfl) (hD.sub [0, 1, 2, 3] (by decide) rfl) hS ls (lv_sub hl [1, 2, 3, 4, 5, 0] rfl)
              rw [← mvd_0 fe (i := fn) (n := fn + 1) (by omega), ← mvd_0 fs (i := fn) (n := fn + 1) (by omega)] at hP hD
              exact lp_67 ((fn - q) + 1) fn (by omega) (by omega) (Nat.lt_succ_self _) _ _ (P_map hP [0, 1, 2, 3] rfl) (hD.sub [0, 1, 2, 3] (by decide) rfl) hS ls (lv_sub hl [1, 2, 3, 4, 5, 0] rfl)
          · exfalso; omega
        · have c_21 := b2_n0.mp c_21
          refine w_iinc (k := 4) (lv' := [(4, .int (J ((i : Nat) : Int))), (0, .ref o), (1, .int (J ((en : Nat) : Int))), (2, .int (J z)), (3, .int (J ((k : Nat) : Int)))]) hx hb d_Mo_come_24 hl rfl ((i : Nat) : Int) (by omega) (by decide) rfl (fun ls hl => ?_)
          refine lv_goto (tgt := 6) hx hb d_Mo_come_27 (by decide) ?_
          exact ih_6 i (by omega) (by rw [hps, psn, if_pos c_21]) (by omega) _ _ (P_map hP [0, 1, 2, 3] rfl) (hD.sub [0, 1, 2, 3] (by decide) rfl) hS ls (lv_sub hl [1, 2, 3, 4, 0] rfl)
  exact lp_6 (fn + 1) fn (by omega) (rfl) (Nat.lt_succ_self _) _ _ (P_map hP [0, 1, 2, 3] rfl) (hD.sub [0, 1, 2, 3] (by decide) rfl) hS ls (lv_sub hl [1, 2, 3, 4, 0] rfl)
set_option maxHeartbeats 1000000 in
set_option maxRecDepth 100000 in
theorem c_Mo_come_eq (l : Launch) (D : va_G) (cI cZ cJ : ClassId) (sz : Nat) (o : Nat) (p1 : Nat) (p2 : Nat) (p3 : Nat) (p4 : Nat) (p5 : Nat) (p6 : Nat) (p7 : Nat) (p8 : Nat) (p9 : Nat) (pA : Nat) (pB : Nat) (pC : Nat) (th : Int) (n : Nat) (ap : Int) (fn : Nat) (wk : Int) (dy : Nat → Int) (fe : Nat → Int) (fs : Nat → Int) (en : Nat) (z : Int) (k : Nat) (q : Nat) (hen : en < 40) (hz : rg z) (hdy : ∀ j, -1 ≤ dy j ∧ dy j ≤ 100000) (hfe : ∀ j, j < fn → 0 ≤ fe j ∧ fe j < (en : Int)) (hfs : ∀ j, rg (fs j)) (hnk : fn ≤ k) (hk : 1 ≤ k ∧ k ≤ 40) (hqn : psn fs (fun t => dy (fe t).toNat) z (dy en) fn = q) (hyes : q < k ∧ fn = k) : Mv l y_Mo_come w_Mo_come ({ frames := 1, cells := 0, slots := 0, locals := 24 }) false D classes [(cI, .int), (cZ, .boolean), (cJ, .long)] sz [.ref o, .int (J ((en : Nat) : Int)), .int (J z), .int (J ((k : Nat) : Int))] [(o, .inr (8, [.int (J th), .int (J ((n : Nat) : Int)), .ref p1, .ref p2, .ref p3, .ref p4, .ref p5, .ref p6, .int (J ap), .ref p7, .int (J ((fn : Nat) : Int)), .ref p8, .ref p9, .int (J wk), .ref pA, .ref pB, .ref pC])), (p2, ca cI 40 dy), (p8, ca cI 40 fe), (p9, ca cI 40 fs)] (S := Unit) (fun _ => True) (fun u : Unit => [(o, .inr (8, [.int (J th), .int (J ((n : Nat) : Int)), .ref p1, .ref p2, .ref p3, .ref p4, .ref p5, .ref p6, .int (J ap), .ref p7, .int (J ((fn : Nat) : Int)), .ref p8, .ref p9, .int (J wk), .ref pA, .ref pB, .ref pC])), (p2, ca cI 40 dy), (p8, ca cI 40 (ins fe q fn ((en : Nat) : Int))), (p9, ca cI 40 (ins fs q fn z))]) 0 0 := by
  refine Mv_of (cc := b_Mo_come) (maxL := 6) (by decide) rfl (Nat.le_of_ble_eq_true rfl) ?_
  intro p e s m args below meth c hx hb hr hml hts hown hlocks hin A hA hP hK hD hT hS Q hQ H hH ls hl
  subst hH
  have hl : lv_has ls 6 [(0, .ref o), (1, .int (J ((en : Nat) : Int))), (2, .int (J z)), (3, .int (J ((k : Nat) : Int)))] := hl
  have q1 := psn_le fs (fun t => dy (fe t).toNat) z (dy en) fn
  refine lv_aload_n hx hb d_Mo_come_0 rfl (lv_at hl 0 rfl) ?_
  refine va_get (D := D) (ci := 8) (v := .int (J ((fn : Nat) : Int))) (C := R_Mo) (T := T_Mo) (N := 17) hx hb hts i_Mo hown hK hP 0 rfl rfl 10 (by decide) (hts _ mw_561) (fun _ h9 => h9) rfl d_Mo_come_1 ?_
  refine lv_istore (lv' := [(4, .int (J ((fn : Nat) : Int))), (0, .ref o), (1, .int (J ((en : Nat) : Int))), (2, .int (J z)), (3, .int (J ((k : Nat) : Int)))]) hx hb d_Mo_come_4 hl (by decide) rfl (fun ls hl => ?_)
  have lp_6 : ∀ (fu : Nat) (j : Nat), (j ≤ fn) → (psn fs (fun t => dy (fe t).toNat) z (dy en) fn = psn fs (fun t => dy (fe t).toNat) z (dy en) j) → j < fu → ∀ (H : Heap) (locs : List Loc), va_P D classes [(o, .inr (8, [.int (J th), .int (J ((n : Nat) : Int)), .ref p1, .ref p2, .ref p3, .ref p4, .ref p5, .ref p6, .int (J ap), .ref p7, .int (J ((fn : Nat) : Int)), .ref p8, .ref p9, .int (J wk), .ref pA, .ref pB, .ref pC])), (p2, ca cI 40 dy), (p8, ca cI 40 fe), (p9, ca cI 40 fs)] H → va_D A [(o, .inr (8, [.int (J th), .int (J ((n : Nat) : Int)), .ref p1, .ref p2, .ref p3, .ref p4, .ref p5, .ref p6, .int (J ap), .ref p7, .int (J ((fn : Nat) : Int)), .ref p8, .ref p9, .int (J wk), .ref pA, .ref pB, .ref pC])), (p2, ca cI 40 dy), (p8, ca cI 40 fe), (p9, ca cI 40 fs)] → va_S A s.heap H locs → ∀ ls : Array Slot, lv_has ls 6 [(0, .ref o), (1, .int (J ((en : Nat) : Int))), (2, .int (J z)), (3, .int (J ((k : Nat) : Int))), (4, .int (J ((j : Nat) : Int)))] → W p l e ({ frames := 1, cells := 0, slots := 0, locals := 24 }) s m args below meth c H locs 0 0 Q (F0 m 6 ls []) := by
    intro fu
    induction fu with
    | zero => intro j hj hps hfu; exact absurd hfu (Nat.not_lt_zero _)
    | succ fu ih_6 =>
      intro j hj hps hfu H locs hP hD hS ls hl
      refine lv_iload hx hb d_Mo_come_6 (lv_at hl 4 rfl) ?_
      refine w_if_le (tgt := 30) hx hb d_Mo_come_8 (by decide) (by omega) (fun c_8 => ?_) (fun c_8 => ?_)
      · obtain rfl : q = j := by rw [← hqn, hps, show j = 0 by omega]; rfl
        refine lv_iload hx hb d_Mo_come_30 (lv_at hl 4 rfl) ?_
        refine lv_iload_n hx hb d_Mo_come_32 rfl (lv_at hl 3 rfl) ?_
        refine w_icmp_ne (tgt := 37) hx hb d_Mo_come_33 (by decide) (by omega) (by omega) (fun c_33 => ?_) (fun c_33 => ?_)
        · refine lv_aload_n hx hb d_Mo_come_37 rfl (lv_at hl 0 rfl) ?_
          refine lv_aload_n hx hb d_Mo_come_38 rfl (lv_at hl 0 rfl) ?_
          refine va_get (D := D) (ci := 8) (v := .int (J ((fn : Nat) : Int))) (C := R_Mo) (T := T_Mo) (N := 17) hx hb hts i_Mo hown hK hP 0 rfl rfl 10 (by decide) (hts _ mw_561) (fun _ h9 => h9) rfl d_Mo_come_39 ?_
          refine lv_iload_n hx hb d_Mo_come_42 rfl (lv_at hl 3 rfl) ?_
          refine w_icmp_ge (tgt := 55) hx hb d_Mo_come_43 (by decide) (by omega) (by omega) (fun c_43 => ?_) (fun c_43 => ?_)
          · refine lv_iload_n hx hb d_Mo_come_55 rfl (lv_at hl 3 rfl) ?_
            have ek : ((k : Nat) : Int) = ((fn : Nat) : Int) := by omega
            refine tp_J (y := ((fn : Nat) : Int)) ek ?_
            refine va_put (D := D) (ci := 8) (v := .int (J ((fn : Nat) : Int))) (ty := .int) (C := R_Mo) (T := T_Mo) (N := 17) hx hb hts i_Mo t_Mo k_Mo n_Mo hown hK hP hD hS 0 rfl rfl 10 (by decide) (hts _ mw_561) (fun _ h9 => h9) rfl (by decide +kernel) rfl rfl (Nat.le_of_ble_eq_true rfl) d_Mo_come_56 (fun H locs hP hD hS => ?_)
            have hP : va_P D classes [(o, .inr (8, [.int (J th), .int (J ((n : Nat) : Int)), .ref p1, .ref p2, .ref p3, .ref p4, .ref p5, .ref p6, .int (J ap), .ref p7, .int (J ((fn : Nat) : Int)), .ref p8, .ref p9, .int (J wk), .ref pA, .ref pB, .ref pC])), (p2, ca cI 40 dy), (p8, ca cI 40 fe), (p9, ca cI 40 fs)] H := hP
            have hD : va_D A [(o, .inr (8, [.int (J th), .int (J ((n : Nat) : Int)), .ref p1, .ref p2, .ref p3, .ref p4, .ref p5, .ref p6, .int (J ap), .ref p7, .int (J ((fn : Nat) : Int)), .ref p8, .ref p9, .int (J wk), .ref pA, .ref pB, .ref pC])), (p2, ca cI 40 dy), (p8, ca cI 40 fe), (p9, ca cI 40 fs)] := hD
            refine lv_aload_n hx hb d_Mo_come_59 rfl (lv_at hl 0 rfl) ?_
            refine va_get (D := D) (ci := 8) (v := .int (J ((fn : Nat) : Int))) (C := R_Mo) (T := T_Mo) (N := 17) hx hb hts i_Mo hown hK hP 0 rfl rfl 10 (by decide) (hts _ mw_561) (fun _ h9 => h9) rfl d_Mo_come_60 ?_
            refine lv_iconst (v := J (1)) hx hb d_Mo_come_63 rfl ?_
            refine w_isub hx hb d_Mo_come_64 ((fn - 1 : Nat) : Int) (by omega) ?_
            refine lv_istore (lv' := [(5, .int (J ((fn - 1 : Nat) : Int))), (0, .ref o), (1, .int (J ((en : Nat) : Int))), (2, .int (J z)), (3, .int (J ((k : Nat) : Int))), (4, .int (J ((q : Nat) : Int)))]) hx hb d_Mo_come_65 hl (by decide) rfl (fun ls hl => ?_)
            have lp_67 : ∀ (fu : Nat) (j : Nat), (q ≤ j) → (j < fn) → (j - q) < fu → ∀ (H : Heap) (locs : List Loc), va_P D classes [(o, .inr (8, [.int (J th), .int (J ((n : Nat) : Int)), .ref p1, .ref p2, .ref p3, .ref p4, .ref p5, .ref p6, .int (J ap), .ref p7, .int (J ((fn : Nat) : Int)), .ref p8, .ref p9, .int (J wk), .ref pA, .ref pB, .ref pC])), (p2, ca cI 40 dy), (p8, ca cI 40 (mvd fe j (fn))), (p9, ca cI 40 (mvd fs j (fn)))] H → va_D A [(o, .inr (8, [.int (J th), .int (J ((n : Nat) : Int)), .ref p1, .ref p2, .ref p3, .ref p4, .ref p5, .ref p6, .int (J ap), .ref p7, .int (J ((fn : Nat) : Int)), .ref p8, .ref p9, .int (J wk), .ref pA, .ref pB, .ref pC])), (p2, ca cI 40 dy), (p8, ca cI 40 (mvd fe j (fn))), (p9, ca cI 40 (mvd fs j (fn)))] → va_S A s.heap H locs → ∀ ls : Array Slot, lv_has ls 6 [(0, .ref o), (1, .int (J ((en : Nat) : Int))), (2, .int (J z)), (3, .int (J ((k : Nat) : Int))), (4, .int (J ((q : Nat) : Int))), (5, .int (J ((j : Nat) : Int)))] → W p l e ({ frames := 1, cells := 0, slots := 0, locals := 24 }) s m args below meth c H locs 0 0 Q (F0 m 67 ls []) := by
              intro fu
              induction fu with
              | zero => intro j hj hj2 hfu; exact absurd hfu (Nat.not_lt_zero _)
              | succ fu ih_67 =>
                intro j hj hj2 hfu H locs hP hD hS ls hl
                refine lv_iload hx hb d_Mo_come_67 (lv_at hl 5 rfl) ?_
                refine lv_iload hx hb d_Mo_come_69 (lv_at hl 4 rfl) ?_
                refine w_icmp_le (tgt := 112) hx hb d_Mo_come_71 (by decide) (by omega) (by omega) (fun c_71 => ?_) (fun c_71 => ?_)
                · obtain rfl : q = j := by omega
                  refine lv_aload_n hx hb d_Mo_come_112 rfl (lv_at hl 0 rfl) ?_
                  refine va_get (D := D) (ci := 8) (v := .ref p8) (C := R_Mo) (T := T_Mo) (N := 17) hx hb hts i_Mo hown hK hP 0 rfl rfl 11 (by decide) (hts _ mw_562) (fun _ h9 => h9) rfl d_Mo_come_113 ?_
                  refine lv_iload hx hb d_Mo_come_116 (lv_at hl 4 rfl) ?_
                  refine lv_iload_n hx hb d_Mo_come_118 rfl (lv_at hl 1 rfl) ?_
                  refine w_iast hx hb hK hP hD hS 2 0 rfl rfl q (by omega) (by omega) (by omega) d_Mo_come_119 (fun H locs hP hD hS => ?_)
                  have hP : va_P D classes [(o, .inr (8, [.int (J th), .int (J ((n : Nat) : Int)), .ref p1, .ref p2, .ref p3, .ref p4, .ref p5, .ref p6, .int (J ap), .ref p7, .int (J ((fn : Nat) : Int)), .ref p8, .ref p9, .int (J wk), .ref pA, .ref pB, .ref pC])), (p2, ca cI 40 dy), (p8, ca cI 40 (iu (mvd fe q (fn)) q ((en : Nat) : Int))), (p9, ca cI 40 (mvd fs q (fn)))] H := hP
                  have hD : va_D A [(o, .inr (8, [.int (J th), .int (J ((n : Nat) : Int)), .ref p1, .ref p2, .ref p3, .ref p4, .ref p5, .ref p6, .int (J ap), .ref p7, .int (J ((fn : Nat) : Int)), .ref p8, .ref p9, .int (J wk), .ref pA, .ref pB, .ref pC])), (p2, ca cI 40 dy), (p8, ca cI 40 (iu (mvd fe q (fn)) q ((en : Nat) : Int))), (p9, ca cI 40 (mvd fs q (fn)))] := hD
                  have eg : iu (mvd fe q (fn)) q ((en : Nat) : Int) = ins fe q fn ((en : Nat) : Int) := mvd_e fe (by omega) _
                  rw [eg] at hP hD
                  clear eg
                  refine lv_aload_n hx hb d_Mo_come_120 rfl (lv_at hl 0 rfl) ?_
                  refine va_get (D := D) (ci := 8) (v := .ref p9) (C := R_Mo) (T := T_Mo) (N := 17) hx hb hts i_Mo hown hK hP 0 rfl rfl 12 (by decide) (hts _ mw_563) (fun _ h9 => h9) rfl d_Mo_come_121 ?_
                  refine lv_iload hx hb d_Mo_come_124 (lv_at hl 4 rfl) ?_
                  refine lv_iload_n hx hb d_Mo_come_126 rfl (lv_at hl 2 rfl) ?_
                  refine w_iast hx hb hK hP hD hS 3 0 rfl rfl q (by omega) (by omega) (by omega) d_Mo_come_127 (fun H locs hP hD hS => ?_)
                  have hP : va_P D classes [(o, .inr (8, [.int (J th), .int (J ((n : Nat) : Int)), .ref p1, .ref p2, .ref p3, .ref p4, .ref p5, .ref p6, .int (J ap), .ref p7, .int (J ((fn : Nat) : Int)), .ref p8, .ref p9, .int (J wk), .ref pA, .ref pB, .ref pC])), (p2, ca cI 40 dy), (p8, ca cI 40 (ins fe q fn ((en : Nat) : Int))), (p9, ca cI 40 (iu (mvd fs q (fn)) q z))] H := hP
                  have hD : va_D A [(o, .inr (8, [.int (J th), .int (J ((n : Nat) : Int)), .ref p1, .ref p2, .ref p3, .ref p4, .ref p5, .ref p6, .int (J ap), .ref p7, .int (J ((fn : Nat) : Int)), .ref p8, .ref p9, .int (J wk), .ref pA, .ref pB, .ref pC])), (p2, ca cI 40 dy), (p8, ca cI 40 (ins fe q fn ((en : Nat) : Int))), (p9, ca cI 40 (iu (mvd fs q (fn)) q z))] := hD
                  have eg : iu (mvd fs q (fn)) q z = ins fs q fn z := mvd_e fs (by omega) z
                  rw [eg] at hP hD
                  clear eg
                  exact Mv_ret hx hb hr hlocks hQ d_Mo_come_128 hP hK hD hS () (trivial) [0, 1, 2, 3] rfl (by decide)
                · obtain ⟨i, rfl⟩ : ∃ i : Nat, j = i + 1 := ⟨j - 1, by omega⟩
                  refine lv_aload_n hx hb d_Mo_come_74 rfl (lv_at hl 0 rfl) ?_
                  refine va_get (D := D) (ci := 8) (v := .ref p8) (C := R_Mo) (T := T_Mo) (N := 17) hx hb hts i_Mo hown hK hP 0 rfl rfl 11 (by decide) (hts _ mw_562) (fun _ h9 => h9) rfl d_Mo_come_75 ?_
                  refine lv_iload hx hb d_Mo_come_78 (lv_at hl 5 rfl) ?_
                  refine lv_aload_n hx hb d_Mo_come_80 rfl (lv_at hl 0 rfl) ?_
                  refine va_get (D := D) (ci := 8) (v := .ref p8) (C := R_Mo) (T := T_Mo) (N := 17) hx hb hts i_Mo hown hK hP 0 rfl rfl 11 (by decide) (hts _ mw_562) (fun _ h9 => h9) rfl d_Mo_come_81 ?_
                  refine lv_iload hx hb d_Mo_come_84 (lv_at hl 5 rfl) ?_
                  refine lv_iconst (v := J (1)) hx hb d_Mo_come_86 rfl ?_
                  refine w_isub hx hb d_Mo_come_87 ((i : Nat) : Int) (by omega) ?_
                  refine w_iald hx hb hK hP 2 0 rfl rfl i (by omega) (by omega) (by omega) d_Mo_come_88 ?_
                  refine w_iast hx hb hK hP hD hS 2 0 rfl rfl (i + 1) (by omega) (by omega) (by omega) d_Mo_come_89 (fun H locs hP hD hS => ?_)
                  have hP : va_P D classes [(o, .inr (8, [.int (J th), .int (J ((n : Nat) : Int)), .ref p1, .ref p2, .ref p3, .ref p4, .ref p5, .ref p6, .int (J ap), .ref p7, .int (J ((fn : Nat) : Int)), .ref p8, .ref p9, .int (J wk), .ref pA, .ref pB, .ref pC])), (p2, ca cI 40 dy), (p8, ca cI 40 (iu (mvd fe (i + 1) (fn)) (i + 1) ((mvd fe (i + 1) (fn)) i))), (p9, ca cI 40 (mvd fs (i + 1) (fn)))] H := hP
                  have hD : va_D A [(o, .inr (8, [.int (J th), .int (J ((n : Nat) : Int)), .ref p1, .ref p2, .ref p3, .ref p4, .ref p5, .ref p6, .int (J ap), .ref p7, .int (J ((fn : Nat) : Int)), .ref p8, .ref p9, .int (J wk), .ref pA, .ref pB, .ref pC])), (p2, ca cI 40 dy), (p8, ca cI 40 (iu (mvd fe (i + 1) (fn)) (i + 1) ((mvd fe (i + 1) (fn)) i))), (p9, ca cI 40 (mvd fs (i + 1) (fn)))] := hD
                  have eg : iu (mvd fe (i + 1) (fn)) (i + 1) ((mvd fe (i + 1) (fn)) i) = mvd fe i (fn) := mvd_s fe (by omega)
                  rw [eg] at hP hD
                  clear eg
                  refine lv_aload_n hx hb d_Mo_come_90 rfl (lv_at hl 0 rfl) ?_
                  refine va_get (D := D) (ci := 8) (v := .ref p9) (C := R_Mo) (T := T_Mo) (N := 17) hx hb hts i_Mo hown hK hP 0 rfl rfl 12 (by decide) (hts _ mw_563) (fun _ h9 => h9) rfl d_Mo_come_91 ?_
                  refine lv_iload hx hb d_Mo_come_94 (lv_at hl 5 rfl) ?_
                  refine lv_aload_n hx hb d_Mo_come_96 rfl (lv_at hl 0 rfl) ?_
                  refine va_get (D := D) (ci := 8) (v := .ref p9) (C := R_Mo) (T := T_Mo) (N := 17) hx hb hts i_Mo hown hK hP 0 rfl rfl 12 (by decide) (hts _ mw_563) (fun _ h9 => h9) rfl d_Mo_come_97 ?_
                  refine lv_iload hx hb d_Mo_come_100 (lv_at hl 5 rfl) ?_
                  refine lv_iconst (v := J (1)) hx hb d_Mo_come_102 rfl ?_
                  refine w_isub hx hb d_Mo_come_103 ((i : Nat) : Int) (by omega) ?_
                  refine w_iald hx hb hK hP 3 0 rfl rfl i (by omega) (by omega) (by omega) d_Mo_come_104 ?_
                  refine w_iast hx hb hK hP hD hS 3 0 rfl rfl (i + 1) (by omega) (by omega) (by omega) d_Mo_come_105 (fun H locs hP hD hS => ?_)
                  have hP : va_P D classes [(o, .inr (8, [.int (J th), .int (J ((n : Nat) : Int)), .ref p1, .ref p2, .ref p3, .ref p4, .ref p5, .ref p6, .int (J ap), .ref p7, .int (J ((fn : Nat) : Int)), .ref p8, .ref p9, .int (J wk), .ref pA, .ref pB, .ref pC])), (p2, ca cI 40 dy), (p8, ca cI 40 (mvd fe i (fn))), (p9, ca cI 40 (iu (mvd fs (i + 1) (fn)) (i + 1) ((mvd fs (i + 1) (fn)) i)))] H := hP
                  have hD : va_D A [(o, .inr (8, [.int (J th), .int (J ((n : Nat) : Int)), .ref p1, .ref p2, .ref p3, .ref p4, .ref p5, .ref p6, .int (J ap), .ref p7, .int (J ((fn : Nat) : Int)), .ref p8, .ref p9, .int (J wk), .ref pA, .ref pB, .ref pC])), (p2, ca cI 40 dy), (p8, ca cI 40 (mvd fe i (fn))), (p9, ca cI 40 (iu (mvd fs (i + 1) (fn)) (i + 1) ((mvd fs (i + 1) (fn)) i)))] := hD
                  have eg : iu (mvd fs (i + 1) (fn)) (i + 1) ((mvd fs (i + 1) (fn)) i) = mvd fs i (fn) := mvd_s fs (by omega)
                  rw [eg] at hP hD
                  clear eg
                  refine w_iinc (k := 5) (lv' := [(5, .int (J ((i : Nat) : Int))), (0, .ref o), (1, .int (J ((en : Nat) : Int))), (2, .int (J z)), (3, .int (J ((k : Nat) : Int))), (4, .int (J ((q : Nat) : Int)))]) hx hb d_Mo_come_106 hl rfl ((i : Nat) : Int) (by omega) (by decide) rfl (fun ls hl => ?_)
                  refine lv_goto (tgt := 67) hx hb d_Mo_come_109 (by decide) ?_
                  exact ih_67 i (by omega) (by omega) (by omega) _ _ (P_map hP [0, 1, 2, 3] rfl) (hD.sub [0, 1, 2, 3] (by decide) rfl) hS ls (lv_sub hl [1, 2, 3, 4, 5, 0] rfl)
            rw [← mvd_0 fe (i := fn - 1) (n := fn) (by omega), ← mvd_0 fs (i := fn - 1) (n := fn) (by omega)] at hP hD
            exact lp_67 (((fn - 1) - q) + 1) (fn - 1) (by omega) (by omega) (Nat.lt_succ_self _) _ _ (P_map hP [0, 1, 2, 3] rfl) (hD.sub [0, 1, 2, 3] (by decide) rfl) hS ls (lv_sub hl [1, 2, 3, 4, 5, 0] rfl)
          · exfalso; omega
        · exfalso; omega
      · obtain ⟨i, rfl⟩ : ∃ i : Nat, j = i + 1 := ⟨j - 1, by omega⟩
        refine lv_aload_n hx hb d_Mo_come_11 rfl (lv_at hl 0 rfl) ?_
        refine lv_iload_n hx hb d_Mo_come_12 rfl (lv_at hl 1 rfl) ?_
        refine lv_iload_n hx hb d_Mo_come_13 rfl (lv_at hl 2 rfl) ?_
        refine lv_iload hx hb d_Mo_come_14 (lv_at hl 4 rfl) ?_
        refine lv_iconst (v := J (1)) hx hb d_Mo_come_16 rfl ?_
        refine w_isub hx hb d_Mo_come_17 ((i : Nat) : Int) (by omega) ?_
        refine Ri_call (va_runV (As := [.int (J ((en : Nat) : Int)), .int (J z), .int (J ((i : Nat) : Int))]) (rest := []) ⟨hx, hb, hml, hown, hts⟩ (c_Mo_isBefore l D cI cZ cJ o p1 p2 p3 p4 p5 p6 p7 p8 p9 pA pB pC th n ap fn wk dy fe fs en z i (by first | with_reducible assumption | omega) (by first | with_reducible assumption | omega) (by first | with_reducible assumption | omega) (by first | with_reducible assumption | omega) (hfe i (by omega)) (by first | with_reducible assumption | omega)) (cwV 3 hts (g_V mw_696 mw_698 mw_23 mw_33 mw_699) rfl rfl rfl (by decide +kernel) ⟨Nat.le_of_ble_eq_true rfl, Nat.le_of_ble_eq_true rfl⟩) (pre_RV hP hK [0, 1, 2, 3] rfl 8 0 rfl rfl) rfl rfl hl.1 rfl (lv_room (Nat.le_of_ble_eq_true rfl)) d_Mo_come_18 ⟨Nat.le_of_ble_eq_true rfl, Nat.le_of_ble_eq_true rfl⟩) ?_
        refine w_if_eq (tgt := 30) hx hb d_Mo_come_21 (by decide) (rg_b2) (fun c_21 => ?_) (fun c_21 => ?_)
        · have c_21 := b2_0.mp c_21
          have e9 : q = i + 1 := by rw [← hqn, hps, psn, if_neg c_21]
          rw [← e9] at hl
          refine lv_iload hx hb d_Mo_come_30 (lv_at hl 4 rfl) ?_
          refine lv_iload_n hx hb d_Mo_come_32 rfl (lv_at hl 3 rfl) ?_
          refine w_icmp_ne (tgt := 37) hx hb d_Mo_come_33 (by decide) (by omega) (by omega) (fun c_33 => ?_) (fun c_33 => ?_)
          · refine lv_aload_n hx hb d_Mo_come_37 rfl (lv_at hl 0 rfl) ?_
            refine lv_aload_n hx hb d_Mo_come_38 rfl (lv_at hl 0 rfl) ?_
            refine va_get (D := D) (ci := 8) (v := .int (J ((fn : Nat) : Int))) (C := R_Mo) (T := T_Mo) (N := 17) hx hb hts i_Mo hown hK hP 0 rfl rfl 10 (by decide) (hts _ mw_561) (fun _ h9 => h9) rfl d_Mo_come_39 ?_
            refine lv_iload_n hx hb d_Mo_come_42 rfl (lv_at hl 3 rfl) ?_
            refine w_icmp_ge (tgt := 55) hx hb d_Mo_come_43 (by decide) (by omega) (by omega) (fun c_43 => ?_) (fun c_43 => ?_)
            · refine lv_iload_n hx hb d_Mo_come_55 rfl (lv_at hl 3 rfl) ?_
              have ek : ((k : Nat) : Int) = ((fn : Nat) : Int) := by omega
              refine tp_J (y := ((fn : Nat) : Int)) ek ?_
              refine va_put (D := D) (ci := 8) (v := .int (J ((fn : Nat) : Int))) (ty := .int) (C := R_Mo) (T := T_Mo) (N := 17) hx hb hts i_Mo t_Mo k_Mo n_Mo hown hK hP hD hS 0 rfl rfl 10 (by decide) (hts _ mw_561) (fun _ h9 => h9) rfl (by decide +kernel) rfl rfl (Nat.le_of_ble_eq_true rfl) d_Mo_come_56 (fun H locs hP hD hS => ?_)
              have hP : va_P D classes [(o, .inr (8, [.int (J th), .int (J ((n : Nat) : Int)), .ref p1, .ref p2, .ref p3, .ref p4, .ref p5, .ref p6, .int (J ap), .ref p7, .int (J ((fn : Nat) : Int)), .ref p8, .ref p9, .int (J wk), .ref pA, .ref pB, .ref pC])), (p2, ca cI 40 dy), (p8, ca cI 40 fe), (p9, ca cI 40 fs)] H := hP
              have hD : va_D A [(o, .inr (8, [.int (J th), .int (J ((n : Nat) : Int)), .ref p1, .ref p2, .ref p3, .ref p4, .ref p5, .ref p6, .int (J ap), .ref p7, .int (J ((fn : Nat) : Int)), .ref p8, .ref p9, .int (J wk), .ref pA, .ref pB, .ref pC])), (p2, ca cI 40 dy), (p8, ca cI 40 fe), (p9, ca cI 40 fs)] := hD
              refine lv_aload_n hx hb d_Mo_come_59 rfl (lv_at hl 0 rfl) ?_
              refine va_get (D := D) (ci := 8) (v := .int (J ((fn : Nat) : Int))) (C := R_Mo) (T := T_Mo) (N := 17) hx hb hts i_Mo hown hK hP 0 rfl rfl 10 (by decide) (hts _ mw_561) (fun _ h9 => h9) rfl d_Mo_come_60 ?_
              refine lv_iconst (v := J (1)) hx hb d_Mo_come_63 rfl ?_
              refine w_isub hx hb d_Mo_come_64 ((fn - 1 : Nat) : Int) (by omega) ?_
              refine lv_istore (lv' := [(5, .int (J ((fn - 1 : Nat) : Int))), (0, .ref o), (1, .int (J ((en : Nat) : Int))), (2, .int (J z)), (3, .int (J ((k : Nat) : Int))), (4, .int (J ((q : Nat) : Int)))]) hx hb d_Mo_come_65 hl (by decide) rfl (fun ls hl => ?_)
              have lp_67 : ∀ (fu : Nat) (j : Nat), (q ≤ j) → (j < fn) → (j - q) < fu → ∀ (H : Heap) (locs : List Loc), va_P D classes [(o, .inr (8, [.int (J th), .int (J ((n : Nat) : Int)), .ref p1, .ref p2, .ref p3, .ref p4, .ref p5, .ref p6, .int (J ap), .ref p7, .int (J ((fn : Nat) : Int)), .ref p8, .ref p9, .int (J wk), .ref pA, .ref pB, .ref pC])), (p2, ca cI 40 dy), (p8, ca cI 40 (mvd fe j (fn))), (p9, ca cI 40 (mvd fs j (fn)))] H → va_D A [(o, .inr (8, [.int (J th), .int (J ((n : Nat) : Int)), .ref p1, .ref p2, .ref p3, .ref p4, .ref p5, .ref p6, .int (J ap), .ref p7, .int (J ((fn : Nat) : Int)), .ref p8, .ref p9, .int (J wk), .ref pA, .ref pB, .ref pC])), (p2, ca cI 40 dy), (p8, ca cI 40 (mvd fe j (fn))), (p9, ca cI 40 (mvd fs j (fn)))] → va_S A s.heap H locs → ∀ ls : Array Slot, lv_has ls 6 [(0, .ref o), (1, .int (J ((en : Nat) : Int))), (2, .int (J z)), (3, .int (J ((k : Nat) : Int))), (4, .int (J ((q : Nat) : Int))), (5, .int (J ((j : Nat) : Int)))] → W p l e ({ frames := 1, cells := 0, slots := 0, locals := 24 }) s m args below meth c H locs 0 0 Q (F0 m 67 ls []) := by
                intro fu
                induction fu with
                | zero => intro j hj hj2 hfu; exact absurd hfu (Nat.not_lt_zero _)
                | succ fu ih_67 =>
                  intro j hj hj2 hfu H locs hP hD hS ls hl
                  refine lv_iload hx hb d_Mo_come_67 (lv_at hl 5 rfl) ?_
                  refine lv_iload hx hb d_Mo_come_69 (lv_at hl 4 rfl) ?_
                  refine w_icmp_le (tgt := 112) hx hb d_Mo_come_71 (by decide) (by omega) (by omega) (fun c_71 => ?_) (fun c_71 => ?_)
                  · obtain rfl : q = j := by omega
                    refine lv_aload_n hx hb d_Mo_come_112 rfl (lv_at hl 0 rfl) ?_
                    refine va_get (D := D) (ci := 8) (v := .ref p8) (C := R_Mo) (T := T_Mo) (N := 17) hx hb hts i_Mo hown hK hP 0 rfl rfl 11 (by decide) (hts _ mw_562) (fun _ h9 => h9) rfl d_Mo_come_113 ?_
                    refine lv_iload hx hb d_Mo_come_116 (lv_at hl 4 rfl) ?_
                    refine lv_iload_n hx hb d_Mo_come_118 rfl (lv_at hl 1 rfl) ?_
                    refine w_iast hx hb hK hP hD hS 2 0 rfl rfl q (by omega) (by omega) (by omega) d_Mo_come_119 (fun H locs hP hD hS => ?_)
                    have hP : va_P D classes [(o, .inr (8, [.int (J th), .int (J ((n : Nat) : Int)), .ref p1, .ref p2, .ref p3, .ref p4, .ref p5, .ref p6, .int (J ap), .ref p7, .int (J ((fn : Nat) : Int)), .ref p8, .ref p9, .int (J wk), .ref pA, .ref pB, .ref pC])), (p2, ca cI 40 dy), (p8, ca cI 40 (iu (mvd fe q (fn)) q ((en : Nat) : Int))), (p9, ca cI 40 (mvd fs q (fn)))] H := hP
                    have hD : va_D A [(o, .inr (8, [.int (J th), .int (J ((n : Nat) : Int)), .ref p1, .ref p2, .ref p3, .ref p4, .ref p5, .ref p6, .int (J ap), .ref p7, .int (J ((fn : Nat) : Int)), .ref p8, .ref p9, .int (J wk), .ref pA, .ref pB, .ref pC])), (p2, ca cI 40 dy), (p8, ca cI 40 (iu (mvd fe q (fn)) q ((en : Nat) : Int))), (p9, ca cI 40 (mvd fs q (fn)))] := hD
                    have eg : iu (mvd fe q (fn)) q ((en : Nat) : Int) = ins fe q fn ((en : Nat) : Int) := mvd_e fe (by omega) _
                    rw [eg] at hP hD
                    clear eg
                    refine lv_aload_n hx hb d_Mo_come_120 rfl (lv_at hl 0 rfl) ?_
                    refine va_get (D := D) (ci := 8) (v := .ref p9) (C := R_Mo) (T := T_Mo) (N := 17) hx hb hts i_Mo hown hK hP 0 rfl rfl 12 (by decide) (hts _ mw_563) (fun _ h9 => h9) rfl d_Mo_come_121 ?_
                    refine lv_iload hx hb d_Mo_come_124 (lv_at hl 4 rfl) ?_
                    refine lv_iload_n hx hb d_Mo_come_126 rfl (lv_at hl 2 rfl) ?_
                    refine w_iast hx hb hK hP hD hS 3 0 rfl rfl q (by omega) (by omega) (by omega) d_Mo_come_127 (fun H locs hP hD hS => ?_)
                    have hP : va_P D classes [(o, .inr (8, [.int (J th), .int (J ((n : Nat) : Int)), .ref p1, .ref p2, .ref p3, .ref p4, .ref p5, .ref p6, .int (J ap), .ref p7, .int (J ((fn : Nat) : Int)), .ref p8, .ref p9, .int (J wk), .ref pA, .ref pB, .ref pC])), (p2, ca cI 40 dy), (p8, ca cI 40 (ins fe q fn ((en : Nat) : Int))), (p9, ca cI 40 (iu (mvd fs q (fn)) q z))] H := hP
                    have hD : va_D A [(o, .inr (8, [.int (J th), .int (J ((n : Nat) : Int)), .ref p1, .ref p2, .ref p3, .ref p4, .ref p5, .ref p6, .int (J ap), .ref p7, .int (J ((fn : Nat) : Int)), .ref p8, .ref p9, .int (J wk), .ref pA, .ref pB, .ref pC])), (p2, ca cI 40 dy), (p8, ca cI 40 (ins fe q fn ((en : Nat) : Int))), (p9, ca cI 40 (iu (mvd fs q (fn)) q z))] := hD
                    have eg : iu (mvd fs q (fn)) q z = ins fs q fn z := mvd_e fs (by omega) z
                    rw [eg] at hP hD
                    clear eg
                    exact Mv_ret hx hb hr hlocks hQ d_Mo_come_128 hP hK hD hS () (trivial) [0, 1, 2, 3] rfl (by decide)
                  · obtain ⟨i, rfl⟩ : ∃ i : Nat, j = i + 1 := ⟨j - 1, by omega⟩
                    refine lv_aload_n hx hb d_Mo_come_74 rfl (lv_at hl 0 rfl) ?_
                    refine va_get (D := D) (ci := 8) (v := .ref p8) (C := R_Mo) (T := T_Mo) (N := 17) hx hb hts i_Mo hown hK hP 0 rfl rfl 11 (by decide) (hts _ mw_562) (fun _ h9 => h9) rfl d_Mo_come_75 ?_
                    refine lv_iload hx hb d_Mo_come_78 (lv_at hl 5 rfl) ?_
                    refine lv_aload_n hx hb d_Mo_come_80 rfl (lv_at hl 0 rfl) ?_
                    refine va_get (D := D) (ci := 8) (v := .ref p8) (C := R_Mo) (T := T_Mo) (N := 17) hx hb hts i_Mo hown hK hP 0 rfl rfl 11 (by decide) (hts _ mw_562) (fun _ h9 => h9) rfl d_Mo_come_81 ?_
                    refine lv_iload hx hb d_Mo_come_84 (lv_at hl 5 rfl) ?_
                    refine lv_iconst (v := J (1)) hx hb d_Mo_come_86 rfl ?_
                    refine w_isub hx hb d_Mo_come_87 ((i : Nat) : Int) (by omega) ?_
                    refine w_iald hx hb hK hP 2 0 rfl rfl i (by omega) (by omega) (by omega) d_Mo_come_88 ?_
                    refine w_iast hx hb hK hP hD hS 2 0 rfl rfl (i + 1) (by omega) (by omega) (by omega) d_Mo_come_89 (fun H locs hP hD hS => ?_)
                    have hP : va_P D classes [(o, .inr (8, [.int (J th), .int (J ((n : Nat) : Int)), .ref p1, .ref p2, .ref p3, .ref p4, .ref p5, .ref p6, .int (J ap), .ref p7, .int (J ((fn : Nat) : Int)), .ref p8, .ref p9, .int (J wk), .ref pA, .ref pB, .ref pC])), (p2, ca cI 40 dy), (p8, ca cI 40 (iu (mvd fe (i + 1) (fn)) (i + 1) ((mvd fe (i + 1) (fn)) i))), (p9, ca cI 40 (mvd fs (i + 1) (fn)))] H := hP
                    have hD : va_D A [(o, .inr (8, [.int (J th), .int (J ((n : Nat) : Int)), .ref p1, .ref p2, .ref p3, .ref p4, .ref p5, .ref p6, .int (J ap), .ref p7, .int (J ((fn : Nat) : Int)), .ref p8, .ref p9, .int (J wk), .ref pA, .ref pB, .ref pC])), (p2, ca cI 40 dy), (p8, ca cI 40 (iu (mvd fe (i + 1) (fn)) (i + 1) ((mvd fe (i + 1) (fn)) i))), (p9, ca cI 40 (mvd fs (i + 1) (fn)))] := hD
                    have eg : iu (mvd fe (i + 1) (fn)) (i + 1) ((mvd fe (i + 1) (fn)) i) = mvd fe i (fn) := mvd_s fe (by omega)
                    rw [eg] at hP hD
                    clear eg
                    refine lv_aload_n hx hb d_Mo_come_90 rfl (lv_at hl 0 rfl) ?_
                    refine va_get (D := D) (ci := 8) (v := .ref p9) (C := R_Mo) (T := T_Mo) (N := 17) hx hb hts i_Mo hown hK hP 0 rfl rfl 12 (by decide) (hts _ mw_563) (fun _ h9 => h9) rfl d_Mo_come_91 ?_
                    refine lv_iload hx hb d_Mo_come_94 (lv_at hl 5 rfl) ?_
                    refine lv_aload_n hx hb d_Mo_come_96 rfl (lv_at hl 0 rfl) ?_
                    refine va_get (D := D) (ci := 8) (v := .ref p9) (C := R_Mo) (T := T_Mo) (N := 17) hx hb hts i_Mo hown hK hP 0 rfl rfl 12 (by decide) (hts _ mw_563) (fun _ h9 => h9) rfl d_Mo_come_97 ?_
                    refine lv_iload hx hb d_Mo_come_100 (lv_at hl 5 rfl) ?_
                    refine lv_iconst (v := J (1)) hx hb d_Mo_come_102 rfl ?_
                    refine w_isub hx hb d_Mo_come_103 ((i : Nat) : Int) (by omega) ?_
                    refine w_iald hx hb hK hP 3 0 rfl rfl i (by omega) (by omega) (by omega) d_Mo_come_104 ?_
                    refine w_iast hx hb hK hP hD hS 3 0 rfl rfl (i + 1) (by omega) (by omega) (by omega) d_Mo_come_105 (fun H locs hP hD hS => ?_)
                    have hP : va_P D classes [(o, .inr (8, [.int (J th), .int (J ((n : Nat) : Int)), .ref p1, .ref p2, .ref p3, .ref p4, .ref p5, .ref p6, .int (J ap), .ref p7, .int (J ((fn : Nat) : Int)), .ref p8, .ref p9, .int (J wk), .ref pA, .ref pB, .ref pC])), (p2, ca cI 40 dy), (p8, ca cI 40 (mvd fe i (fn))), (p9, ca cI 40 (iu (mvd fs (i + 1) (fn)) (i + 1) ((mvd fs (i + 1) (fn)) i)))] H := hP
                    have hD : va_D A [(o, .inr (8, [.int (J th), .int (J ((n : Nat) : Int)), .ref p1, .ref p2, .ref p3, .ref p4, .ref p5, .ref p6, .int (J ap), .ref p7, .int (J ((fn : Nat) : Int)), .ref p8, .ref p9, .int (J wk), .ref pA, .ref pB, .ref pC])), (p2, ca cI 40 dy), (p8, ca cI 40 (mvd fe i (fn))), (p9, ca cI 40 (iu (mvd fs (i + 1) (fn)) (i + 1) ((mvd fs (i + 1) (fn)) i)))] := hD
                    have eg : iu (mvd fs (i + 1) (fn)) (i + 1) ((mvd fs (i + 1) (fn)) i) = mvd fs i (fn) := mvd_s fs (by omega)
                    rw [eg] at hP hD
                    clear eg
                    refine w_iinc (k := 5) (lv' := [(5, .int (J ((i : Nat) : Int))), (0, .ref o), (1, .int (J ((en : Nat) : Int))), (2, .int (J z)), (3, .int (J ((k : Nat) : Int))), (4, .int (J ((q : Nat) : Int)))]) hx hb d_Mo_come_106 hl rfl ((i : Nat) : Int) (by omega) (by decide) rfl (fun ls hl => ?_)
                    refine lv_goto (tgt := 67) hx hb d_Mo_come_109 (by decide) ?_
                    exact ih_67 i (by omega) (by omega) (by omega) _ _ (P_map hP [0, 1, 2, 3] rfl) (hD.sub [0, 1, 2, 3] (by decide) rfl) hS ls (lv_sub hl [1, 2, 3, 4, 5, 0] rfl)
              rw [← mvd_0 fe (i := fn - 1) (n := fn) (by omega), ← mvd_0 fs (i := fn - 1) (n := fn) (by omega)] at hP hD
              exact lp_67 (((fn - 1) - q) + 1) (fn - 1) (by omega) (by omega) (Nat.lt_succ_self _) _ _ (P_map hP [0, 1, 2, 3] rfl) (hD.sub [0, 1, 2, 3] (by decide) rfl) hS ls (lv_sub hl [1, 2, 3, 4, 5, 0] rfl)
            · exfalso; omega
          · exfalso; omega
        · have c_21 := b2_n0.mp c_21
          refine w_iinc (k := 4) (lv' := [(4, .int (J ((i : Nat) : Int))), (0, .ref o), (1, .int (J ((en : Nat) : Int))), (2, .int (J z)), (3, .int (J ((k : Nat) : Int)))]) hx hb d_Mo_come_24 hl rfl ((i : Nat) : Int) (by omega) (by decide) rfl (fun ls hl => ?_)
          refine lv_goto (tgt := 6) hx hb d_Mo_come_27 (by decide) ?_
          exact ih_6 i (by omega) (by rw [hps, psn, if_pos c_21]) (by omega) _ _ (P_map hP [0, 1, 2, 3] rfl) (hD.sub [0, 1, 2, 3] (by decide) rfl) hS ls (lv_sub hl [1, 2, 3, 4, 0] rfl)
  exact lp_6 (fn + 1) fn (by omega) (rfl) (Nat.lt_succ_self _) _ _ (P_map hP [0, 1, 2, 3] rfl) (hD.sub [0, 1, 2, 3] (by decide) rfl) hS ls (lv_sub hl [1, 2, 3, 4, 0] rfl)
