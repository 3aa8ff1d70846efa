/-- the table of changes, filled up to row i and place j -/
def tbl (f : Nat → Nat → Int) (sp : Nat → Int) (i j m : Nat) : Prop := ∀ a b : Nat, b ≤ m → (a < i ∨ (a = i ∧ b < j)) → sp (11 * a + b) = f a b
theorem tbl_s {f : Nat → Nat → Int} {sp : Nat → Int} {i j m : Nat} (h : tbl f sp i j m) (hm : m ≤ 10) (hj : j ≤ m) {v : Int} (hv : v = f i j) : tbl f (iu sp (11 * i + j) v) i (j + 1) m := by
  intro a b hb hab
  by_cases e : a = i ∧ b = j
  · obtain ⟨rfl, rfl⟩ := e
    rw [iu_s, hv]
  · rw [iu_n _ _ (by omega)]
    exact h a b hb (by omega)
theorem tbl_r {f : Nat → Nat → Int} {sp : Nat → Int} {i m : Nat} (h : tbl f sp i (m + 1) m) : tbl f sp (i + 1) 0 m := fun a b hb hab => h a b hb (by omega)
set_option maxHeartbeats 1000000 in
set_option maxRecDepth 100000 in
theorem c_Mo_change (l : Launch) (D : va_G) (cI cZ cJ : ClassId) (sz : Nat) (o : Nat) (p1 : Nat) (p2 : Nat) (p3 : Nat) (p4 : Nat) (p5 : Nat) (p6 : Nat) (p7 : Nat) (p8 : Nat) (p9 : Nat) (pA : Nat) (pB : Nat) (pC : Nat) (th : Int) (n : Nat) (ap : Int) (fn : Nat) (wk : Int) (ln : Nat → Int) (gl : Nat → Int) (wt : Nat → Int) (sp : Nat → Int) (fr : Nat) (tg : Nat) (hw : ∀ k, 0 ≤ wt k ∧ wt k ≤ 1000) (hln : ∀ k, 0 ≤ ln k ∧ ln k ≤ 10) (hgl : ∀ k, 0 ≤ gl k ∧ gl k < 26) (hft : fr < 123 ∧ tg < 123) : Mi l y_Mo_change w_Mo_change ({ frames := 2, cells := 0, slots := 0, locals := 43 }) false D classes [(cI, .int), (cZ, .boolean), (cJ, .long)] sz [.ref o, .int (J ((fr : Nat) : Int)), .int (J ((tg : Nat) : Int))] [(o, .inr (8, [.int (J th), .int (J ((n : Nat) : Int)), .ref p1, .ref p2, .ref p3, .ref p4, .ref p5, .ref p6, .int (J ap), .ref p7, .int (J ((fn : Nat) : Int)), .ref p8, .ref p9, .int (J wk), .ref pA, .ref pB, .ref pC])), (p5, ca cI 123 ln), (p6, ca cI 1230 gl), (p7, ca cI 6 wt), (pA, ca cI 121 sp)] (ed wt (fun t => gl (10 * fr + t)) (fun t => gl (10 * tg + t)) ((ln fr).toNat) ((ln tg).toNat)) (S := Nat → Int) (fun _ => True) (fun u : Nat → Int => [(o, .inr (8, [.int (J th), .int (J ((n : Nat) : Int)), .ref p1, .ref p2, .ref p3, .ref p4, .ref p5, .ref p6, .int (J ap), .ref p7, .int (J ((fn : Nat) : Int)), .ref p8, .ref p9, .int (J wk), .ref pA, .ref pB, .ref pC])), (p5, ca cI 123 ln), (p6, ca cI 1230 gl), (p7, ca cI 6 wt), (pA, ca cI 121 u)]) 0 0 := by
  refine Mi_of (cc := b_Mo_change) (maxL := 6) (by decide) rfl (Nat.le_of_ble_eq_true rfl) ?_
  intro p e s m args below meth c hx hb hr hml hts hown hlocks A hA hP hK hD hT hS Q hQ H hH ls hl
  subst hH
  have hl : lv_has ls 6 [(0, .ref o), (1, .int (J ((fr : Nat) : Int))), (2, .int (J ((tg : Nat) : Int)))] := hl
  have l1 := hln fr
  have l2 := hln tg
  have w0 := hw 0
  have w1 := hw 1
  refine lv_iconst (v := J (0)) hx hb d_Mo_change_0 rfl ?_
  refine lv_istore_n (lv' := [(3, .int (J 0)), (0, .ref o), (1, .int (J ((fr : Nat) : Int))), (2, .int (J ((tg : Nat) : Int)))]) hx hb d_Mo_change_1 rfl hl (by decide) rfl (fun ls hl => ?_)
  have lp_2 : ∀ (fu : Nat) (i : Nat) (xp : Nat → Int), (i ≤ (ln fr).toNat + 1) → (tbl (ed wt (fun t => gl (10 * fr + t)) (fun t => gl (10 * tg + t))) xp i 0 (ln tg).toNat) → ((ln fr).toNat + 1 - i) < fu → ∀ (H : Heap) (locs : List Loc), va_P D classes [(o, .inr (8, [.int (J th), .int (J ((n : Nat) : Int)), .ref p1, .ref p2, .ref p3, .ref p4, .ref p5, .ref p6, .int (J ap), .ref p7, .int (J ((fn : Nat) : Int)), .ref p8, .ref p9, .int (J wk), .ref pA, .ref pB, .ref pC])), (p5, ca cI 123 ln), (p6, ca cI 1230 gl), (p7, ca cI 6 wt), (pA, ca cI 121 xp)] H → va_D A [(o, .inr (8, [.int (J th), .int (J ((n : Nat) : Int)), .ref p1, .ref p2, .ref p3, .ref p4, .ref p5, .ref p6, .int (J ap), .ref p7, .int (J ((fn : Nat) : Int)), .ref p8, .ref p9, .int (J wk), .ref pA, .ref pB, .ref pC])), (p5, ca cI 123 ln), (p6, ca cI 1230 gl), (p7, ca cI 6 wt), (pA, ca cI 121 xp)] → va_S A s.heap H locs → ∀ ls : Array Slot, lv_has ls 6 [(0, .ref o), (1, .int (J ((fr : Nat) : Int))), (2, .int (J ((tg : Nat) : Int))), (3, .int (J ((i : Nat) : Int)))] → W p l e ({ frames := 2, cells := 0, slots := 0, locals := 43 }) s m args below meth c H locs 0 0 Q (F0 m 2 ls []) := by
    intro fu
    induction fu with
    | zero => intro i xp hi ht hfu; exact absurd hfu (Nat.not_lt_zero _)
    | succ fu ih_2 =>
      intro i xp hi ht hfu H locs hP hD hS ls hl
      refine lv_iload_n hx hb d_Mo_change_2 rfl (lv_at hl 3 rfl) ?_
      refine lv_aload_n hx hb d_Mo_change_3 rfl (lv_at hl 0 rfl) ?_
      refine va_get (D := D) (ci := 8) (v := .ref p5) (C := R_Mo) (T := T_Mo) (N := 17) hx hb hts i_Mo hown hK hP 0 rfl rfl 6 (by decide) (hts _ mw_557) (fun _ h9 => h9) rfl d_Mo_change_4 ?_
      refine lv_iload_n hx hb d_Mo_change_7 rfl (lv_at hl 1 rfl) ?_
      refine w_iald hx hb hK hP 1 0 rfl rfl fr (by omega) (by omega) (by omega) d_Mo_change_8 ?_
      refine tp_J (y := (((ln fr).toNat : Nat) : Int)) (by omega) ?_
      refine w_icmp_gt (tgt := 198) hx hb d_Mo_change_9 (by decide) (by omega) (by omega) (fun c_9 => ?_) (fun c_9 => ?_)
      · obtain rfl : i = (ln fr).toNat + 1 := by omega
        refine lv_aload_n hx hb d_Mo_change_198 rfl (lv_at hl 0 rfl) ?_
        refine va_get (D := D) (ci := 8) (v := .ref pA) (C := R_Mo) (T := T_Mo) (N := 17) hx hb hts i_Mo hown hK hP 0 rfl rfl 14 (by decide) (hts _ mw_565) (fun _ h9 => h9) rfl d_Mo_change_199 ?_
        refine lv_bipush (v := J (11)) hx hb d_Mo_change_202 (by decide) ?_
        refine lv_aload_n hx hb d_Mo_change_204 rfl (lv_at hl 0 rfl) ?_
        refine va_get (D := D) (ci := 8) (v := .ref p5) (C := R_Mo) (T := T_Mo) (N := 17) hx hb hts i_Mo hown hK hP 0 rfl rfl 6 (by decide) (hts _ mw_557) (fun _ h9 => h9) rfl d_Mo_change_205 ?_
        refine lv_iload_n hx hb d_Mo_change_208 rfl (lv_at hl 1 rfl) ?_
        refine w_iald hx hb hK hP 1 0 rfl rfl fr (by omega) (by omega) (by omega) d_Mo_change_209 ?_
        refine tp_J (y := (((ln fr).toNat : Nat) : Int)) (by omega) ?_
        refine w_imul hx hb d_Mo_change_210 ((11 * (ln fr).toNat : Nat) : Int) (by omega) ?_
        refine lv_aload_n hx hb d_Mo_change_211 rfl (lv_at hl 0 rfl) ?_
        refine va_get (D := D) (ci := 8) (v := .ref p5) (C := R_Mo) (T := T_Mo) (N := 17) hx hb hts i_Mo hown hK hP 0 rfl rfl 6 (by decide) (hts _ mw_557) (fun _ h9 => h9) rfl d_Mo_change_212 ?_
        refine lv_iload_n hx hb d_Mo_change_215 rfl (lv_at hl 2 rfl) ?_
        refine w_iald hx hb hK hP 1 0 rfl rfl tg (by omega) (by omega) (by omega) d_Mo_change_216 ?_
        refine tp_J (y := (((ln tg).toNat : Nat) : Int)) (by omega) ?_
        refine w_iadd hx hb d_Mo_change_217 ((11 * (ln fr).toNat + (ln tg).toNat : Nat) : Int) (by omega) ?_
        refine w_iald hx hb hK hP 4 0 rfl rfl (11 * (ln fr).toNat + (ln tg).toNat) (by omega) (by omega) (by omega) d_Mo_change_218 ?_
        refine tp_J (y := ed wt (fun t => gl (10 * fr + t)) (fun t => gl (10 * tg + t)) ((ln fr).toNat) ((ln tg).toNat)) (ht _ _ (Nat.le_refl _) (by omega)) ?_
        exact Mi_ret hx hb hr hlocks hQ d_Mo_change_219 hP hK hD hS nb_i (rfl) xp (trivial) [0, 1, 2, 3, 4] rfl (by decide)
      · refine lv_iconst (v := J (0)) hx hb d_Mo_change_12 rfl ?_
        refine lv_istore (lv' := [(4, .int (J 0)), (0, .ref o), (1, .int (J ((fr : Nat) : Int))), (2, .int (J ((tg : Nat) : Int))), (3, .int (J ((i : Nat) : Int)))]) hx hb d_Mo_change_13 hl (by decide) rfl (fun ls hl => ?_)
        have lp_15 : ∀ (fu : Nat) (j : Nat) (yp : Nat → Int), (j ≤ (ln tg).toNat + 1) → (tbl (ed wt (fun t => gl (10 * fr + t)) (fun t => gl (10 * tg + t))) yp i j (ln tg).toNat) → ((ln tg).toNat + 1 - j) < fu → ∀ (H : Heap) (locs : List Loc), va_P D classes [(o, .inr (8, [.int (J th), .int (J ((n : Nat) : Int)), .ref p1, .ref p2, .ref p3, .ref p4, .ref p5, .ref p6, .int (J ap), .ref p7, .int (J ((fn : Nat) : Int)), .ref p8, .ref p9, .int (J wk), .ref pA, .ref pB, .ref pC])), (p5, ca cI 123 ln), (p6, ca cI 1230 gl), (p7, ca cI 6 wt), (pA, ca cI 121 yp)] H → va_D A [(o, .inr (8, [.int (J th), .int (J ((n : Nat) : Int)), .ref p1, .ref p2, .ref p3, .ref p4, .ref p5, .ref p6, .int (J ap), .ref p7, .int (J ((fn : Nat) : Int)), .ref p8, .ref p9, .int (J wk), .ref pA, .ref pB, .ref pC])), (p5, ca cI 123 ln), (p6, ca cI 1230 gl), (p7, ca cI 6 wt), (pA, ca cI 121 yp)] → va_S A s.heap H locs → ∀ ls : Array Slot, lv_has ls 6 [(0, .ref o), (1, .int (J ((fr : Nat) : Int))), (2, .int (J ((tg : Nat) : Int))), (3, .int (J ((i : Nat) : Int))), (4, .int (J ((j : Nat) : Int)))] → W p l e ({ frames := 2, cells := 0, slots := 0, locals := 43 }) s m args below meth c H locs 0 0 Q (F0 m 15 ls []) := by
          intro fu
          induction fu with
          | zero => intro j yp hj ht2 hfu; exact absurd hfu (Nat.not_lt_zero _)
          | succ fu ih_15 =>
            intro j yp hj ht2 hfu H locs hP hD hS ls hl
            refine lv_iload hx hb d_Mo_change_15 (lv_at hl 4 rfl) ?_
            refine lv_aload_n hx hb d_Mo_change_17 rfl (lv_at hl 0 rfl) ?_
            refine va_get (D := D) (ci := 8) (v := .ref p5) (C := R_Mo) (T := T_Mo) (N := 17) hx hb hts i_Mo hown hK hP 0 rfl rfl 6 (by decide) (hts _ mw_557) (fun _ h9 => h9) rfl d_Mo_change_18 ?_
            refine lv_iload_n hx hb d_Mo_change_21 rfl (lv_at hl 2 rfl) ?_
            refine w_iald hx hb hK hP 1 0 rfl rfl tg (by omega) (by omega) (by omega) d_Mo_change_22 ?_
            refine tp_J (y := (((ln tg).toNat : Nat) : Int)) (by omega) ?_
            refine w_icmp_gt (tgt := 192) hx hb d_Mo_change_23 (by decide) (by omega) (by omega) (fun c_23 => ?_) (fun c_23 => ?_)
            · obtain rfl : j = (ln tg).toNat + 1 := by omega
              refine w_iinc (k := 3) (lv' := [(3, .int (J ((i + 1 : Nat) : Int))), (0, .ref o), (1, .int (J ((fr : Nat) : Int))), (2, .int (J ((tg : Nat) : Int))), (4, .int (J ((((ln tg).toNat + 1) : Nat) : Int)))]) hx hb d_Mo_change_192 hl rfl ((i + 1 : Nat) : Int) (by omega) (by decide) rfl (fun ls hl => ?_)
              refine lv_goto (tgt := 2) hx hb d_Mo_change_195 (by decide) ?_
              exact ih_2 (i + 1) yp (by omega) (tbl_r ht2) (by omega) _ _ (P_map hP [0, 1, 2, 3, 4] rfl) (hD.sub [0, 1, 2, 3, 4] (by decide) rfl) hS ls (lv_sub hl [1, 2, 3, 0] rfl)
            · rcases Nat.eq_zero_or_pos i with rfl | hi0
              · rcases Nat.eq_zero_or_pos j with rfl | hj0
                · refine lv_iload_n hx hb d_Mo_change_26 rfl (lv_at hl 3 rfl) ?_
                  refine w_if_ne (tgt := 39) hx hb d_Mo_change_27 (by decide) (by omega) (fun c_27 => ?_) (fun c_27 => ?_)
                  · exfalso; omega
                  · refine lv_iload hx hb d_Mo_change_30 (lv_at hl 4 rfl) ?_
                    refine w_if_ne (tgt := 39) hx hb d_Mo_change_32 (by decide) (by omega) (fun c_32 => ?_) (fun c_32 => ?_)
                    · exfalso; omega
                    · refine lv_iconst (v := J (0)) hx hb d_Mo_change_35 rfl ?_
                      refine lv_goto (tgt := 41) hx hb d_Mo_change_36 (by decide) ?_
                      refine lv_istore (lv' := [(5, .int (J 0)), (0, .ref o), (1, .int (J ((fr : Nat) : Int))), (2, .int (J ((tg : Nat) : Int))), (3, .int (J 0)), (4, .int (J 0))]) hx hb d_Mo_change_41 hl (by decide) rfl (fun ls hl => ?_)
                      refine lv_iload_n hx hb d_Mo_change_43 rfl (lv_at hl 4 rfl) ?_
                      refine w_if_le (tgt := 75) hx hb d_Mo_change_44 (by decide) (by omega) (fun c_44 => ?_) (fun c_44 => ?_)
                      · refine lv_iload hx hb d_Mo_change_75 (lv_at hl 5 rfl) ?_
                        refine w_if_le (tgt := 108) hx hb d_Mo_change_77 (by decide) (by omega) (fun c_77 => ?_) (fun c_77 => ?_)
                        · refine lv_iload_n hx hb d_Mo_change_108 rfl (lv_at hl 4 rfl) ?_
                          refine w_if_le (tgt := 172) hx hb d_Mo_change_109 (by decide) (by omega) (fun c_109 => ?_) (fun c_109 => ?_)
                          · have hbest : 0 = ed wt (fun t => gl (10 * fr + t)) (fun t => gl (10 * tg + t)) 0 0 := rfl
                            refine lv_aload_n hx hb d_Mo_change_172 rfl (lv_at hl 1 rfl) ?_
                            refine va_get (D := D) (ci := 8) (v := .ref pA) (C := R_Mo) (T := T_Mo) (N := 17) hx hb hts i_Mo hown hK hP 0 rfl rfl 14 (by decide) (hts _ mw_565) (fun _ h9 => h9) rfl d_Mo_change_173 ?_
                            refine lv_bipush (v := J (11)) hx hb d_Mo_change_176 (by decide) ?_
                            refine lv_iload_n hx hb d_Mo_change_178 rfl (lv_at hl 4 rfl) ?_
                            refine w_imul hx hb d_Mo_change_179 0 (by decide) ?_
                            refine lv_iload hx hb d_Mo_change_180 (lv_at hl 5 rfl) ?_
                            refine w_iadd hx hb d_Mo_change_182 ((11 * (0) + (0) : Nat) : Int) (by omega) ?_
                            refine lv_iload hx hb d_Mo_change_183 (lv_at hl 0 rfl) ?_
                            refine w_iast hx hb hK hP hD hS 4 0 rfl rfl (11 * (0) + (0)) (by omega) (by omega) (by omega) d_Mo_change_185 (fun H locs hP hD hS => ?_)
                            have hP : va_P D classes [(o, .inr (8, [.int (J th), .int (J ((n : Nat) : Int)), .ref p1, .ref p2, .ref p3, .ref p4, .ref p5, .ref p6, .int (J ap), .ref p7, .int (J ((fn : Nat) : Int)), .ref p8, .ref p9, .int (J wk), .ref pA, .ref pB, .ref pC])), (p5, ca cI 123 ln), (p6, ca cI 1230 gl), (p7, ca cI 6 wt), (pA, ca cI 121 (iu yp (11 * (0) + (0)) 0))] H := hP
                            have hD : va_D A [(o, .inr (8, [.int (J th), .int (J ((n : Nat) : Int)), .ref p1, .ref p2, .ref p3, .ref p4, .ref p5, .ref p6, .int (J ap), .ref p7, .int (J ((fn : Nat) : Int)), .ref p8, .ref p9, .int (J wk), .ref pA, .ref pB, .ref pC])), (p5, ca cI 123 ln), (p6, ca cI 1230 gl), (p7, ca cI 6 wt), (pA, ca cI 121 (iu yp (11 * (0) + (0)) 0))] := hD
                            refine w_iinc (k := 5) (lv' := [(4, .int (J 1)), (5, .int (J 0)), (0, .ref o), (1, .int (J ((fr : Nat) : Int))), (2, .int (J ((tg : Nat) : Int))), (3, .int (J 0))]) hx hb d_Mo_change_186 hl rfl 1 (by omega) (by decide) rfl (fun ls hl => ?_)
                            refine lv_goto (tgt := 15) hx hb d_Mo_change_189 (by decide) ?_
                            exact ih_15 1 (iu yp (11 * (0) + (0)) 0) (by omega) (tbl_s ht2 (by omega) (by omega) hbest) (by omega) _ _ (P_map hP [0, 1, 2, 3, 4] rfl) (hD.sub [0, 1, 2, 3, 4] (by decide) rfl) hS ls (lv_sub hl [2, 3, 4, 5, 0] rfl)
                          · exfalso; omega
                        · exfalso; omega
                      · exfalso; omega
                · obtain ⟨j, rfl⟩ : ∃ t : Nat, j = t + 1 := ⟨j - 1, by omega⟩
                  have t2 := ht2 (0) j (by omega) (by omega)
                  have e2 := ed_rg hw (fun t => gl (10 * fr + t)) (fun t => gl (10 * tg + t)) (0) j
                  refine lv_iload_n hx hb d_Mo_change_26 rfl (lv_at hl 3 rfl) ?_
                  refine w_if_ne (tgt := 39) hx hb d_Mo_change_27 (by decide) (by omega) (fun c_27 => ?_) (fun c_27 => ?_)
                  · exfalso; omega
                  · refine lv_iload hx hb d_Mo_change_30 (lv_at hl 4 rfl) ?_
                    refine w_if_ne (tgt := 39) hx hb d_Mo_change_32 (by decide) (by omega) (fun c_32 => ?_) (fun c_32 => ?_)
                    · refine lv_ldc (v := J (1000000)) hx hb hown (hts _ mw_673) d_Mo_change_39 ?_
                      refine lv_istore (lv' := [(5, .int (J 1000000)), (0, .ref o), (1, .int (J ((fr : Nat) : Int))), (2, .int (J ((tg : Nat) : Int))), (3, .int (J 0)), (4, .int (J ((j + 1 : Nat) : Int)))]) hx hb d_Mo_change_41 hl (by decide) rfl (fun ls hl => ?_)
                      refine lv_iload_n hx hb d_Mo_change_43 rfl (lv_at hl 4 rfl) ?_
                      refine w_if_le (tgt := 75) hx hb d_Mo_change_44 (by decide) (by omega) (fun c_44 => ?_) (fun c_44 => ?_)
                      · refine lv_iload hx hb d_Mo_change_75 (lv_at hl 5 rfl) ?_
                        refine w_if_le (tgt := 108) hx hb d_Mo_change_77 (by decide) (by omega) (fun c_77 => ?_) (fun c_77 => ?_)
                        · exfalso; omega
                        · refine lv_iload hx hb d_Mo_change_80 (lv_at hl 0 rfl) ?_
                          refine lv_aload_n hx hb d_Mo_change_82 rfl (lv_at hl 1 rfl) ?_
                          refine va_get (D := D) (ci := 8) (v := .ref pA) (C := R_Mo) (T := T_Mo) (N := 17) hx hb hts i_Mo hown hK hP 0 rfl rfl 14 (by decide) (hts _ mw_565) (fun _ h9 => h9) rfl d_Mo_change_83 ?_
                          refine lv_bipush (v := J (11)) hx hb d_Mo_change_86 (by decide) ?_
                          refine lv_iload_n hx hb d_Mo_change_88 rfl (lv_at hl 4 rfl) ?_
                          refine w_imul hx hb d_Mo_change_89 0 (by decide) ?_
                          refine lv_iload hx hb d_Mo_change_90 (lv_at hl 5 rfl) ?_
                          refine w_iadd hx hb d_Mo_change_92 ((0 + (j + 1) : Nat) : Int) (by omega) ?_
                          refine lv_iconst (v := J (1)) hx hb d_Mo_change_93 rfl ?_
                          refine w_isub hx hb d_Mo_change_94 ((11 * (0) + j : Nat) : Int) (by omega) ?_
                          refine w_iald hx hb hK hP 4 0 rfl rfl (11 * (0) + j) (by omega) (by omega) (by omega) d_Mo_change_95 ?_
                          refine tp_J (y := ed wt (fun t => gl (10 * fr + t)) (fun t => gl (10 * tg + t)) 0 j) (t2) ?_
                          refine lv_aload_n hx hb d_Mo_change_96 rfl (lv_at hl 1 rfl) ?_
                          refine va_get (D := D) (ci := 8) (v := .ref p7) (C := R_Mo) (T := T_Mo) (N := 17) hx hb hts i_Mo hown hK hP 0 rfl rfl 9 (by decide) (hts _ mw_560) (fun _ h9 => h9) rfl d_Mo_change_97 ?_
                          refine lv_iconst (v := J (0)) hx hb d_Mo_change_100 rfl ?_
                          refine w_iald hx hb hK hP 3 0 rfl rfl 0 (by omega) (by omega) (by omega) d_Mo_change_101 ?_
                          refine w_iadd hx hb d_Mo_change_102 ((ed wt (fun t => gl (10 * fr + t)) (fun t => gl (10 * tg + t)) 0 j) + (wt 0)) (rfl) ?_
                          refine Ri_call (va_runS (As := [.int (J 1000000), .int (J ((ed wt (fun t => gl (10 * fr + t)) (fun t => gl (10 * tg + t)) 0 j) + (wt 0)))]) (rest := []) ⟨hx, hb, hml, hown, hts⟩ (c_Mo_lesser l D cI cZ cJ 1000000 ((ed wt (fun t => gl (10 * fr + t)) (fun t => gl (10 * tg + t)) 0 j) + (wt 0)) (by first | with_reducible assumption | omega) (by first | with_reducible assumption | omega)) (va_cwS 2 hts (g_S mw_662 mw_663 mw_33 mw_664) rfl rfl rfl (by decide +kernel) ⟨Nat.le_of_ble_eq_true rfl, Nat.le_of_ble_eq_true rfl⟩) (pre_RS hP hK [] rfl) rfl rfl hl.1 rfl (lv_room (Nat.le_of_ble_eq_true rfl)) d_Mo_change_103 ⟨Nat.le_of_ble_eq_true rfl, Nat.le_of_ble_eq_true rfl⟩) ?_
                          refine lv_istore (lv' := [(5, .int (J (min 1000000 ((ed wt (fun t => gl (10 * fr + t)) (fun t => gl (10 * tg + t)) 0 j) + (wt 0))))), (0, .ref o), (1, .int (J ((fr : Nat) : Int))), (2, .int (J ((tg : Nat) : Int))), (3, .int (J 0)), (4, .int (J ((j + 1 : Nat) : Int)))]) hx hb d_Mo_change_106 hl (by decide) rfl (fun ls hl => ?_)
                          refine lv_iload_n hx hb d_Mo_change_108 rfl (lv_at hl 4 rfl) ?_
                          refine w_if_le (tgt := 172) hx hb d_Mo_change_109 (by decide) (by omega) (fun c_109 => ?_) (fun c_109 => ?_)
                          · have hbest : min 1000000 ((ed wt (fun t => gl (10 * fr + t)) (fun t => gl (10 * tg + t)) 0 j) + (wt 0)) = ed wt (fun t => gl (10 * fr + t)) (fun t => gl (10 * tg + t)) 0 (j + 1) := by show _ = ed0 wt j + wt 0; have e9 : ed wt (fun t => gl (10 * fr + t)) (fun t => gl (10 * tg + t)) 0 j = ed0 wt j := rfl; omega
                            refine lv_aload_n hx hb d_Mo_change_172 rfl (lv_at hl 1 rfl) ?_
                            refine va_get (D := D) (ci := 8) (v := .ref pA) (C := R_Mo) (T := T_Mo) (N := 17) hx hb hts i_Mo hown hK hP 0 rfl rfl 14 (by decide) (hts _ mw_565) (fun _ h9 => h9) rfl d_Mo_change_173 ?_
                            refine lv_bipush (v := J (11)) hx hb d_Mo_change_176 (by decide) ?_
                            refine lv_iload_n hx hb d_Mo_change_178 rfl (lv_at hl 4 rfl) ?_
                            refine w_imul hx hb d_Mo_change_179 0 (by decide) ?_
                            refine lv_iload hx hb d_Mo_change_180 (lv_at hl 5 rfl) ?_
                            refine w_iadd hx hb d_Mo_change_182 ((11 * (0) + (j + 1) : Nat) : Int) (by omega) ?_
                            refine lv_iload hx hb d_Mo_change_183 (lv_at hl 0 rfl) ?_
                            refine w_iast hx hb hK hP hD hS 4 0 rfl rfl (11 * (0) + (j + 1)) (by omega) (by omega) (by omega) d_Mo_change_185 (fun H locs hP hD hS => ?_)
                            have hP : va_P D classes [(o, .inr (8, [.int (J th), .int (J ((n : Nat) : Int)), .ref p1, .ref p2, .ref p3, .ref p4, .ref p5, .ref p6, .int (J ap), .ref p7, .int (J ((fn : Nat) : Int)), .ref p8, .ref p9, .int (J wk), .ref pA, .ref pB, .ref pC])), (p5, ca cI 123 ln), (p6, ca cI 1230 gl), (p7, ca cI 6 wt), (pA, ca cI 121 (iu yp (11 * (0) + (j + 1)) (min 1000000 ((ed wt (fun t => gl (10 * fr + t)) (fun t => gl (10 * tg + t)) 0 j) + (wt 0)))))] H := hP
                            have hD : va_D A [(o, .inr (8, [.int (J th), .int (J ((n : Nat) : Int)), .ref p1, .ref p2, .ref p3, .ref p4, .ref p5, .ref p6, .int (J ap), .ref p7, .int (J ((fn : Nat) : Int)), .ref p8, .ref p9, .int (J wk), .ref pA, .ref pB, .ref pC])), (p5, ca cI 123 ln), (p6, ca cI 1230 gl), (p7, ca cI 6 wt), (pA, ca cI 121 (iu yp (11 * (0) + (j + 1)) (min 1000000 ((ed wt (fun t => gl (10 * fr + t)) (fun t => gl (10 * tg + t)) 0 j) + (wt 0)))))] := hD
                            refine w_iinc (k := 5) (lv' := [(4, .int (J ((j + 1 + 1 : Nat) : Int))), (5, .int (J (min 1000000 ((ed wt (fun t => gl (10 * fr + t)) (fun t => gl (10 * tg + t)) 0 j) + (wt 0))))), (0, .ref o), (1, .int (J ((fr : Nat) : Int))), (2, .int (J ((tg : Nat) : Int))), (3, .int (J 0))]) hx hb d_Mo_change_186 hl rfl ((j + 1 + 1 : Nat) : Int) (by omega) (by decide) rfl (fun ls hl => ?_)
                            refine lv_goto (tgt := 15) hx hb d_Mo_change_189 (by decide) ?_
                            exact ih_15 (j + 1 + 1) (iu yp (11 * (0) + (j + 1)) (min 1000000 ((ed wt (fun t => gl (10 * fr + t)) (fun t => gl (10 * tg + t)) 0 j) + (wt 0)))) (by omega) (tbl_s ht2 (by omega) (by omega) hbest) (by omega) _ _ (P_map hP [0, 1, 2, 3, 4] rfl) (hD.sub [0, 1, 2, 3, 4] (by decide) rfl) hS ls (lv_sub hl [2, 3, 4, 5, 0] rfl)
                          · exfalso; omega
                      · exfalso; omega
                    · exfalso; omega
              · obtain ⟨i, rfl⟩ : ∃ t : Nat, i = t + 1 := ⟨i - 1, by omega⟩
                rcases Nat.eq_zero_or_pos j with rfl | hj0
                · have t1 := ht2 i (0) (by omega) (by omega)
                  have e1 := ed_rg hw (fun t => gl (10 * fr + t)) (fun t => gl (10 * tg + t)) i (0)
                  refine lv_iload_n hx hb d_Mo_change_26 rfl (lv_at hl 3 rfl) ?_
                  refine w_if_ne (tgt := 39) hx hb d_Mo_change_27 (by decide) (by omega) (fun c_27 => ?_) (fun c_27 => ?_)
                  · refine lv_ldc (v := J (1000000)) hx hb hown (hts _ mw_673) d_Mo_change_39 ?_
                    refine lv_istore (lv' := [(5, .int (J 1000000)), (0, .ref o), (1, .int (J ((fr : Nat) : Int))), (2, .int (J ((tg : Nat) : Int))), (3, .int (J ((i + 1 : Nat) : Int))), (4, .int (J 0))]) hx hb d_Mo_change_41 hl (by decide) rfl (fun ls hl => ?_)
                    refine lv_iload_n hx hb d_Mo_change_43 rfl (lv_at hl 4 rfl) ?_
                    refine w_if_le (tgt := 75) hx hb d_Mo_change_44 (by decide) (by omega) (fun c_44 => ?_) (fun c_44 => ?_)
                    · exfalso; omega
                    · refine lv_iload hx hb d_Mo_change_47 (lv_at hl 0 rfl) ?_
                      refine lv_aload_n hx hb d_Mo_change_49 rfl (lv_at hl 1 rfl) ?_
                      refine va_get (D := D) (ci := 8) (v := .ref pA) (C := R_Mo) (T := T_Mo) (N := 17) hx hb hts i_Mo hown hK hP 0 rfl rfl 14 (by decide) (hts _ mw_565) (fun _ h9 => h9) rfl d_Mo_change_50 ?_
                      refine lv_bipush (v := J (11)) hx hb d_Mo_change_53 (by decide) ?_
                      refine lv_iload_n hx hb d_Mo_change_55 rfl (lv_at hl 4 rfl) ?_
                      refine lv_iconst (v := J (1)) hx hb d_Mo_change_56 rfl ?_
                      refine w_isub hx hb d_Mo_change_57 ((i : Nat) : Int) (by omega) ?_
                      refine w_imul hx hb d_Mo_change_58 ((11 * i : Nat) : Int) (by omega) ?_
                      refine lv_iload hx hb d_Mo_change_59 (lv_at hl 5 rfl) ?_
                      refine w_iadd hx hb d_Mo_change_61 ((11 * i + (0) : Nat) : Int) (by omega) ?_
                      refine w_iald hx hb hK hP 4 0 rfl rfl (11 * i + (0)) (by omega) (by omega) (by omega) d_Mo_change_62 ?_
                      refine tp_J (y := ed wt (fun t => gl (10 * fr + t)) (fun t => gl (10 * tg + t)) i 0) (t1) ?_
                      refine lv_aload_n hx hb d_Mo_change_63 rfl (lv_at hl 1 rfl) ?_
                      refine va_get (D := D) (ci := 8) (v := .ref p7) (C := R_Mo) (T := T_Mo) (N := 17) hx hb hts i_Mo hown hK hP 0 rfl rfl 9 (by decide) (hts _ mw_560) (fun _ h9 => h9) rfl d_Mo_change_64 ?_
                      refine lv_iconst (v := J (1)) hx hb d_Mo_change_67 rfl ?_
                      refine w_iald hx hb hK hP 3 0 rfl rfl 1 (by omega) (by omega) (by omega) d_Mo_change_68 ?_
                      refine w_iadd hx hb d_Mo_change_69 ((ed wt (fun t => gl (10 * fr + t)) (fun t => gl (10 * tg + t)) i 0) + (wt 1)) (rfl) ?_
                      refine Ri_call (va_runS (As := [.int (J 1000000), .int (J ((ed wt (fun t => gl (10 * fr + t)) (fun t => gl (10 * tg + t)) i 0) + (wt 1)))]) (rest := []) ⟨hx, hb, hml, hown, hts⟩ (c_Mo_lesser l D cI cZ cJ 1000000 ((ed wt (fun t => gl (10 * fr + t)) (fun t => gl (10 * tg + t)) i 0) + (wt 1)) (by first | with_reducible assumption | omega) (by first | with_reducible assumption | omega)) (va_cwS 2 hts (g_S mw_662 mw_663 mw_33 mw_664) rfl rfl rfl (by decide +kernel) ⟨Nat.le_of_ble_eq_true rfl, Nat.le_of_ble_eq_true rfl⟩) (pre_RS hP hK [] rfl) rfl rfl hl.1 rfl (lv_room (Nat.le_of_ble_eq_true rfl)) d_Mo_change_70 ⟨Nat.le_of_ble_eq_true rfl, Nat.le_of_ble_eq_true rfl⟩) ?_
                      refine lv_istore (lv' := [(5, .int (J (min 1000000 ((ed wt (fun t => gl (10 * fr + t)) (fun t => gl (10 * tg + t)) i 0) + (wt 1))))), (0, .ref o), (1, .int (J ((fr : Nat) : Int))), (2, .int (J ((tg : Nat) : Int))), (3, .int (J ((i + 1 : Nat) : Int))), (4, .int (J 0))]) hx hb d_Mo_change_73 hl (by decide) rfl (fun ls hl => ?_)
                      refine lv_iload hx hb d_Mo_change_75 (lv_at hl 5 rfl) ?_
                      refine w_if_le (tgt := 108) hx hb d_Mo_change_77 (by decide) (by omega) (fun c_77 => ?_) (fun c_77 => ?_)
                      · refine lv_iload_n hx hb d_Mo_change_108 rfl (lv_at hl 4 rfl) ?_
                        refine w_if_le (tgt := 172) hx hb d_Mo_change_109 (by decide) (by omega) (fun c_109 => ?_) (fun c_109 => ?_)
                        · exfalso; omega
                        · refine lv_iload hx hb d_Mo_change_112 (lv_at hl 5 rfl) ?_
                          refine w_if_le (tgt := 172) hx hb d_Mo_change_114 (by decide) (by omega) (fun c_114 => ?_) (fun c_114 => ?_)
                          · have hbest : min 1000000 ((ed wt (fun t => gl (10 * fr + t)) (fun t => gl (10 * tg + t)) i 0) + (wt 1)) = ed wt (fun t => gl (10 * fr + t)) (fun t => gl (10 * tg + t)) (i + 1) 0 := by show _ = ed wt (fun t => gl (10 * fr + t)) (fun t => gl (10 * tg + t)) i 0 + wt 1; omega
                            refine lv_aload_n hx hb d_Mo_change_172 rfl (lv_at hl 1 rfl) ?_
                            refine va_get (D := D) (ci := 8) (v := .ref pA) (C := R_Mo) (T := T_Mo) (N := 17) hx hb hts i_Mo hown hK hP 0 rfl rfl 14 (by decide) (hts _ mw_565) (fun _ h9 => h9) rfl d_Mo_change_173 ?_
                            refine lv_bipush (v := J (11)) hx hb d_Mo_change_176 (by decide) ?_
                            refine lv_iload_n hx hb d_Mo_change_178 rfl (lv_at hl 4 rfl) ?_
                            refine w_imul hx hb d_Mo_change_179 ((11 * (i + 1) : Nat) : Int) (by omega) ?_
                            refine lv_iload hx hb d_Mo_change_180 (lv_at hl 5 rfl) ?_
                            refine w_iadd hx hb d_Mo_change_182 ((11 * (i + 1) + (0) : Nat) : Int) (by omega) ?_
                            refine lv_iload hx hb d_Mo_change_183 (lv_at hl 0 rfl) ?_
                            refine w_iast hx hb hK hP hD hS 4 0 rfl rfl (11 * (i + 1) + (0)) (by omega) (by omega) (by omega) d_Mo_change_185 (fun H locs hP hD hS => ?_)
                            have hP : va_P D classes [(o, .inr (8, [.int (J th), .int (J ((n : Nat) : Int)), .ref p1, .ref p2, .ref p3, .ref p4, .ref p5, .ref p6, .int (J ap), .ref p7, .int (J ((fn : Nat) : Int)), .ref p8, .ref p9, .int (J wk), .ref pA, .ref pB, .ref pC])), (p5, ca cI 123 ln), (p6, ca cI 1230 gl), (p7, ca cI 6 wt), (pA, ca cI 121 (iu yp (11 * (i + 1) + (0)) (min 1000000 ((ed wt (fun t => gl (10 * fr + t)) (fun t => gl (10 * tg + t)) i 0) + (wt 1)))))] H := hP
                            have hD : va_D A [(o, .inr (8, [.int (J th), .int (J ((n : Nat) : Int)), .ref p1, .ref p2, .ref p3, .ref p4, .ref p5, .ref p6, .int (J ap), .ref p7, .int (J ((fn : Nat) : Int)), .ref p8, .ref p9, .int (J wk), .ref pA, .ref pB, .ref pC])), (p5, ca cI 123 ln), (p6, ca cI 1230 gl), (p7, ca cI 6 wt), (pA, ca cI 121 (iu yp (11 * (i + 1) + (0)) (min 1000000 ((ed wt (fun t => gl (10 * fr + t)) (fun t => gl (10 * tg + t)) i 0) + (wt 1)))))] := hD
                            refine w_iinc (k := 5) (lv' := [(4, .int (J 1)), (5, .int (J (min 1000000 ((ed wt (fun t => gl (10 * fr + t)) (fun t => gl (10 * tg + t)) i 0) + (wt 1))))), (0, .ref o), (1, .int (J ((fr : Nat) : Int))), (2, .int (J ((tg : Nat) : Int))), (3, .int (J ((i + 1 : Nat) : Int)))]) hx hb d_Mo_change_186 hl rfl 1 (by omega) (by decide) rfl (fun ls hl => ?_)
                            refine lv_goto (tgt := 15) hx hb d_Mo_change_189 (by decide) ?_
                            exact ih_15 1 (iu yp (11 * (i + 1) + (0)) (min 1000000 ((ed wt (fun t => gl (10 * fr + t)) (fun t => gl (10 * tg + t)) i 0) + (wt 1)))) (by omega) (tbl_s ht2 (by omega) (by omega) hbest) (by omega) _ _ (P_map hP [0, 1, 2, 3, 4] rfl) (hD.sub [0, 1, 2, 3, 4] (by decide) rfl) hS ls (lv_sub hl [2, 3, 4, 5, 0] rfl)
                          · exfalso; omega
                      · exfalso; omega
                  · exfalso; omega
                · obtain ⟨j, rfl⟩ : ∃ t : Nat, j = t + 1 := ⟨j - 1, by omega⟩
                  have t1 := ht2 i (j + 1) (by omega) (by omega)
                  have e1 := ed_rg hw (fun t => gl (10 * fr + t)) (fun t => gl (10 * tg + t)) i (j + 1)
                  have t2 := ht2 (i + 1) j (by omega) (by omega)
                  have e2 := ed_rg hw (fun t => gl (10 * fr + t)) (fun t => gl (10 * tg + t)) (i + 1) j
                  have t3 := ht2 i j (by omega) (by omega)
                  have e3 := ed_rg hw (fun t => gl (10 * fr + t)) (fun t => gl (10 * tg + t)) i j
                  have g1 := hgl (10 * fr + i)
                  have g2 := hgl (10 * tg + j)
                  have x1 := xc_rg hw (gl (10 * fr + i)) (gl (10 * tg + j))
                  refine lv_iload_n hx hb d_Mo_change_26 rfl (lv_at hl 3 rfl) ?_
                  refine w_if_ne (tgt := 39) hx hb d_Mo_change_27 (by decide) (by omega) (fun c_27 => ?_) (fun c_27 => ?_)
                  · refine lv_ldc (v := J (1000000)) hx hb hown (hts _ mw_673) d_Mo_change_39 ?_
                    refine lv_istore (lv' := [(5, .int (J 1000000)), (0, .ref o), (1, .int (J ((fr : Nat) : Int))), (2, .int (J ((tg : Nat) : Int))), (3, .int (J ((i + 1 : Nat) : Int))), (4, .int (J ((j + 1 : Nat) : Int)))]) hx hb d_Mo_change_41 hl (by decide) rfl (fun ls hl => ?_)
                    refine lv_iload_n hx hb d_Mo_change_43 rfl (lv_at hl 4 rfl) ?_
                    refine w_if_le (tgt := 75) hx hb d_Mo_change_44 (by decide) (by omega) (fun c_44 => ?_) (fun c_44 => ?_)
                    · exfalso; omega
                    · refine lv_iload hx hb d_Mo_change_47 (lv_at hl 0 rfl) ?_
                      refine lv_aload_n hx hb d_Mo_change_49 rfl (lv_at hl 1 rfl) ?_
                      refine va_get (D := D) (ci := 8) (v := .ref pA) (C := R_Mo) (T := T_Mo) (N := 17) hx hb hts i_Mo hown hK hP 0 rfl rfl 14 (by decide) (hts _ mw_565) (fun _ h9 => h9) rfl d_Mo_change_50 ?_
                      refine lv_bipush (v := J (11)) hx hb d_Mo_change_53 (by decide) ?_
                      refine lv_iload_n hx hb d_Mo_change_55 rfl (lv_at hl 4 rfl) ?_
                      refine lv_iconst (v := J (1)) hx hb d_Mo_change_56 rfl ?_
                      refine w_isub hx hb d_Mo_change_57 ((i : Nat) : Int) (by omega) ?_
                      refine w_imul hx hb d_Mo_change_58 ((11 * i : Nat) : Int) (by omega) ?_
                      refine lv_iload hx hb d_Mo_change_59 (lv_at hl 5 rfl) ?_
                      refine w_iadd hx hb d_Mo_change_61 ((11 * i + (j + 1) : Nat) : Int) (by omega) ?_
                      refine w_iald hx hb hK hP 4 0 rfl rfl (11 * i + (j + 1)) (by omega) (by omega) (by omega) d_Mo_change_62 ?_
                      refine tp_J (y := ed wt (fun t => gl (10 * fr + t)) (fun t => gl (10 * tg + t)) i (j + 1)) (t1) ?_
                      refine lv_aload_n hx hb d_Mo_change_63 rfl (lv_at hl 1 rfl) ?_
                      refine va_get (D := D) (ci := 8) (v := .ref p7) (C := R_Mo) (T := T_Mo) (N := 17) hx hb hts i_Mo hown hK hP 0 rfl rfl 9 (by decide) (hts _ mw_560) (fun _ h9 => h9) rfl d_Mo_change_64 ?_
                      refine lv_iconst (v := J (1)) hx hb d_Mo_change_67 rfl ?_
                      refine w_iald hx hb hK hP 3 0 rfl rfl 1 (by omega) (by omega) (by omega) d_Mo_change_68 ?_
                      refine w_iadd hx hb d_Mo_change_69 ((ed wt (fun t => gl (10 * fr + t)) (fun t => gl (10 * tg + t)) i (j + 1)) + (wt 1)) (rfl) ?_
                      refine Ri_call (va_runS (As := [.int (J 1000000), .int (J ((ed wt (fun t => gl (10 * fr + t)) (fun t => gl (10 * tg + t)) i (j + 1)) + (wt 1)))]) (rest := []) ⟨hx, hb, hml, hown, hts⟩ (c_Mo_lesser l D cI cZ cJ 1000000 ((ed wt (fun t => gl (10 * fr + t)) (fun t => gl (10 * tg + t)) i (j + 1)) + (wt 1)) (by first | with_reducible assumption | omega) (by first | with_reducible assumption | omega)) (va_cwS 2 hts (g_S mw_662 mw_663 mw_33 mw_664) rfl rfl rfl (by decide +kernel) ⟨Nat.le_of_ble_eq_true rfl, Nat.le_of_ble_eq_true rfl⟩) (pre_RS hP hK [] rfl) rfl rfl hl.1 rfl (lv_room (Nat.le_of_ble_eq_true rfl)) d_Mo_change_70 ⟨Nat.le_of_ble_eq_true rfl, Nat.le_of_ble_eq_true rfl⟩) ?_
                      refine lv_istore (lv' := [(5, .int (J (min 1000000 ((ed wt (fun t => gl (10 * fr + t)) (fun t => gl (10 * tg + t)) i (j + 1)) + (wt 1))))), (0, .ref o), (1, .int (J ((fr : Nat) : Int))), (2, .int (J ((tg : Nat) : Int))), (3, .int (J ((i + 1 : Nat) : Int))), (4, .int (J ((j + 1 : Nat) : Int)))]) hx hb d_Mo_change_73 hl (by decide) rfl (fun ls hl => ?_)
                      refine lv_iload hx hb d_Mo_change_75 (lv_at hl 5 rfl) ?_
                      refine w_if_le (tgt := 108) hx hb d_Mo_change_77 (by decide) (by omega) (fun c_77 => ?_) (fun c_77 => ?_)
                      · exfalso; omega
                      · refine lv_iload hx hb d_Mo_change_80 (lv_at hl 0 rfl) ?_
                        refine lv_aload_n hx hb d_Mo_change_82 rfl (lv_at hl 1 rfl) ?_
                        refine va_get (D := D) (ci := 8) (v := .ref pA) (C := R_Mo) (T := T_Mo) (N := 17) hx hb hts i_Mo hown hK hP 0 rfl rfl 14 (by decide) (hts _ mw_565) (fun _ h9 => h9) rfl d_Mo_change_83 ?_
                        refine lv_bipush (v := J (11)) hx hb d_Mo_change_86 (by decide) ?_
                        refine lv_iload_n hx hb d_Mo_change_88 rfl (lv_at hl 4 rfl) ?_
                        refine w_imul hx hb d_Mo_change_89 ((11 * (i + 1) : Nat) : Int) (by omega) ?_
                        refine lv_iload hx hb d_Mo_change_90 (lv_at hl 5 rfl) ?_
                        refine w_iadd hx hb d_Mo_change_92 (((11 * (i + 1)) + (j + 1) : Nat) : Int) (by omega) ?_
                        refine lv_iconst (v := J (1)) hx hb d_Mo_change_93 rfl ?_
                        refine w_isub hx hb d_Mo_change_94 ((11 * (i + 1) + j : Nat) : Int) (by omega) ?_
                        refine w_iald hx hb hK hP 4 0 rfl rfl (11 * (i + 1) + j) (by omega) (by omega) (by omega) d_Mo_change_95 ?_
                        refine tp_J (y := ed wt (fun t => gl (10 * fr + t)) (fun t => gl (10 * tg + t)) (i + 1) j) (t2) ?_
                        refine lv_aload_n hx hb d_Mo_change_96 rfl (lv_at hl 1 rfl) ?_
                        refine va_get (D := D) (ci := 8) (v := .ref p7) (C := R_Mo) (T := T_Mo) (N := 17) hx hb hts i_Mo hown hK hP 0 rfl rfl 9 (by decide) (hts _ mw_560) (fun _ h9 => h9) rfl d_Mo_change_97 ?_
                        refine lv_iconst (v := J (0)) hx hb d_Mo_change_100 rfl ?_
                        refine w_iald hx hb hK hP 3 0 rfl rfl 0 (by omega) (by omega) (by omega) d_Mo_change_101 ?_
                        refine w_iadd hx hb d_Mo_change_102 ((ed wt (fun t => gl (10 * fr + t)) (fun t => gl (10 * tg + t)) (i + 1) j) + (wt 0)) (rfl) ?_
                        refine Ri_call (va_runS (As := [.int (J (min 1000000 ((ed wt (fun t => gl (10 * fr + t)) (fun t => gl (10 * tg + t)) i (j + 1)) + (wt 1)))), .int (J ((ed wt (fun t => gl (10 * fr + t)) (fun t => gl (10 * tg + t)) (i + 1) j) + (wt 0)))]) (rest := []) ⟨hx, hb, hml, hown, hts⟩ (c_Mo_lesser l D cI cZ cJ (min 1000000 ((ed wt (fun t => gl (10 * fr + t)) (fun t => gl (10 * tg + t)) i (j + 1)) + (wt 1))) ((ed wt (fun t => gl (10 * fr + t)) (fun t => gl (10 * tg + t)) (i + 1) j) + (wt 0)) (by first | with_reducible assumption | omega) (by first | with_reducible assumption | omega)) (va_cwS 2 hts (g_S mw_662 mw_663 mw_33 mw_664) rfl rfl rfl (by decide +kernel) ⟨Nat.le_of_ble_eq_true rfl, Nat.le_of_ble_eq_true rfl⟩) (pre_RS hP hK [] rfl) rfl rfl hl.1 rfl (lv_room (Nat.le_of_ble_eq_true rfl)) d_Mo_change_103 ⟨Nat.le_of_ble_eq_true rfl, Nat.le_of_ble_eq_true rfl⟩) ?_
                        refine lv_istore (lv' := [(5, .int (J (min (min 1000000 ((ed wt (fun t => gl (10 * fr + t)) (fun t => gl (10 * tg + t)) i (j + 1)) + (wt 1))) ((ed wt (fun t => gl (10 * fr + t)) (fun t => gl (10 * tg + t)) (i + 1) j) + (wt 0))))), (0, .ref o), (1, .int (J ((fr : Nat) : Int))), (2, .int (J ((tg : Nat) : Int))), (3, .int (J ((i + 1 : Nat) : Int))), (4, .int (J ((j + 1 : Nat) : Int)))]) hx hb d_Mo_change_106 hl (by decide) rfl (fun ls hl => ?_)
                        refine lv_iload_n hx hb d_Mo_change_108 rfl (lv_at hl 4 rfl) ?_
                        refine w_if_le (tgt := 172) hx hb d_Mo_change_109 (by decide) (by omega) (fun c_109 => ?_) (fun c_109 => ?_)
                        · exfalso; omega
                        · refine lv_iload hx hb d_Mo_change_112 (lv_at hl 5 rfl) ?_
                          refine w_if_le (tgt := 172) hx hb d_Mo_change_114 (by decide) (by omega) (fun c_114 => ?_) (fun c_114 => ?_)
                          · exfalso; omega
                          · refine lv_iload hx hb d_Mo_change_117 (lv_at hl 0 rfl) ?_
                            refine lv_aload_n hx hb d_Mo_change_119 rfl (lv_at hl 1 rfl) ?_
                            refine va_get (D := D) (ci := 8) (v := .ref pA) (C := R_Mo) (T := T_Mo) (N := 17) hx hb hts i_Mo hown hK hP 0 rfl rfl 14 (by decide) (hts _ mw_565) (fun _ h9 => h9) rfl d_Mo_change_120 ?_
                            refine lv_bipush (v := J (11)) hx hb d_Mo_change_123 (by decide) ?_
                            refine lv_iload_n hx hb d_Mo_change_125 rfl (lv_at hl 4 rfl) ?_
                            refine lv_iconst (v := J (1)) hx hb d_Mo_change_126 rfl ?_
                            refine w_isub hx hb d_Mo_change_127 ((i : Nat) : Int) (by omega) ?_
                            refine w_imul hx hb d_Mo_change_128 ((11 * i : Nat) : Int) (by omega) ?_
                            refine lv_iload hx hb d_Mo_change_129 (lv_at hl 5 rfl) ?_
                            refine w_iadd hx hb d_Mo_change_131 (((11 * i) + (j + 1) : Nat) : Int) (by omega) ?_
                            refine lv_iconst (v := J (1)) hx hb d_Mo_change_132 rfl ?_
                            refine w_isub hx hb d_Mo_change_133 ((11 * i + j : Nat) : Int) (by omega) ?_
                            refine w_iald hx hb hK hP 4 0 rfl rfl (11 * i + j) (by omega) (by omega) (by omega) d_Mo_change_134 ?_
                            refine tp_J (y := ed wt (fun t => gl (10 * fr + t)) (fun t => gl (10 * tg + t)) i j) (t3) ?_
                            refine lv_aload_n hx hb d_Mo_change_135 rfl (lv_at hl 1 rfl) ?_
                            refine lv_aload_n hx hb d_Mo_change_136 rfl (lv_at hl 1 rfl) ?_
                            refine va_get (D := D) (ci := 8) (v := .ref p6) (C := R_Mo) (T := T_Mo) (N := 17) hx hb hts i_Mo hown hK hP 0 rfl rfl 7 (by decide) (hts _ mw_558) (fun _ h9 => h9) rfl d_Mo_change_137 ?_
                            refine lv_bipush (v := J (10)) hx hb d_Mo_change_140 (by decide) ?_
                            refine lv_iload_n hx hb d_Mo_change_142 rfl (lv_at hl 2 rfl) ?_
                            refine w_imul hx hb d_Mo_change_143 ((10 * fr : Nat) : Int) (by omega) ?_
                            refine lv_iload_n hx hb d_Mo_change_144 rfl (lv_at hl 4 rfl) ?_
                            refine w_iadd hx hb d_Mo_change_145 (((10 * fr) + (i + 1) : Nat) : Int) (by omega) ?_
                            refine lv_iconst (v := J (1)) hx hb d_Mo_change_146 rfl ?_
                            refine w_isub hx hb d_Mo_change_147 ((10 * fr + i : Nat) : Int) (by omega) ?_
                            refine w_iald hx hb hK hP 2 0 rfl rfl (10 * fr + i) (by omega) (by omega) (by omega) d_Mo_change_148 ?_
                            refine tp_J (y := (((gl (10 * fr + i)).toNat : Nat) : Int)) (by omega) ?_
                            refine lv_aload_n hx hb d_Mo_change_149 rfl (lv_at hl 1 rfl) ?_
                            refine va_get (D := D) (ci := 8) (v := .ref p6) (C := R_Mo) (T := T_Mo) (N := 17) hx hb hts i_Mo hown hK hP 0 rfl rfl 7 (by decide) (hts _ mw_558) (fun _ h9 => h9) rfl d_Mo_change_150 ?_
                            refine lv_bipush (v := J (10)) hx hb d_Mo_change_153 (by decide) ?_
                            refine lv_iload_n hx hb d_Mo_change_155 rfl (lv_at hl 3 rfl) ?_
                            refine w_imul hx hb d_Mo_change_156 ((10 * tg : Nat) : Int) (by omega) ?_
                            refine lv_iload hx hb d_Mo_change_157 (lv_at hl 5 rfl) ?_
                            refine w_iadd hx hb d_Mo_change_159 (((10 * tg) + (j + 1) : Nat) : Int) (by omega) ?_
                            refine lv_iconst (v := J (1)) hx hb d_Mo_change_160 rfl ?_
                            refine w_isub hx hb d_Mo_change_161 ((10 * tg + j : Nat) : Int) (by omega) ?_
                            refine w_iald hx hb hK hP 2 0 rfl rfl (10 * tg + j) (by omega) (by omega) (by omega) d_Mo_change_162 ?_
                            refine tp_J (y := (((gl (10 * tg + j)).toNat : Nat) : Int)) (by omega) ?_
                            refine Ri_call (va_runV (As := [.int (J (((gl (10 * fr + i)).toNat : Nat) : Int)), .int (J (((gl (10 * tg + j)).toNat : Nat) : Int))]) (rest := [.int (J (ed wt (fun t => gl (10 * fr + t)) (fun t => gl (10 * tg + t)) i j)), .int (J (min (min 1000000 ((ed wt (fun t => gl (10 * fr + t)) (fun t => gl (10 * tg + t)) i (j + 1)) + (wt 1))) ((ed wt (fun t => gl (10 * fr + t)) (fun t => gl (10 * tg + t)) (i + 1) j) + (wt 0))))]) ⟨hx, hb, hml, hown, hts⟩ (c_Mo_exchange l D cI cZ cJ o p1 p2 p3 p4 p5 p6 p7 p8 p9 pA pB pC th n ap fn wk wt ((gl (10 * fr + i)).toNat) ((gl (10 * tg + j)).toNat) (by first | with_reducible assumption | omega) (by first | with_reducible assumption | omega)) (cwV 2 hts (g_V mw_674 mw_676 mw_19 mw_33 mw_677) rfl rfl rfl (by decide +kernel) ⟨Nat.le_of_ble_eq_true rfl, Nat.le_of_ble_eq_true rfl⟩) (pre_RV hP hK [0, 3] rfl 8 0 rfl rfl) rfl rfl hl.1 rfl (lv_room (Nat.le_of_ble_eq_true rfl)) d_Mo_change_163 ⟨Nat.le_of_ble_eq_true rfl, Nat.le_of_ble_eq_true rfl⟩) ?_
                            refine tp_J (y := xc wt (gl (10 * fr + i)) (gl (10 * tg + j))) (by rw [Int.toNat_of_nonneg g1.1, Int.toNat_of_nonneg g2.1]) ?_
                            refine w_iadd hx hb d_Mo_change_166 ((ed wt (fun t => gl (10 * fr + t)) (fun t => gl (10 * tg + t)) i j) + (xc wt (gl (10 * fr + i)) (gl (10 * tg + j)))) (rfl) ?_
                            refine Ri_call (va_runS (As := [.int (J (min (min 1000000 ((ed wt (fun t => gl (10 * fr + t)) (fun t => gl (10 * tg + t)) i (j + 1)) + (wt 1))) ((ed wt (fun t => gl (10 * fr + t)) (fun t => gl (10 * tg + t)) (i + 1) j) + (wt 0)))), .int (J ((ed wt (fun t => gl (10 * fr + t)) (fun t => gl (10 * tg + t)) i j) + (xc wt (gl (10 * fr + i)) (gl (10 * tg + j)))))]) (rest := []) ⟨hx, hb, hml, hown, hts⟩ (c_Mo_lesser l D cI cZ cJ (min (min 1000000 ((ed wt (fun t => gl (10 * fr + t)) (fun t => gl (10 * tg + t)) i (j + 1)) + (wt 1))) ((ed wt (fun t => gl (10 * fr + t)) (fun t => gl (10 * tg + t)) (i + 1) j) + (wt 0))) ((ed wt (fun t => gl (10 * fr + t)) (fun t => gl (10 * tg + t)) i j) + (xc wt (gl (10 * fr + i)) (gl (10 * tg + j)))) (by first | with_reducible assumption | omega) (by first | with_reducible assumption | omega)) (va_cwS 2 hts (g_S mw_662 mw_663 mw_33 mw_664) rfl rfl rfl (by decide +kernel) ⟨Nat.le_of_ble_eq_true rfl, Nat.le_of_ble_eq_true rfl⟩) (pre_RS hP hK [] rfl) rfl rfl hl.1 rfl (lv_room (Nat.le_of_ble_eq_true rfl)) d_Mo_change_167 ⟨Nat.le_of_ble_eq_true rfl, Nat.le_of_ble_eq_true rfl⟩) ?_
                            refine lv_istore (lv' := [(5, .int (J (min (min (min 1000000 ((ed wt (fun t => gl (10 * fr + t)) (fun t => gl (10 * tg + t)) i (j + 1)) + (wt 1))) ((ed wt (fun t => gl (10 * fr + t)) (fun t => gl (10 * tg + t)) (i + 1) j) + (wt 0))) ((ed wt (fun t => gl (10 * fr + t)) (fun t => gl (10 * tg + t)) i j) + (xc wt (gl (10 * fr + i)) (gl (10 * tg + j))))))), (0, .ref o), (1, .int (J ((fr : Nat) : Int))), (2, .int (J ((tg : Nat) : Int))), (3, .int (J ((i + 1 : Nat) : Int))), (4, .int (J ((j + 1 : Nat) : Int)))]) hx hb d_Mo_change_170 hl (by decide) rfl (fun ls hl => ?_)
                            have hbest : min (min (min 1000000 ((ed wt (fun t => gl (10 * fr + t)) (fun t => gl (10 * tg + t)) i (j + 1)) + (wt 1))) ((ed wt (fun t => gl (10 * fr + t)) (fun t => gl (10 * tg + t)) (i + 1) j) + (wt 0))) ((ed wt (fun t => gl (10 * fr + t)) (fun t => gl (10 * tg + t)) i j) + (xc wt (gl (10 * fr + i)) (gl (10 * tg + j)))) = ed wt (fun t => gl (10 * fr + t)) (fun t => gl (10 * tg + t)) (i + 1) (j + 1) := by show _ = min (ed wt (fun t => gl (10 * fr + t)) (fun t => gl (10 * tg + t)) i j + xc wt (gl (10 * fr + i)) (gl (10 * tg + j))) (min (ed wt (fun t => gl (10 * fr + t)) (fun t => gl (10 * tg + t)) (i + 1) j + wt 0) (ed wt (fun t => gl (10 * fr + t)) (fun t => gl (10 * tg + t)) i (j + 1) + wt 1)); omega
                            refine lv_aload_n hx hb d_Mo_change_172 rfl (lv_at hl 1 rfl) ?_
                            refine va_get (D := D) (ci := 8) (v := .ref pA) (C := R_Mo) (T := T_Mo) (N := 17) hx hb hts i_Mo hown hK hP 0 rfl rfl 14 (by decide) (hts _ mw_565) (fun _ h9 => h9) rfl d_Mo_change_173 ?_
                            refine lv_bipush (v := J (11)) hx hb d_Mo_change_176 (by decide) ?_
                            refine lv_iload_n hx hb d_Mo_change_178 rfl (lv_at hl 4 rfl) ?_
                            refine w_imul hx hb d_Mo_change_179 ((11 * (i + 1) : Nat) : Int) (by omega) ?_
                            refine lv_iload hx hb d_Mo_change_180 (lv_at hl 5 rfl) ?_
                            refine w_iadd hx hb d_Mo_change_182 ((11 * (i + 1) + (j + 1) : Nat) : Int) (by omega) ?_
                            refine lv_iload hx hb d_Mo_change_183 (lv_at hl 0 rfl) ?_
                            refine w_iast hx hb hK hP hD hS 4 0 rfl rfl (11 * (i + 1) + (j + 1)) (by omega) (by omega) (by omega) d_Mo_change_185 (fun H locs hP hD hS => ?_)
                            have hP : va_P D classes [(o, .inr (8, [.int (J th), .int (J ((n : Nat) : Int)), .ref p1, .ref p2, .ref p3, .ref p4, .ref p5, .ref p6, .int (J ap), .ref p7, .int (J ((fn : Nat) : Int)), .ref p8, .ref p9, .int (J wk), .ref pA, .ref pB, .ref pC])), (p5, ca cI 123 ln), (p6, ca cI 1230 gl), (p7, ca cI 6 wt), (pA, ca cI 121 (iu yp (11 * (i + 1) + (j + 1)) (min (min (min 1000000 ((ed wt (fun t => gl (10 * fr + t)) (fun t => gl (10 * tg + t)) i (j + 1)) + (wt 1))) ((ed wt (fun t => gl (10 * fr + t)) (fun t => gl (10 * tg + t)) (i + 1) j) + (wt 0))) ((ed wt (fun t => gl (10 * fr + t)) (fun t => gl (10 * tg + t)) i j) + (xc wt (gl (10 * fr + i)) (gl (10 * tg + j)))))))] H := hP
                            have hD : va_D A [(o, .inr (8, [.int (J th), .int (J ((n : Nat) : Int)), .ref p1, .ref p2, .ref p3, .ref p4, .ref p5, .ref p6, .int (J ap), .ref p7, .int (J ((fn : Nat) : Int)), .ref p8, .ref p9, .int (J wk), .ref pA, .ref pB, .ref pC])), (p5, ca cI 123 ln), (p6, ca cI 1230 gl), (p7, ca cI 6 wt), (pA, ca cI 121 (iu yp (11 * (i + 1) + (j + 1)) (min (min (min 1000000 ((ed wt (fun t => gl (10 * fr + t)) (fun t => gl (10 * tg + t)) i (j + 1)) + (wt 1))) ((ed wt (fun t => gl (10 * fr + t)) (fun t => gl (10 * tg + t)) (i + 1) j) + (wt 0))) ((ed wt (fun t => gl (10 * fr + t)) (fun t => gl (10 * tg + t)) i j) + (xc wt (gl (10 * fr + i)) (gl (10 * tg + j)))))))] := hD
                            refine w_iinc (k := 5) (lv' := [(4, .int (J ((j + 1 + 1 : Nat) : Int))), (5, .int (J (min (min (min 1000000 ((ed wt (fun t => gl (10 * fr + t)) (fun t => gl (10 * tg + t)) i (j + 1)) + (wt 1))) ((ed wt (fun t => gl (10 * fr + t)) (fun t => gl (10 * tg + t)) (i + 1) j) + (wt 0))) ((ed wt (fun t => gl (10 * fr + t)) (fun t => gl (10 * tg + t)) i j) + (xc wt (gl (10 * fr + i)) (gl (10 * tg + j))))))), (0, .ref o), (1, .int (J ((fr : Nat) : Int))), (2, .int (J ((tg : Nat) : Int))), (3, .int (J ((i + 1 : Nat) : Int)))]) hx hb d_Mo_change_186 hl rfl ((j + 1 + 1 : Nat) : Int) (by omega) (by decide) rfl (fun ls hl => ?_)
                            refine lv_goto (tgt := 15) hx hb d_Mo_change_189 (by decide) ?_
                            exact ih_15 (j + 1 + 1) (iu yp (11 * (i + 1) + (j + 1)) (min (min (min 1000000 ((ed wt (fun t => gl (10 * fr + t)) (fun t => gl (10 * tg + t)) i (j + 1)) + (wt 1))) ((ed wt (fun t => gl (10 * fr + t)) (fun t => gl (10 * tg + t)) (i + 1) j) + (wt 0))) ((ed wt (fun t => gl (10 * fr + t)) (fun t => gl (10 * tg + t)) i j) + (xc wt (gl (10 * fr + i)) (gl (10 * tg + j)))))) (by omega) (tbl_s ht2 (by omega) (by omega) hbest) (by omega) _ _ (P_map hP [0, 1, 2, 3, 4] rfl) (hD.sub [0, 1, 2, 3, 4] (by decide) rfl) hS ls (lv_sub hl [2, 3, 4, 5, 0] rfl)
                  · exfalso; omega
        exact lp_15 (((ln tg).toNat + 1 - 0) + 1) 0 xp (by omega) (ht) (Nat.lt_succ_self _) _ _ (P_map hP [0, 1, 2, 3, 4] rfl) (hD.sub [0, 1, 2, 3, 4] (by decide) rfl) hS ls (lv_sub hl [1, 2, 3, 4, 0] rfl)
  exact lp_2 (((ln fr).toNat + 1 - 0) + 1) 0 sp (by omega) (fun a b hb hab => absurd hab (by omega)) (Nat.lt_succ_self _) _ _ (P_map hP [0, 1, 2, 3, 4] rfl) (hD.sub [0, 1, 2, 3, 4] (by decide) rfl) hS ls (lv_sub hl [1, 2, 3, 0] rfl)
