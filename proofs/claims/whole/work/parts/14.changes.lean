theorem edr_rg {wt : Nat → Int} (hw : ∀ k, 0 ≤ wt k ∧ wt k ≤ 1000) {pr : Nat → Int} (hpr : ∀ k, 0 ≤ pr k ∧ pr k ≤ 100000) (a : Int) (v : Nat → Int) : ∀ j : Nat, 0 ≤ edr wt a v pr j ∧ edr wt a v pr j ≤ 101000
  | 0 => by
    have h1 := hw 1
    have h2 := hpr 0
    rw [edr]
    omega
  | j + 1 => by
    have h0 := hw 0
    have h1 := hw 1
    have h2 := hpr j
    have h3 := hpr (j + 1)
    have h4 := edr_rg hw hpr a v j
    have h5 := xc_rg hw a (v j)
    rw [edr]
    omega
set_option maxHeartbeats 4000000 in
set_option maxRecDepth 100000 in
theorem c_Bc_nextRow (l : Launch) (D : va_G) (cI cZ cJ : ClassId) (sz : Nat) (o : Nat) (wo : Nat) (wa : Nat) (ra : Nat) (al : Nat) (nL : Nat) (wt : Nat → Int) (pr : Nat → Int) (g : Nat → Int) (a : Int) (st : Nat) (mm : Nat) (hw : ∀ k, 0 ≤ wt k ∧ wt k ≤ 1000) (hpr : ∀ k, 0 ≤ pr k ∧ pr k ≤ 100000) (hg : ∀ k, 0 ≤ g k ∧ g k < 26) (ha : 0 ≤ a ∧ a < 26) (hm : mm ≤ 10) (hst : st + mm ≤ nL) (hnL : nL ≤ 1200) : Mv l y_Bc_nextRow w_Bc_nextRow ({ frames := 2, cells := 0, slots := 0, locals := 33 }) true D classes [(cI, .int), (cZ, .boolean), (cJ, .long)] sz [.ref o, .int (J a), .ref al, .int (J ((st : Nat) : Int)), .int (J ((mm : Nat) : Int))] [(o, .inr (1, [.ref wo, .ref ra])), (ra, ca cI 11 pr), (wo, .inr (5, [.ref wa])), (wa, ca cI 6 wt), (al, ca cI nL g)] (S := Unit) (fun _ => True) (fun u : Unit => [(o, .inr (1, [.ref wo, .ref ra])), (ra, ca cI 11 (rwl (edr wt a (fun t => g (st + t)) pr) pr (mm + 1))), (wo, .inr (5, [.ref wa])), (wa, ca cI 6 wt), (al, ca cI nL g)]) 0 0 := by
  refine Mv_of (cc := b_Bc_nextRow) (maxL := 14) (by decide) rfl (Nat.le_of_ble_eq_true rfl) ?_
  intro p e s m args below meth c hx hb hr hml hts hown hlocks hin A hA hP hK hD hT hS Q hQ H hH ls hl
  subst hH
  have hl : lv_has ls 14 [(0, .ref o), (1, .int (J a)), (2, .ref al), (3, .int (J ((st : Nat) : Int))), (4, .int (J ((mm : Nat) : Int)))] := hl
  obtain ⟨tt, hZ, hTt, hF1, hF2⟩ := hT rfl
  have w0 := hw 0
  have w1 := hw 1
  have w2 := hw 2
  have w3 := hw 3
  have hE := edr_rg hw hpr a (fun t => g (st + t))
  refine lv_aload_n hx hb d_Bc_nextRow_0 rfl (lv_at hl 0 rfl) ?_
  refine va_get (D := D) (ci := 1) (v := .ref wo) (C := R_Bc) (T := T_Bc) (N := 2) hx hb hts i_Bc hown hK hP 0 rfl rfl 0 (by decide) (hts _ mw_118) (fun _ h9 => h9) rfl d_Bc_nextRow_1 ?_
  refine Ri_call (va_runV (As := []) (rest := []) ⟨hx, hb, hml, hown, hts⟩ (c_We_putIn l D cI cZ cJ wo wa wt ) (cwV 0 hts (g_V mw_325 mw_326 mw_327 mw_28 mw_328) rfl rfl rfl (by decide +kernel) ⟨Nat.le_of_ble_eq_true rfl, Nat.le_of_ble_eq_true rfl⟩) (pre_RV hP hK [2, 3] rfl 5 0 rfl rfl) rfl rfl hl.1 rfl (lv_room (Nat.le_of_ble_eq_true rfl)) d_Bc_nextRow_4 ⟨Nat.le_of_ble_eq_true rfl, Nat.le_of_ble_eq_true rfl⟩) ?_
  refine lv_istore (lv' := [(5, .int (J (wt 0))), (0, .ref o), (1, .int (J a)), (2, .ref al), (3, .int (J ((st : Nat) : Int))), (4, .int (J ((mm : Nat) : Int)))]) hx hb d_Bc_nextRow_7 hl (by decide) rfl (fun ls hl => ?_)
  refine lv_aload_n hx hb d_Bc_nextRow_9 rfl (lv_at hl 1 rfl) ?_
  refine va_get (D := D) (ci := 1) (v := .ref wo) (C := R_Bc) (T := T_Bc) (N := 2) hx hb hts i_Bc hown hK hP 0 rfl rfl 0 (by decide) (hts _ mw_118) (fun _ h9 => h9) rfl d_Bc_nextRow_10 ?_
  refine Ri_call (va_runV (As := []) (rest := []) ⟨hx, hb, hml, hown, hts⟩ (c_We_leftOut l D cI cZ cJ wo wa wt ) (cwV 0 hts (g_V mw_334 mw_335 mw_336 mw_28 mw_337) rfl rfl rfl (by decide +kernel) ⟨Nat.le_of_ble_eq_true rfl, Nat.le_of_ble_eq_true rfl⟩) (pre_RV hP hK [2, 3] rfl 5 0 rfl rfl) rfl rfl hl.1 rfl (lv_room (Nat.le_of_ble_eq_true rfl)) d_Bc_nextRow_13 ⟨Nat.le_of_ble_eq_true rfl, Nat.le_of_ble_eq_true rfl⟩) ?_
  refine lv_istore (lv' := [(6, .int (J (wt 1))), (5, .int (J (wt 0))), (0, .ref o), (1, .int (J a)), (2, .ref al), (3, .int (J ((st : Nat) : Int))), (4, .int (J ((mm : Nat) : Int)))]) hx hb d_Bc_nextRow_16 hl (by decide) rfl (fun ls hl => ?_)
  refine lv_aload_n hx hb d_Bc_nextRow_18 rfl (lv_at hl 2 rfl) ?_
  refine va_get (D := D) (ci := 1) (v := .ref wo) (C := R_Bc) (T := T_Bc) (N := 2) hx hb hts i_Bc hown hK hP 0 rfl rfl 0 (by decide) (hts _ mw_118) (fun _ h9 => h9) rfl d_Bc_nextRow_19 ?_
  refine Ri_call (va_runV (As := []) (rest := []) ⟨hx, hb, hml, hown, hts⟩ (c_We_exchanged l D cI cZ cJ wo wa wt ) (cwV 0 hts (g_V mw_338 mw_339 mw_340 mw_28 mw_341) rfl rfl rfl (by decide +kernel) ⟨Nat.le_of_ble_eq_true rfl, Nat.le_of_ble_eq_true rfl⟩) (pre_RV hP hK [2, 3] rfl 5 0 rfl rfl) rfl rfl hl.1 rfl (lv_room (Nat.le_of_ble_eq_true rfl)) d_Bc_nextRow_22 ⟨Nat.le_of_ble_eq_true rfl, Nat.le_of_ble_eq_true rfl⟩) ?_
  refine lv_istore (lv' := [(7, .int (J (wt 2))), (6, .int (J (wt 1))), (5, .int (J (wt 0))), (0, .ref o), (1, .int (J a)), (2, .ref al), (3, .int (J ((st : Nat) : Int))), (4, .int (J ((mm : Nat) : Int)))]) hx hb d_Bc_nextRow_25 hl (by decide) rfl (fun ls hl => ?_)
  refine lv_aload_n hx hb d_Bc_nextRow_27 rfl (lv_at hl 3 rfl) ?_
  refine va_get (D := D) (ci := 1) (v := .ref wo) (C := R_Bc) (T := T_Bc) (N := 2) hx hb hts i_Bc hown hK hP 0 rfl rfl 0 (by decide) (hts _ mw_118) (fun _ h9 => h9) rfl d_Bc_nextRow_28 ?_
  refine Ri_call (va_runV (As := []) (rest := []) ⟨hx, hb, hml, hown, hts⟩ (c_We_exchangedAlike l D cI cZ cJ wo wa wt (by first | assumption | omega)) (cwV 0 hts (g_V mw_342 mw_343 mw_344 mw_28 mw_345) rfl rfl rfl (by decide +kernel) ⟨Nat.le_of_ble_eq_true rfl, Nat.le_of_ble_eq_true rfl⟩) (pre_RV hP hK [2, 3] rfl 5 0 rfl rfl) rfl rfl hl.1 rfl (lv_room (Nat.le_of_ble_eq_true rfl)) d_Bc_nextRow_31 ⟨Nat.le_of_ble_eq_true rfl, Nat.le_of_ble_eq_true rfl⟩) ?_
  refine lv_istore (lv' := [(8, .int (J (min (wt 2) (wt 3)))), (7, .int (J (wt 2))), (6, .int (J (wt 1))), (5, .int (J (wt 0))), (0, .ref o), (1, .int (J a)), (2, .ref al), (3, .int (J ((st : Nat) : Int))), (4, .int (J ((mm : Nat) : Int)))]) hx hb d_Bc_nextRow_34 hl (by decide) rfl (fun ls hl => ?_)
  refine lv_aload_n hx hb d_Bc_nextRow_36 rfl (lv_at hl 4 rfl) ?_
  refine va_get (D := D) (ci := 1) (v := .ref ra) (C := R_Bc) (T := T_Bc) (N := 2) hx hb hts i_Bc hown hK hP 0 rfl rfl 1 (by decide) (hts _ mw_119) (fun _ h9 => h9) rfl d_Bc_nextRow_37 ?_
  refine lv_iconst (v := J (0)) hx hb d_Bc_nextRow_40 rfl ?_
  refine w_iald hx hb hK hP 1 0 rfl rfl 0 (by omega) (by omega) (by omega) d_Bc_nextRow_41 ?_
  refine lv_istore (lv' := [(9, .int (J (pr 0))), (8, .int (J (min (wt 2) (wt 3)))), (7, .int (J (wt 2))), (6, .int (J (wt 1))), (5, .int (J (wt 0))), (0, .ref o), (1, .int (J a)), (2, .ref al), (3, .int (J ((st : Nat) : Int))), (4, .int (J ((mm : Nat) : Int)))]) hx hb d_Bc_nextRow_42 hl (by decide) rfl (fun ls hl => ?_)
  refine lv_iload hx hb d_Bc_nextRow_44 (lv_at hl 0 rfl) ?_
  refine lv_iload hx hb d_Bc_nextRow_46 (lv_at hl 3 rfl) ?_
  refine w_iadd hx hb d_Bc_nextRow_48 (edr wt a (fun t => g (st + t)) pr 0) (rfl) ?_
  refine lv_istore (lv' := [(10, .int (J (edr wt a (fun t => g (st + t)) pr 0))), (9, .int (J (pr 0))), (8, .int (J (min (wt 2) (wt 3)))), (7, .int (J (wt 2))), (6, .int (J (wt 1))), (5, .int (J (wt 0))), (0, .ref o), (1, .int (J a)), (2, .ref al), (3, .int (J ((st : Nat) : Int))), (4, .int (J ((mm : Nat) : Int)))]) hx hb d_Bc_nextRow_49 hl (by decide) rfl (fun ls hl => ?_)
  refine lv_aload_n hx hb d_Bc_nextRow_51 rfl (lv_at hl 6 rfl) ?_
  refine va_get (D := D) (ci := 1) (v := .ref ra) (C := R_Bc) (T := T_Bc) (N := 2) hx hb hts i_Bc hown hK hP 0 rfl rfl 1 (by decide) (hts _ mw_119) (fun _ h9 => h9) rfl d_Bc_nextRow_52 ?_
  refine lv_iconst (v := J (0)) hx hb d_Bc_nextRow_55 rfl ?_
  refine lv_iload hx hb d_Bc_nextRow_56 (lv_at hl 0 rfl) ?_
  refine w_iast hx hb hK hP hD hS 1 0 rfl rfl 0 (by omega) (by omega) (by omega) d_Bc_nextRow_58 (fun H locs hP hD hS => ?_)
  have hP : va_P D classes [(o, .inr (1, [.ref wo, .ref ra])), (ra, ca cI 11 (iu pr 0 (edr wt a (fun t => g (st + t)) pr 0))), (wo, .inr (5, [.ref wa])), (wa, ca cI 6 wt), (al, ca cI nL g)] H := hP
  have hD : va_D A [(o, .inr (1, [.ref wo, .ref ra])), (ra, ca cI 11 (iu pr 0 (edr wt a (fun t => g (st + t)) pr 0))), (wo, .inr (5, [.ref wa])), (wa, ca cI 6 wt), (al, ca cI nL g)] := hD
  have eg : iu pr 0 (edr wt a (fun t => g (st + t)) pr 0) = rwl (edr wt a (fun t => g (st + t)) pr) pr 1 := rwl_1 _ _ rfl
  rw [eg] at hP hD
  clear eg
  refine lv_iconst (v := J (1)) hx hb d_Bc_nextRow_59 rfl ?_
  refine lv_istore (lv' := [(11, .int (J 1)), (10, .int (J (edr wt a (fun t => g (st + t)) pr 0))), (9, .int (J (pr 0))), (8, .int (J (min (wt 2) (wt 3)))), (7, .int (J (wt 2))), (6, .int (J (wt 1))), (5, .int (J (wt 0))), (0, .ref o), (1, .int (J a)), (2, .ref al), (3, .int (J ((st : Nat) : Int))), (4, .int (J ((mm : Nat) : Int)))]) hx hb d_Bc_nextRow_60 hl (by decide) rfl (fun ls hl => ?_)
  have lp_62 : ∀ (fu : Nat) (i : Nat), (i ≤ mm) → (mm - i) < fu → ∀ (H : Heap) (locs : List Loc), va_P D classes [(o, .inr (1, [.ref wo, .ref ra])), (ra, ca cI 11 (rwl (edr wt a (fun t => g (st + t)) pr) pr (i + 1))), (wo, .inr (5, [.ref wa])), (wa, ca cI 6 wt), (al, ca cI nL g)] H → va_D A [(o, .inr (1, [.ref wo, .ref ra])), (ra, ca cI 11 (rwl (edr wt a (fun t => g (st + t)) pr) pr (i + 1))), (wo, .inr (5, [.ref wa])), (wa, ca cI 6 wt), (al, ca cI nL g)] → va_S A s.heap H locs → ∀ ls : Array Slot, lv_has ls 14 [(0, .ref o), (1, .int (J a)), (2, .ref al), (3, .int (J ((st : Nat) : Int))), (4, .int (J ((mm : Nat) : Int))), (5, .int (J (wt 0))), (6, .int (J (wt 1))), (7, .int (J (wt 2))), (8, .int (J (min (wt 2) (wt 3)))), (9, .int (J (pr i))), (10, .int (J (edr wt a (fun t => g (st + t)) pr i))), (11, .int (J ((i + 1 : Nat) : Int)))] → W p l e ({ frames := 2, cells := 0, slots := 0, locals := 33 }) s m args below meth c H locs 0 0 Q (F0 m 62 ls []) := by
    intro fu
    induction fu with
    | zero => intro i hi hfu; exact absurd hfu (Nat.not_lt_zero _)
    | succ fu ih_62 =>
      intro i hi hfu H locs hP hD hS ls hl
      have p1 := hpr i
      have p2 := hpr (i + 1)
      have p3 := hE i
      have g1 := hg (st + i)
      refine lv_iload hx hb d_Bc_nextRow_62 (lv_at hl 11 rfl) ?_
      refine lv_iload hx hb d_Bc_nextRow_64 (lv_at hl 4 rfl) ?_
      refine w_icmp_gt (tgt := 159) hx hb d_Bc_nextRow_66 (by decide) (by omega) (by omega) (fun c_66 => ?_) (fun c_66 => ?_)
      · obtain rfl : mm = i := by omega
        exact Mv_ret hx hb hr hlocks hQ d_Bc_nextRow_159 hP hK hD hS () (trivial) [0, 1, 2, 3, 4] rfl (by decide)
      · refine lv_aload_n hx hb d_Bc_nextRow_69 rfl (lv_at hl 2 rfl) ?_
        refine lv_iload_n hx hb d_Bc_nextRow_70 rfl (lv_at hl 3 rfl) ?_
        refine lv_iload hx hb d_Bc_nextRow_71 (lv_at hl 11 rfl) ?_
        refine w_iadd hx hb d_Bc_nextRow_73 ((st + (i + 1) : Nat) : Int) (by omega) ?_
        refine lv_iconst (v := J (1)) hx hb d_Bc_nextRow_74 rfl ?_
        refine w_isub hx hb d_Bc_nextRow_75 ((st + i : Nat) : Int) (by omega) ?_
        refine w_iald hx hb hK hP 4 0 rfl rfl (st + i) (by omega) (by omega) (by omega) d_Bc_nextRow_76 ?_
        refine lv_istore (lv' := [(12, .int (J (g (st + i)))), (0, .ref o), (1, .int (J a)), (2, .ref al), (3, .int (J ((st : Nat) : Int))), (4, .int (J ((mm : Nat) : Int))), (5, .int (J (wt 0))), (6, .int (J (wt 1))), (7, .int (J (wt 2))), (8, .int (J (min (wt 2) (wt 3)))), (9, .int (J (pr i))), (10, .int (J (edr wt a (fun t => g (st + t)) pr i))), (11, .int (J ((i + 1 : Nat) : Int)))]) hx hb d_Bc_nextRow_77 hl (by decide) rfl (fun ls hl => ?_)
        refine lv_iload hx hb d_Bc_nextRow_79 (lv_at hl 10 rfl) ?_
        refine lv_istore (lv' := [(13, .int (J (pr i))), (12, .int (J (g (st + i)))), (0, .ref o), (1, .int (J a)), (2, .ref al), (3, .int (J ((st : Nat) : Int))), (4, .int (J ((mm : Nat) : Int))), (5, .int (J (wt 0))), (6, .int (J (wt 1))), (7, .int (J (wt 2))), (8, .int (J (min (wt 2) (wt 3)))), (9, .int (J (pr i))), (10, .int (J (edr wt a (fun t => g (st + t)) pr i))), (11, .int (J ((i + 1 : Nat) : Int)))]) hx hb d_Bc_nextRow_81 hl (by decide) rfl (fun ls hl => ?_)
        refine lv_iload hx hb d_Bc_nextRow_83 (lv_at hl 1 rfl) ?_
        refine lv_iload_n hx hb d_Bc_nextRow_85 rfl (lv_at hl 3 rfl) ?_
        refine w_icmp_eq (tgt := 115) hx hb d_Bc_nextRow_86 (by decide) (by omega) (by omega) (fun c_86 => ?_) (fun c_86 => ?_)
        · have hxc : xc wt a (g (st + i)) = 0 := by unfold xc; rw [if_pos c_86.symm]
          refine lv_aload_n hx hb d_Bc_nextRow_115 rfl (lv_at hl 2 rfl) ?_
          refine va_get (D := D) (ci := 1) (v := .ref ra) (C := R_Bc) (T := T_Bc) (N := 2) hx hb hts i_Bc hown hK hP 0 rfl rfl 1 (by decide) (hts _ mw_119) (fun _ h9 => h9) rfl d_Bc_nextRow_116 ?_
          refine lv_iload hx hb d_Bc_nextRow_119 (lv_at hl 13 rfl) ?_
          refine w_iald hx hb hK hP 1 0 rfl rfl (i + 1) (by omega) (by omega) (by omega) d_Bc_nextRow_121 ?_
          refine tp_J (y := pr (i + 1)) (rwl_ge _ _ (Nat.le_refl _)) ?_
          refine lv_istore (lv' := [(9, .int (J (pr (i + 1)))), (13, .int (J (pr i))), (12, .int (J (g (st + i)))), (0, .ref o), (1, .int (J a)), (2, .ref al), (3, .int (J ((st : Nat) : Int))), (4, .int (J ((mm : Nat) : Int))), (5, .int (J (wt 0))), (6, .int (J (wt 1))), (7, .int (J (wt 2))), (8, .int (J (min (wt 2) (wt 3)))), (10, .int (J (edr wt a (fun t => g (st + t)) pr i))), (11, .int (J ((i + 1 : Nat) : Int)))]) hx hb d_Bc_nextRow_122 hl (by decide) rfl (fun ls hl => ?_)
          refine lv_iload hx hb d_Bc_nextRow_124 (lv_at hl 1 rfl) ?_
          refine lv_iload hx hb d_Bc_nextRow_126 (lv_at hl 12 rfl) ?_
          refine lv_iload hx hb d_Bc_nextRow_128 (lv_at hl 8 rfl) ?_
          refine w_iadd hx hb d_Bc_nextRow_130 ((edr wt a (fun t => g (st + t)) pr i) + (wt 0)) (rfl) ?_
          refine lv_iload hx hb d_Bc_nextRow_131 (lv_at hl 0 rfl) ?_
          refine lv_iload hx hb d_Bc_nextRow_133 (lv_at hl 9 rfl) ?_
          refine w_iadd hx hb d_Bc_nextRow_135 ((pr (i + 1)) + (wt 1)) (rfl) ?_
          refine w_mmin hx hb (by rw [hml]; exact hl.1.symm) hown (hts _ mw_351) (hts _ mw_347) (hts _ mw_34) (hts _ mw_348) (by decide) (Nat.le_of_ble_eq_true rfl) (by decide) (by decide) d_Bc_nextRow_136 (by omega) (by omega) ?_
          refine w_mmin hx hb (by rw [hml]; exact hl.1.symm) hown (hts _ mw_351) (hts _ mw_347) (hts _ mw_34) (hts _ mw_348) (by decide) (Nat.le_of_ble_eq_true rfl) (by decide) (by decide) d_Bc_nextRow_139 (by omega) (by omega) ?_
          refine tp_J (y := edr wt a (fun t => g (st + t)) pr (i + 1)) (by rw [edr, hxc]; try rw [Int.add_zero]) ?_
          refine lv_istore (lv' := [(10, .int (J (edr wt a (fun t => g (st + t)) pr (i + 1)))), (9, .int (J (pr (i + 1)))), (13, .int (J (pr i))), (12, .int (J (g (st + i)))), (0, .ref o), (1, .int (J a)), (2, .ref al), (3, .int (J ((st : Nat) : Int))), (4, .int (J ((mm : Nat) : Int))), (5, .int (J (wt 0))), (6, .int (J (wt 1))), (7, .int (J (wt 2))), (8, .int (J (min (wt 2) (wt 3)))), (11, .int (J ((i + 1 : Nat) : Int)))]) hx hb d_Bc_nextRow_142 hl (by decide) rfl (fun ls hl => ?_)
          refine lv_aload_n hx hb d_Bc_nextRow_144 rfl (lv_at hl 4 rfl) ?_
          refine va_get (D := D) (ci := 1) (v := .ref ra) (C := R_Bc) (T := T_Bc) (N := 2) hx hb hts i_Bc hown hK hP 0 rfl rfl 1 (by decide) (hts _ mw_119) (fun _ h9 => h9) rfl d_Bc_nextRow_145 ?_
          refine lv_iload hx hb d_Bc_nextRow_148 (lv_at hl 13 rfl) ?_
          refine lv_iload hx hb d_Bc_nextRow_150 (lv_at hl 0 rfl) ?_
          refine w_iast hx hb hK hP hD hS 1 0 rfl rfl (i + 1) (by omega) (by omega) (by omega) d_Bc_nextRow_152 (fun H locs hP hD hS => ?_)
          have hP : va_P D classes [(o, .inr (1, [.ref wo, .ref ra])), (ra, ca cI 11 (iu (rwl (edr wt a (fun t => g (st + t)) pr) pr (i + 1)) (i + 1) (edr wt a (fun t => g (st + t)) pr (i + 1)))), (wo, .inr (5, [.ref wa])), (wa, ca cI 6 wt), (al, ca cI nL g)] H := hP
          have hD : va_D A [(o, .inr (1, [.ref wo, .ref ra])), (ra, ca cI 11 (iu (rwl (edr wt a (fun t => g (st + t)) pr) pr (i + 1)) (i + 1) (edr wt a (fun t => g (st + t)) pr (i + 1)))), (wo, .inr (5, [.ref wa])), (wa, ca cI 6 wt), (al, ca cI nL g)] := hD
          have eg : iu (rwl (edr wt a (fun t => g (st + t)) pr) pr (i + 1)) (i + 1) (edr wt a (fun t => g (st + t)) pr (i + 1)) = rwl (edr wt a (fun t => g (st + t)) pr) pr (i + 2) := rwl_s _ _ (i + 1)
          rw [eg] at hP hD
          clear eg
          refine w_iinc (k := 13) (lv' := [(11, .int (J ((i + 1 + 1 : Nat) : Int))), (10, .int (J (edr wt a (fun t => g (st + t)) pr (i + 1)))), (9, .int (J (pr (i + 1)))), (13, .int (J (pr i))), (12, .int (J (g (st + i)))), (0, .ref o), (1, .int (J a)), (2, .ref al), (3, .int (J ((st : Nat) : Int))), (4, .int (J ((mm : Nat) : Int))), (5, .int (J (wt 0))), (6, .int (J (wt 1))), (7, .int (J (wt 2))), (8, .int (J (min (wt 2) (wt 3))))]) hx hb d_Bc_nextRow_153 hl rfl ((i + 1 + 1 : Nat) : Int) (by omega) (by decide) rfl (fun ls hl => ?_)
          refine lv_goto (tgt := 62) hx hb d_Bc_nextRow_156 (by decide) ?_
          exact ih_62 (i + 1) (by omega) (by omega) _ _ (P_map hP [0, 1, 2, 3, 4] rfl) (hD.sub [0, 1, 2, 3, 4] (by decide) rfl) hS ls (lv_sub hl [5, 6, 7, 8, 9, 10, 11, 12, 13, 2, 1, 0] rfl)
        · refine lv_iload hx hb d_Bc_nextRow_89 (lv_at hl 0 rfl) ?_
          refine va_gets hx hb hZ hS hown (hts _ mw_349) (fun _ h9 => h9) d_Bc_nextRow_91 ?_
          have s1 := sd_rg (g (st + i)).toNat
          have s2 := sd_rg (a).toNat
          refine lv_iload hx hb d_Bc_nextRow_94 (lv_at hl 1 rfl) ?_
          refine w_ti hx hb hTt hS ((g (st + i)).toNat) (by omega) (by omega) d_Bc_nextRow_96 ?_
          refine va_gets hx hb hZ hS hown (hts _ mw_349) (fun _ h9 => h9) d_Bc_nextRow_97 ?_
          refine lv_iload_n hx hb d_Bc_nextRow_100 rfl (lv_at hl 3 rfl) ?_
          refine w_ti hx hb hTt hS ((a).toNat) (by omega) (by omega) d_Bc_nextRow_101 ?_
          refine w_icmp_ne (tgt := 110) hx hb d_Bc_nextRow_102 (by decide) (by omega) (by omega) (fun c_102 => ?_) (fun c_102 => ?_)
          · have hxc : xc wt a (g (st + i)) = wt 2 := by unfold xc; rw [if_neg (fun z => c_86 z.symm), if_neg (fun z => c_102 z.symm)]
            refine lv_iload hx hb d_Bc_nextRow_110 (lv_at hl 9 rfl) ?_
            refine w_iadd hx hb d_Bc_nextRow_112 ((pr i) + (wt 2)) (rfl) ?_
            refine lv_istore (lv' := [(13, .int (J ((pr i) + (wt 2)))), (12, .int (J (g (st + i)))), (0, .ref o), (1, .int (J a)), (2, .ref al), (3, .int (J ((st : Nat) : Int))), (4, .int (J ((mm : Nat) : Int))), (5, .int (J (wt 0))), (6, .int (J (wt 1))), (7, .int (J (wt 2))), (8, .int (J (min (wt 2) (wt 3)))), (9, .int (J (pr i))), (10, .int (J (edr wt a (fun t => g (st + t)) pr i))), (11, .int (J ((i + 1 : Nat) : Int)))]) hx hb d_Bc_nextRow_113 hl (by decide) rfl (fun ls hl => ?_)
            refine lv_aload_n hx hb d_Bc_nextRow_115 rfl (lv_at hl 2 rfl) ?_
            refine va_get (D := D) (ci := 1) (v := .ref ra) (C := R_Bc) (T := T_Bc) (N := 2) hx hb hts i_Bc hown hK hP 0 rfl rfl 1 (by decide) (hts _ mw_119) (fun _ h9 => h9) rfl d_Bc_nextRow_116 ?_
            refine lv_iload hx hb d_Bc_nextRow_119 (lv_at hl 13 rfl) ?_
            refine w_iald hx hb hK hP 1 0 rfl rfl (i + 1) (by omega) (by omega) (by omega) d_Bc_nextRow_121 ?_
            refine tp_J (y := pr (i + 1)) (rwl_ge _ _ (Nat.le_refl _)) ?_
            refine lv_istore (lv' := [(9, .int (J (pr (i + 1)))), (13, .int (J ((pr i) + (wt 2)))), (12, .int (J (g (st + i)))), (0, .ref o), (1, .int (J a)), (2, .ref al), (3, .int (J ((st : Nat) : Int))), (4, .int (J ((mm : Nat) : Int))), (5, .int (J (wt 0))), (6, .int (J (wt 1))), (7, .int (J (wt 2))), (8, .int (J (min (wt 2) (wt 3)))), (10, .int (J (edr wt a (fun t => g (st + t)) pr i))), (11, .int (J ((i + 1 : Nat) : Int)))]) hx hb d_Bc_nextRow_122 hl (by decide) rfl (fun ls hl => ?_)
            refine lv_iload hx hb d_Bc_nextRow_124 (lv_at hl 1 rfl) ?_
            refine lv_iload hx hb d_Bc_nextRow_126 (lv_at hl 12 rfl) ?_
            refine lv_iload hx hb d_Bc_nextRow_128 (lv_at hl 8 rfl) ?_
            refine w_iadd hx hb d_Bc_nextRow_130 ((edr wt a (fun t => g (st + t)) pr i) + (wt 0)) (rfl) ?_
            refine lv_iload hx hb d_Bc_nextRow_131 (lv_at hl 0 rfl) ?_
            refine lv_iload hx hb d_Bc_nextRow_133 (lv_at hl 9 rfl) ?_
            refine w_iadd hx hb d_Bc_nextRow_135 ((pr (i + 1)) + (wt 1)) (rfl) ?_
            refine w_mmin hx hb (by rw [hml]; exact hl.1.symm) hown (hts _ mw_351) (hts _ mw_347) (hts _ mw_34) (hts _ mw_348) (by decide) (Nat.le_of_ble_eq_true rfl) (by decide) (by decide) d_Bc_nextRow_136 (by omega) (by omega) ?_
            refine w_mmin hx hb (by rw [hml]; exact hl.1.symm) hown (hts _ mw_351) (hts _ mw_347) (hts _ mw_34) (hts _ mw_348) (by decide) (Nat.le_of_ble_eq_true rfl) (by decide) (by decide) d_Bc_nextRow_139 (by omega) (by omega) ?_
            refine tp_J (y := edr wt a (fun t => g (st + t)) pr (i + 1)) (by rw [edr, hxc]; try rw [Int.add_zero]) ?_
            refine lv_istore (lv' := [(10, .int (J (edr wt a (fun t => g (st + t)) pr (i + 1)))), (9, .int (J (pr (i + 1)))), (13, .int (J ((pr i) + (wt 2)))), (12, .int (J (g (st + i)))), (0, .ref o), (1, .int (J a)), (2, .ref al), (3, .int (J ((st : Nat) : Int))), (4, .int (J ((mm : Nat) : Int))), (5, .int (J (wt 0))), (6, .int (J (wt 1))), (7, .int (J (wt 2))), (8, .int (J (min (wt 2) (wt 3)))), (11, .int (J ((i + 1 : Nat) : Int)))]) hx hb d_Bc_nextRow_142 hl (by decide) rfl (fun ls hl => ?_)
            refine lv_aload_n hx hb d_Bc_nextRow_144 rfl (lv_at hl 4 rfl) ?_
            refine va_get (D := D) (ci := 1) (v := .ref ra) (C := R_Bc) (T := T_Bc) (N := 2) hx hb hts i_Bc hown hK hP 0 rfl rfl 1 (by decide) (hts _ mw_119) (fun _ h9 => h9) rfl d_Bc_nextRow_145 ?_
            refine lv_iload hx hb d_Bc_nextRow_148 (lv_at hl 13 rfl) ?_
            refine lv_iload hx hb d_Bc_nextRow_150 (lv_at hl 0 rfl) ?_
            refine w_iast hx hb hK hP hD hS 1 0 rfl rfl (i + 1) (by omega) (by omega) (by omega) d_Bc_nextRow_152 (fun H locs hP hD hS => ?_)
            have hP : va_P D classes [(o, .inr (1, [.ref wo, .ref ra])), (ra, ca cI 11 (iu (rwl (edr wt a (fun t => g (st + t)) pr) pr (i + 1)) (i + 1) (edr wt a (fun t => g (st + t)) pr (i + 1)))), (wo, .inr (5, [.ref wa])), (wa, ca cI 6 wt), (al, ca cI nL g)] H := hP
            have hD : va_D A [(o, .inr (1, [.ref wo, .ref ra])), (ra, ca cI 11 (iu (rwl (edr wt a (fun t => g (st + t)) pr) pr (i + 1)) (i + 1) (edr wt a (fun t => g (st + t)) pr (i + 1)))), (wo, .inr (5, [.ref wa])), (wa, ca cI 6 wt), (al, ca cI nL g)] := hD
            have eg : iu (rwl (edr wt a (fun t => g (st + t)) pr) pr (i + 1)) (i + 1) (edr wt a (fun t => g (st + t)) pr (i + 1)) = rwl (edr wt a (fun t => g (st + t)) pr) pr (i + 2) := rwl_s _ _ (i + 1)
            rw [eg] at hP hD
            clear eg
            refine w_iinc (k := 13) (lv' := [(11, .int (J ((i + 1 + 1 : Nat) : Int))), (10, .int (J (edr wt a (fun t => g (st + t)) pr (i + 1)))), (9, .int (J (pr (i + 1)))), (13, .int (J ((pr i) + (wt 2)))), (12, .int (J (g (st + i)))), (0, .ref o), (1, .int (J a)), (2, .ref al), (3, .int (J ((st : Nat) : Int))), (4, .int (J ((mm : Nat) : Int))), (5, .int (J (wt 0))), (6, .int (J (wt 1))), (7, .int (J (wt 2))), (8, .int (J (min (wt 2) (wt 3))))]) hx hb d_Bc_nextRow_153 hl rfl ((i + 1 + 1 : Nat) : Int) (by omega) (by decide) rfl (fun ls hl => ?_)
            refine lv_goto (tgt := 62) hx hb d_Bc_nextRow_156 (by decide) ?_
            exact ih_62 (i + 1) (by omega) (by omega) _ _ (P_map hP [0, 1, 2, 3, 4] rfl) (hD.sub [0, 1, 2, 3, 4] (by decide) rfl) hS ls (lv_sub hl [5, 6, 7, 8, 9, 10, 11, 12, 13, 2, 1, 0] rfl)
          · have hxc : xc wt a (g (st + i)) = min (wt 2) (wt 3) := by unfold xc; rw [if_neg (fun z => c_86 z.symm), if_pos c_102.symm]
            refine lv_iload hx hb d_Bc_nextRow_105 (lv_at hl 10 rfl) ?_
            refine lv_goto (tgt := 112) hx hb d_Bc_nextRow_107 (by decide) ?_
            refine w_iadd hx hb d_Bc_nextRow_112 ((pr i) + (min (wt 2) (wt 3))) (rfl) ?_
            refine lv_istore (lv' := [(13, .int (J ((pr i) + (min (wt 2) (wt 3))))), (12, .int (J (g (st + i)))), (0, .ref o), (1, .int (J a)), (2, .ref al), (3, .int (J ((st : Nat) : Int))), (4, .int (J ((mm : Nat) : Int))), (5, .int (J (wt 0))), (6, .int (J (wt 1))), (7, .int (J (wt 2))), (8, .int (J (min (wt 2) (wt 3)))), (9, .int (J (pr i))), (10, .int (J (edr wt a (fun t => g (st + t)) pr i))), (11, .int (J ((i + 1 : Nat) : Int)))]) hx hb d_Bc_nextRow_113 hl (by decide) rfl (fun ls hl => ?_)
            refine lv_aload_n hx hb d_Bc_nextRow_115 rfl (lv_at hl 2 rfl) ?_
            refine va_get (D := D) (ci := 1) (v := .ref ra) (C := R_Bc) (T := T_Bc) (N := 2) hx hb hts i_Bc hown hK hP 0 rfl rfl 1 (by decide) (hts _ mw_119) (fun _ h9 => h9) rfl d_Bc_nextRow_116 ?_
            refine lv_iload hx hb d_Bc_nextRow_119 (lv_at hl 13 rfl) ?_
            refine w_iald hx hb hK hP 1 0 rfl rfl (i + 1) (by omega) (by omega) (by omega) d_Bc_nextRow_121 ?_
            refine tp_J (y := pr (i + 1)) (rwl_ge _ _ (Nat.le_refl _)) ?_
            refine lv_istore (lv' := [(9, .int (J (pr (i + 1)))), (13, .int (J ((pr i) + (min (wt 2) (wt 3))))), (12, .int (J (g (st + i)))), (0, .ref o), (1, .int (J a)), (2, .ref al), (3, .int (J ((st : Nat) : Int))), (4, .int (J ((mm : Nat) : Int))), (5, .int (J (wt 0))), (6, .int (J (wt 1))), (7, .int (J (wt 2))), (8, .int (J (min (wt 2) (wt 3)))), (10, .int (J (edr wt a (fun t => g (st + t)) pr i))), (11, .int (J ((i + 1 : Nat) : Int)))]) hx hb d_Bc_nextRow_122 hl (by decide) rfl (fun ls hl => ?_)
            refine lv_iload hx hb d_Bc_nextRow_124 (lv_at hl 1 rfl) ?_
            refine lv_iload hx hb d_Bc_nextRow_126 (lv_at hl 12 rfl) ?_
            refine lv_iload hx hb d_Bc_nextRow_128 (lv_at hl 8 rfl) ?_
            refine w_iadd hx hb d_Bc_nextRow_130 ((edr wt a (fun t => g (st + t)) pr i) + (wt 0)) (rfl) ?_
            refine lv_iload hx hb d_Bc_nextRow_131 (lv_at hl 0 rfl) ?_
            refine lv_iload hx hb d_Bc_nextRow_133 (lv_at hl 9 rfl) ?_
            refine w_iadd hx hb d_Bc_nextRow_135 ((pr (i + 1)) + (wt 1)) (rfl) ?_
            refine w_mmin hx hb (by rw [hml]; exact hl.1.symm) hown (hts _ mw_351) (hts _ mw_347) (hts _ mw_34) (hts _ mw_348) (by decide) (Nat.le_of_ble_eq_true rfl) (by decide) (by decide) d_Bc_nextRow_136 (by omega) (by omega) ?_
            refine w_mmin hx hb (by rw [hml]; exact hl.1.symm) hown (hts _ mw_351) (hts _ mw_347) (hts _ mw_34) (hts _ mw_348) (by decide) (Nat.le_of_ble_eq_true rfl) (by decide) (by decide) d_Bc_nextRow_139 (by omega) (by omega) ?_
            refine tp_J (y := edr wt a (fun t => g (st + t)) pr (i + 1)) (by rw [edr, hxc]; try rw [Int.add_zero]) ?_
            refine lv_istore (lv' := [(10, .int (J (edr wt a (fun t => g (st + t)) pr (i + 1)))), (9, .int (J (pr (i + 1)))), (13, .int (J ((pr i) + (min (wt 2) (wt 3))))), (12, .int (J (g (st + i)))), (0, .ref o), (1, .int (J a)), (2, .ref al), (3, .int (J ((st : Nat) : Int))), (4, .int (J ((mm : Nat) : Int))), (5, .int (J (wt 0))), (6, .int (J (wt 1))), (7, .int (J (wt 2))), (8, .int (J (min (wt 2) (wt 3)))), (11, .int (J ((i + 1 : Nat) : Int)))]) hx hb d_Bc_nextRow_142 hl (by decide) rfl (fun ls hl => ?_)
            refine lv_aload_n hx hb d_Bc_nextRow_144 rfl (lv_at hl 4 rfl) ?_
            refine va_get (D := D) (ci := 1) (v := .ref ra) (C := R_Bc) (T := T_Bc) (N := 2) hx hb hts i_Bc hown hK hP 0 rfl rfl 1 (by decide) (hts _ mw_119) (fun _ h9 => h9) rfl d_Bc_nextRow_145 ?_
            refine lv_iload hx hb d_Bc_nextRow_148 (lv_at hl 13 rfl) ?_
            refine lv_iload hx hb d_Bc_nextRow_150 (lv_at hl 0 rfl) ?_
            refine w_iast hx hb hK hP hD hS 1 0 rfl rfl (i + 1) (by omega) (by omega) (by omega) d_Bc_nextRow_152 (fun H locs hP hD hS => ?_)
            have hP : va_P D classes [(o, .inr (1, [.ref wo, .ref ra])), (ra, ca cI 11 (iu (rwl (edr wt a (fun t => g (st + t)) pr) pr (i + 1)) (i + 1) (edr wt a (fun t => g (st + t)) pr (i + 1)))), (wo, .inr (5, [.ref wa])), (wa, ca cI 6 wt), (al, ca cI nL g)] H := hP
            have hD : va_D A [(o, .inr (1, [.ref wo, .ref ra])), (ra, ca cI 11 (iu (rwl (edr wt a (fun t => g (st + t)) pr) pr (i + 1)) (i + 1) (edr wt a (fun t => g (st + t)) pr (i + 1)))), (wo, .inr (5, [.ref wa])), (wa, ca cI 6 wt), (al, ca cI nL g)] := hD
            have eg : iu (rwl (edr wt a (fun t => g (st + t)) pr) pr (i + 1)) (i + 1) (edr wt a (fun t => g (st + t)) pr (i + 1)) = rwl (edr wt a (fun t => g (st + t)) pr) pr (i + 2) := rwl_s _ _ (i + 1)
            rw [eg] at hP hD
            clear eg
            refine w_iinc (k := 13) (lv' := [(11, .int (J ((i + 1 + 1 : Nat) : Int))), (10, .int (J (edr wt a (fun t => g (st + t)) pr (i + 1)))), (9, .int (J (pr (i + 1)))), (13, .int (J ((pr i) + (min (wt 2) (wt 3))))), (12, .int (J (g (st + i)))), (0, .ref o), (1, .int (J a)), (2, .ref al), (3, .int (J ((st : Nat) : Int))), (4, .int (J ((mm : Nat) : Int))), (5, .int (J (wt 0))), (6, .int (J (wt 1))), (7, .int (J (wt 2))), (8, .int (J (min (wt 2) (wt 3))))]) hx hb d_Bc_nextRow_153 hl rfl ((i + 1 + 1 : Nat) : Int) (by omega) (by decide) rfl (fun ls hl => ?_)
            refine lv_goto (tgt := 62) hx hb d_Bc_nextRow_156 (by decide) ?_
            exact ih_62 (i + 1) (by omega) (by omega) _ _ (P_map hP [0, 1, 2, 3, 4] rfl) (hD.sub [0, 1, 2, 3, 4] (by decide) rfl) hS ls (lv_sub hl [5, 6, 7, 8, 9, 10, 11, 12, 13, 2, 1, 0] rfl)
  exact lp_62 ((mm - 0) + 1) 0 (by omega) (Nat.lt_succ_self _) _ _ (P_map hP [0, 1, 2, 3, 4] rfl) (hD.sub [0, 1, 2, 3, 4] (by decide) rfl) hS ls (lv_sub hl [7, 8, 9, 10, 11, 6, 5, 4, 3, 2, 1, 0] rfl)
set_option maxHeartbeats 4000000 in
set_option maxRecDepth 100000 in
theorem c_Bc_between (l : Launch) (D : va_G) (cI cZ cJ : ClassId) (sz : Nat) (o : Nat) (wo : Nat) (wa : Nat) (ra : Nat) (wA : Nat) (aL : Nat) (aN : Nat) (wB : Nat) (bL : Nat) (bN : Nat) (nLA : Nat) (nA : Nat) (nLB : Nat) (nB : Nat) (ca1 : Int) (cb1 : Int) (wt : Nat → Int) (r0 : Nat → Int) (ga : Nat → Int) (la : Nat → Int) (gb : Nat → Int) (lt : Nat → Int) (w : Nat) (d : Nat) (hw : ∀ k, 0 ≤ wt k ∧ wt k ≤ 1000) (hla : ∀ k, 0 ≤ la k ∧ la k ≤ 10) (hlt : ∀ k, 0 ≤ lt k ∧ lt k ≤ 10) (hga : ∀ k, 0 ≤ ga k ∧ ga k < 26) (hgb : ∀ k, 0 ≤ gb k ∧ gb k < 26) (hA : w < nA ∧ nA ≤ 120 ∧ nLA = 10 * nA) (hB : d < nB ∧ nB ≤ 120 ∧ nLB = 10 * nB) (hr0 : ∀ k, 0 ≤ r0 k ∧ r0 k ≤ 100000) : Mi l y_Bc_between w_Bc_between ({ frames := 3, cells := 0, slots := 0, locals := 66 }) true D classes [(cI, .int), (cZ, .boolean), (cJ, .long)] sz [.ref o, .ref wA, .int (J ((w : Nat) : Int)), .ref wB, .int (J ((d : Nat) : Int))] [(o, .inr (1, [.ref wo, .ref ra])), (ra, ca cI 11 r0), (wo, .inr (5, [.ref wa])), (wa, ca cI 6 wt), (wA, .inr (6, [.ref aL, .ref aN, .int (J ca1)])), (aL, ca cI nLA ga), (aN, ca cI nA la), (wB, .inr (6, [.ref bL, .ref bN, .int (J cb1)])), (bL, ca cI nLB gb), (bN, ca cI nB lt)] (ed wt (fun t => ga (w * 10 + t)) (fun t => gb (d * 10 + t)) (la w).toNat (lt d).toNat) (S := Nat → Int) (fun f => ∀ k, 0 ≤ f k ∧ f k ≤ 100000) (fun u : Nat → Int => [(o, .inr (1, [.ref wo, .ref ra])), (ra, ca cI 11 u), (wo, .inr (5, [.ref wa])), (wa, ca cI 6 wt), (wA, .inr (6, [.ref aL, .ref aN, .int (J ca1)])), (aL, ca cI nLA ga), (aN, ca cI nA la), (wB, .inr (6, [.ref bL, .ref bN, .int (J cb1)])), (bL, ca cI nLB gb), (bN, ca cI nB lt)]) 0 0 := by
  refine Mi_of (cc := b_Bc_between) (maxL := 9) (by decide) rfl (Nat.le_of_ble_eq_true rfl) ?_
  intro p e s m args below meth c hx hb hr hml hts hown hlocks A hA hP hK hD hT hS Q hQ H hH ls hl
  subst hH
  have hl : lv_has ls 9 [(0, .ref o), (1, .ref wA), (2, .int (J ((w : Nat) : Int))), (3, .ref wB), (4, .int (J ((d : Nat) : Int)))] := hl
  have l1 := hla w
  have l2 := hlt d
  have w0 := hw 0
  refine lv_aload_n hx hb d_Bc_between_0 rfl (lv_at hl 3 rfl) ?_
  refine va_get (D := D) (ci := 6) (v := .ref bN) (C := R_Wo) (T := T_Wo) (N := 3) hx hb hts i_Wo hown hK hP 7 rfl rfl 1 (by decide) (hts _ mw_63) (fun _ h9 => h9) rfl d_Bc_between_1 ?_
  refine lv_iload hx hb d_Bc_between_4 (lv_at hl 4 rfl) ?_
  refine w_iald hx hb hK hP 9 0 rfl rfl d (by omega) (by omega) (by omega) d_Bc_between_6 ?_
  refine tp_J (y := (((lt d).toNat : Nat) : Int)) (by omega) ?_
  refine lv_istore (lv' := [(5, .int (J (((lt d).toNat : Nat) : Int))), (0, .ref o), (1, .ref wA), (2, .int (J ((w : Nat) : Int))), (3, .ref wB), (4, .int (J ((d : Nat) : Int)))]) hx hb d_Bc_between_7 hl (by decide) rfl (fun ls hl => ?_)
  refine lv_aload_n hx hb d_Bc_between_9 rfl (lv_at hl 1 rfl) ?_
  refine va_get (D := D) (ci := 1) (v := .ref wo) (C := R_Bc) (T := T_Bc) (N := 2) hx hb hts i_Bc hown hK hP 0 rfl rfl 0 (by decide) (hts _ mw_118) (fun _ h9 => h9) rfl d_Bc_between_10 ?_
  refine Ri_call (va_runV (As := []) (rest := []) ⟨hx, hb, hml, hown, hts⟩ (c_We_putIn l D cI cZ cJ wo wa wt ) (cwV 0 hts (g_V mw_325 mw_326 mw_327 mw_28 mw_328) rfl rfl rfl (by decide +kernel) ⟨Nat.le_of_ble_eq_true rfl, Nat.le_of_ble_eq_true rfl⟩) (pre_RV hP hK [2, 3] rfl 5 0 rfl rfl) rfl rfl hl.1 rfl (lv_room (Nat.le_of_ble_eq_true rfl)) d_Bc_between_13 ⟨Nat.le_of_ble_eq_true rfl, Nat.le_of_ble_eq_true rfl⟩) ?_
  refine lv_istore (lv' := [(6, .int (J (wt 0))), (5, .int (J (((lt d).toNat : Nat) : Int))), (0, .ref o), (1, .ref wA), (2, .int (J ((w : Nat) : Int))), (3, .ref wB), (4, .int (J ((d : Nat) : Int)))]) hx hb d_Bc_between_16 hl (by decide) rfl (fun ls hl => ?_)
  refine lv_iconst (v := J (0)) hx hb d_Bc_between_18 rfl ?_
  refine lv_istore (lv' := [(7, .int (J 0)), (6, .int (J (wt 0))), (5, .int (J (((lt d).toNat : Nat) : Int))), (0, .ref o), (1, .ref wA), (2, .int (J ((w : Nat) : Int))), (3, .ref wB), (4, .int (J ((d : Nat) : Int)))]) hx hb d_Bc_between_19 hl (by decide) rfl (fun ls hl => ?_)
  have lp_21 : ∀ (fu : Nat) (i : Nat), (i ≤ (lt d).toNat + 1) → ((lt d).toNat + 1 - i) < fu → ∀ (H : Heap) (locs : List Loc), va_P D classes [(o, .inr (1, [.ref wo, .ref ra])), (ra, ca cI 11 (rwl (ed0 wt) r0 i)), (wo, .inr (5, [.ref wa])), (wa, ca cI 6 wt), (wA, .inr (6, [.ref aL, .ref aN, .int (J ca1)])), (aL, ca cI nLA ga), (aN, ca cI nA la), (wB, .inr (6, [.ref bL, .ref bN, .int (J cb1)])), (bL, ca cI nLB gb), (bN, ca cI nB lt)] H → va_D A [(o, .inr (1, [.ref wo, .ref ra])), (ra, ca cI 11 (rwl (ed0 wt) r0 i)), (wo, .inr (5, [.ref wa])), (wa, ca cI 6 wt), (wA, .inr (6, [.ref aL, .ref aN, .int (J ca1)])), (aL, ca cI nLA ga), (aN, ca cI nA la), (wB, .inr (6, [.ref bL, .ref bN, .int (J cb1)])), (bL, ca cI nLB gb), (bN, ca cI nB lt)] → va_S A s.heap H locs → ∀ ls : Array Slot, lv_has ls 9 [(0, .ref o), (1, .ref wA), (2, .int (J ((w : Nat) : Int))), (3, .ref wB), (4, .int (J ((d : Nat) : Int))), (5, .int (J (((lt d).toNat : Nat) : Int))), (6, .int (J (wt 0))), (7, .int (J ((i : Nat) : Int)))] → W p l e ({ frames := 3, cells := 0, slots := 0, locals := 66 }) s m args below meth c H locs 0 0 Q (F0 m 21 ls []) := by
    intro fu
    induction fu with
    | zero => intro i hi hfu; exact absurd hfu (Nat.not_lt_zero _)
    | succ fu ih_21 =>
      intro i hi hfu H locs hP hD hS ls hl
      refine lv_iload hx hb d_Bc_between_21 (lv_at hl 7 rfl) ?_
      refine lv_iload hx hb d_Bc_between_23 (lv_at hl 5 rfl) ?_
      refine w_icmp_gt (tgt := 46) hx hb d_Bc_between_25 (by decide) (by omega) (by omega) (fun c_25 => ?_) (fun c_25 => ?_)
      · obtain rfl : i = (lt d).toNat + 1 := by omega
        refine lv_iload_n hx hb d_Bc_between_46 rfl (lv_at hl 2 rfl) ?_
        refine Ri_call (va_runS (As := [.int (J ((w : Nat) : Int))]) (rest := []) ⟨hx, hb, hml, hown, hts⟩ (c_Wo_startOf l D cI cZ cJ w ) (va_cwS 1 hts (g_S mw_329 mw_251 mw_27 mw_252) rfl rfl rfl (by decide +kernel) ⟨Nat.le_of_ble_eq_true rfl, Nat.le_of_ble_eq_true rfl⟩) (pre_RS hP hK [] rfl) rfl rfl hl.1 rfl (lv_room (Nat.le_of_ble_eq_true rfl)) d_Bc_between_47 ⟨Nat.le_of_ble_eq_true rfl, Nat.le_of_ble_eq_true rfl⟩) ?_
        refine lv_istore (lv' := [(7, .int (J ((w * 10 : Nat) : Int))), (0, .ref o), (1, .ref wA), (2, .int (J ((w : Nat) : Int))), (3, .ref wB), (4, .int (J ((d : Nat) : Int))), (5, .int (J (((lt d).toNat : Nat) : Int))), (6, .int (J (wt 0)))]) hx hb d_Bc_between_50 hl (by decide) rfl (fun ls hl => ?_)
        refine lv_iconst (v := J (0)) hx hb d_Bc_between_52 rfl ?_
        refine lv_istore (lv' := [(8, .int (J 0)), (7, .int (J ((w * 10 : Nat) : Int))), (0, .ref o), (1, .ref wA), (2, .int (J ((w : Nat) : Int))), (3, .ref wB), (4, .int (J ((d : Nat) : Int))), (5, .int (J (((lt d).toNat : Nat) : Int))), (6, .int (J (wt 0)))]) hx hb d_Bc_between_53 hl (by decide) rfl (fun ls hl => ?_)
        have lp_55 : ∀ (fu : Nat) (i : Nat), (i ≤ (la w).toNat) → ((la w).toNat - i) < fu → ∀ (H : Heap) (locs : List Loc), va_P D classes [(o, .inr (1, [.ref wo, .ref ra])), (ra, ca cI 11 (rwl (ed wt (fun t => ga (w * 10 + t)) (fun t => gb (d * 10 + t)) i) r0 ((lt d).toNat + 1))), (wo, .inr (5, [.ref wa])), (wa, ca cI 6 wt), (wA, .inr (6, [.ref aL, .ref aN, .int (J ca1)])), (aL, ca cI nLA ga), (aN, ca cI nA la), (wB, .inr (6, [.ref bL, .ref bN, .int (J cb1)])), (bL, ca cI nLB gb), (bN, ca cI nB lt)] H → va_D A [(o, .inr (1, [.ref wo, .ref ra])), (ra, ca cI 11 (rwl (ed wt (fun t => ga (w * 10 + t)) (fun t => gb (d * 10 + t)) i) r0 ((lt d).toNat + 1))), (wo, .inr (5, [.ref wa])), (wa, ca cI 6 wt), (wA, .inr (6, [.ref aL, .ref aN, .int (J ca1)])), (aL, ca cI nLA ga), (aN, ca cI nA la), (wB, .inr (6, [.ref bL, .ref bN, .int (J cb1)])), (bL, ca cI nLB gb), (bN, ca cI nB lt)] → va_S A s.heap H locs → ∀ ls : Array Slot, lv_has ls 9 [(0, .ref o), (1, .ref wA), (2, .int (J ((w : Nat) : Int))), (3, .ref wB), (4, .int (J ((d : Nat) : Int))), (5, .int (J (((lt d).toNat : Nat) : Int))), (7, .int (J ((w * 10 : Nat) : Int))), (8, .int (J ((i : Nat) : Int)))] → W p l e ({ frames := 3, cells := 0, slots := 0, locals := 66 }) s m args below meth c H locs 0 0 Q (F0 m 55 ls []) := by
          intro fu
          induction fu with
          | zero => intro i hi hfu; exact absurd hfu (Nat.not_lt_zero _)
          | succ fu ih_55 =>
            intro i hi hfu H locs hP hD hS ls hl
            have hpr : ∀ k, 0 ≤ rwl (ed wt (fun t => ga (w * 10 + t)) (fun t => gb (d * 10 + t)) i) r0 ((lt d).toNat + 1) k ∧ rwl (ed wt (fun t => ga (w * 10 + t)) (fun t => gb (d * 10 + t)) i) r0 ((lt d).toNat + 1) k ≤ 100000 := fun k => by
              have e1 := ed_rg hw (fun t => ga (w * 10 + t)) (fun t => gb (d * 10 + t)) i k
              have e2 := hr0 k
              unfold rwl
              split <;> omega
            refine lv_iload hx hb d_Bc_between_55 (lv_at hl 7 rfl) ?_
            refine lv_aload_n hx hb d_Bc_between_57 rfl (lv_at hl 1 rfl) ?_
            refine va_get (D := D) (ci := 6) (v := .ref aN) (C := R_Wo) (T := T_Wo) (N := 3) hx hb hts i_Wo hown hK hP 4 rfl rfl 1 (by decide) (hts _ mw_63) (fun _ h9 => h9) rfl d_Bc_between_58 ?_
            refine lv_iload_n hx hb d_Bc_between_61 rfl (lv_at hl 2 rfl) ?_
            refine w_iald hx hb hK hP 6 0 rfl rfl w (by omega) (by omega) (by omega) d_Bc_between_62 ?_
            refine tp_J (y := (((la w).toNat : Nat) : Int)) (by omega) ?_
            refine w_icmp_ge (tgt := 97) hx hb d_Bc_between_63 (by decide) (by omega) (by omega) (fun c_63 => ?_) (fun c_63 => ?_)
            · obtain rfl : i = (la w).toNat := by omega
              refine lv_aload_n hx hb d_Bc_between_97 rfl (lv_at hl 0 rfl) ?_
              refine va_get (D := D) (ci := 1) (v := .ref ra) (C := R_Bc) (T := T_Bc) (N := 2) hx hb hts i_Bc hown hK hP 0 rfl rfl 1 (by decide) (hts _ mw_119) (fun _ h9 => h9) rfl d_Bc_between_98 ?_
              refine lv_iload hx hb d_Bc_between_101 (lv_at hl 5 rfl) ?_
              refine w_iald hx hb hK hP 1 0 rfl rfl ((lt d).toNat) (by omega) (by omega) (by omega) d_Bc_between_103 ?_
              refine tp_J (y := ed wt (fun t => ga (w * 10 + t)) (fun t => gb (d * 10 + t)) (la w).toNat (lt d).toNat) (rwl_lt _ _ (Nat.lt_succ_self _)) ?_
              exact Mi_ret hx hb hr hlocks hQ d_Bc_between_104 hP hK hD hS nb_i (rfl) (rwl (ed wt (fun t => ga (w * 10 + t)) (fun t => gb (d * 10 + t)) (la w).toNat) r0 ((lt d).toNat + 1)) (hpr) [0, 1, 2, 3, 4, 5, 6, 7, 8, 9] rfl (by decide)
            · have g1 := hga (w * 10 + i)
              refine lv_aload_n hx hb d_Bc_between_66 rfl (lv_at hl 0 rfl) ?_
              refine lv_aload_n hx hb d_Bc_between_67 rfl (lv_at hl 1 rfl) ?_
              refine va_get (D := D) (ci := 6) (v := .ref aL) (C := R_Wo) (T := T_Wo) (N := 3) hx hb hts i_Wo hown hK hP 4 rfl rfl 0 (by decide) (hts _ mw_60) (fun _ h9 => h9) rfl d_Bc_between_68 ?_
              refine lv_iload hx hb d_Bc_between_71 (lv_at hl 6 rfl) ?_
              refine lv_iload hx hb d_Bc_between_73 (lv_at hl 7 rfl) ?_
              refine w_iadd hx hb d_Bc_between_75 (((w * 10) + i : Nat) : Int) (by omega) ?_
              refine w_iald hx hb hK hP 5 0 rfl rfl ((w * 10) + i) (by omega) (by omega) (by omega) d_Bc_between_76 ?_
              refine lv_aload_n hx hb d_Bc_between_77 rfl (lv_at hl 3 rfl) ?_
              refine va_get (D := D) (ci := 6) (v := .ref bL) (C := R_Wo) (T := T_Wo) (N := 3) hx hb hts i_Wo hown hK hP 7 rfl rfl 0 (by decide) (hts _ mw_60) (fun _ h9 => h9) rfl d_Bc_between_78 ?_
              refine lv_iload hx hb d_Bc_between_81 (lv_at hl 4 rfl) ?_
              refine Ri_call (va_runS (As := [.int (J ((d : Nat) : Int))]) (rest := [.ref bL, .int (J (ga ((w * 10) + i))), .ref o]) ⟨hx, hb, hml, hown, hts⟩ (c_Wo_startOf l D cI cZ cJ d ) (va_cwS 1 hts (g_S mw_329 mw_251 mw_27 mw_252) rfl rfl rfl (by decide +kernel) ⟨Nat.le_of_ble_eq_true rfl, Nat.le_of_ble_eq_true rfl⟩) (pre_RS hP hK [] rfl) rfl rfl hl.1 rfl (lv_room (Nat.le_of_ble_eq_true rfl)) d_Bc_between_83 ⟨Nat.le_of_ble_eq_true rfl, Nat.le_of_ble_eq_true rfl⟩) ?_
              refine lv_iload hx hb d_Bc_between_86 (lv_at hl 5 rfl) ?_
              refine Mv_call (wr := [(wA, .inr (6, [.ref aL, .ref aN, .int (J ca1)])), (aL, ca cI nLA ga), (aN, ca cI nA la), (wB, .inr (6, [.ref bL, .ref bN, .int (J cb1)])), (bN, ca cI nB lt)]) (va_runV (As := [.int (J (ga ((w * 10) + i))), .ref bL, .int (J ((d * 10 : Nat) : Int)), .int (J (((lt d).toNat : Nat) : Int))]) (rest := []) ⟨hx, hb, hml, hown, hts⟩ (c_Bc_nextRow l D cI cZ cJ H.size o wo wa ra bL nLB wt (rwl (ed wt (fun t => ga (w * 10 + t)) (fun t => gb (d * 10 + t)) i) r0 ((lt d).toNat + 1)) gb (ga ((w * 10) + i)) (d * 10) ((lt d).toNat) (by first | assumption | omega) (hpr) (hgb) (by first | assumption | omega) (by first | assumption | omega) (by first | assumption | omega) (by first | assumption | omega)) (cwV 4 hts (g_V mw_330 mw_332 mw_4 mw_29 mw_333) rfl rfl rfl (by decide +kernel) ⟨Nat.le_of_ble_eq_true rfl, Nat.le_of_ble_eq_true rfl⟩) (pre_WV hP hK hD [0, 1, 2, 3, 8] rfl (by decide) 1 0 rfl rfl (fun _ => (hT rfl).at hD hS hA [0, 1, 2, 3, 8] rfl)) rfl rfl hl.1 rfl (lv_room (Nat.le_of_ble_eq_true rfl)) d_Bc_between_88 ⟨Nat.le_of_ble_eq_true rfl, Nat.le_of_ble_eq_true rfl⟩) hP hD hS hA [0, 1, 2, 3, 8] [4, 5, 6, 7, 9] rfl rfl (by decide) (by decide) (fun _u H locs _hu hP hD hS => ?_)
              have hP : va_P D classes [(wA, .inr (6, [.ref aL, .ref aN, .int (J ca1)])), (aL, ca cI nLA ga), (aN, ca cI nA la), (wB, .inr (6, [.ref bL, .ref bN, .int (J cb1)])), (bN, ca cI nB lt), (o, .inr (1, [.ref wo, .ref ra])), (ra, ca cI 11 (rwl (edr wt (ga ((w * 10) + i)) (fun t => gb ((d * 10) + t)) (rwl (ed wt (fun t => ga (w * 10 + t)) (fun t => gb (d * 10 + t)) i) r0 ((lt d).toNat + 1))) (rwl (ed wt (fun t => ga (w * 10 + t)) (fun t => gb (d * 10 + t)) i) r0 ((lt d).toNat + 1)) (((lt d).toNat) + 1))), (wo, .inr (5, [.ref wa])), (wa, ca cI 6 wt), (bL, ca cI nLB gb)] H := hP
              have hD : va_D A [(wA, .inr (6, [.ref aL, .ref aN, .int (J ca1)])), (aL, ca cI nLA ga), (aN, ca cI nA la), (wB, .inr (6, [.ref bL, .ref bN, .int (J cb1)])), (bN, ca cI nB lt), (o, .inr (1, [.ref wo, .ref ra])), (ra, ca cI 11 (rwl (edr wt (ga ((w * 10) + i)) (fun t => gb ((d * 10) + t)) (rwl (ed wt (fun t => ga (w * 10 + t)) (fun t => gb (d * 10 + t)) i) r0 ((lt d).toNat + 1))) (rwl (ed wt (fun t => ga (w * 10 + t)) (fun t => gb (d * 10 + t)) i) r0 ((lt d).toNat + 1)) (((lt d).toNat) + 1))), (wo, .inr (5, [.ref wa])), (wa, ca cI 6 wt), (bL, ca cI nLB gb)] := hD
              have eg : rwl (edr wt (ga ((w * 10) + i)) (fun t => gb ((d * 10) + t)) (rwl (ed wt (fun t => ga (w * 10 + t)) (fun t => gb (d * 10 + t)) i) r0 ((lt d).toNat + 1))) (rwl (ed wt (fun t => ga (w * 10 + t)) (fun t => gb (d * 10 + t)) i) r0 ((lt d).toNat + 1)) (((lt d).toNat) + 1) = rwl (ed wt (fun t => ga (w * 10 + t)) (fun t => gb (d * 10 + t)) (i + 1)) r0 ((lt d).toNat + 1) := rwl_ed wt (fun t => ga (w * 10 + t)) (fun t => gb (d * 10 + t)) r0 i (lt d).toNat
              rw [eg] at hP hD
              clear eg
              refine w_iinc (k := 7) (lv' := [(8, .int (J ((i + 1 : Nat) : Int))), (0, .ref o), (1, .ref wA), (2, .int (J ((w : Nat) : Int))), (3, .ref wB), (4, .int (J ((d : Nat) : Int))), (5, .int (J (((lt d).toNat : Nat) : Int))), (7, .int (J ((w * 10 : Nat) : Int)))]) hx hb d_Bc_between_91 hl rfl ((i + 1 : Nat) : Int) (by omega) (by decide) rfl (fun ls hl => ?_)
              refine lv_goto (tgt := 55) hx hb d_Bc_between_94 (by decide) ?_
              exact ih_55 (i + 1) (by omega) (by omega) _ _ (P_map hP [5, 6, 7, 8, 0, 1, 2, 3, 9, 4] rfl) (hD.sub [5, 6, 7, 8, 0, 1, 2, 3, 9, 4] (by decide) rfl) hS ls (lv_sub hl [1, 2, 3, 4, 5, 6, 7, 0] rfl)
        have e9 : rwl (ed0 wt) r0 ((lt d).toNat + 1) = rwl (ed wt (fun t => ga (w * 10 + t)) (fun t => gb (d * 10 + t)) 0) r0 ((lt d).toNat + 1) := rfl
        exact lp_55 (((la w).toNat - 0) + 1) 0 (by omega) (Nat.lt_succ_self _) _ _ (P_map hP [0, 1, 2, 3, 4, 5, 6, 7, 8, 9] rfl) (hD.sub [0, 1, 2, 3, 4, 5, 6, 7, 8, 9] (by decide) rfl) hS ls (lv_sub hl [2, 3, 4, 5, 6, 7, 1, 0] rfl)
      · refine lv_aload_n hx hb d_Bc_between_28 rfl (lv_at hl 0 rfl) ?_
        refine va_get (D := D) (ci := 1) (v := .ref ra) (C := R_Bc) (T := T_Bc) (N := 2) hx hb hts i_Bc hown hK hP 0 rfl rfl 1 (by decide) (hts _ mw_119) (fun _ h9 => h9) rfl d_Bc_between_29 ?_
        refine lv_iload hx hb d_Bc_between_32 (lv_at hl 7 rfl) ?_
        refine lv_iload hx hb d_Bc_between_34 (lv_at hl 7 rfl) ?_
        refine lv_iload hx hb d_Bc_between_36 (lv_at hl 6 rfl) ?_
        refine w_imul hx hb d_Bc_between_38 (ed0 wt i) ((ed0_mul wt i).symm) ?_
        refine w_iast hx hb hK hP hD hS 1 0 rfl rfl i (by omega) (by omega) (by omega) d_Bc_between_39 (fun H locs hP hD hS => ?_)
        have hP : va_P D classes [(o, .inr (1, [.ref wo, .ref ra])), (ra, ca cI 11 (iu (rwl (ed0 wt) r0 i) i (ed0 wt i))), (wo, .inr (5, [.ref wa])), (wa, ca cI 6 wt), (wA, .inr (6, [.ref aL, .ref aN, .int (J ca1)])), (aL, ca cI nLA ga), (aN, ca cI nA la), (wB, .inr (6, [.ref bL, .ref bN, .int (J cb1)])), (bL, ca cI nLB gb), (bN, ca cI nB lt)] H := hP
        have hD : va_D A [(o, .inr (1, [.ref wo, .ref ra])), (ra, ca cI 11 (iu (rwl (ed0 wt) r0 i) i (ed0 wt i))), (wo, .inr (5, [.ref wa])), (wa, ca cI 6 wt), (wA, .inr (6, [.ref aL, .ref aN, .int (J ca1)])), (aL, ca cI nLA ga), (aN, ca cI nA la), (wB, .inr (6, [.ref bL, .ref bN, .int (J cb1)])), (bL, ca cI nLB gb), (bN, ca cI nB lt)] := hD
        have eg : iu (rwl (ed0 wt) r0 i) i (ed0 wt i) = rwl (ed0 wt) r0 (i + 1) := rwl_s _ _ i
        rw [eg] at hP hD
        clear eg
        refine w_iinc (k := 7) (lv' := [(7, .int (J ((i + 1 : Nat) : Int))), (0, .ref o), (1, .ref wA), (2, .int (J ((w : Nat) : Int))), (3, .ref wB), (4, .int (J ((d : Nat) : Int))), (5, .int (J (((lt d).toNat : Nat) : Int))), (6, .int (J (wt 0)))]) hx hb d_Bc_between_40 hl rfl ((i + 1 : Nat) : Int) (by omega) (by decide) rfl (fun ls hl => ?_)
        refine lv_goto (tgt := 21) hx hb d_Bc_between_43 (by decide) ?_
        exact ih_21 (i + 1) (by omega) (by omega) _ _ (P_map hP [0, 1, 2, 3, 4, 5, 6, 7, 8, 9] rfl) (hD.sub [0, 1, 2, 3, 4, 5, 6, 7, 8, 9] (by decide) rfl) hS ls (lv_sub hl [1, 2, 3, 4, 5, 6, 7, 0] rfl)
  rw [← rwl_0 (ed0 wt) r0] at hP hD
  exact lp_21 (((lt d).toNat + 1 - 0) + 1) 0 (by omega) (Nat.lt_succ_self _) _ _ (P_map hP [0, 1, 2, 3, 4, 5, 6, 7, 8, 9] rfl) (hD.sub [0, 1, 2, 3, 4, 5, 6, 7, 8, 9] (by decide) rfl) hS ls (lv_sub hl [3, 4, 5, 6, 7, 2, 1, 0] rfl)
