/-- letters counted: the row of counts while the first i of x are counted -/
def ctf (x : Nat → Int) (i : Nat) : Nat → Int := fun c => cnt x i (c : Int)
theorem ctf_0 (x : Nat → Int) : ctf x 0 = fun _ => 0 := rfl
theorem ctf_s {x : Nat → Int} (i : Nat) (h : 0 ≤ x i ∧ x i < 26) : iu (ctf x i) (x i).toNat (ctf x i (x i).toNat + 1) = ctf x (i + 1) := by
  funext c
  by_cases e : c = (x i).toNat
  · subst e
    rw [iu_s]
    show cnt x i _ + 1 = cnt x i _ + (if x i = _ then 1 else 0)
    rw [if_pos (by omega)]
  · rw [iu_n _ _ e]
    show cnt x i _ = cnt x i _ + (if x i = _ then 1 else 0)
    rw [if_neg (by omega)]
    omega
/-- what is left of x's letters when the first j of v are taken off -/
def lft (x : Nat → Int) (n : Nat) (v : Nat → Int) (j : Nat) : Nat → Int := fun c => max 0 (cnt x n (c : Int) - cnt v j (c : Int))
theorem lft_0 (x : Nat → Int) (n : Nat) (v : Nat → Int) : ctf x n = lft x n v 0 := by
  funext c
  have := cnt_rg x n (c : Int)
  show cnt x n _ = max 0 (cnt x n _ - 0)
  omega
theorem lft_rg (x : Nat → Int) (n : Nat) (v : Nat → Int) (j c : Nat) : 0 ≤ lft x n v j c ∧ lft x n v j c ≤ (n : Int) := by
  have h1 := cnt_rg x n (c : Int)
  have h2 := cnt_rg v j (c : Int)
  unfold lft
  omega
theorem lft_s {x v : Nat → Int} {n : Nat} (j : Nat) (h : 0 ≤ v j ∧ v j < 26) (hp : 0 < lft x n v j (v j).toNat) : iu (lft x n v j) (v j).toNat (lft x n v j (v j).toNat - 1) = lft x n v (j + 1) ∧ shr x n v (j + 1) = shr x n v j + 1 := by
  have hc : (((v j).toNat : Nat) : Int) = v j := by omega
  have e1 : cnt v (j + 1) (v j) = cnt v j (v j) + 1 := by rw [cnt, if_pos rfl]
  constructor
  · funext c
    by_cases e : c = (v j).toNat
    · subst e
      rw [iu_s]
      unfold lft at hp ⊢
      rw [hc] at hp ⊢
      rw [e1]
      omega
    · rw [iu_n _ _ e]
      unfold lft
      have : cnt v (j + 1) (c : Int) = cnt v j (c : Int) := by rw [cnt, if_neg (by omega)]; omega
      rw [this]
  · unfold shr
    refine sm_at (k := (v j).toNat) (by omega) (fun c hcn => ?_) ?_
    · have : cnt v (j + 1) (c : Int) = cnt v j (c : Int) := by rw [cnt, if_neg (by omega)]; omega
      show min (cnt x n (c : Int)) (cnt v (j + 1) (c : Int)) = min (cnt x n (c : Int)) (cnt v j (c : Int))
      rw [this]
    · unfold lft at hp
      rw [hc] at hp
      show min (cnt x n _) (cnt v (j + 1) _) = min (cnt x n _) (cnt v j _) + 1
      rw [hc, e1]
      omega
theorem lft_k {x v : Nat → Int} {n : Nat} (j : Nat) (h : 0 ≤ v j ∧ v j < 26) (hp : lft x n v j (v j).toNat ≤ 0) : lft x n v j = lft x n v (j + 1) ∧ shr x n v (j + 1) = shr x n v j := by
  have hc : (((v j).toNat : Nat) : Int) = v j := by omega
  have e1 : cnt v (j + 1) (v j) = cnt v j (v j) + 1 := by rw [cnt, if_pos rfl]
  unfold lft at hp
  rw [hc] at hp
  constructor
  · funext c
    unfold lft
    by_cases e : c = (v j).toNat
    · subst e
      rw [hc, e1]
      omega
    · have : cnt v (j + 1) (c : Int) = cnt v j (c : Int) := by rw [cnt, if_neg (by omega)]; omega
      rw [this]
  · unfold shr
    refine sm_eq (fun c _ => ?_)
    by_cases e : c = (v j).toNat
    · subst e
      rw [hc, e1]
      omega
    · have : cnt v (j + 1) (c : Int) = cnt v j (c : Int) := by rw [cnt, if_neg (by omega)]; omega
      rw [this]
/-- the row of counts while the places of the first i of x are set back -/
def bck (x : Nat → Int) (i : Nat) (f : Nat → Int) : Nat → Int := fun c => if 0 < cnt x i (c : Int) then 0 else f c
theorem bck_0 (x f : Nat → Int) : bck x 0 f = f := by
  funext c
  unfold bck
  rw [if_neg (by simp [cnt])]
theorem bck_s {x : Nat → Int} (i : Nat) (f : Nat → Int) (h : 0 ≤ x i ∧ x i < 26) : iu (bck x i f) (x i).toNat 0 = bck x (i + 1) f := by
  funext c
  have h1 := cnt_rg x i (c : Int)
  by_cases e : c = (x i).toNat
  · subst e
    rw [iu_s]
    unfold bck
    rw [if_pos]
    rw [cnt, if_pos (by omega)]
    omega
  · rw [iu_n _ _ e]
    unfold bck
    have : cnt x (i + 1) (c : Int) = cnt x i (c : Int) := by rw [cnt, if_neg (by omega)]; omega
    rw [this]
theorem bck_e (x : Nat → Int) (n : Nat) (v : Nat → Int) (j : Nat) : bck x n (lft x n v j) = fun _ => 0 := by
  funext c
  have h1 := cnt_rg x n (c : Int)
  have h2 := cnt_rg v j (c : Int)
  unfold bck lft
  split
  · rfl
  · omega
theorem shr_0 (x : Nat → Int) (n : Nat) (v : Nat → Int) : shr x n v 0 = 0 := by
  unfold shr
  rw [sm_eq (g := fun _ => 0) (fun c _ => by have := cnt_rg x n (c : Int); show min (cnt x n (c : Int)) 0 = 0; omega), sm_0]
set_option maxHeartbeats 4000000 in
set_option maxRecDepth 100000 in
theorem c_Bn_sharedLetters (l : Launch) (D : va_G) (cI cZ cJ : ClassId) (sz : Nat) (o : Nat) (wo : Nat) (ra : Nat) (wA : Nat) (aL : Nat) (aN : Nat) (wB : Nat) (bL : Nat) (bN : Nat) (nLA : Nat) (nA : Nat) (nLB : Nat) (nB : Nat) (ca1 : Int) (cb1 : Int) (ga : Nat → Int) (la : Nat → Int) (gb : Nat → Int) (lt : Nat → Int) (w : Nat) (d : Nat) (hla : ∀ k, 0 ≤ la k ∧ la k ≤ 10) (hlt : ∀ k, 0 ≤ lt k ∧ lt k ≤ 10) (hga : ∀ k, 0 ≤ ga k ∧ ga k < 26) (hgb : ∀ k, 0 ≤ gb k ∧ gb k < 26) (hA : w < nA ∧ nA ≤ 120 ∧ nLA = 10 * nA) (hB : d < nB ∧ nB ≤ 120 ∧ nLB = 10 * nB) : Mi l y_Bn_sharedLetters w_Bn_sharedLetters ({ frames := 1, cells := 0, slots := 0, locals := 20 }) false D classes [(cI, .int), (cZ, .boolean), (cJ, .long)] sz [.ref o, .ref wA, .int (J ((w : Nat) : Int)), .ref wB, .int (J ((d : Nat) : Int))] [(o, .inr (2, [.ref wo, .ref ra])), (ra, ca cI 26 (fun _ => 0)), (wA, .inr (6, [.ref aL, .ref aN, .int (J ca1)])), (aL, ca cI nLA ga), (aN, ca cI nA la), (wB, .inr (6, [.ref bL, .ref bN, .int (J cb1)])), (bL, ca cI nLB gb), (bN, ca cI nB lt)] (shr (fun t => ga (w * 10 + t)) (la w).toNat (fun t => gb (d * 10 + t)) (lt d).toNat) (S := Unit) (fun _ => True) (fun u : Unit => [(o, .inr (2, [.ref wo, .ref ra])), (ra, ca cI 26 (fun _ => 0)), (wA, .inr (6, [.ref aL, .ref aN, .int (J ca1)])), (aL, ca cI nLA ga), (aN, ca cI nA la), (wB, .inr (6, [.ref bL, .ref bN, .int (J cb1)])), (bL, ca cI nLB gb), (bN, ca cI nB lt)]) 0 0 := by
  refine Mi_of (cc := b_Bn_sharedLetters) (maxL := 10) (by decide) rfl (Nat.le_of_ble_eq_true rfl) ?_
  intro p e s m args below meth c hx hb hr hml hts hown hlocks A hA hP hK hD hT hS Q hQ H hH ls hl
  subst hH
  have hl : lv_has ls 10 [(0, .ref o), (1, .ref wA), (2, .int (J ((w : Nat) : Int))), (3, .ref wB), (4, .int (J ((d : Nat) : Int)))] := hl
  have l1 := hla w
  have l2 := hlt d
  refine lv_iload_n hx hb d_Bn_sharedLetters_0 rfl (lv_at hl 2 rfl) ?_
  refine Ri_call (va_runS (As := [.int (J ((w : Nat) : Int))]) (rest := []) ⟨hx, hb, hml, hown, hts⟩ (c_Wo_startOf l D cI cZ cJ w ) (va_cwS 1 hts (g_S mw_362 mw_251 mw_27 mw_252) rfl rfl rfl (by decide +kernel) ⟨Nat.le_of_ble_eq_true rfl, Nat.le_of_ble_eq_true rfl⟩) (pre_RS hP hK [] rfl) rfl rfl hl.1 rfl (lv_room (Nat.le_of_ble_eq_true rfl)) d_Bn_sharedLetters_1 ⟨Nat.le_of_ble_eq_true rfl, Nat.le_of_ble_eq_true rfl⟩) ?_
  refine lv_istore (lv' := [(5, .int (J ((w * 10 : Nat) : Int))), (0, .ref o), (1, .ref wA), (2, .int (J ((w : Nat) : Int))), (3, .ref wB), (4, .int (J ((d : Nat) : Int)))]) hx hb d_Bn_sharedLetters_4 hl (by decide) rfl (fun ls hl => ?_)
  refine lv_iload hx hb d_Bn_sharedLetters_6 (lv_at hl 5 rfl) ?_
  refine Ri_call (va_runS (As := [.int (J ((d : Nat) : Int))]) (rest := []) ⟨hx, hb, hml, hown, hts⟩ (c_Wo_startOf l D cI cZ cJ d ) (va_cwS 1 hts (g_S mw_362 mw_251 mw_27 mw_252) rfl rfl rfl (by decide +kernel) ⟨Nat.le_of_ble_eq_true rfl, Nat.le_of_ble_eq_true rfl⟩) (pre_RS hP hK [] rfl) rfl rfl hl.1 rfl (lv_room (Nat.le_of_ble_eq_true rfl)) d_Bn_sharedLetters_8 ⟨Nat.le_of_ble_eq_true rfl, Nat.le_of_ble_eq_true rfl⟩) ?_
  refine lv_istore (lv' := [(6, .int (J ((d * 10 : Nat) : Int))), (5, .int (J ((w * 10 : Nat) : Int))), (0, .ref o), (1, .ref wA), (2, .int (J ((w : Nat) : Int))), (3, .ref wB), (4, .int (J ((d : Nat) : Int)))]) hx hb d_Bn_sharedLetters_11 hl (by decide) rfl (fun ls hl => ?_)
  refine lv_iconst (v := J (0)) hx hb d_Bn_sharedLetters_13 rfl ?_
  refine lv_istore (lv' := [(7, .int (J 0)), (6, .int (J ((d * 10 : Nat) : Int))), (5, .int (J ((w * 10 : Nat) : Int))), (0, .ref o), (1, .ref wA), (2, .int (J ((w : Nat) : Int))), (3, .ref wB), (4, .int (J ((d : Nat) : Int)))]) hx hb d_Bn_sharedLetters_14 hl (by decide) rfl (fun ls hl => ?_)
  have lp_16 : ∀ (fu : Nat) (i : Nat), (i ≤ (la w).toNat) → ((la w).toNat - i) < fu → ∀ (H : Heap) (locs : List Loc), va_P D classes [(o, .inr (2, [.ref wo, .ref ra])), (ra, ca cI 26 (ctf (fun t => ga (w * 10 + t)) i)), (wA, .inr (6, [.ref aL, .ref aN, .int (J ca1)])), (aL, ca cI nLA ga), (aN, ca cI nA la), (wB, .inr (6, [.ref bL, .ref bN, .int (J cb1)])), (bL, ca cI nLB gb), (bN, ca cI nB lt)] H → va_D A [(o, .inr (2, [.ref wo, .ref ra])), (ra, ca cI 26 (ctf (fun t => ga (w * 10 + t)) i)), (wA, .inr (6, [.ref aL, .ref aN, .int (J ca1)])), (aL, ca cI nLA ga), (aN, ca cI nA la), (wB, .inr (6, [.ref bL, .ref bN, .int (J cb1)])), (bL, ca cI nLB gb), (bN, ca cI nB lt)] → va_S A s.heap H locs → ∀ ls : Array Slot, lv_has ls 10 [(0, .ref o), (1, .ref wA), (2, .int (J ((w : Nat) : Int))), (3, .ref wB), (4, .int (J ((d : Nat) : Int))), (5, .int (J ((w * 10 : Nat) : Int))), (6, .int (J ((d * 10 : Nat) : Int))), (7, .int (J ((i : Nat) : Int)))] → W p l e ({ frames := 1, cells := 0, slots := 0, locals := 20 }) s m args below meth c H locs 0 0 Q (F0 m 16 ls []) := by
    intro fu
    induction fu with
    | zero => intro i hi hfu; exact absurd hfu (Nat.not_lt_zero _)
    | succ fu ih_16 =>
      intro i hi hfu H locs hP hD hS ls hl
      have g1 := hga (w * 10 + i)
      have c1 := cnt_rg (fun t => ga (w * 10 + t)) i (((ga (w * 10 + i)).toNat : Nat) : Int)
      refine lv_iload hx hb d_Bn_sharedLetters_16 (lv_at hl 7 rfl) ?_
      refine lv_aload_n hx hb d_Bn_sharedLetters_18 rfl (lv_at hl 1 rfl) ?_
      refine va_get (D := D) (ci := 6) (v := .ref aN) (C := R_Wo) (T := T_Wo) (N := 3) hx hb hts i_Wo hown hK hP 2 rfl rfl 1 (by decide) (hts _ mw_64) (fun _ h9 => h9) rfl d_Bn_sharedLetters_19 ?_
      refine lv_iload_n hx hb d_Bn_sharedLetters_22 rfl (lv_at hl 2 rfl) ?_
      refine w_iald hx hb hK hP 4 0 rfl rfl w (by omega) (by omega) (by omega) d_Bn_sharedLetters_23 ?_
      refine tp_J (y := (((la w).toNat : Nat) : Int)) (by omega) ?_
      refine w_icmp_ge (tgt := 52) hx hb d_Bn_sharedLetters_24 (by decide) (by omega) (by omega) (fun c_24 => ?_) (fun c_24 => ?_)
      · obtain rfl : i = (la w).toNat := by omega
        refine lv_iconst (v := J (0)) hx hb d_Bn_sharedLetters_52 rfl ?_
        refine lv_istore (lv' := [(7, .int (J 0)), (0, .ref o), (1, .ref wA), (2, .int (J ((w : Nat) : Int))), (3, .ref wB), (4, .int (J ((d : Nat) : Int))), (5, .int (J ((w * 10 : Nat) : Int))), (6, .int (J ((d * 10 : Nat) : Int)))]) hx hb d_Bn_sharedLetters_53 hl (by decide) rfl (fun ls hl => ?_)
        refine lv_iconst (v := J (0)) hx hb d_Bn_sharedLetters_55 rfl ?_
        refine lv_istore (lv' := [(8, .int (J 0)), (7, .int (J 0)), (0, .ref o), (1, .ref wA), (2, .int (J ((w : Nat) : Int))), (3, .ref wB), (4, .int (J ((d : Nat) : Int))), (5, .int (J ((w * 10 : Nat) : Int))), (6, .int (J ((d * 10 : Nat) : Int)))]) hx hb d_Bn_sharedLetters_56 hl (by decide) rfl (fun ls hl => ?_)
        have lp_58 : ∀ (fu : Nat) (j : Nat) (t : Int), (j ≤ (lt d).toNat) → (t = shr (fun t => ga (w * 10 + t)) (la w).toNat (fun t => gb (d * 10 + t)) j) → ((lt d).toNat - j) < fu → ∀ (H : Heap) (locs : List Loc), va_P D classes [(o, .inr (2, [.ref wo, .ref ra])), (ra, ca cI 26 (lft (fun t => ga (w * 10 + t)) (la w).toNat (fun t => gb (d * 10 + t)) j)), (wA, .inr (6, [.ref aL, .ref aN, .int (J ca1)])), (aL, ca cI nLA ga), (aN, ca cI nA la), (wB, .inr (6, [.ref bL, .ref bN, .int (J cb1)])), (bL, ca cI nLB gb), (bN, ca cI nB lt)] H → va_D A [(o, .inr (2, [.ref wo, .ref ra])), (ra, ca cI 26 (lft (fun t => ga (w * 10 + t)) (la w).toNat (fun t => gb (d * 10 + t)) j)), (wA, .inr (6, [.ref aL, .ref aN, .int (J ca1)])), (aL, ca cI nLA ga), (aN, ca cI nA la), (wB, .inr (6, [.ref bL, .ref bN, .int (J cb1)])), (bL, ca cI nLB gb), (bN, ca cI nB lt)] → va_S A s.heap H locs → ∀ ls : Array Slot, lv_has ls 10 [(0, .ref o), (1, .ref wA), (2, .int (J ((w : Nat) : Int))), (3, .ref wB), (4, .int (J ((d : Nat) : Int))), (5, .int (J ((w * 10 : Nat) : Int))), (6, .int (J ((d * 10 : Nat) : Int))), (7, .int (J t)), (8, .int (J ((j : Nat) : Int)))] → W p l e ({ frames := 1, cells := 0, slots := 0, locals := 20 }) s m args below meth c H locs 0 0 Q (F0 m 58 ls []) := by
          intro fu
          induction fu with
          | zero => intro j t hj ht hfu; exact absurd hfu (Nat.not_lt_zero _)
          | succ fu ih_58 =>
            intro j t hj ht hfu H locs hP hD hS ls hl
            have g2 := hgb (d * 10 + j)
            have c2 := lft_rg (fun t => ga (w * 10 + t)) (la w).toNat (fun t => gb (d * 10 + t)) j (gb (d * 10 + j)).toNat
            refine lv_iload hx hb d_Bn_sharedLetters_58 (lv_at hl 8 rfl) ?_
            refine lv_aload_n hx hb d_Bn_sharedLetters_60 rfl (lv_at hl 3 rfl) ?_
            refine va_get (D := D) (ci := 6) (v := .ref bN) (C := R_Wo) (T := T_Wo) (N := 3) hx hb hts i_Wo hown hK hP 5 rfl rfl 1 (by decide) (hts _ mw_64) (fun _ h9 => h9) rfl d_Bn_sharedLetters_61 ?_
            refine lv_iload hx hb d_Bn_sharedLetters_64 (lv_at hl 4 rfl) ?_
            refine w_iald hx hb hK hP 7 0 rfl rfl d (by omega) (by omega) (by omega) d_Bn_sharedLetters_66 ?_
            refine tp_J (y := (((lt d).toNat : Nat) : Int)) (by omega) ?_
            refine w_icmp_ge (tgt := 112) hx hb d_Bn_sharedLetters_67 (by decide) (by omega) (by omega) (fun c_67 => ?_) (fun c_67 => ?_)
            · obtain rfl : j = (lt d).toNat := by omega
              subst ht
              refine lv_iconst (v := J (0)) hx hb d_Bn_sharedLetters_112 rfl ?_
              refine lv_istore (lv' := [(8, .int (J 0)), (0, .ref o), (1, .ref wA), (2, .int (J ((w : Nat) : Int))), (3, .ref wB), (4, .int (J ((d : Nat) : Int))), (5, .int (J ((w * 10 : Nat) : Int))), (6, .int (J ((d * 10 : Nat) : Int))), (7, .int (J (shr (fun t => ga (w * 10 + t)) (la w).toNat (fun t => gb (d * 10 + t)) (lt d).toNat)))]) hx hb d_Bn_sharedLetters_113 hl (by decide) rfl (fun ls hl => ?_)
              have lp_115 : ∀ (fu : Nat) (i : Nat), (i ≤ (la w).toNat) → ((la w).toNat - i) < fu → ∀ (H : Heap) (locs : List Loc), va_P D classes [(o, .inr (2, [.ref wo, .ref ra])), (ra, ca cI 26 (bck (fun t => ga (w * 10 + t)) i (lft (fun t => ga (w * 10 + t)) (la w).toNat (fun t => gb (d * 10 + t)) (lt d).toNat))), (wA, .inr (6, [.ref aL, .ref aN, .int (J ca1)])), (aL, ca cI nLA ga), (aN, ca cI nA la), (wB, .inr (6, [.ref bL, .ref bN, .int (J cb1)])), (bL, ca cI nLB gb), (bN, ca cI nB lt)] H → va_D A [(o, .inr (2, [.ref wo, .ref ra])), (ra, ca cI 26 (bck (fun t => ga (w * 10 + t)) i (lft (fun t => ga (w * 10 + t)) (la w).toNat (fun t => gb (d * 10 + t)) (lt d).toNat))), (wA, .inr (6, [.ref aL, .ref aN, .int (J ca1)])), (aL, ca cI nLA ga), (aN, ca cI nA la), (wB, .inr (6, [.ref bL, .ref bN, .int (J cb1)])), (bL, ca cI nLB gb), (bN, ca cI nB lt)] → va_S A s.heap H locs → ∀ ls : Array Slot, lv_has ls 10 [(0, .ref o), (1, .ref wA), (2, .int (J ((w : Nat) : Int))), (3, .ref wB), (4, .int (J ((d : Nat) : Int))), (5, .int (J ((w * 10 : Nat) : Int))), (6, .int (J ((d * 10 : Nat) : Int))), (7, .int (J (shr (fun t => ga (w * 10 + t)) (la w).toNat (fun t => gb (d * 10 + t)) (lt d).toNat))), (8, .int (J ((i : Nat) : Int)))] → W p l e ({ frames := 1, cells := 0, slots := 0, locals := 20 }) s m args below meth c H locs 0 0 Q (F0 m 115 ls []) := by
                intro fu
                induction fu with
                | zero => intro i hi hfu; exact absurd hfu (Nat.not_lt_zero _)
                | succ fu ih_115 =>
                  intro i hi hfu H locs hP hD hS ls hl
                  have g1 := hga (w * 10 + i)
                  refine lv_iload hx hb d_Bn_sharedLetters_115 (lv_at hl 8 rfl) ?_
                  refine lv_aload_n hx hb d_Bn_sharedLetters_117 rfl (lv_at hl 1 rfl) ?_
                  refine va_get (D := D) (ci := 6) (v := .ref aN) (C := R_Wo) (T := T_Wo) (N := 3) hx hb hts i_Wo hown hK hP 2 rfl rfl 1 (by decide) (hts _ mw_64) (fun _ h9 => h9) rfl d_Bn_sharedLetters_118 ?_
                  refine lv_iload_n hx hb d_Bn_sharedLetters_121 rfl (lv_at hl 2 rfl) ?_
                  refine w_iald hx hb hK hP 4 0 rfl rfl w (by omega) (by omega) (by omega) d_Bn_sharedLetters_122 ?_
                  refine tp_J (y := (((la w).toNat : Nat) : Int)) (by omega) ?_
                  refine w_icmp_ge (tgt := 148) hx hb d_Bn_sharedLetters_123 (by decide) (by omega) (by omega) (fun c_123 => ?_) (fun c_123 => ?_)
                  · obtain rfl : i = (la w).toNat := by omega
                    have eg : bck (fun t => ga (w * 10 + t)) ((la w).toNat) (lft (fun t => ga (w * 10 + t)) (la w).toNat (fun t => gb (d * 10 + t)) (lt d).toNat) = (fun _ => 0) := bck_e _ _ _ _
                    rw [eg] at hP hD
                    clear eg
                    refine lv_iload hx hb d_Bn_sharedLetters_148 (lv_at hl 7 rfl) ?_
                    exact Mi_ret hx hb hr hlocks hQ d_Bn_sharedLetters_150 hP hK hD hS nb_i (rfl) () (trivial) [0, 1, 2, 3, 4, 5, 6, 7] rfl (by decide)
                  · refine lv_aload_n hx hb d_Bn_sharedLetters_126 rfl (lv_at hl 0 rfl) ?_
                    refine va_get (D := D) (ci := 2) (v := .ref ra) (C := R_Bn) (T := T_Bn) (N := 2) hx hb hts i_Bn hown hK hP 0 rfl rfl 1 (by decide) (hts _ mw_132) (fun _ h9 => h9) rfl d_Bn_sharedLetters_127 ?_
                    refine lv_aload_n hx hb d_Bn_sharedLetters_130 rfl (lv_at hl 1 rfl) ?_
                    refine va_get (D := D) (ci := 6) (v := .ref aL) (C := R_Wo) (T := T_Wo) (N := 3) hx hb hts i_Wo hown hK hP 2 rfl rfl 0 (by decide) (hts _ mw_61) (fun _ h9 => h9) rfl d_Bn_sharedLetters_131 ?_
                    refine lv_iload hx hb d_Bn_sharedLetters_134 (lv_at hl 5 rfl) ?_
                    refine lv_iload hx hb d_Bn_sharedLetters_136 (lv_at hl 8 rfl) ?_
                    refine w_iadd hx hb d_Bn_sharedLetters_138 (((w * 10) + i : Nat) : Int) (by omega) ?_
                    refine w_iald hx hb hK hP 3 0 rfl rfl ((w * 10) + i) (by omega) (by omega) (by omega) d_Bn_sharedLetters_139 ?_
                    refine lv_iconst (v := J (0)) hx hb d_Bn_sharedLetters_140 rfl ?_
                    refine w_iast hx hb hK hP hD hS 1 0 rfl rfl ((ga ((w * 10) + i)).toNat) (by omega) (by omega) (by omega) d_Bn_sharedLetters_141 (fun H locs hP hD hS => ?_)
                    have hP : va_P D classes [(o, .inr (2, [.ref wo, .ref ra])), (ra, ca cI 26 (iu (bck (fun t => ga (w * 10 + t)) i (lft (fun t => ga (w * 10 + t)) (la w).toNat (fun t => gb (d * 10 + t)) (lt d).toNat)) ((ga ((w * 10) + i)).toNat) 0)), (wA, .inr (6, [.ref aL, .ref aN, .int (J ca1)])), (aL, ca cI nLA ga), (aN, ca cI nA la), (wB, .inr (6, [.ref bL, .ref bN, .int (J cb1)])), (bL, ca cI nLB gb), (bN, ca cI nB lt)] H := hP
                    have hD : va_D A [(o, .inr (2, [.ref wo, .ref ra])), (ra, ca cI 26 (iu (bck (fun t => ga (w * 10 + t)) i (lft (fun t => ga (w * 10 + t)) (la w).toNat (fun t => gb (d * 10 + t)) (lt d).toNat)) ((ga ((w * 10) + i)).toNat) 0)), (wA, .inr (6, [.ref aL, .ref aN, .int (J ca1)])), (aL, ca cI nLA ga), (aN, ca cI nA la), (wB, .inr (6, [.ref bL, .ref bN, .int (J cb1)])), (bL, ca cI nLB gb), (bN, ca cI nB lt)] := hD
                    have eg : iu (bck (fun t => ga (w * 10 + t)) i (lft (fun t => ga (w * 10 + t)) (la w).toNat (fun t => gb (d * 10 + t)) (lt d).toNat)) ((ga ((w * 10) + i)).toNat) 0 = bck (fun t => ga (w * 10 + t)) (i + 1) (lft (fun t => ga (w * 10 + t)) (la w).toNat (fun t => gb (d * 10 + t)) (lt d).toNat) := bck_s (x := (fun t => ga (w * 10 + t))) i _ g1
                    rw [eg] at hP hD
                    clear eg
                    refine w_iinc (k := 8) (lv' := [(8, .int (J ((i + 1 : Nat) : Int))), (0, .ref o), (1, .ref wA), (2, .int (J ((w : Nat) : Int))), (3, .ref wB), (4, .int (J ((d : Nat) : Int))), (5, .int (J ((w * 10 : Nat) : Int))), (6, .int (J ((d * 10 : Nat) : Int))), (7, .int (J (shr (fun t => ga (w * 10 + t)) (la w).toNat (fun t => gb (d * 10 + t)) (lt d).toNat)))]) hx hb d_Bn_sharedLetters_142 hl rfl ((i + 1 : Nat) : Int) (by omega) (by decide) rfl (fun ls hl => ?_)
                    refine lv_goto (tgt := 115) hx hb d_Bn_sharedLetters_145 (by decide) ?_
                    exact ih_115 (i + 1) (by omega) (by omega) _ _ (P_map hP [0, 1, 2, 3, 4, 5, 6, 7] rfl) (hD.sub [0, 1, 2, 3, 4, 5, 6, 7] (by decide) rfl) hS ls (lv_sub hl [1, 2, 3, 4, 5, 6, 7, 8, 0] rfl)
              rw [← bck_0 (fun t => ga (w * 10 + t)) (lft (fun t => ga (w * 10 + t)) (la w).toNat (fun t => gb (d * 10 + t)) (lt d).toNat)] at hP hD
              exact lp_115 (((la w).toNat - 0) + 1) 0 (by omega) (Nat.lt_succ_self _) _ _ (P_map hP [0, 1, 2, 3, 4, 5, 6, 7] rfl) (hD.sub [0, 1, 2, 3, 4, 5, 6, 7] (by decide) rfl) hS ls (lv_sub hl [1, 2, 3, 4, 5, 6, 7, 8, 0] rfl)
            · refine lv_aload_n hx hb d_Bn_sharedLetters_70 rfl (lv_at hl 3 rfl) ?_
              refine va_get (D := D) (ci := 6) (v := .ref bL) (C := R_Wo) (T := T_Wo) (N := 3) hx hb hts i_Wo hown hK hP 5 rfl rfl 0 (by decide) (hts _ mw_61) (fun _ h9 => h9) rfl d_Bn_sharedLetters_71 ?_
              refine lv_iload hx hb d_Bn_sharedLetters_74 (lv_at hl 6 rfl) ?_
              refine lv_iload hx hb d_Bn_sharedLetters_76 (lv_at hl 8 rfl) ?_
              refine w_iadd hx hb d_Bn_sharedLetters_78 (((d * 10) + j : Nat) : Int) (by omega) ?_
              refine w_iald hx hb hK hP 6 0 rfl rfl ((d * 10) + j) (by omega) (by omega) (by omega) d_Bn_sharedLetters_79 ?_
              refine lv_istore (lv' := [(9, .int (J (gb ((d * 10) + j)))), (0, .ref o), (1, .ref wA), (2, .int (J ((w : Nat) : Int))), (3, .ref wB), (4, .int (J ((d : Nat) : Int))), (5, .int (J ((w * 10 : Nat) : Int))), (6, .int (J ((d * 10 : Nat) : Int))), (7, .int (J t)), (8, .int (J ((j : Nat) : Int)))]) hx hb d_Bn_sharedLetters_80 hl (by decide) rfl (fun ls hl => ?_)
              refine lv_aload_n hx hb d_Bn_sharedLetters_82 rfl (lv_at hl 1 rfl) ?_
              refine va_get (D := D) (ci := 2) (v := .ref ra) (C := R_Bn) (T := T_Bn) (N := 2) hx hb hts i_Bn hown hK hP 0 rfl rfl 1 (by decide) (hts _ mw_132) (fun _ h9 => h9) rfl d_Bn_sharedLetters_83 ?_
              refine lv_iload hx hb d_Bn_sharedLetters_86 (lv_at hl 0 rfl) ?_
              refine w_iald hx hb hK hP 1 0 rfl rfl ((gb ((d * 10) + j)).toNat) (by omega) (by omega) (by omega) d_Bn_sharedLetters_88 ?_
              refine w_if_le (tgt := 106) hx hb d_Bn_sharedLetters_89 (by decide) (by omega) (fun c_89 => ?_) (fun c_89 => ?_)
              · refine w_iinc (k := 9) (lv' := [(8, .int (J ((j + 1 : Nat) : Int))), (9, .int (J (gb ((d * 10) + j)))), (0, .ref o), (1, .ref wA), (2, .int (J ((w : Nat) : Int))), (3, .ref wB), (4, .int (J ((d : Nat) : Int))), (5, .int (J ((w * 10 : Nat) : Int))), (6, .int (J ((d * 10 : Nat) : Int))), (7, .int (J t))]) hx hb d_Bn_sharedLetters_106 hl rfl ((j + 1 : Nat) : Int) (by omega) (by decide) rfl (fun ls hl => ?_)
                refine lv_goto (tgt := 58) hx hb d_Bn_sharedLetters_109 (by decide) ?_
                have e9 := lft_k (x := (fun t => ga (w * 10 + t))) (v := (fun t => gb (d * 10 + t))) (n := (la w).toNat) j g2 c_89
                rw [e9.1] at hP hD
                exact ih_58 (j + 1) t (by omega) (by rw [e9.2]; exact ht) (by omega) _ _ (P_map hP [0, 1, 2, 3, 4, 5, 6, 7] rfl) (hD.sub [0, 1, 2, 3, 4, 5, 6, 7] (by decide) rfl) hS ls (lv_sub hl [2, 3, 4, 5, 6, 7, 8, 9, 0] rfl)
              · refine lv_aload_n hx hb d_Bn_sharedLetters_92 rfl (lv_at hl 1 rfl) ?_
                refine va_get (D := D) (ci := 2) (v := .ref ra) (C := R_Bn) (T := T_Bn) (N := 2) hx hb hts i_Bn hown hK hP 0 rfl rfl 1 (by decide) (hts _ mw_132) (fun _ h9 => h9) rfl d_Bn_sharedLetters_93 ?_
                refine lv_iload hx hb d_Bn_sharedLetters_96 (lv_at hl 0 rfl) ?_
                refine lv_dup2_11 hx hb d_Bn_sharedLetters_98 rfl rfl ?_
                refine w_iald hx hb hK hP 1 0 rfl rfl ((gb ((d * 10) + j)).toNat) (by omega) (by omega) (by omega) d_Bn_sharedLetters_99 ?_
                refine lv_iconst (v := J (1)) hx hb d_Bn_sharedLetters_100 rfl ?_
                refine w_isub hx hb d_Bn_sharedLetters_101 (((lft (fun t => ga (w * 10 + t)) (la w).toNat (fun t => gb (d * 10 + t)) j) ((gb ((d * 10) + j)).toNat)) - 1) (rfl) ?_
                refine w_iast hx hb hK hP hD hS 1 0 rfl rfl ((gb ((d * 10) + j)).toNat) (by omega) (by omega) (by omega) d_Bn_sharedLetters_102 (fun H locs hP hD hS => ?_)
                have hP : va_P D classes [(o, .inr (2, [.ref wo, .ref ra])), (ra, ca cI 26 (iu (lft (fun t => ga (w * 10 + t)) (la w).toNat (fun t => gb (d * 10 + t)) j) ((gb ((d * 10) + j)).toNat) (((lft (fun t => ga (w * 10 + t)) (la w).toNat (fun t => gb (d * 10 + t)) j) ((gb ((d * 10) + j)).toNat)) - 1))), (wA, .inr (6, [.ref aL, .ref aN, .int (J ca1)])), (aL, ca cI nLA ga), (aN, ca cI nA la), (wB, .inr (6, [.ref bL, .ref bN, .int (J cb1)])), (bL, ca cI nLB gb), (bN, ca cI nB lt)] H := hP
                have hD : va_D A [(o, .inr (2, [.ref wo, .ref ra])), (ra, ca cI 26 (iu (lft (fun t => ga (w * 10 + t)) (la w).toNat (fun t => gb (d * 10 + t)) j) ((gb ((d * 10) + j)).toNat) (((lft (fun t => ga (w * 10 + t)) (la w).toNat (fun t => gb (d * 10 + t)) j) ((gb ((d * 10) + j)).toNat)) - 1))), (wA, .inr (6, [.ref aL, .ref aN, .int (J ca1)])), (aL, ca cI nLA ga), (aN, ca cI nA la), (wB, .inr (6, [.ref bL, .ref bN, .int (J cb1)])), (bL, ca cI nLB gb), (bN, ca cI nB lt)] := hD
                have eg : iu (lft (fun t => ga (w * 10 + t)) (la w).toNat (fun t => gb (d * 10 + t)) j) ((gb ((d * 10) + j)).toNat) (((lft (fun t => ga (w * 10 + t)) (la w).toNat (fun t => gb (d * 10 + t)) j) ((gb ((d * 10) + j)).toNat)) - 1) = lft (fun t => ga (w * 10 + t)) (la w).toNat (fun t => gb (d * 10 + t)) (j + 1) := (lft_s (x := (fun t => ga (w * 10 + t))) (v := (fun t => gb (d * 10 + t))) (n := (la w).toNat) j g2 c_89).1
                rw [eg] at hP hD
                clear eg
                refine w_iinc (k := 8) (lv' := [(7, .int (J (t + 1))), (9, .int (J (gb ((d * 10) + j)))), (0, .ref o), (1, .ref wA), (2, .int (J ((w : Nat) : Int))), (3, .ref wB), (4, .int (J ((d : Nat) : Int))), (5, .int (J ((w * 10 : Nat) : Int))), (6, .int (J ((d * 10 : Nat) : Int))), (8, .int (J ((j : Nat) : Int)))]) hx hb d_Bn_sharedLetters_103 hl rfl (t + 1) (by omega) (by decide) rfl (fun ls hl => ?_)
                refine w_iinc (k := 9) (lv' := [(8, .int (J ((j + 1 : Nat) : Int))), (7, .int (J (t + 1))), (9, .int (J (gb ((d * 10) + j)))), (0, .ref o), (1, .ref wA), (2, .int (J ((w : Nat) : Int))), (3, .ref wB), (4, .int (J ((d : Nat) : Int))), (5, .int (J ((w * 10 : Nat) : Int))), (6, .int (J ((d * 10 : Nat) : Int)))]) hx hb d_Bn_sharedLetters_106 hl rfl ((j + 1 : Nat) : Int) (by omega) (by decide) rfl (fun ls hl => ?_)
                refine lv_goto (tgt := 58) hx hb d_Bn_sharedLetters_109 (by decide) ?_
                have e9 := lft_s (x := (fun t => ga (w * 10 + t))) (v := (fun t => gb (d * 10 + t))) (n := (la w).toNat) j g2 c_89
                exact ih_58 (j + 1) (t + 1) (by omega) (by rw [e9.2, ht]) (by omega) _ _ (P_map hP [0, 1, 2, 3, 4, 5, 6, 7] rfl) (hD.sub [0, 1, 2, 3, 4, 5, 6, 7] (by decide) rfl) hS ls (lv_sub hl [3, 4, 5, 6, 7, 8, 9, 1, 0] rfl)
        rw [lft_0 (fun t => ga (w * 10 + t)) (la w).toNat (fun t => gb (d * 10 + t))] at hP hD
        exact lp_58 (((lt d).toNat - 0) + 1) 0 0 (by omega) ((shr_0 _ _ _).symm) (Nat.lt_succ_self _) _ _ (P_map hP [0, 1, 2, 3, 4, 5, 6, 7] rfl) (hD.sub [0, 1, 2, 3, 4, 5, 6, 7] (by decide) rfl) hS ls (lv_sub hl [2, 3, 4, 5, 6, 7, 8, 1, 0] rfl)
      · refine lv_aload_n hx hb d_Bn_sharedLetters_27 rfl (lv_at hl 0 rfl) ?_
        refine va_get (D := D) (ci := 2) (v := .ref ra) (C := R_Bn) (T := T_Bn) (N := 2) hx hb hts i_Bn hown hK hP 0 rfl rfl 1 (by decide) (hts _ mw_132) (fun _ h9 => h9) rfl d_Bn_sharedLetters_28 ?_
        refine lv_aload_n hx hb d_Bn_sharedLetters_31 rfl (lv_at hl 1 rfl) ?_
        refine va_get (D := D) (ci := 6) (v := .ref aL) (C := R_Wo) (T := T_Wo) (N := 3) hx hb hts i_Wo hown hK hP 2 rfl rfl 0 (by decide) (hts _ mw_61) (fun _ h9 => h9) rfl d_Bn_sharedLetters_32 ?_
        refine lv_iload hx hb d_Bn_sharedLetters_35 (lv_at hl 5 rfl) ?_
        refine lv_iload hx hb d_Bn_sharedLetters_37 (lv_at hl 7 rfl) ?_
        refine w_iadd hx hb d_Bn_sharedLetters_39 (((w * 10) + i : Nat) : Int) (by omega) ?_
        refine w_iald hx hb hK hP 3 0 rfl rfl ((w * 10) + i) (by omega) (by omega) (by omega) d_Bn_sharedLetters_40 ?_
        refine lv_dup2_11 hx hb d_Bn_sharedLetters_41 rfl rfl ?_
        refine w_iald hx hb hK hP 1 0 rfl rfl ((ga ((w * 10) + i)).toNat) (by omega) (by omega) (by omega) d_Bn_sharedLetters_42 ?_
        refine lv_iconst (v := J (1)) hx hb d_Bn_sharedLetters_43 rfl ?_
        refine w_iadd hx hb d_Bn_sharedLetters_44 (((ctf (fun t => ga (w * 10 + t)) i) ((ga ((w * 10) + i)).toNat)) + 1) (rfl) ?_
        refine w_iast hx hb hK hP hD hS 1 0 rfl rfl ((ga ((w * 10) + i)).toNat) (by omega) (by omega) (by omega) d_Bn_sharedLetters_45 (fun H locs hP hD hS => ?_)
        have hP : va_P D classes [(o, .inr (2, [.ref wo, .ref ra])), (ra, ca cI 26 (iu (ctf (fun t => ga (w * 10 + t)) i) ((ga ((w * 10) + i)).toNat) (((ctf (fun t => ga (w * 10 + t)) i) ((ga ((w * 10) + i)).toNat)) + 1))), (wA, .inr (6, [.ref aL, .ref aN, .int (J ca1)])), (aL, ca cI nLA ga), (aN, ca cI nA la), (wB, .inr (6, [.ref bL, .ref bN, .int (J cb1)])), (bL, ca cI nLB gb), (bN, ca cI nB lt)] H := hP
        have hD : va_D A [(o, .inr (2, [.ref wo, .ref ra])), (ra, ca cI 26 (iu (ctf (fun t => ga (w * 10 + t)) i) ((ga ((w * 10) + i)).toNat) (((ctf (fun t => ga (w * 10 + t)) i) ((ga ((w * 10) + i)).toNat)) + 1))), (wA, .inr (6, [.ref aL, .ref aN, .int (J ca1)])), (aL, ca cI nLA ga), (aN, ca cI nA la), (wB, .inr (6, [.ref bL, .ref bN, .int (J cb1)])), (bL, ca cI nLB gb), (bN, ca cI nB lt)] := hD
        have eg : iu (ctf (fun t => ga (w * 10 + t)) i) ((ga ((w * 10) + i)).toNat) (((ctf (fun t => ga (w * 10 + t)) i) ((ga ((w * 10) + i)).toNat)) + 1) = ctf (fun t => ga (w * 10 + t)) (i + 1) := ctf_s (x := (fun t => ga (w * 10 + t))) i g1
        rw [eg] at hP hD
        clear eg
        refine w_iinc (k := 7) (lv' := [(7, .int (J ((i + 1 : Nat) : Int))), (0, .ref o), (1, .ref wA), (2, .int (J ((w : Nat) : Int))), (3, .ref wB), (4, .int (J ((d : Nat) : Int))), (5, .int (J ((w * 10 : Nat) : Int))), (6, .int (J ((d * 10 : Nat) : Int)))]) hx hb d_Bn_sharedLetters_46 hl rfl ((i + 1 : Nat) : Int) (by omega) (by decide) rfl (fun ls hl => ?_)
        refine lv_goto (tgt := 16) hx hb d_Bn_sharedLetters_49 (by decide) ?_
        exact ih_16 (i + 1) (by omega) (by omega) _ _ (P_map hP [0, 1, 2, 3, 4, 5, 6, 7] rfl) (hD.sub [0, 1, 2, 3, 4, 5, 6, 7] (by decide) rfl) hS ls (lv_sub hl [1, 2, 3, 4, 5, 6, 7, 0] rfl)
  rw [← ctf_0 (fun t => ga (w * 10 + t))] at hP hD
  exact lp_16 (((la w).toNat - 0) + 1) 0 (by omega) (Nat.lt_succ_self _) _ _ (P_map hP [0, 1, 2, 3, 4, 5, 6, 7] rfl) (hD.sub [0, 1, 2, 3, 4, 5, 6, 7] (by decide) rfl) hS ls (lv_sub hl [3, 4, 5, 6, 7, 2, 1, 0] rfl)
theorem bey_m {x v : Nat → Int} {n k : Nat} (h : ∀ j, 0 ≤ x j ∧ x j < 26) (hn : n ≤ 10) {z : Int} (hz : 0 ≤ z ∧ z ≤ 1000) : 0 ≤ bey x n v k * z ∧ bey x n v k * z ≤ 10000 := by
  have h1 := bey_rg (u := x) (v := v) (n := n) (k := k) (fun j _ => h j)
  have h2 := mul_rg (k := 10) hz (b := bey x n v k) (by omega)
  rw [Int.mul_comm]
  omega
set_option maxHeartbeats 4000000 in
set_option maxRecDepth 100000 in
theorem c_Bn_between (l : Launch) (D : va_G) (cI cZ cJ : ClassId) (sz : Nat) (o : Nat) (wo : Nat) (wa : Nat) (ra : Nat) (wA : Nat) (aL : Nat) (aN : Nat) (wB : Nat) (bL : Nat) (bN : Nat) (nLA : Nat) (nA : Nat) (nLB : Nat) (nB : Nat) (ca1 : Int) (cb1 : Int) (wt : Nat → Int) (ga : Nat → Int) (la : Nat → Int) (gb : Nat → Int) (lt : Nat → Int) (w : Nat) (d : Nat) (hw : ∀ k, 0 ≤ wt k ∧ wt k ≤ 1000) (hla : ∀ k, 0 ≤ la k ∧ la k ≤ 10) (hlt : ∀ k, 0 ≤ lt k ∧ lt k ≤ 10) (hga : ∀ k, 0 ≤ ga k ∧ ga k < 26) (hgb : ∀ k, 0 ≤ gb k ∧ gb k < 26) (hA : w < nA ∧ nA ≤ 120 ∧ nLA = 10 * nA) (hB : d < nB ∧ nB ≤ 120 ∧ nLB = 10 * nB) : Mi l y_Bn_between w_Bn_between ({ frames := 2, cells := 0, slots := 0, locals := 49 }) false D classes [(cI, .int), (cZ, .boolean), (cJ, .long)] sz [.ref o, .ref wA, .int (J ((w : Nat) : Int)), .ref wB, .int (J ((d : Nat) : Int))] [(o, .inr (2, [.ref wo, .ref ra])), (ra, ca cI 26 (fun _ => 0)), (wo, .inr (5, [.ref wa])), (wa, ca cI 6 wt), (wA, .inr (6, [.ref aL, .ref aN, .int (J ca1)])), (aL, ca cI nLA ga), (aN, ca cI nA la), (wB, .inr (6, [.ref bL, .ref bN, .int (J cb1)])), (bL, ca cI nLB gb), (bN, ca cI nB lt)] (lb wt (fun t => ga (w * 10 + t)) (la w).toNat (fun t => gb (d * 10 + t)) (lt d).toNat) (S := Unit) (fun _ => True) (fun u : Unit => [(o, .inr (2, [.ref wo, .ref ra])), (ra, ca cI 26 (fun _ => 0)), (wo, .inr (5, [.ref wa])), (wa, ca cI 6 wt), (wA, .inr (6, [.ref aL, .ref aN, .int (J ca1)])), (aL, ca cI nLA ga), (aN, ca cI nA la), (wB, .inr (6, [.ref bL, .ref bN, .int (J cb1)])), (bL, ca cI nLB gb), (bN, ca cI nB lt)]) 0 0 := by
  refine Mi_of (cc := b_Bn_between) (maxL := 9) (by decide) rfl (Nat.le_of_ble_eq_true rfl) ?_
  intro p e s m args below meth c hx hb hr hml hts hown hlocks A hA hP hK hD hT hS Q hQ H hH ls hl
  subst hH
  have hl : lv_has ls 9 [(0, .ref o), (1, .ref wA), (2, .int (J ((w : Nat) : Int))), (3, .ref wB), (4, .int (J ((d : Nat) : Int)))] := hl
  have l1 := hla w
  have l2 := hlt d
  have w0 := hw 0
  have w1 := hw 1
  have w2 := hw 2
  have w3 := hw 3
  have m1 := bey_m (x := (fun t => ga (w * 10 + t))) (v := (fun t => gb (d * 10 + t))) (n := (la w).toNat) (k := (lt d).toNat) (fun j => hga (w * 10 + j)) (by omega) (z := min (wt 1) (min (wt 2) (wt 3))) (by omega)
  have m2 := bey_m (x := (fun t => gb (d * 10 + t))) (v := (fun t => ga (w * 10 + t))) (n := (lt d).toNat) (k := (la w).toNat) (fun j => hgb (d * 10 + j)) (by omega) (z := min (wt 0) (min (wt 2) (wt 3))) (by omega)
  refine lv_aload_n hx hb d_Bn_between_0 rfl (lv_at hl 0 rfl) ?_
  refine lv_aload_n hx hb d_Bn_between_1 rfl (lv_at hl 1 rfl) ?_
  refine lv_iload_n hx hb d_Bn_between_2 rfl (lv_at hl 2 rfl) ?_
  refine lv_aload_n hx hb d_Bn_between_3 rfl (lv_at hl 3 rfl) ?_
  refine lv_iload hx hb d_Bn_between_4 (lv_at hl 4 rfl) ?_
  refine Mi_call (wr := [(wo, .inr (5, [.ref wa])), (wa, ca cI 6 wt)]) (va_runV (As := [.ref wA, .int (J ((w : Nat) : Int)), .ref wB, .int (J ((d : Nat) : Int))]) (rest := []) ⟨hx, hb, hml, hown, hts⟩ (c_Bn_sharedLetters l D cI cZ cJ s.heap.size o wo ra wA aL aN wB bL bN nLA nA nLB nB ca1 cb1 ga la gb lt w d (by first | assumption | omega) (by first | assumption | omega) (by first | assumption | omega) (by first | assumption | omega) (by first | assumption | omega) (by first | assumption | omega)) (cwV 4 hts (g_V mw_358 mw_360 mw_5 mw_30 mw_361) rfl rfl rfl (by decide +kernel) ⟨Nat.le_of_ble_eq_true rfl, Nat.le_of_ble_eq_true rfl⟩) (pre_WV hP hK hD [0, 1, 4, 5, 6, 7, 8, 9] rfl (by decide) 2 0 rfl rfl (fun h => Bool.noConfusion h)) rfl rfl hl.1 rfl (lv_room (Nat.le_of_ble_eq_true rfl)) d_Bn_between_6 ⟨Nat.le_of_ble_eq_true rfl, Nat.le_of_ble_eq_true rfl⟩) hP hD hS hA [0, 1, 4, 5, 6, 7, 8, 9] [2, 3] rfl rfl (by decide) (by decide) (fun _u H locs _hu hP hD hS => ?_)
  have hP : va_P D classes [(wo, .inr (5, [.ref wa])), (wa, ca cI 6 wt), (o, .inr (2, [.ref wo, .ref ra])), (ra, ca cI 26 (fun _ => 0)), (wA, .inr (6, [.ref aL, .ref aN, .int (J ca1)])), (aL, ca cI nLA ga), (aN, ca cI nA la), (wB, .inr (6, [.ref bL, .ref bN, .int (J cb1)])), (bL, ca cI nLB gb), (bN, ca cI nB lt)] H := hP
  have hD : va_D A [(wo, .inr (5, [.ref wa])), (wa, ca cI 6 wt), (o, .inr (2, [.ref wo, .ref ra])), (ra, ca cI 26 (fun _ => 0)), (wA, .inr (6, [.ref aL, .ref aN, .int (J ca1)])), (aL, ca cI nLA ga), (aN, ca cI nA la), (wB, .inr (6, [.ref bL, .ref bN, .int (J cb1)])), (bL, ca cI nLB gb), (bN, ca cI nB lt)] := hD
  refine lv_istore (lv' := [(5, .int (J (shr (fun t => ga (w * 10 + t)) (la w).toNat (fun t => gb (d * 10 + t)) (lt d).toNat))), (0, .ref o), (1, .ref wA), (2, .int (J ((w : Nat) : Int))), (3, .ref wB), (4, .int (J ((d : Nat) : Int)))]) hx hb d_Bn_between_9 hl (by decide) rfl (fun ls hl => ?_)
  refine lv_aload_n hx hb d_Bn_between_11 rfl (lv_at hl 1 rfl) ?_
  refine va_get (D := D) (ci := 2) (v := .ref wo) (C := R_Bn) (T := T_Bn) (N := 2) hx hb hts i_Bn hown hK hP 2 rfl rfl 0 (by decide) (hts _ mw_131) (fun _ h9 => h9) rfl d_Bn_between_12 ?_
  refine Ri_call (va_runV (As := []) (rest := []) ⟨hx, hb, hml, hown, hts⟩ (c_We_exchangedAlike l D cI cZ cJ wo wa wt (by first | assumption | omega)) (cwV 0 hts (g_V mw_363 mw_343 mw_344 mw_28 mw_345) rfl rfl rfl (by decide +kernel) ⟨Nat.le_of_ble_eq_true rfl, Nat.le_of_ble_eq_true rfl⟩) (pre_RV hP hK [0, 1] rfl 5 0 rfl rfl) rfl rfl hl.1 rfl (lv_room (Nat.le_of_ble_eq_true rfl)) d_Bn_between_15 ⟨Nat.le_of_ble_eq_true rfl, Nat.le_of_ble_eq_true rfl⟩) ?_
  refine lv_istore (lv' := [(6, .int (J (min (wt 2) (wt 3)))), (5, .int (J (shr (fun t => ga (w * 10 + t)) (la w).toNat (fun t => gb (d * 10 + t)) (lt d).toNat))), (0, .ref o), (1, .ref wA), (2, .int (J ((w : Nat) : Int))), (3, .ref wB), (4, .int (J ((d : Nat) : Int)))]) hx hb d_Bn_between_18 hl (by decide) rfl (fun ls hl => ?_)
  refine lv_aload_n hx hb d_Bn_between_20 rfl (lv_at hl 3 rfl) ?_
  refine va_get (D := D) (ci := 6) (v := .ref aN) (C := R_Wo) (T := T_Wo) (N := 3) hx hb hts i_Wo hown hK hP 4 rfl rfl 1 (by decide) (hts _ mw_64) (fun _ h9 => h9) rfl d_Bn_between_21 ?_
  refine lv_iload_n hx hb d_Bn_between_24 rfl (lv_at hl 4 rfl) ?_
  refine w_iald hx hb hK hP 6 0 rfl rfl w (by omega) (by omega) (by omega) d_Bn_between_25 ?_
  refine tp_J (y := (((la w).toNat : Nat) : Int)) (by omega) ?_
  refine lv_iload hx hb d_Bn_between_26 (lv_at hl 1 rfl) ?_
  refine w_isub hx hb d_Bn_between_28 (bey (fun t => ga (w * 10 + t)) (la w).toNat (fun t => gb (d * 10 + t)) (lt d).toNat) (by rw [← shr_bey (fun j _ => hga (w * 10 + j))]) ?_
  refine lv_istore (lv' := [(7, .int (J (bey (fun t => ga (w * 10 + t)) (la w).toNat (fun t => gb (d * 10 + t)) (lt d).toNat))), (6, .int (J (min (wt 2) (wt 3)))), (5, .int (J (shr (fun t => ga (w * 10 + t)) (la w).toNat (fun t => gb (d * 10 + t)) (lt d).toNat))), (0, .ref o), (1, .ref wA), (2, .int (J ((w : Nat) : Int))), (3, .ref wB), (4, .int (J ((d : Nat) : Int)))]) hx hb d_Bn_between_29 hl (by decide) rfl (fun ls hl => ?_)
  refine lv_aload_n hx hb d_Bn_between_31 rfl (lv_at hl 6 rfl) ?_
  refine va_get (D := D) (ci := 6) (v := .ref bN) (C := R_Wo) (T := T_Wo) (N := 3) hx hb hts i_Wo hown hK hP 7 rfl rfl 1 (by decide) (hts _ mw_64) (fun _ h9 => h9) rfl d_Bn_between_32 ?_
  refine lv_iload hx hb d_Bn_between_35 (lv_at hl 7 rfl) ?_
  refine w_iald hx hb hK hP 9 0 rfl rfl d (by omega) (by omega) (by omega) d_Bn_between_37 ?_
  refine tp_J (y := (((lt d).toNat : Nat) : Int)) (by omega) ?_
  refine lv_iload hx hb d_Bn_between_38 (lv_at hl 2 rfl) ?_
  refine w_isub hx hb d_Bn_between_40 (bey (fun t => gb (d * 10 + t)) (lt d).toNat (fun t => ga (w * 10 + t)) (la w).toNat) (by rw [← shr_bey (fun j _ => hgb (d * 10 + j)), shr_comm]) ?_
  refine lv_istore (lv' := [(8, .int (J (bey (fun t => gb (d * 10 + t)) (lt d).toNat (fun t => ga (w * 10 + t)) (la w).toNat))), (7, .int (J (bey (fun t => ga (w * 10 + t)) (la w).toNat (fun t => gb (d * 10 + t)) (lt d).toNat))), (6, .int (J (min (wt 2) (wt 3)))), (5, .int (J (shr (fun t => ga (w * 10 + t)) (la w).toNat (fun t => gb (d * 10 + t)) (lt d).toNat))), (0, .ref o), (1, .ref wA), (2, .int (J ((w : Nat) : Int))), (3, .ref wB), (4, .int (J ((d : Nat) : Int)))]) hx hb d_Bn_between_41 hl (by decide) rfl (fun ls hl => ?_)
  refine lv_iload hx hb d_Bn_between_43 (lv_at hl 1 rfl) ?_
  refine lv_aload_n hx hb d_Bn_between_45 rfl (lv_at hl 4 rfl) ?_
  refine va_get (D := D) (ci := 2) (v := .ref wo) (C := R_Bn) (T := T_Bn) (N := 2) hx hb hts i_Bn hown hK hP 2 rfl rfl 0 (by decide) (hts _ mw_131) (fun _ h9 => h9) rfl d_Bn_between_46 ?_
  refine Ri_call (va_runV (As := []) (rest := [.int (J (bey (fun t => ga (w * 10 + t)) (la w).toNat (fun t => gb (d * 10 + t)) (lt d).toNat))]) ⟨hx, hb, hml, hown, hts⟩ (c_We_leftOut l D cI cZ cJ wo wa wt ) (cwV 0 hts (g_V mw_364 mw_335 mw_336 mw_28 mw_337) rfl rfl rfl (by decide +kernel) ⟨Nat.le_of_ble_eq_true rfl, Nat.le_of_ble_eq_true rfl⟩) (pre_RV hP hK [0, 1] rfl 5 0 rfl rfl) rfl rfl hl.1 rfl (lv_room (Nat.le_of_ble_eq_true rfl)) d_Bn_between_49 ⟨Nat.le_of_ble_eq_true rfl, Nat.le_of_ble_eq_true rfl⟩) ?_
  refine lv_iload hx hb d_Bn_between_52 (lv_at hl 2 rfl) ?_
  refine w_mmin hx hb (by rw [hml]; exact hl.1.symm) hown (hts _ mw_365) (hts _ mw_347) (hts _ mw_34) (hts _ mw_348) (by decide) (Nat.le_of_ble_eq_true rfl) (by decide) (by decide) d_Bn_between_54 (by omega) (by omega) ?_
  refine w_imul hx hb d_Bn_between_57 ((bey (fun t => ga (w * 10 + t)) (la w).toNat (fun t => gb (d * 10 + t)) (lt d).toNat) * (min (wt 1) (min (wt 2) (wt 3)))) (rfl) ?_
  refine lv_iload hx hb d_Bn_between_58 (lv_at hl 0 rfl) ?_
  refine lv_aload_n hx hb d_Bn_between_60 rfl (lv_at hl 4 rfl) ?_
  refine va_get (D := D) (ci := 2) (v := .ref wo) (C := R_Bn) (T := T_Bn) (N := 2) hx hb hts i_Bn hown hK hP 2 rfl rfl 0 (by decide) (hts _ mw_131) (fun _ h9 => h9) rfl d_Bn_between_61 ?_
  refine Ri_call (va_runV (As := []) (rest := [.int (J (bey (fun t => gb (d * 10 + t)) (lt d).toNat (fun t => ga (w * 10 + t)) (la w).toNat)), .int (J ((bey (fun t => ga (w * 10 + t)) (la w).toNat (fun t => gb (d * 10 + t)) (lt d).toNat) * (min (wt 1) (min (wt 2) (wt 3)))))]) ⟨hx, hb, hml, hown, hts⟩ (c_We_putIn l D cI cZ cJ wo wa wt ) (cwV 0 hts (g_V mw_366 mw_326 mw_327 mw_28 mw_328) rfl rfl rfl (by decide +kernel) ⟨Nat.le_of_ble_eq_true rfl, Nat.le_of_ble_eq_true rfl⟩) (pre_RV hP hK [0, 1] rfl 5 0 rfl rfl) rfl rfl hl.1 rfl (lv_room (Nat.le_of_ble_eq_true rfl)) d_Bn_between_64 ⟨Nat.le_of_ble_eq_true rfl, Nat.le_of_ble_eq_true rfl⟩) ?_
  refine lv_iload hx hb d_Bn_between_67 (lv_at hl 2 rfl) ?_
  refine w_mmin hx hb (by rw [hml]; exact hl.1.symm) hown (hts _ mw_365) (hts _ mw_347) (hts _ mw_34) (hts _ mw_348) (by decide) (Nat.le_of_ble_eq_true rfl) (by decide) (by decide) d_Bn_between_69 (by omega) (by omega) ?_
  refine w_imul hx hb d_Bn_between_72 ((bey (fun t => gb (d * 10 + t)) (lt d).toNat (fun t => ga (w * 10 + t)) (la w).toNat) * (min (wt 0) (min (wt 2) (wt 3)))) (rfl) ?_
  refine w_mmax hx hb (by rw [hml]; exact hl.1.symm) hown (hts _ mw_367) (hts _ mw_368) (hts _ mw_34) (hts _ mw_369) (by decide) (Nat.le_of_ble_eq_true rfl) (by decide) (by decide) d_Bn_between_73 (by omega) (by omega) ?_
  exact Mi_ret hx hb hr hlocks hQ d_Bn_between_76 hP hK hD hS nb_i (rfl) () (trivial) [2, 3, 0, 1, 4, 5, 6, 7, 8, 9] rfl (by decide)
