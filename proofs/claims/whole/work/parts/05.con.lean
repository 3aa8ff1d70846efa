/-! contracts in three forms: Ri (reads only, answers an int), Mi (answers an int, changes its cells), Mv (answers nothing, changes its cells) -/
/-- the sounds of the letters, as the class's table has them -/
def sd (j : Nat) : Int := ([0, 1, 2, 3, 4, 1, 2, 5, 6, 2, 2, 7, 8, 8, 9, 1, 2, 10, 2, 3, 11, 1, 12, 2, 13, 2] : List Int).getD j 0
def x_Me : MethodName := ⟨"NearFinder$Measure", "between", "(LNearFinder$Words;ILNearFinder$Words;I)I"⟩
/-- what lies outside the cells: the table of sounds, as the class's static field holds it; the two classes behind the interface -/
def ST (A : Nat → Prop) (U : State) (H : Heap) : Prop := ∃ t : Nat, va_Z "NearFinder$ByChanges" "SOUNDS" "[I" (.ref t) A U H ∧ va_T .int t 26 (fun j => .int (J (sd j))) A U H ∧ va_Fw R_Bc x_Me y_Bc_between U ∧ va_Fw R_Bn x_Me y_Bn_between U
theorem ST.moved {A : Nat → Prop} {u U : State} {H : Heap} (hvm : u.vm.Alike U.vm) (h : ST A u H) : ST A U H := by
  obtain ⟨t, h1, h2, h3, h4⟩ := h
  exact ⟨t, h1.moved hvm, h2.moved hvm, h3.moved (by decide) hvm, h4.moved (by decide) hvm⟩
theorem ST.kept {A : Nat → Prop} {U : State} {H H1 : Heap} (h : ST A U H) (hq : ∀ a : Nat, a < H.size → ¬ A a → H1[a]? = H[a]?) : ST A U H1 := by
  obtain ⟨t, h1, h2, h3, h4⟩ := h
  exact ⟨t, h1.kept hq, h2.kept hq, h3, h4⟩
theorem ST.narrow {A B : Nat → Prop} {U : State} {H : Heap} (h : ST A U H) (hAB : ∀ q, B q → A q) : ST B U H := by
  obtain ⟨t, h1, h2, h3, h4⟩ := h
  exact ⟨t, h1.narrow hAB, h2.narrow hAB, h3, h4⟩
def PcR (D : va_G) (cl : List vw_C) (tys : List (ClassId × FieldType)) (av : List Value) (wc : va_W) : Array Value → State → Prop := va_Pc av (fun U => va_P D cl wc U.heap ∧ va_K D cl tys U)
def PcW (x : Bool) (D : va_G) (cl : List vw_C) (tys : List (ClassId × FieldType)) (sz : Nat) (av : List Value) (wc : va_W) : Array Value → State → Prop := va_Pc av (fun U => U.heap.size = sz ∧ va_P D cl wc U.heap ∧ va_K D cl tys U ∧ va_D (fun _ => True) wc ∧ (x = true → ST (va_A wc sz) U U.heap))
def QB (D : va_G) (cl : List vw_C) (tys : List (ClassId × FieldType)) (A : Nat → Prop) {S : Type} (w1 : S → va_W) : S → State → Prop := fun u t => va_P D cl (w1 u) t.heap ∧ va_K D cl tys t ∧ va_D A (w1 u)
def Ri (l : Launch) (y : MethodName) (wd : List Cond) (rm : Room) (D : va_G) (cl : List vw_C) (tys : List (ClassId × FieldType)) (av : List Value) (wc : va_W) (v : Int) : Prop := Met l y wd rm (PcR D cl tys av wc) (vp_Si (fun r => r = J v)) 0 0 (fun _ => False)
def Mi (l : Launch) (y : MethodName) (wd : List Cond) (rm : Room) (x : Bool) (D : va_G) (cl : List vw_C) (tys : List (ClassId × FieldType)) (sz : Nat) (av : List Value) (wc : va_W) (v : Int) {S : Type} (P : S → Prop) (w1 : S → va_W) (mc ms : Nat) : Prop :=
  Met l y wd rm (PcW x D cl tys sz av wc) (va_Qi (fun r u => r = J v ∧ P u) (QB D cl tys (va_A wc sz) w1) (va_A wc sz)) mc ms (va_A wc sz)
def Mv (l : Launch) (y : MethodName) (wd : List Cond) (rm : Room) (x : Bool) (D : va_G) (cl : List vw_C) (tys : List (ClassId × FieldType)) (sz : Nat) (av : List Value) (wc : va_W) {S : Type} (P : S → Prop) (w1 : S → va_W) (mc ms : Nat) : Prop :=
  Met l y wd rm (PcW x D cl tys sz av wc) (va_Qv P (QB D cl tys (va_A wc sz) w1) (va_A wc sz)) mc ms (va_A wc sz)
theorem PcR_blind {D : va_G} {cl : List vw_C} {tys : List (ClassId × FieldType)} {av : List Value} {wc : va_W} : FrameBlind (PcR D cl tys av wc) := fun a U g mk q => by
  obtain ⟨q0, qP, qK⟩ := q
  exact ⟨q0, qP, va_K.moved (u := U) (U := U.calling g mk a) (Vm.Alike.refl U.vm) qK⟩
theorem PcW_blind {x : Bool} {D : va_G} {cl : List vw_C} {tys : List (ClassId × FieldType)} {sz : Nat} {av : List Value} {wc : va_W} : FrameBlind (PcW x D cl tys sz av wc) := fun a U g mk q => by
  obtain ⟨q0, q1, qP, qK, qD, qT⟩ := q
  exact ⟨q0, q1, qP, va_K.moved (u := U) (U := U.calling g mk a) (Vm.Alike.refl U.vm) qK, qD, fun h => ST.moved (u := U) (U := U.calling g mk a) (Vm.Alike.refl U.vm) (qT h)⟩
theorem P_map {D : va_G} {cl : List vw_C} {ws wc : va_W} {H : Heap} (hP : va_P D cl ws H) (is : List Nat) (hC : is.map (fun i => ws[i]?) = wc.map some) : va_P D cl wc H := by
  intro k q hq
  have h1 : (is.map (fun i => ws[i]?))[k]? = some (some q) := by rw [hC, List.getElem?_map, hq]; rfl
  rw [List.getElem?_map] at h1
  cases hi : is[k]? with
  | none => rw [hi] at h1; cases h1
  | some i => rw [hi] at h1; exact hP i q (Option.some.inj h1)
theorem nb_z {v : Int} (h : v = 0 ∨ v = 1) : narrow .boolean (.int (J v)) = .int (J v) := by rcases h with rfl | rfl <;> decide
theorem nb_i {x : Int32} : narrow .int (.int x) = .int x := rfl
section CN
variable {l : Launch} {y : MethodName} {wd wd' : List Cond} {rm : Room} {D : va_G} {cl : List vw_C} {tys : List (ClassId × FieldType)} {sz : Nat} {av : List Value} {wc : va_W} {x : Bool} {S : Type} {v : Int} {P : S → Prop} {w1 : S → va_W} {mc ms : Nat} {cc : ByteArray} {maxL : Nat} {rt : FieldType}
theorem Ri_of (hy : plainName y.cls = true) (hw : wd = Cond.code y cc maxL (some rt) :: wd') (hlen : (lg_sl av).length ≤ maxL)
    (body : ∀ (p : Program) (e : Env) (s : State) (m : MethodId) (args : Array Value) (below : List Frame) (meth : Method) (c : Code), p.tables.exec = Jvm.exec → c.code = cc → meth.sig.returnType = some rt → c.maxLocals = maxL → (∀ w ∈ wd', w.before args s = true) → s.vm.findClass y.cls = some m.cls → meth.locks = false →
      va_P D cl wc s.heap → va_K D cl tys s → ∀ Q : State → Prop, Q = MQ below (vp_Si (fun r => r = J v)) args s 0 0 (fun _ => False) → ∀ H : Heap, H = s.heap → ∀ ls : Array Slot, lv_has ls maxL (lv_args 0 av) → W p l e rm s m args below meth c H [] 0 0 Q (F0 m 0 ls [])) : Ri l y wd rm D cl tys av wc v := by
  refine Met.ofW (cc := cc) (maxL := maxL) (ret := some rt) hy hw ?_
  intro p e s m args below meth c s₁ B hml hv
  obtain ⟨rfl, hP, hK⟩ := hv
  rw [lg_entry_eq]
  exact body p e s m _ below meth c B.exec B.bytes B.returns hml (fun w h => atoms_spec (ws := wd) B.pre w (by rw [hw]; exact List.mem_cons_of_mem _ h)) (findClass_of_methodNamed B.named) B.notSynchronized hP hK _ rfl _ rfl _ (lv_entry av (n := maxL) hlen)
theorem Mi_of (hy : plainName y.cls = true) (hw : wd = Cond.code y cc maxL (some rt) :: wd') (hlen : (lg_sl av).length ≤ maxL)
    (body : ∀ (p : Program) (e : Env) (s : State) (m : MethodId) (args : Array Value) (below : List Frame) (meth : Method) (c : Code), p.tables.exec = Jvm.exec → c.code = cc → meth.sig.returnType = some rt → c.maxLocals = maxL → (∀ w ∈ wd', w.before args s = true) → s.vm.findClass y.cls = some m.cls → meth.locks = false →
      ∀ A : Nat → Prop, (∀ q : Nat, s.heap.size ≤ q → A q) → va_P D cl wc s.heap → va_K D cl tys s → va_D A wc → (x = true → ST A s s.heap) → va_S A s.heap s.heap [] → ∀ Q : State → Prop, Q = MQ below (va_Qi (fun r u => r = J v ∧ P u) (QB D cl tys A w1) A) args s mc ms A → ∀ H : Heap, H = s.heap → ∀ ls : Array Slot, lv_has ls maxL (lv_args 0 av) → W p l e rm s m args below meth c H [] 0 0 Q (F0 m 0 ls [])) : Mi l y wd rm x D cl tys sz av wc v P w1 mc ms := by
  refine Met.ofW (cc := cc) (maxL := maxL) (ret := some rt) hy hw ?_
  intro p e s m args below meth c s₁ B hml hv
  obtain ⟨rfl, rfl, hP, hK, hD0, hT⟩ := hv
  rw [lg_entry_eq]
  exact body p e s m _ below meth c B.exec B.bytes B.returns hml (fun w h => atoms_spec (ws := wd) B.pre w (by rw [hw]; exact List.mem_cons_of_mem _ h)) (findClass_of_methodNamed B.named) B.notSynchronized _ (fun q h => Or.inr h) hP hK hD0.self hT va_S.rf _ rfl _ rfl _ (lv_entry av (n := maxL) hlen)
theorem Mv_of (hy : plainName y.cls = true) (hw : wd = Cond.code y cc maxL none :: wd') (hlen : (lg_sl av).length ≤ maxL)
    (body : ∀ (p : Program) (e : Env) (s : State) (m : MethodId) (args : Array Value) (below : List Frame) (meth : Method) (c : Code), p.tables.exec = Jvm.exec → c.code = cc → meth.sig.returnType = none → c.maxLocals = maxL → (∀ w ∈ wd', w.before args s = true) → s.vm.findClass y.cls = some m.cls → meth.locks = false → meth.name = y.name →
      ∀ A : Nat → Prop, (∀ q : Nat, s.heap.size ≤ q → A q) → va_P D cl wc s.heap → va_K D cl tys s → va_D A wc → (x = true → ST A s s.heap) → va_S A s.heap s.heap [] → ∀ Q : State → Prop, Q = MQ below (va_Qv P (QB D cl tys A w1) A) args s mc ms A → ∀ H : Heap, H = s.heap → ∀ ls : Array Slot, lv_has ls maxL (lv_args 0 av) → W p l e rm s m args below meth c H [] 0 0 Q (F0 m 0 ls [])) : Mv l y wd rm x D cl tys sz av wc P w1 mc ms := by
  refine Met.ofW (cc := cc) (maxL := maxL) (ret := none) hy hw ?_
  intro p e s m args below meth c s₁ B hml hv
  obtain ⟨rfl, rfl, hP, hK, hD0, hT⟩ := hv
  rw [lg_entry_eq]
  exact body p e s m _ below meth c B.exec B.bytes B.returns hml (fun w h => atoms_spec (ws := wd) B.pre w (by rw [hw]; exact List.mem_cons_of_mem _ h)) (findClass_of_methodNamed B.named) B.notSynchronized (name_of_methodNamed B.named B.method).1 _ (fun q h => Or.inr h) hP hK hD0.self hT va_S.rf _ rfl _ rfl _ (lv_entry av (n := maxL) hlen)
end CN
section CR
variable {p : Program} {l : Launch} {e : Env} {R : Room} {s : State} {m : MethodId} {args : Array Value} {below : List Frame} {meth : Method} {c : Code} {H : Heap} {locs : List Loc} {cells slots : Nat} {Q : State → Prop}
variable {cc : ByteArray} {pc : Nat} {ls : Array Slot} {rest st0 : List Value} {D : va_G} {cl : List vw_C} {A : Nat → Prop} {tys : List (ClassId × FieldType)} {ws wc wr : va_W} {H0 : Heap} {av As : List Value} {x : Bool} {S : Type} {v v' : Int} {P : S → Prop} {w1 : S → va_W} {mc ms : Nat} {rt : FieldType} {a : Array Value}
theorem Ri_ret (hx : p.tables.exec = Jvm.exec) (hb : c.code = cc) (hr : meth.sig.returnType = some rt) (hlocks : meth.locks = false) (hQ : Q = MQ below (vp_Si (fun r => r = J v)) args s 0 0 (fun _ => False)) (hH : H = s.heap) (hdg : decode cc pc = .ok (.ireturn, 1)) (hn : narrow rt (.int (J v')) = .int (J v')) (hv : v' = v) : W p l e R s m args below meth c H [] 0 0 Q (F0 m pc ls [.int (J v')]) := by
  subst hQ
  subst hH
  exact W.zret hx hb hr hn (fun t ht _ => ⟨_, rfl, by rw [hv], ht⟩) (fun q h => by cases h) hdg hlocks
theorem Mi_ret (hx : p.tables.exec = Jvm.exec) (hb : c.code = cc) (hr : meth.sig.returnType = some rt) (hlocks : meth.locks = false) (hQ : Q = MQ below (va_Qi (fun r u => r = J v ∧ P u) (QB D cl tys A w1) A) args s mc ms A) (hdg : decode cc pc = .ok (.ireturn, 1)) (hP : va_P D cl ws H) (hK : va_K D cl tys s) (hD : va_D A ws) (hS : va_S A s.heap H locs)
    (hn : narrow rt (.int (J v')) = .int (J v')) (hv : v' = v) (u : S) (hu : P u) (is : List Nat) (hw : is.map (fun i => ws[i]?) = (w1 u).map some) (hnd : va_nd is = true) : W p l e R s m args below meth c H locs mc ms Q (F0 m pc ls [.int (J v')]) := by
  subst hQ
  exact W.zret hx hb hr hn (fun t ht hW => ⟨⟨_, u, rfl, ⟨by rw [hv], hu⟩, by rw [ht]; exact P_map hP is hw, va_K.moved hW.alike hK, hD.sub is hnd hw⟩, hS.F ht⟩) hS.2.2 hdg hlocks
theorem Mv_ret (hx : p.tables.exec = Jvm.exec) (hb : c.code = cc) (hr : meth.sig.returnType = none) (hlocks : meth.locks = false) (hQ : Q = MQ below (va_Qv P (QB D cl tys A w1) A) args s mc ms A) (hdg : decode cc pc = .ok (.return_, 1)) (hP : va_P D cl ws H) (hK : va_K D cl tys s) (hD : va_D A ws) (hS : va_S A s.heap H locs)
    (u : S) (hu : P u) (is : List Nat) (hw : is.map (fun i => ws[i]?) = (w1 u).map some) (hnd : va_nd is = true) : W p l e R s m args below meth c H locs mc ms Q (F0 m pc ls []) := by
  subst hQ
  exact W.vret hx hb hr (fun t ht hW => ⟨⟨u, rfl, hu, by rw [ht]; exact P_map hP is hw, va_K.moved hW.alike hK, hD.sub is hnd hw⟩, hS.F ht⟩) hS.2.2 hdg hlocks
theorem run_c {g : JFrame} {Qa : State → Outcome → State → Prop} {free : Addr → Prop} (h : va_Run p l e R s m args below meth c H locs cells slots mc ms g rest Qa free) : CallRun p l e R s m args below meth c H locs cells slots mc ms g rest Qa free := by
  intro T hT X
  obtain ⟨v, st, t, T', L, h1, h2, h3, h4, -, h6, h7⟩ := h T hT X
  exact ⟨v, st, t, T', L, h1, h2, h3, h4, h6, h7⟩
theorem Ri_call (hr : va_Run p l e R s m args below meth c H locs cells slots 0 0 (F0 m pc ls st0) rest (vp_Si (fun r => r = J v) a) (fun _ => False))
    (kk : W p l e R s m args below meth c H locs cells slots Q (F0 m (pc + 3) ls (.int (J v) :: rest))) : W p l e R s m args below meth c H locs cells slots Q (F0 m pc ls st0) :=
  vp_callSi (run_c hr) (fun r hw => by rw [hw]; exact kk)
theorem Mi_call (hr : va_Run p l e R s m args below meth c H locs cells slots mc ms (F0 m pc ls st0) rest (va_Qi (fun r u => r = J v ∧ P u) (QB D cl tys (va_A wc H.size) w1) (va_A wc H.size) a) (va_A wc H.size)) (hP : va_P D cl ws H) (hD : va_D A ws) (hS : va_S A H0 H locs) (hA : ∀ q, H0.size ≤ q → A q)
    (isC isR : List Nat) (hC : isC.map (fun i => ws[i]?) = wc.map some) (hR : isR.map (fun i => ws[i]?) = wr.map some) (hn : va_nd isR = true) (hdis : ∀ i ∈ isR, i ∉ isC)
    (kk : ∀ (u : S) (H1 : Heap) (locs1 : List Loc), P u → va_P D cl (wr ++ w1 u) H1 → va_D A (wr ++ w1 u) → va_S A H0 H1 locs1 → W p l e R s m args below meth c H1 locs1 (cells + mc) (slots + ms) Q (F0 m (pc + 3) ls (.int (J v) :: rest))) : W p l e R s m args below meth c H locs cells slots Q (F0 m pc ls st0) := by
  have hFc := va_free (wc := wc) hD hS hA isC hC
  refine va_calli hr hS (fun q _ h => hFc q h) hFc (fun r u t H1 locs1 ht hvm hw hB hz hk1 hS1 => ?_)
  obtain ⟨hP1, hK1, hD1⟩ := hB
  rw [ht] at hP1
  obtain ⟨hP2, hD2⟩ := va_join (wr := wr) (w1 := w1 u) hP hD isC isR hC hR hn hdis hk1 hFc hP1 hD1
  rw [hw.1]
  exact kk u H1 locs1 hw.2 hP2 hD2 hS1
theorem Mi_callF (hr : va_Run5 p l e R s m args below meth c H locs cells slots mc ms (F0 m pc ls st0) rest (va_Qi (fun r u => r = J v ∧ P u) (QB D cl tys (va_A wc H.size) w1) (va_A wc H.size) a) (va_A wc H.size)) (hP : va_P D cl ws H) (hD : va_D A ws) (hS : va_S A H0 H locs) (hA : ∀ q, H0.size ≤ q → A q)
    (isC isR : List Nat) (hC : isC.map (fun i => ws[i]?) = wc.map some) (hR : isR.map (fun i => ws[i]?) = wr.map some) (hn : va_nd isR = true) (hdis : ∀ i ∈ isR, i ∉ isC)
    (kk : ∀ (u : S) (H1 : Heap) (locs1 : List Loc), P u → va_P D cl (wr ++ w1 u) H1 → va_D A (wr ++ w1 u) → va_S A H0 H1 locs1 → W p l e R s m args below meth c H1 locs1 (cells + mc) (slots + ms) Q (F0 m (pc + 5) ls (.int (J v) :: rest))) : W p l e R s m args below meth c H locs cells slots Q (F0 m pc ls st0) := by
  have hFc := va_free (wc := wc) hD hS hA isC hC
  refine va_callFi hr hS (fun q _ h => hFc q h) hFc (fun r u t H1 locs1 ht hvm hw hB hz hk1 hS1 => ?_)
  obtain ⟨hP1, hK1, hD1⟩ := hB
  rw [ht] at hP1
  obtain ⟨hP2, hD2⟩ := va_join (wr := wr) (w1 := w1 u) hP hD isC isR hC hR hn hdis hk1 hFc hP1 hD1
  rw [hw.1]
  exact kk u H1 locs1 hw.2 hP2 hD2 hS1
theorem Mv_call (hr : va_Run p l e R s m args below meth c H locs cells slots mc ms (F0 m pc ls st0) rest (va_Qv P (QB D cl tys (va_A wc H.size) w1) (va_A wc H.size) a) (va_A wc H.size)) (hP : va_P D cl ws H) (hD : va_D A ws) (hS : va_S A H0 H locs) (hA : ∀ q, H0.size ≤ q → A q)
    (isC isR : List Nat) (hC : isC.map (fun i => ws[i]?) = wc.map some) (hR : isR.map (fun i => ws[i]?) = wr.map some) (hn : va_nd isR = true) (hdis : ∀ i ∈ isR, i ∉ isC)
    (kk : ∀ (u : S) (H1 : Heap) (locs1 : List Loc), P u → va_P D cl (wr ++ w1 u) H1 → va_D A (wr ++ w1 u) → va_S A H0 H1 locs1 → W p l e R s m args below meth c H1 locs1 (cells + mc) (slots + ms) Q (F0 m (pc + 3) ls rest)) : W p l e R s m args below meth c H locs cells slots Q (F0 m pc ls st0) := by
  have hFc := va_free (wc := wc) hD hS hA isC hC
  refine va_callv hr hS (fun q _ h => hFc q h) hFc (fun u t H1 locs1 ht hvm hw hB hz hk1 hS1 => ?_)
  obtain ⟨hP1, hK1, hD1⟩ := hB
  rw [ht] at hP1
  obtain ⟨hP2, hD2⟩ := va_join (wr := wr) (w1 := w1 u) hP hD isC isR hC hR hn hdis hk1 hFc hP1 hD1
  exact kk u H1 locs1 hw hP2 hD2 hS1
theorem pre_RS (hP : va_P D cl ws H) (hK : va_K D cl tys s) (isC : List Nat) (hC : isC.map (fun i => ws[i]?) = wc.map some) : PreS s H (PcR D cl tys av wc) av :=
  ⟨PcR_blind, fun U hU hW => ⟨rfl, by rw [hU]; exact P_map hP isC hC, va_K.moved hW.alike hK⟩⟩
theorem pre_RV {b : Addr} {q : vw_C} {fs : List Value} (hP : va_P D cl ws H) (hK : va_K D cl tys s) (isC : List Nat) (hC : isC.map (fun i => ws[i]?) = wc.map some) (ci q0 : Nat) (hc : cl[ci]? = some q) (he : wc[q0]? = some (b, .inr (ci, fs))) : PreV s H q.1 b (PcR D cl tys (.ref b :: As) wc) As :=
  ⟨PcR_blind, va_recv hK (P_map hP isC hC) hc he, fun U hU hW => ⟨rfl, by rw [hU]; exact P_map hP isC hC, va_K.moved hW.alike hK⟩⟩
theorem pre_W (hP : va_P D cl ws H) (hK : va_K D cl tys s) (hD : va_D A ws) (isC : List Nat) (hC : isC.map (fun i => ws[i]?) = wc.map some) (hnd : va_nd isC = true) (hT : x = true → ST (va_A wc H.size) s H) : ∀ U : State, U.heap = H → s.WarmedH U.vm → PcW x D cl tys H.size av wc av.toArray U :=
  fun U hU hW => ⟨rfl, by rw [hU], by rw [hU]; exact P_map hP isC hC, va_K.moved hW.alike hK, (hD.sub isC hnd hC).weaken (fun _ _ _ _ => trivial), fun h => by rw [hU]; exact ST.moved hW.alike (hT h)⟩
theorem pre_WS (hP : va_P D cl ws H) (hK : va_K D cl tys s) (hD : va_D A ws) (isC : List Nat) (hC : isC.map (fun i => ws[i]?) = wc.map some) (hnd : va_nd isC = true) (hT : x = true → ST (va_A wc H.size) s H) : PreS s H (PcW x D cl tys H.size av wc) av :=
  ⟨PcW_blind, pre_W hP hK hD isC hC hnd hT⟩
theorem pre_WV {b : Addr} {q : vw_C} {fs : List Value} (hP : va_P D cl ws H) (hK : va_K D cl tys s) (hD : va_D A ws) (isC : List Nat) (hC : isC.map (fun i => ws[i]?) = wc.map some) (hnd : va_nd isC = true) (ci q0 : Nat) (hc : cl[ci]? = some q) (he : wc[q0]? = some (b, .inr (ci, fs))) (hT : x = true → ST (va_A wc H.size) s H) : PreV s H q.1 b (PcW x D cl tys H.size (.ref b :: As) wc) As :=
  ⟨PcW_blind, va_recv hK (P_map hP isC hC) hc he, pre_W (av := .ref b :: As) hP hK hD isC hC hnd hT⟩
/-- the static table, at a call -/
theorem ST.at (hT : ST A s s.heap) (hD : va_D A ws) (hS : va_S A s.heap H locs) (hA : ∀ q, s.heap.size ≤ q → A q) (isC : List Nat) (hC : isC.map (fun i => ws[i]?) = wc.map some) : ST (va_A wc H.size) s H :=
  (hT.kept (fun a h1 h2 => hS.2.1 a h1 h2)).narrow (va_free (wc := wc) hD hS hA isC hC)
end CR
