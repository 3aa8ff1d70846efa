/-! contracts that answer a long (Rl: reads only, Ml: changes its cells), and the law's own share (MT) -/
def Rl (l : Launch) (y : MethodName) (wd : List Cond) (rm : Room) (D : va_G) (cl : List vw_C) (tys : List (ClassId × FieldType)) (av : List Value) (wc : va_W) (v : Int64) : Prop := Met l y wd rm (PcR D cl tys av wc) (vp_Sl (fun r => r = v)) 0 0 (fun _ => False)
def Ml (l : Launch) (y : MethodName) (wd : List Cond) (rm : Room) (x : Bool) (D : va_G) (cl : List vw_C) (tys : List (ClassId × FieldType)) (sz : Nat) (av : List Value) (wc : va_W) (v : Int64) {S : Type} (P : S → Prop) (w1 : S → va_W) (mc ms : Nat) : Prop :=
  Met l y wd rm (PcW x D cl tys sz av wc) (va_Ql (fun r u => r = v ∧ P u) (QB D cl tys (va_A wc sz) w1) (va_A wc sz)) mc ms (va_A wc sz)
def w_La_share : List Cond := .codeWith y_La_share b_La_share 5 (some .int) [(0, 9, 12, 13)] :: BW
theorem mw_472 : (.codeWith y_La_share b_La_share 5 (some .int) [(0, 9, 12, 13)] : Cond) ∈ BW := mw_of 472 (by decide +kernel) rfl
def PcT (D : va_G) (cl : List vw_C) (tys : List (ClassId × FieldType)) (sz : Nat) (av : List Value) (wc : va_W) : Array Value → State → Prop := va_Pc av (fun U => U.heap.size = sz ∧ va_P D cl wc U.heap ∧ va_K D cl tys U ∧ va_D (fun _ => True) wc ∧ TH (va_A wc sz) U U.heap)
theorem PcT_blind {D : va_G} {cl : List vw_C} {tys : List (ClassId × FieldType)} {sz : Nat} {av : List Value} {wc : va_W} : FrameBlind (PcT D cl tys sz av wc) := fun a U g mk q => by
  obtain ⟨q0, q1, qP, qK, qD, qT⟩ := q
  exact ⟨q0, q1, qP, va_K.moved (u := U) (U := U.calling g mk a) (Vm.Alike.refl U.vm) qK, qD, TH.moved (u := U) (U := U.calling g mk a) (State.WarmedH.refl U) qT⟩
def MT (l : Launch) (rm : Room) (D : va_G) (cl : List vw_C) (tys : List (ClassId × FieldType)) (sz : Nat) (av : List Value) (wc : va_W) (v : Int) {S : Type} (P : S → Prop) (w1 : S → va_W) (mc ms : Nat) : Prop :=
  Met l y_La_share w_La_share rm (PcT D cl tys sz av wc) (va_Qi (fun r u => r = J v ∧ P u) (QB D cl tys (va_A wc sz) w1) (va_A wc sz)) mc ms (va_A wc sz)
theorem row_one : ∀ t : List ExceptionTableEntry, t.map (fun h => (h.startPc, h.endPc, h.handlerPc, h.catchType)) = [(0, 9, 12, 13)] → t = [⟨0, 9, 12, 13⟩] := by
  intro t h
  match t, h with
  | [], h => cases h
  | [⟨a, b, c, d⟩], h => simp only [List.map_cons, List.map_nil, List.cons.injEq, Prod.mk.injEq, and_true] at h; obtain ⟨rfl, rfl, rfl, rfl⟩ := h; rfl
  | _ :: _ :: _, h => simp at h
section CM
variable {l : Launch} {y : MethodName} {wd wd' : List Cond} {rm : Room} {D : va_G} {cl : List vw_C} {tys : List (ClassId × FieldType)} {sz : Nat} {av : List Value} {wc : va_W} {x : Bool} {S : Type} {v : Int64} {z : Int} {P : S → Prop} {w1 : S → va_W} {mc ms : Nat} {cc : ByteArray} {maxL : Nat}
theorem Rl_of (hy : plainName y.cls = true) (hw : wd = Cond.code y cc maxL (some .long) :: wd') (hlen : (lg_sl av).length ≤ maxL)
    (body : ∀ (p : Program) (e : Env) (s : State) (m : MethodId) (args : Array Value) (below : List Frame) (meth : Method) (c : Code), p.tables.exec = Jvm.exec → c.code = cc → meth.sig.returnType = some .long → c.maxLocals = maxL → (∀ w ∈ wd', w.before args s = true) → s.vm.findClass y.cls = some m.cls → meth.locks = false →
      va_P D cl wc s.heap → va_K D cl tys s → ∀ Q : State → Prop, Q = MQ below (vp_Sl (fun r => r = v)) args s 0 0 (fun _ => False) → ∀ H : Heap, H = s.heap → ∀ ls : Array Slot, lv_has ls maxL (lv_args 0 av) → W p l e rm s m args below meth c H [] 0 0 Q (F0 m 0 ls [])) : Rl l y wd rm D cl tys av wc v := by
  refine Met.ofW (cc := cc) (maxL := maxL) (ret := some .long) hy hw ?_
  intro p e s m args below meth c s₁ B hml hv
  obtain ⟨rfl, hP, hK⟩ := hv
  rw [lg_entry_eq]
  exact body p e s m _ below meth c B.exec B.bytes B.returns hml (fun w h => atoms_spec (ws := wd) B.pre w (by rw [hw]; exact List.mem_cons_of_mem _ h)) (findClass_of_methodNamed B.named) B.notSynchronized hP hK _ rfl _ rfl _ (lv_entry av (n := maxL) hlen)
theorem Ml_of (hy : plainName y.cls = true) (hw : wd = Cond.code y cc maxL (some .long) :: wd') (hlen : (lg_sl av).length ≤ maxL)
    (body : ∀ (p : Program) (e : Env) (s : State) (m : MethodId) (args : Array Value) (below : List Frame) (meth : Method) (c : Code), p.tables.exec = Jvm.exec → c.code = cc → meth.sig.returnType = some .long → c.maxLocals = maxL → (∀ w ∈ wd', w.before args s = true) → s.vm.findClass y.cls = some m.cls → meth.locks = false →
      ∀ A : Nat → Prop, (∀ q : Nat, s.heap.size ≤ q → A q) → va_P D cl wc s.heap → va_K D cl tys s → va_D A wc → (x = true → ST A s s.heap) → va_S A s.heap s.heap [] → ∀ Q : State → Prop, Q = MQ below (va_Ql (fun r u => r = v ∧ P u) (QB D cl tys A w1) A) args s mc ms A → ∀ H : Heap, H = s.heap → ∀ ls : Array Slot, lv_has ls maxL (lv_args 0 av) → W p l e rm s m args below meth c H [] 0 0 Q (F0 m 0 ls [])) : Ml l y wd rm x D cl tys sz av wc v P w1 mc ms := by
  refine Met.ofW (cc := cc) (maxL := maxL) (ret := some .long) hy hw ?_
  intro p e s m args below meth c s₁ B hml hv
  obtain ⟨rfl, rfl, hP, hK, hD0, hT⟩ := hv
  rw [lg_entry_eq]
  exact body p e s m _ below meth c B.exec B.bytes B.returns hml (fun w h => atoms_spec (ws := wd) B.pre w (by rw [hw]; exact List.mem_cons_of_mem _ h)) (findClass_of_methodNamed B.named) B.notSynchronized _ (fun q h => Or.inr h) hP hK hD0.self hT va_S.rf _ rfl _ rfl _ (lv_entry av (n := maxL) hlen)
theorem MT_of (hlen : (lg_sl av).length ≤ 5)
    (body : ∀ (p : Program) (e : Env) (s : State) (m : MethodId) (args : Array Value) (below : List Frame) (meth : Method) (c : Code), p.tables.exec = Jvm.exec → c.code = b_La_share → meth.sig.returnType = some .int → c.maxLocals = 5 → c.exceptionTable.toList = [⟨0, 9, 12, 13⟩] → (∀ w ∈ BW, w.before args s = true) → s.vm.findClass R_La = some m.cls → meth.locks = false →
      ∀ A : Nat → Prop, (∀ q : Nat, s.heap.size ≤ q → A q) → va_P D cl wc s.heap → va_K D cl tys s → va_D A wc → TH A s s.heap → va_S A s.heap s.heap [] → ∀ Q : State → Prop, Q = MQ below (va_Qi (fun r u => r = J z ∧ P u) (QB D cl tys A w1) A) args s mc ms A → ∀ H : Heap, H = s.heap → ∀ ls : Array Slot, lv_has ls 5 (lv_args 0 av) → W p l e rm s m args below meth c H [] 0 0 Q (F0 m 0 ls [])) : MT l rm D cl tys sz av wc z P w1 mc ms := by
  refine va_MetW (hh := [(0, 9, 12, 13)]) (cc := b_La_share) (maxL := 5) (ret := some .int) (by decide) (show w_La_share = _ from rfl) ?_
  intro p e s m args below meth c s₁ B hml hv
  obtain ⟨rfl, rfl, hP, hK, hD0, hT⟩ := hv
  obtain ⟨m9, meth9, c9, hn9, h1, h2, -, -, h5, -⟩ := Cond.codeWith_spec (atoms_spec (ws := w_La_share) B.pre _ List.mem_cons_self)
  cases Option.some.inj (B.named.symm.trans hn9)
  cases Option.some.inj (B.method.symm.trans h1)
  cases Option.some.inj ((Stand.of_body B).code.symm.trans h2)
  rw [lg_entry_eq]
  exact body p e s m _ below meth c B.exec B.bytes B.returns hml (row_one _ h5) (fun w h => atoms_spec (ws := w_La_share) B.pre w (List.mem_cons_of_mem _ h)) (findClass_of_methodNamed B.named) B.notSynchronized _ (fun q h => Or.inr h) hP hK hD0.self hT va_S.rf _ rfl _ rfl _ (lv_entry av (n := 5) hlen)
end CM
section CO
variable {p : Program} {l : Launch} {e : Env} {R : Room} {s : State} {m : MethodId} {args : Array Value} {below : List Frame} {meth : Method} {c : Code} {H : Heap} {locs : List Loc} {cells slots : Nat} {Q : State → Prop}
variable {cc : ByteArray} {pc nL : Nat} {ls : Array Slot} {rest st0 : List Value} {D : va_G} {cl : List vw_C} {A : Nat → Prop} {tys : List (ClassId × FieldType)} {ws wc wr : va_W} {H0 : Heap} {av As : List Value} {x : Bool} {S : Type} {v v' : Int64} {P : S → Prop} {w1 : S → va_W} {mc ms : Nat} {a : Array Value}
theorem Rl_ret (hx : p.tables.exec = Jvm.exec) (hb : c.code = cc) (hr : meth.sig.returnType = some .long) (hlocks : meth.locks = false) (hQ : Q = MQ below (vp_Sl (fun r => r = v)) args s 0 0 (fun _ => False)) (hH : H = s.heap) (hdg : decode cc pc = .ok (.lreturn, 1)) (hv : v' = v) : W p l e R s m args below meth c H [] 0 0 Q (F0 m pc ls [.long v']) := by
  subst hQ
  subst hH
  exact W.lret hx hb hr (fun t ht _ => ⟨_, rfl, hv, ht⟩) (fun q h => by cases h) hdg hlocks
theorem Ml_ret (hx : p.tables.exec = Jvm.exec) (hb : c.code = cc) (hr : meth.sig.returnType = some .long) (hlocks : meth.locks = false) (hQ : Q = MQ below (va_Ql (fun r u => r = v ∧ P u) (QB D cl tys A w1) A) args s mc ms A) (hdg : decode cc pc = .ok (.lreturn, 1)) (hP : va_P D cl ws H) (hK : va_K D cl tys s) (hD : va_D A ws) (hS : va_S A s.heap H locs)
    (hv : v' = v) (u : S) (hu : P u) (is : List Nat) (hw : is.map (fun i => ws[i]?) = (w1 u).map some) (hnd : va_nd is = true) : W p l e R s m args below meth c H locs mc ms Q (F0 m pc ls [.long v']) := by
  subst hQ
  exact W.lret hx hb hr (fun t ht hW => ⟨⟨_, u, rfl, ⟨hv, hu⟩, by rw [ht]; exact P_map hP is hw, va_K.moved hW.alike hK, hD.sub is hnd hw⟩, hS.F ht⟩) hS.2.2 hdg hlocks
theorem Rl_call (hr : va_Run p l e R s m args below meth c H locs cells slots 0 0 (F0 m pc ls st0) rest (vp_Sl (fun r => r = v) a) (fun _ => False))
    (kk : W p l e R s m args below meth c H locs cells slots Q (F0 m (pc + 3) ls (.long v :: rest))) : W p l e R s m args below meth c H locs cells slots Q (F0 m pc ls st0) :=
  vp_callSl (run_c hr) (fun r hw => by rw [hw]; exact kk)
theorem Ml_call (hr : va_Run p l e R s m args below meth c H locs cells slots mc ms (F0 m pc ls st0) rest (va_Ql (fun r u => r = v ∧ P u) (QB D cl tys (va_A wc H.size) w1) (va_A wc H.size) a) (va_A wc H.size)) (hP : va_P D cl ws H) (hD : va_D A ws) (hS : va_S A H0 H locs) (hA : ∀ q, H0.size ≤ q → A q)
    (isC isR : List Nat) (hC : isC.map (fun i => ws[i]?) = wc.map some) (hR : isR.map (fun i => ws[i]?) = wr.map some) (hn : va_nd isR = true) (hdis : ∀ i ∈ isR, i ∉ isC)
    (kk : ∀ (u : S) (H1 : Heap) (locs1 : List Loc), P u → va_P D cl (wr ++ w1 u) H1 → va_D A (wr ++ w1 u) → va_S A H0 H1 locs1 → W p l e R s m args below meth c H1 locs1 (cells + mc) (slots + ms) Q (F0 m (pc + 3) ls (.long v :: rest))) : W p l e R s m args below meth c H locs cells slots Q (F0 m pc ls st0) := by
  have hFc := va_free (wc := wc) hD hS hA isC hC
  refine va_calll hr hS (fun q _ h => hFc q h) hFc (fun r u t H1 locs1 ht hvm hw hB hz hk1 hS1 => ?_)
  obtain ⟨hP1, hK1, hD1⟩ := hB
  rw [ht] at hP1
  obtain ⟨hP2, hD2⟩ := va_join (wr := wr) (w1 := w1 u) hP hD isC isR hC hR hn hdis hk1 hFc hP1 hD1
  rw [hw.1]
  exact kk u H1 locs1 hw.2 hP2 hD2 hS1
theorem TH.at (hT : TH A s s.heap) (hD : va_D A ws) (hS : va_S A s.heap H locs) (hA : ∀ q, s.heap.size ≤ q → A q) (isC : List Nat) (hC : isC.map (fun i => ws[i]?) = wc.map some) : TH (va_A wc H.size) s H :=
  (hT.kept (fun a h1 h2 => hS.2.1 a h1 h2)).narrow (va_free (wc := wc) hD hS hA isC hC)
theorem pre_T (hP : va_P D cl ws H) (hK : va_K D cl tys s) (hD : va_D A ws) (isC : List Nat) (hC : isC.map (fun i => ws[i]?) = wc.map some) (hnd : va_nd isC = true) (hT : TH (va_A wc H.size) s H) : PreS s H (PcT D cl tys H.size av wc) av :=
  ⟨PcT_blind, fun U hU hW => ⟨rfl, by rw [hU], by rw [hU]; exact P_map hP isC hC, va_K.moved hW.alike hK, (hD.sub isC hnd hC).weaken (fun _ _ _ _ => trivial), by rw [hU]; exact TH.moved hW hT⟩⟩
/-- the call of the law's own share -/
theorem sh_run {rm : Room} {Pc : Array Value → State → Prop} {Qc : Array Value → State → Outcome → State → Prop} {free : Addr → Prop} {g : JFrame} (F : CallFix p m c cc nL s args BW R_La) (hM : Met l y_La_share w_La_share rm Pc Qc mc ms free) (hrc : rm.cells = mc) (hrs : rm.slots = ms) (hR : rm.frames + 1 ≤ R.frames ∧ 24 + rm.locals ≤ R.locals) (hp : PreS s H Pc As)
    (hg : g.method = m) (hn : As.length = 4) (hsize : g.locals.size = nL) (hstack : g.stack = As.reverse ++ rest) (hW : 2 * g.monitorRoom + (rest.map fun v => v.category).sum ≤ 8) (hdg : decode cc g.pc = .ok (.invokestatic 87, 3)) (hf : cells + mc ≤ R.cells ∧ slots + ms ≤ R.slots) :
    va_Run p l e R s m args below meth c H locs cells slots mc ms g rest (Qc As.toArray) free := by
  obtain ⟨hx, hb, hml, hown, hts⟩ := F
  have hgo : ∀ w ∈ BW, ∀ (a' : Array Value) (U : State), s.WarmedH U.vm → w.before a' U = true := fun w hw a' U hU => word_at hU (good_of_word (List.mem_filter.mp hw).2) (hts w hw)
  have hK : Back l R p e below s args y_La_share 3 8 (PreOf R mc ms Pc) (PostOf Qc mc ms free) := va_backW (hh := [(0, 9, 12, 13)]) (bytes := b_La_share) (maxL := 5) (ret := some .int) hM hp.1 hrc hrs hR.1 (by omega)
    (fun w hw => by
      rcases List.mem_cons.mp hw with rfl | hw
      · exact hgo _ mw_472
      · exact hgo w hw) List.mem_cons_self (hgo _ mw_24)
  intro T hT X
  obtain ⟨mk, methM, cM, hnamed, hmethM, -, -, -, -, -, -, hsigM⟩ := Cond.codeWith_spec (hts _ mw_472)
  have hstatic : methM.isStatic = true := Cond.static_spec hnamed hmethM (hts _ mw_471)
  obtain ⟨kP, hkP, -⟩ := className_of_methodNamed hnamed
  have hinitP : kP.init = .initialized := Cond.initialized_spec (findClass_of_methodNamed hnamed) hkP (hts _ mw_24)
  have hlen : As.length = methM.sig.parameters.length := by
    have h2 : (parseMethodDescriptor y_La_share.desc).map (fun d => d.parameters.length) = some 4 := by decide +kernel
    rw [hsigM] at h2
    exact hn.trans (Option.some.inj h2).symm
  have hdg2 : decode c.code g.pc = .ok (.invokestatic 87, 3) := by rw [hb]; exact hdg
  obtain ⟨vm₁, X₁, hstep₁⟩ := X.invokestatic hx hown (hts _ mw_470) hnamed hmethM hstatic hkP hinitP (by decide) (g := g) hg (argsL := As) (rest := rest) hlen hstack hdg2
  obtain ⟨v, ⟨U', l2, c2, s2⟩, X', ⟨g', mk', t, L, e1, e2, hq, h1, hL, h2, h3⟩, hsteps⟩ := hK m meth c ⟨T.setVm vm₁, locs, cells, slots⟩ { g with stack := rest } (.invokestatic 87) mk As.toArray X₁ hg (hsize.trans hml.symm) hdg2 hW (X₁.named hnamed) ⟨hf.1, hf.2, hp.2 (T.setVm vm₁) hT X₁.warmed⟩
  dsimp only [Pt.U, Pt.locs, Pt.cells, Pt.slots] at X' e1 e2 h1 h2 h3 hsteps
  subst h1; subst h2; subst h3
  exact ⟨v, (T.setVm vm₁).calling g' mk' As.toArray, t, U', L, hT, X', hL, e1, e2, hq, fun tg h => hstep₁ _ fun acts => by rw [doInvoke_state]; exact hsteps.trans h⟩
theorem w_last0 (hexec : p.tables.exec = Jvm.exec) (hb : c.code = cc) (hK : va_K D cl tys s) (hP : va_P D cl ws H) (hD : va_D A ws) (hS : va_S A H0 H locs) (q0 t0 : Nat) {cA : ClassId} {f : Nat → Int64} {b : Nat} (ha : ws[q0]? = some (b, .inl (cA, 1, .inr (.inl f)))) (ht : tys[t0]? = some (cA, .long)) (hdg : decode cc pc = .ok (.lastore, 1))
    (kk : ∀ (H1 : Heap) (locs1 : List Loc), va_P D cl (ws.set q0 (b, .inl (cA, 1, .inr (.inl (vp_updL f 0 v))))) H1 → va_D A (ws.set q0 (b, .inl (cA, 1, .inr (.inl (vp_updL f 0 v))))) → va_S A H0 H1 locs1 → W p l e R s m args below meth c H1 locs1 cells slots Q (F0 m (pc + 1) ls rest)) : W p l e R s m args below meth c H locs cells slots Q (F0 m pc ls (.long v :: .int (J 0) :: .ref b :: rest)) := by
  refine va_last hexec hb hK hP hD hS q0 t0 ha ht (by unfold vp_in; decide) hdg (fun H1 locs1 h1 h2 h3 => ?_)
  rw [show (J 0).toNatClampNeg = 0 by decide] at h1 h2
  exact kk H1 locs1 h1 h2 h3
theorem w_lald0 (hexec : p.tables.exec = Jvm.exec) (hb : c.code = cc) (hK : va_K D cl tys s) (hP : va_P D cl ws H) (q0 t0 : Nat) {cA : ClassId} {f : Nat → Int64} {b : Nat} (ha : ws[q0]? = some (b, .inl (cA, 1, .inr (.inl f)))) (ht : tys[t0]? = some (cA, .long)) (hdg : decode cc pc = .ok (.laload, 1)) (hv : f 0 = v)
    (kk : W p l e R s m args below meth c H locs cells slots Q (F0 m (pc + 1) ls (.long v :: rest))) : W p l e R s m args below meth c H locs cells slots Q (F0 m pc ls (.int (J 0) :: .ref b :: rest)) := by
  refine va_lald hexec hb hK hP q0 t0 ha ht (by unfold vp_in; decide) hdg ?_
  rw [show (J 0).toNatClampNeg = 0 by decide, hv]
  exact kk
theorem w_lcmp0 (hexec : p.tables.exec = Jvm.exec) (hb : c.code = cc) (hdg : decode cc pc = .ok (.lcmp, 1))
    (kk : W p l e R s m args below meth c H locs cells slots Q (F0 m (pc + 1) ls (.int (J 0) :: rest))) : W p l e R s m args below meth c H locs cells slots Q (F0 m pc ls (.long v :: .long v :: rest)) := by
  refine W.lcmp hexec hb hdg ?_
  have hi : lg_cmp v v = J 0 := by
    unfold lg_cmp
    rw [if_neg (show ¬ v > v from Int64.lt_irrefl), if_pos rfl]
    rfl
  rw [hi]
  exact kk
end CO
theorem J_l0 {z : Int} (hr : rg z) (hz : ¬ z = 0) : ¬ (J z).toInt64 = 0 := by
  intro h
  have h2 := congrArg Int64.toInt h
  rw [Int32.toInt_toInt64, J_toInt hr] at h2
  exact hz (by simpa using h2)
