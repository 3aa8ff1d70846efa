/-! a throw out of NearFinder.share and its catching in the law's own share (launches without traces) -/
section TH1
variable {p : Program} {l : Launch} {e : Env} {R : Room} {s : State} {m : MethodId} {args : Array Value} {below : List Frame} {meth : Method} {c : Code} {T : State} {locs : List Loc} {cells slots : Nat}
/-- the search through a table of one row that catches, its class resolved or not yet -/
theorem tc_find {S : State} {g : JFrame} {q : Addr} {x : ExceptionTableEntry} {mt : Method} {cd : Code} {ct : ClassId} {cell : Cell} (hm : S.vm.method? g.method = some mt) (hc : mt.code = some cd) (ht : cd.exceptionTable.toList = [x]) (hx : covers x g.pc = true) (h0 : x.catchType ≠ 0)
    (hl : S.vm.ClassLinks e.platform g.method.cls x.catchType ct) (hq : S.heap[q]? = some cell) (hv : ∀ k, cell.vm ≠ .statics k) (h1 : ∃ k, S.vm.classes[cell.cls]? = some k) (h2 : ∃ k, S.vm.classes[ct]? = some k) (hfit : S.vm.assignable cell.cls ct = true)
    {Q : Handler → Pre} {E : CtlPost} {d : Bool} {acts : List Action} : wp (findHandler g q) Q E e d acts S ↔ Q (.found x.handlerPc) d acts (S.setVm (S.vm.noted g.method.cls x.catchType (.cls ct))) := by
  have hal : S.vm.Alike (S.vm.noted g.method.cls x.catchType (.cls ct)) := (Vm.Alike.refl S.vm).noted _ _ _
  have hop := (resolveClass_links e.toSetting hl).op (op := VmOp.resolveClass g.method.cls x.catchType) rfl
  obtain ⟨k1, e1⟩ := h1
  obtain ⟨k2, e2⟩ := h2
  obtain ⟨n1, f1, -⟩ := hal.2.2 _ _ e1
  obtain ⟨n2, f2, -⟩ := hal.2.2 _ _ e2
  have hfit2 : (S.vm.noted g.method.cls x.catchType (.cls ct)).assignable cell.cls ct = true := (hal.assignable _ _).trans hfit
  have hin : (decide (x.startPc ≤ g.pc) && decide (g.pc < x.endPc)) = true := hx
  rw [W.findHandler_eq hm hc, ht]
  simp [findHandler.go, hin, h0, hop.1, hop.2, hq, hv, f1, f2, hfit2, VmOp.dirties, VmOp.acts]
/-- from the note of a throw over the frame to its handler -/
theorem tc_catch (X : Stand p l e R s m args below meth c T locs cells slots) {g : JFrame} (hg : g.method = m) {q : Addr} {cell : Cell} {x : ExceptionTableEntry} (ht : c.exceptionTable.toList = [x]) (hx : covers x g.pc = true) (h0 : x.catchType ≠ 0) {own name : String} (hown : s.vm.findClass own = some m.cls)
    (hlink : (Cond.classLink own x.catchType name).before args s = true) {ct : ClassId} (hct : s.vm.findClass name = some ct) (hq : T.heap[q]? = some cell) (hv : cell.vm.isStatics = false) (hfit : s.vm.assignable cell.cls ct = true) :
    ∃ vm' : Vm, Stand p l e R s m args below meth c (T.setVm vm') locs cells slots ∧ ∀ t, Steps p.tables e below ((T.setVm vm').setTop { g with pc := x.handlerPc, stack := [.ref q] }) t → Steps p.tables e below ((T.setTop g).pushFrame (.throwing q)) t := by
  subst hg
  obtain ⟨c2, hc2, hlk⟩ := Cond.classLink_spec hown hlink e.platform (by rw [X.admits.platform])
  cases Option.some.inj (hct.symm.trans hc2)
  obtain ⟨dk, _, _, kt, hdk, _, _, _, _, hkt, _, hopen⟩ := hlk.here
  have hal := X.warmed.alike
  obtain ⟨kt2, hkt2, -⟩ := hal.2.2 _ _ hkt
  have hfit2 : T.vm.assignable cell.cls ct = true := (hal.assignable _ _).trans hfit
  refine ⟨T.vm.noted g.method.cls x.catchType (.cls ct), X.noted (X.warmed.noted hdk hopen (State.rightAt_cls hlk)), fun t hrest => ?_⟩
  obtain ⟨hgo, hw⟩ := At.throwing (g := g) X.here q
  refine Steps.head hgo hw ?_
  have hstep : (stepThrowing e ((T.setTop g).pushFrame (.throwing q)) q (.java g :: T.frames.tail)).1 = (((T.setTop g).pushFrame (.throwing q)).setVm (T.vm.noted g.method.cls x.catchType (.cls ct))).setFrames (.java { g with pc := x.handlerPc, stack := [.ref q] } :: T.frames.tail) := by
    simp only [stepThrowing, searchFrame, vmDo]
    generalize hr : Sem.go _ e false [] ((T.setTop g).pushFrame (.throwing q)) = res
    obtain ⟨as, rfl, ha⟩ := Sem.eq_ok_of hr (a := Handler.found x.handlerPc) (s' := ((T.setTop g).pushFrame (.throwing q)).setVm (T.vm.noted g.method.cls x.catchType (.cls ct))) (acts' := [])
      (by
        have hf := @tc_find e ((T.setTop g).pushFrame (.throwing q)) g q x meth c ct cell X.method' X.code ht hx h0 (X.warmed.classLinks hlk) hq (VmData.ne_statics_of hv) (Vm.classAt_of_assignable hfit2 ⟨kt2, hkt2⟩) ⟨kt2, hkt2⟩ hfit2
        simp [hf]
        rfl)
    rfl
  rw [stepThread_throwing (frames_entered X.here.top _), hstep]
  obtain ⟨g₀, hg0⟩ := Option.isSome_iff_exists.mp X.here.top
  obtain ⟨r, hr⟩ := State.topJava?_eq_some.mp hg0
  have hr2 : (T.setVm (T.vm.noted g.method.cls x.catchType (.cls ct))).frames = .java g₀ :: r := hr
  rw [State.setTop_of_frames _ hr2] at hrest
  have hfold : (((T.setTop g).pushFrame (.throwing q)).setVm (T.vm.noted g.method.cls x.catchType (.cls ct))).setFrames (.java { g with pc := x.handlerPc, stack := [.ref q] } :: T.frames.tail) = (T.setVm (T.vm.noted g.method.cls x.catchType (.cls ct))).setFrames (.java { g with pc := x.handlerPc, stack := [.ref q] } :: r) := by
    rw [State.pushFrame, State.setTop_of_frames _ hr, State.setFrames_setFrames]
    show ((T.setVm (T.vm.noted g.method.cls x.catchType (.cls ct))).setFrames _).setFrames _ = _
    rw [State.setFrames_setFrames, hr]
    rfl
  rw [hfold]
  exact hrest
end TH1
/-- a static field that holds a reference or null, and where it lies -/
def tq (C n d : String) (A : Nat → Prop) (U : State) (H : Heap) : Prop := ∃ (c : ClassId) (k : Class) (i : Nat) (f : Field) (a : Nat) (cell : Cell) (v : Value), U.vm.findClass C = some c ∧ U.fieldFound? C n d = some (c, k, i, f) ∧ f.isStatic = true ∧ k.statics = some a ∧ H[a]? = some cell ∧ cell.vm.isStatics = true ∧ cell.cls = c ∧ f.slot < cell.slots.size ∧ k.staticTypes[f.slot]? = some f.type ∧ cell.slots[f.slot]? = some v ∧ v.isRef = true ∧ ¬ A a
theorem tq.moved {C n d : String} {A : Nat → Prop} {u U : State} {H : Heap} (hvm : u.vm.Alike U.vm) (h : tq C n d A u H) : tq C n d A U H := by
  obtain ⟨c, k, i, f, a, cell, v, h1, h2, h3, h4, h5, h6, h7, h8, h9, h10⟩ := h
  obtain ⟨k', h2', he⟩ := State.fieldFound?_setVm hvm h2
  exact ⟨c, k', i, f, a, cell, v, by rw [hvm.findClass]; exact h1, h2', h3, by rw [he]; exact h4, h5, h6, h7, h8, by rw [he]; exact h9, h10⟩
theorem tq.kept {C n d : String} {A : Nat → Prop} {U : State} {H H1 : Heap} (h : tq C n d A U H) (hq : ∀ a : Nat, a < H.size → ¬ A a → H1[a]? = H[a]?) : tq C n d A U H1 := by
  obtain ⟨c, k, i, f, a, cell, v, h1, h2, h3, h4, h5, h6, h7, h8, h9, h10, h11, h12⟩ := h
  exact ⟨c, k, i, f, a, cell, v, h1, h2, h3, h4, (hq a (Array.getElem?_eq_some_iff.mp h5).1 h12).trans h5, h6, h7, h8, h9, h10, h11, h12⟩
theorem tq.narrow {C n d : String} {A B : Nat → Prop} {U : State} {H : Heap} (h : tq C n d A U H) (hAB : ∀ q, B q → A q) : tq C n d B U H := by
  obtain ⟨c, k, i, f, a, cell, v, h1, h2, h3, h4, h5, h6, h7, h8, h9, h10, h11, h12⟩ := h
  exact ⟨c, k, i, f, a, cell, v, h1, h2, h3, h4, h5, h6, h7, h8, h9, h10, h11, fun z => h12 (hAB _ z)⟩
theorem tq.of {args : Array Value} {s : State} {C n d : String} {A : Nat → Prop} (hl : (Cond.laysStatic C n d).before args s = true) (h : (Cond.isRef (.static C n d)).before args s = true) (hA : ∀ a : Nat, a < s.heap.size → ¬ A a) : tq C n d A s s.heap := by
  obtain ⟨c, k, i, f, a, cell, h1, h2, h3, h4, h5, h6, h7, h8, h9⟩ := Cond.laysStatic_spec hl
  obtain ⟨v, hv, hr⟩ := Cond.isRef_spec h
  have hs : cell.slots[f.slot]? = some v := by
    simp [Term.eval, State.fieldNamed?, h2, h3, h4, h5, h6] at hv
    first | exact hv | simpa using hv
  exact ⟨c, k, i, f, a, cell, v, h1, h2, h3, h4, h5, h6, h7, h8, h9, hs, hr, hA a (Array.getElem?_eq_some_iff.mp h5).1⟩
theorem tq.lays {args : Array Value} {s : State} {C n d : String} {A : Nat → Prop} (h : tq C n d A s s.heap) : (Cond.laysStatic C n d).before args s = true := by
  obtain ⟨c, k, i, f, a, cell, v, h1, h2, h3, h4, h5, h6, h7, h8, h9, h10⟩ := h
  exact Cond.laysStatic_of h1 h2 h3 h4 h5 h6 h7 h8 h9
theorem tq.isRef {args : Array Value} {s : State} {C n d : String} {A : Nat → Prop} (h : tq C n d A s s.heap) : (Cond.isRef (.static C n d)).before args s = true := by
  obtain ⟨c, k, i, f, a, cell, v, h1, h2, h3, h4, h5, h6, h7, h8, h9, h10, h11, -⟩ := h
  have he : (Term.static C n d).eval args s none [] s = some v := by
    simp [Term.eval, State.fieldNamed?, h2, h3, h4, h5, h6, h10]
  simp only [Cond.before, Cond.holds, Cond.value, he]
  cases v <;> first | rfl | cases h11
def ax : String := "java/lang/ArithmeticException"
def au : List String := ["java/lang/RuntimeException", "java/lang/Exception"]
/-- the words of the tables alone that a call may not take along by itself -/
def tb : List Cond := [.declares (Bundle.initS "java/lang/RuntimeException"), .declares (Bundle.initS "java/lang/Exception"), .declares (Bundle.initS Bundle.tN), .castable ax ax]
def t4 : List Cond := [.laysStatic Bundle.tN "UNASSIGNED_STACK" Bundle.steD, .laysStatic Bundle.tN "SUPPRESSED_SENTINEL" Bundle.listD, .isRef (.static Bundle.tN "UNASSIGNED_STACK" Bundle.steD), .isRef (.static Bundle.tN "SUPPRESSED_SENTINEL" Bundle.listD)]
/-- what a throw of share rests on -/
def ta : List Cond := .classLink R_Nf 151 ax :: .initialized ax :: Bundle.ownAtoms R_Nf 155 ax au
theorem ta_ok : ta.all (fun w => (w.onTables && decide (w ∈ BW)) || (decide (w ∈ tb) || decide (w ∈ t4))) = true := by decide +kernel
def TH (A : Nat → Prop) (U : State) (H : Heap) : Prop := (∀ w ∈ tb, w.before #[] U = true) ∧ tq Bundle.tN "UNASSIGNED_STACK" Bundle.steD A U H ∧ tq Bundle.tN "SUPPRESSED_SENTINEL" Bundle.listD A U H ∧ ∃ sa : Nat, vk_R R_Nf 153 "a part of nothing" sa U
theorem tb_face : ∀ w ∈ tb, w.faceAtom = true ∧ w.onTables = true := by
  intro w h
  simp only [tb, List.mem_cons, List.not_mem_nil, or_false] at h
  rcases h with rfl | rfl | rfl | rfl <;> exact ⟨rfl, rfl⟩
theorem TH.moved {A : Nat → Prop} {u U : State} {H : Heap} (hW : u.WarmedH U.vm) (h : TH A u H) : TH A U H := by
  obtain ⟨h1, h2, h3, sa, h4⟩ := h
  exact ⟨fun w hw => va_tabs (tb_face w hw).2 (rfl : (u.setVm U.vm).vm = U.vm) (Cond.faceAtom_setVm hW.alike w (tb_face w hw).1 (h1 w hw)), h2.moved hW.alike, h3.moved hW.alike, sa, vk_R.warm hW h4⟩
theorem TH.kept {A : Nat → Prop} {U : State} {H H1 : Heap} (h : TH A U H) (hq : ∀ a : Nat, a < H.size → ¬ A a → H1[a]? = H[a]?) : TH A U H1 := by
  obtain ⟨h1, h2, h3, h4⟩ := h
  exact ⟨h1, h2.kept hq, h3.kept hq, h4⟩
theorem TH.narrow {A B : Nat → Prop} {U : State} {H : Heap} (h : TH A U H) (hAB : ∀ q, B q → A q) : TH B U H := by
  obtain ⟨h1, h2, h3, h4⟩ := h
  exact ⟨h1, h2.narrow hAB, h3.narrow hAB, h4⟩
theorem TH.ta {args args' : Array Value} {U : State} {A : Nat → Prop} (hts : ∀ w ∈ BW, w.before args U = true) (h : TH A U U.heap) : ∀ w ∈ ta, w.before args' U = true := by
  intro w hw
  obtain ⟨h1, h2, h3, -⟩ := h
  have hk := List.all_eq_true.mp ta_ok w hw
  simp only [Bool.or_eq_true, Bool.and_eq_true, decide_eq_true_eq] at hk
  rcases hk with ⟨a, b⟩ | b | b
  · exact va_tabs a rfl (hts w b)
  · exact va_tabs (tb_face w b).2 rfl (h1 w b)
  · simp only [t4, List.mem_cons, List.not_mem_nil, or_false] at b
    rcases b with rfl | rfl | rfl | rfl
    · exact h2.lays
    · exact h3.lays
    · exact h2.isRef
    · exact h3.isRef
