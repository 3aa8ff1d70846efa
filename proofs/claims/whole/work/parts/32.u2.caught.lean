/-! the law's own share: a call that throws and is caught there -/
theorem same_heap {s U : State} {k n : Nat} (h : s.sameButNew U [] k n) : s.heap.size ≤ U.heap.size ∧ ∀ q : Nat, q < s.heap.size → U.heap[q]? = s.heap[q]? := by
  obtain ⟨-, h2, -, -, -, h6⟩ := h
  refine ⟨h2, fun q hq => ?_⟩
  obtain ⟨c9, e1, e2, -, e4⟩ := h6 q _ (Array.getElem?_eq_getElem hq)
  have hs : c9.slots = (s.heap[q]).slots := Array.ext_getElem? fun i => e4 i (fun h => nomatch h)
  have h9 : c9 = s.heap[q] := by rw [hs] at e2; exact e2
  rw [e1, h9, Array.getElem?_eq_getElem hq]
section TH2
variable {p : Program} {l : Launch} {e : Env} {R : Room} {s : State} {m : MethodId} {args : Array Value} {below : List Frame} {meth : Method} {c : Code} {H : Heap} {locs : List Loc} {cells slots : Nat} {Q : State → Prop}
variable {cc : ByteArray} {nL pc : Nat} {ls : Array Slot} {rest : List Value} {A : Nat → Prop}
theorem sh_caught (S : CallFix p m c cc nL s args BW R_La) (hl : l.stackTraces = false) (hTH : TH A s H) {x : ExceptionTableEntry} (ht : c.exceptionTable.toList = [x]) (hx : covers x pc = true) (h13 : x.catchType = 13) {o : Addr}
    (hr : ∃ cellB : Cell, H[o]? = some cellB ∧ cellB.vm.isStatics = false ∧ s.vm.findClass R_Nf = some cellB.cls) {z : Int32} (hsize : ls.size = nL) (hW : (rest.map fun v => v.category).sum ≤ 8) (hdg : decode cc pc = .ok (.invokevirtual 7, 3))
    (hR : 7 ≤ R.frames ∧ 122 ≤ R.locals) (hf : cells + 1 ≤ R.cells ∧ slots + 6 ≤ R.slots)
    (kk : ∀ (H1 : Heap) (q : Nat), H.size ≤ H1.size → (∀ a : Nat, a < H.size → H1[a]? = H[a]?) → W p l e R s m args below meth c H1 locs (cells + 1) (slots + 6) Q (F0 m x.handlerPc ls [.ref q])) :
    W p l e R s m args below meth c H locs cells slots Q (F0 m pc ls (.int 0 :: .int z :: .ref o :: rest)) := by
  obtain ⟨hexec, hb, hml, hown, hts⟩ := S
  intro T hT X
  obtain ⟨cellB, hcB, hoB, hclB⟩ := hr
  obtain ⟨mk, methM, hnamed, hmethM, hstM, habM⟩ := Cond.instanceMethod_spec (hts _ mw_475)
  obtain ⟨methM', cM, hmethM', hcM, -, hlM, -, -, -, hsigM⟩ := Cond.code_spec hnamed (hts _ mw_477)
  cases Option.some.inj (hmethM.symm.trans hmethM')
  obtain ⟨c2, r2, m2, q1, q2, q3, q4, kP, hkP, hkPi⟩ := Cond.selects_spec (hts _ mw_476)
  cases Option.some.inj (hclB.symm.trans q1)
  have hyn : y_Nf_share.cls ≠ "java/lang/invoke/MethodHandle" ∧ y_Nf_share.cls ≠ "java/lang/invoke/VarHandle" := by decide
  cases Option.some.inj ((State.methodFound?_of_named hnamed hyn).symm.trans q2)
  cases Option.some.inj (hnamed.symm.trans q3)
  have hselP : selectMethod e.platform s.vm cellB.cls mk = .method mk := by rw [Launch.admits_selectMethod X.admits]; exact q4
  have hlen : 2 = methM.sig.parameters.length := by
    have h2 : (parseMethodDescriptor y_Nf_share.desc).map (fun d => d.parameters.length) = some 2 := by decide +kernel
    rw [hsigM] at h2
    exact (Option.some.inj h2).symm
  obtain ⟨vm₁, X₁, hstep₁⟩ := X.invokevirtual hexec hown (hts _ mw_474) hnamed hmethM hstM hkP hkPi hyn (a := o) (cell := cellB) (by rw [hT]; exact hcB)
    (fun z h => by rw [h] at hoB; cases hoB) hselP hmethM habM hkP hkPi (g := F0 m pc ls (.int 0 :: .int z :: .ref o :: rest)) rfl (argsL := [.int z, .int 0]) (rest := rest) hlen rfl (by rw [hb]; exact hdg)
  have hWm : s.WarmedH (T.setVm vm₁).vm := X₁.warmed
  have hTH1 : TH A (T.setVm vm₁) (T.setVm vm₁).heap := by
    show TH A (T.setVm vm₁) T.heap
    rw [hT]; exact hTH.moved hWm
  have hts1 : ∀ w ∈ BW, ∀ a' : Array Value, w.before a' (T.setVm vm₁) = true := fun w hw a' => word_at hWm (good_of_word (List.mem_filter.mp hw).2) (hts w hw)
  have hn1 : (T.setVm vm₁).methodNamed? y_Nf_share = some mk := X₁.named hnamed
  obtain ⟨kY, hkY, -⟩ := className_of_methodNamed hn1
  have hini : kY.init = .initialized := Cond.initialized_spec (findClass_of_methodNamed hn1) hkY (hts1 _ mw_25 #[])
  have hpre : sh_S.pre.before #[.ref o, .int z, .int 0] (T.setVm vm₁) = true := by
    refine atoms_intro (ws := sw) fun w hw => ?_
    simp only [sw, List.mem_cons] at hw
    rcases hw with rfl | rfl | rfl | rfl | rfl | rfl | hw
    · exact hts1 _ mw_477 _
    · obtain ⟨-, -, -, sa, hS⟩ := hTH1
      exact hS.1
    · rfl
    · rfl
    · rfl
    · simp [Cond.before, Cond.holds, Cond.value, Term.eval]
    · exact TH.ta (args := #[]) (fun w hw => hts1 w hw _) hTH1 w hw
  have hst : ls.size = c.maxLocals := hsize.trans hml.symm
  have hrm : ((T.setVm vm₁).calling (F0 m pc ls rest) mk #[.ref o, .int z, .int 0]).hasRoom e.platform sh_S.room = true :=
    X₁.room_calling (g := F0 m pc ls rest) (R' := sh_S.room) hst (by rw [hWm.alike.method?]; exact hmethM) hcM hR.1 (by
      have h0 : 2 * (F0 m pc ls rest).monitorRoom = 0 := rfl
      rw [hlM, h0]
      show 0 + (rest.map fun v => v.category).sum + (3 + 11) + 100 ≤ R.locals
      omega) hf.1 hf.2
  have happ : sh_S.appliesLoose y_Nf_share e.platform ((T.setVm vm₁).calling (F0 m pc ls rest) mk #[.ref o, .int z, .int 0]) = true :=
    Spec.appliesLoose_calling (g := F0 m pc ls rest) X₁.here (ig := .invokevirtual 7) (len := 3) (by rw [hb]; exact hdg) hn1 hkY hini hrm hpre
  obtain ⟨a, T', X₂, hW2, hsame, hens, hsteps⟩ := X₁.callThrows (g := F0 m pc ls rest) rfl (sh_meets l hl) happ (fields := []) rfl rfl (fun o s₂ h => by
    obtain ⟨a, _, _, _, he, -⟩ := Cond.exactly_spec h
    cases o with
    | returned v => cases he
    | threw a => exact ⟨a, rfl⟩)
  obtain ⟨a2, cT, cell, kT, he, hfc, hce, hkT, hvs, hcc, -⟩ := Cond.exactly_spec hens.1
  cases he
  have hfr : sh_S.frees [] #[.ref o, .int z, .int 0] ((T.setVm vm₁).calling (F0 m pc ls rest) mk #[.ref o, .int z, .int 0]) = [] := rfl
  rw [hfr] at hsame
  rw [hfr, List.append_nil] at X₂
  have hfc2 : s.vm.findClass ax = some cT := by rw [← X₂.warmed.alike.findClass]; exact hfc
  obtain ⟨c3, c4, hc3, hc4, hasg⟩ := Cond.castable_spec (hTH.1 (.castable ax ax) (by simp [tb]))
  cases Option.some.inj (hc3.symm.trans hfc2)
  cases Option.some.inj (hc4.symm.trans hfc2)
  have hce2 : T'.heap[a]? = some cell := hce
  obtain ⟨vm', X₃, hst3⟩ := tc_catch X₂ (g := F0 m pc ls rest) rfl ht hx (by rw [h13]; decide) (own := R_La) (name := ax) hown (by rw [h13]; exact hts _ mw_473) hfc2 hce2 hvs (by rw [hcc]; exact hasg)
  obtain ⟨hz1, hz2⟩ := same_heap hsame
  have hTh : (T.setVm vm₁).heap = H := hT
  rw [hTh] at hz1 hz2
  obtain ⟨t, a1, b1⟩ := kk T'.heap a hz1 hz2 (T'.setVm vm') rfl X₃
  exact ⟨t, hstep₁ _ (fun acts => (hsteps acts).trans (hst3 _ a1)), b1⟩
end TH2
