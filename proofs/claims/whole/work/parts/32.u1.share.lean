/-! NearFinder.share where it throws: a contract in the library's own form -/
def sw : List Cond := .code y_Nf_share b_Nf_share 3 (some .long) :: .stringRef R_Nf 153 "a part of nothing" :: .count 3 :: .isRef (.arg 0) :: .isInt (.arg 1) :: .eq (.arg 2) (.int 0) :: ta
def sh_S : Spec := { pre := allAtoms sw, room := { frames := 6, cells := 1, slots := 6, locals := 100 }, post := .exactly .thrown ax, changes := some [], grows := true, warmsH := true }
theorem args3 {args : Array Value} {s : State} (h0 : (Cond.count 3).before args s = true) (h1 : (Cond.isRef (.arg 0)).before args s = true) (h2 : (Cond.isInt (.arg 1)).before args s = true) (h3 : (Cond.eq (.arg 2) (.int 0)).before args s = true) : ∃ (v : Value) (x : Int32), v.isRef = true ∧ args = #[v, .int x, .int 0] := by
  have hz : args.size = 3 := by simpa [Cond.before, Cond.holds, Cond.value] using h0
  obtain ⟨v, e0, hv⟩ := Cond.isRef_spec h1
  obtain ⟨x, e1⟩ := Cond.isInt_spec h2
  have e2 : args[2]? = some (.int 0) := va_eqt h3
  have e0 : args[0]? = some v := e0
  have e1 : args[1]? = some (.int x) := e1
  refine ⟨v, x, hv, ?_⟩
  apply Array.ext_getElem?
  intro i
  match i with
  | 0 => rw [e0]; rfl
  | 1 => rw [e1]; rfl
  | 2 => rw [e2]; rfl
  | i + 3 => rw [Array.getElem?_eq_none (by omega)]; rfl
theorem sh_meets (l : Launch) (hl : l.stackTraces = false) : MeetsLoose l y_Nf_share sh_S := by
  refine MeetsLoose.of_body (code := b_Nf_share) (maxLocals := 3) (ret := some .long) (by decide) ?_ ?_
  · intro args s h
    exact atoms_spec (ws := sw) h _ List.mem_cons_self
  · intro p e s m args below meth c s₁ B
    have hpre : ∀ w ∈ sw, w.before args s = true := atoms_spec (ws := sw) B.pre
    have hcode : (Cond.code y_Nf_share b_Nf_share 3 (some .long)).before args s = true := hpre _ (by simp [sw])
    obtain ⟨v, x, hv, rfl⟩ := args3 (hpre _ (by simp [sw])) (hpre _ (by simp [sw])) (hpre _ (by simp [sw])) (hpre _ (by simp [sw]))
    have hta : ∀ w ∈ ta, w.before #[v, .int x, .int 0] s = true := fun w hw => hpre w (by simp [sw, hw])
    have hat : ∀ w ∈ Bundle.ownAtoms R_Nf 155 ax au, w.before #[v, .int x, .int 0] s = true := fun w hw => hta w (by simp [ta, hw])
    have X₀ := Stand.of_body B
    have htr : e.platform.stackTraces = false := (show e.platform.stackTraces = l.stackTraces by rw [X₀.admits.platform]).trans hl
    have hheap : s₁.heap = s.heap := by rw [B.state]; rfl
    have hown : s.vm.findClass R_Nf = some m.cls := findClass_of_methodNamed B.named
    have hins : (Cond.instantiable ax 6).before #[v, .int x, .int 0] s = true := hat _ (by simp [Bundle.ownAtoms])
    have hstr : (Cond.stringRef R_Nf 153 "a part of nothing").before #[v, .int x, .int 0] s = true := hpre _ (by simp [sw])
    obtain ⟨vm₁, cX, kX, hfX, hkX, hkd, hn6, X₁, st1⟩ := X₀.newCold B.exec (own := R_Nf) (C := ax) (index := 151) (n := 6) hown (hta _ (by simp [ta])) hins (hta _ (by simp [ta]))
      (g := { method := m, pc := 4, locals := #[.val v, .val (.int x), .val (.int 0)], stack := [], locked := none }) rfl (by rw [B.bytes]; exact d_Nf_share_4) (Nat.le_refl _) (Nat.le_refl _)
    generalize hT : (s₁.setVm vm₁).pushCell { cls := cX, slots := kX.instanceTypes.map defaultValue, vm := .none } = T at X₁ st1
    have hcA : T.heap[s₁.heap.size]? = some (freshCell cX kX) := by rw [← hT]; exact State.heap_pushCell_size _ _
    obtain ⟨-, -, -, sa, -, -, -, -, -, hev⟩ := Cond.stringRef_spec hown hstr
    have hnoh : ∀ y ∈ c.exceptionTable.toList, covers y 13 = false := covers_of_empty (B.noHandlers hcode) _
    obtain ⟨U, hsteps, hrun, hend, hW, hsame, ce, hce, hO⟩ := X₁.ctorThrowS B.exec htr (own := R_Nf) (cls := ax) (names := au) (ic := 155) hown (by decide +kernel) (by decide +kernel)
      hat (fun y hy => by cases hy) hfX hkX hcA (by rw [hheap]; exact Nat.le_refl _) (msg := .ref sa) rfl
      (g := { method := m, pc := 10, locals := #[.val v, .val (.int x), .val (.int 0)], stack := [.ref sa, .ref s₁.heap.size, .ref s₁.heap.size], locked := none }) rfl (by rw [B.maxLocals_eq hcode]; rfl) rfl rfl (rest := []) rfl
      (by rw [B.bytes]; exact d_Nf_share_10) (by rw [B.bytes]; exact d_Nf_share_13) hnoh (Nat.le_of_ble_eq_true rfl) (Nat.le_of_ble_eq_true rfl)
    refine ⟨U, .threw s₁.heap.size, ?_, hrun, hend, ?_, hW, ?_⟩
    · have he : entryFrame m #[v, .int x, .int 0] 3 = { method := m, pc := 0, locals := #[.val v, .val (.int x), .val (.int 0)], stack := [], locked := none } := by cases v <;> first | rfl | cases hv
      rw [he]
      jvm_step B.here [B.exec, B.bytes, d_Nf_share_0]
      jvm_step B.here [B.exec, B.bytes, d_Nf_share_1, ifCond.wp_sem, ifCond.holds]
      refine st1 _ ?_
      show Steps p.tables e below (T.setTop { method := m, pc := 7, locals := #[.val v, .val (.int x), .val (.int 0)], stack := [.ref s₁.heap.size], locked := none }) _
      jvm_step X₁.here [X₁.here.top, B.exec, B.bytes, d_Nf_share_7, Value.category]
      exact X₁.ldcString B.exec (own := R_Nf) (text := "a part of nothing") (index := 153) (a := sa) hown hstr hev (g := { method := m, pc := 8, locals := #[.val v, .val (.int x), .val (.int 0)], stack := [.ref s₁.heap.size, .ref s₁.heap.size], locked := none }) rfl (by rw [B.bytes]; exact d_Nf_share_8) _ hsteps
    · have hal := hW.alike
      have h1 : U.vm.findClass ax = some ce.cls := by rw [hal.findClass]; exact hO.cls
      have hcx : ce.cls = cX := Option.some.inj (hO.cls.symm.trans hfX)
      obtain ⟨k2, hk2, hke⟩ := hal.2.2 _ _ hkX
      have hz : k2.instanceTypes.size = 6 := by rw [hke]; exact hn6
      have hz2 : ce.slots.size = 6 := hO.size
      have hvn : ce.vm = .none := hO.vm
      rw [hcx] at h1
      show (Cond.exactly .thrown ax).holds _ _ _ _ _ = true
      have hkd2 : k2.kind = .ordinary := by rw [hke]; exact hkd
      simp [Cond.holds, Cond.value, Term.eval, h1, hce, hk2, hcx, hvn, hz, hz2, hkd2, VmData.isStatics]
    · simpa [Spec.frees, fieldLocs, arrayLocs, staticLocs, sh_S] using hsame
