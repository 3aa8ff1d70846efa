/-! numbers: an int is J z, z an Int in range -/
def J (z : Int) : Int32 := Int32.ofInt z
abbrev rg (z : Int) : Prop := -2147483648 ≤ z ∧ z ≤ 2147483647
theorem J_toInt {z : Int} (h : rg z) : (J z).toInt = z := Int32.toInt_ofInt_of_le (by have := h.1; omega) (by have := h.2; omega)
theorem J_of (x : Int32) : J x.toInt = x := Int32.ofInt_toInt x
theorem J_rg (x : Int32) : rg x.toInt := ⟨by have := x.le_toInt; omega, by have := x.toInt_lt; omega⟩
theorem J_ex (x : Int32) : ∃ z : Int, rg z ∧ x = J z := ⟨x.toInt, J_rg x, (J_of x).symm⟩
theorem J_add (a b : Int) : J a + J b = J (a + b) := (Int32.ofInt_add a b).symm
theorem J_sub (a b : Int) : J a - J b = J (a - b) := (Int32.ofInt_sub a b).symm
theorem J_mul (a b : Int) : J a * J b = J (a * b) := (Int32.ofInt_mul a b).symm
theorem J_eq {a b : Int} (ha : rg a) (hb : rg b) : J a = J b ↔ a = b := ⟨fun h => by rw [← J_toInt ha, ← J_toInt hb, h], fun h => by rw [h]⟩
theorem J_le {a b : Int} (ha : rg a) (hb : rg b) : J a ≤ J b ↔ a ≤ b := by rw [Int32.le_iff_toInt_le, J_toInt ha, J_toInt hb]
theorem J_lt {a b : Int} (ha : rg a) (hb : rg b) : J a < J b ↔ a < b := by rw [Int32.lt_iff_toInt_lt, J_toInt ha, J_toInt hb]
theorem J_0 : (0 : Int32) = J 0 := by decide
theorem J_nat (n : Nat) : J (n : Int) = nI n := Int32.ofInt_eq_ofNat
theorem J_cl {n : Nat} (h : n < 2147483648) : (J (n : Int)).toNatClampNeg = n := by rw [J_nat]; exact nI_clamp h
theorem J_in {n N : Nat} (h : n < N) (hN : N < 2147483648) : vp_in (J (n : Int)) N := by rw [J_nat]; exact vp_in_nI h hN
theorem J_div {a d : Int} (ha : 0 ≤ a) (ha2 : rg a) (hd : 0 < d) (hd2 : rg d) : J a / J d = J (a / d) := by
  obtain ⟨n, rfl⟩ : ∃ n : Nat, a = n := ⟨a.toNat, by omega⟩
  obtain ⟨k, rfl⟩ : ∃ k : Nat, d = k := ⟨d.toNat, by omega⟩
  have h1 := ha2.2
  have h2 := hd2.2
  rw [J_nat, J_nat, pk_div (by omega) (by omega) (by omega), ← J_nat]
  rfl
theorem J_rem {a d : Int} (ha : 0 ≤ a) (ha2 : rg a) (hd : 0 < d) (hd2 : rg d) : J a - J a / J d * J d = J (a % d) := by
  obtain ⟨n, rfl⟩ : ∃ n : Nat, a = n := ⟨a.toNat, by omega⟩
  obtain ⟨k, rfl⟩ : ∃ k : Nat, d = k := ⟨d.toNat, by omega⟩
  have h1 := ha2.2
  have h2 := hd2.2
  rw [J_nat, J_nat, pk_rem (by omega) (by omega) (by omega), ← J_nat]
  rfl
/-- an answer of a test -/
def b2 (q : Prop) [Decidable q] : Int := if q then 1 else 0
theorem b2_t {q : Prop} [Decidable q] (h : q) : b2 q = 1 := if_pos h
theorem b2_f {q : Prop} [Decidable q] (h : ¬ q) : b2 q = 0 := if_neg h
theorem b2_rg {q : Prop} [Decidable q] : 0 ≤ b2 q ∧ b2 q ≤ 1 := by
  by_cases h : q
  · rw [b2_t h]; omega
  · rw [b2_f h]; omega
theorem b2_0 {q : Prop} [Decidable q] : b2 q = 0 ↔ ¬ q := by
  by_cases h : q
  · rw [b2_t h]; simp [h]
  · rw [b2_f h]; simp [h]
theorem b2_n0 {q : Prop} [Decidable q] : ¬ b2 q = 0 ↔ q := by
  by_cases h : q
  · rw [b2_t h]; simp [h]
  · rw [b2_f h]; simp [h]
theorem rg_b2 {q : Prop} [Decidable q] : rg (b2 q) := by
  have := b2_rg (q := q)
  omega
/-- arrays of ints -/
def iu (g : Nat → Int) (k : Nat) (v : Int) : Nat → Int := fun j => if j = k then v else g j
theorem iu_s (g : Nat → Int) (k : Nat) (v : Int) : iu g k v k = v := if_pos rfl
theorem iu_n (g : Nat → Int) {k j : Nat} (v : Int) (h : j ≠ k) : iu g k v j = g j := if_neg h
def ar (g : Nat → Int) : Nat → Int32 := fun j => J (g j)
theorem ar_up (g : Nat → Int) (k : Nat) (v : Int) : upd (ar g) k (J v) = ar (iu g k v) := by
  funext j
  by_cases h : j = k
  · simp [upd, ar, iu, h]
  · simp [upd, ar, iu, h]
abbrev ca (cI : ClassId) (n : Nat) (g : Nat → Int) : va_E := .inl (cI, n, .inl (ar g))
section LB
variable {p : Program} {l : Launch} {e : Env} {R : Room} {s : State} {m : MethodId} {args : Array Value} {below : List Frame} {meth : Method} {c : Code} {H : Heap} {locs : List Loc} {cells slots : Nat} {Q : State → Prop}
variable {cc : ByteArray} {pc : Nat} {ls : Array Slot} {rest : List Value} {D : va_G} {cl : List vw_C} {A : Nat → Prop} {a : Nat} {tys : List (ClassId × FieldType)} {ws : va_W} {H0 : Heap}
theorem tp_i {x y : Int32} (h : x = y) (k : W p l e R s m args below meth c H locs cells slots Q (F0 m pc ls (.int y :: rest))) : W p l e R s m args below meth c H locs cells slots Q (F0 m pc ls (.int x :: rest)) := h ▸ k
theorem tp_J {x y : Int} (h : x = y) (k : W p l e R s m args below meth c H locs cells slots Q (F0 m pc ls (.int (J y) :: rest))) : W p l e R s m args below meth c H locs cells slots Q (F0 m pc ls (.int (J x) :: rest)) := h ▸ k
theorem w_iadd (hexec : p.tables.exec = Jvm.exec) (hb : c.code = cc) {x y : Int} (hdg : decode cc pc = .ok (.iadd, 1)) (z : Int) (hz : x + y = z)
    (k : W p l e R s m args below meth c H locs cells slots Q (F0 m (pc + 1) ls (.int (J z) :: rest))) : W p l e R s m args below meth c H locs cells slots Q (F0 m pc ls (.int (J y) :: .int (J x) :: rest)) :=
  lv_iadd hexec hb hdg (tp_i ((J_add x y).trans (by rw [hz])) k)
theorem w_isub (hexec : p.tables.exec = Jvm.exec) (hb : c.code = cc) {x y : Int} (hdg : decode cc pc = .ok (.isub, 1)) (z : Int) (hz : x - y = z)
    (k : W p l e R s m args below meth c H locs cells slots Q (F0 m (pc + 1) ls (.int (J z) :: rest))) : W p l e R s m args below meth c H locs cells slots Q (F0 m pc ls (.int (J y) :: .int (J x) :: rest)) :=
  lv_isub hexec hb hdg (tp_i ((J_sub x y).trans (by rw [hz])) k)
theorem w_imul (hexec : p.tables.exec = Jvm.exec) (hb : c.code = cc) {x y : Int} (hdg : decode cc pc = .ok (.imul, 1)) (z : Int) (hz : x * y = z)
    (k : W p l e R s m args below meth c H locs cells slots Q (F0 m (pc + 1) ls (.int (J z) :: rest))) : W p l e R s m args below meth c H locs cells slots Q (F0 m pc ls (.int (J y) :: .int (J x) :: rest)) :=
  lv_imul hexec hb hdg (tp_i ((J_mul x y).trans (by rw [hz])) k)
theorem w_idiv (hexec : p.tables.exec = Jvm.exec) (hb : c.code = cc) {x y : Int} (hdg : decode cc pc = .ok (.idiv, 1)) (h1 : 0 ≤ x) (h2 : rg x) (h3 : 0 < y) (h4 : rg y) (z : Int) (hz : x / y = z)
    (k : W p l e R s m args below meth c H locs cells slots Q (F0 m (pc + 1) ls (.int (J z) :: rest))) : W p l e R s m args below meth c H locs cells slots Q (F0 m pc ls (.int (J y) :: .int (J x) :: rest)) :=
  lv_idiv hexec hb hdg (fun h => by rw [J_0, J_eq h4 (by constructor <;> omega)] at h; omega) (tp_i ((J_div h1 h2 h3 h4).trans (by rw [hz])) k)
theorem w_irem (hexec : p.tables.exec = Jvm.exec) (hb : c.code = cc) {x y : Int} (hdg : decode cc pc = .ok (.irem, 1)) (h1 : 0 ≤ x) (h2 : rg x) (h3 : 0 < y) (h4 : rg y) (z : Int) (hz : x % y = z)
    (k : W p l e R s m args below meth c H locs cells slots Q (F0 m (pc + 1) ls (.int (J z) :: rest))) : W p l e R s m args below meth c H locs cells slots Q (F0 m pc ls (.int (J y) :: .int (J x) :: rest)) :=
  lv_irem hexec hb hdg (fun h => by rw [J_0, J_eq h4 (by constructor <;> omega)] at h; omega) (tp_i ((J_rem h1 h2 h3 h4).trans (by rw [hz])) k)
theorem w_iinc (hexec : p.tables.exec = Jvm.exec) (hb : c.code = cc) {i nL k : Nat} {n x : Int} {lv lv' : List (Nat × Value)} (hdg : decode cc pc = .ok (.iinc i n, 3)) (h : lv_has ls nL lv) (hk : lv[k]? = some (i, .int (J x))) (z : Int) (hz : x + n = z) (hn : i < nL) (hl : (i, Value.int (J z)) :: lv.filter (fun q => !(q.1 == i) && !(q.1 + 1 == i && q.2.category == 2)) = lv')
    (kk : ∀ ls' : Array Slot, lv_has ls' nL lv' → W p l e R s m args below meth c H locs cells slots Q (F0 m (pc + 3) ls' rest)) : W p l e R s m args below meth c H locs cells slots Q (F0 m pc ls rest) :=
  lv_iinc (v := J z) hexec hb hdg h hk (by rw [← hz]; exact J_add x n) hn hl kk
theorem w_if_eq (hexec : p.tables.exec = Jvm.exec) (hb : c.code = cc) {x : Int} {off : Int} {tgt : Nat} (hdg : decode cc pc = .ok (.ifCond .eq off, 3)) (ht : (pc : Int) + off = (tgt : Int)) (hr : rg x)
    (kt : x = 0 → W p l e R s m args below meth c H locs cells slots Q (F0 m tgt ls rest)) (kf : ¬ x = 0 → W p l e R s m args below meth c H locs cells slots Q (F0 m (pc + 3) ls rest)) : W p l e R s m args below meth c H locs cells slots Q (F0 m pc ls (.int (J x) :: rest)) :=
  have e0 : J x = 0 ↔ x = 0 := by rw [J_0]; exact J_eq hr (by constructor <;> omega)
  lv_if_eq hexec hb hdg ht (fun h => kt (e0.mp h)) (fun h => kf (fun q => h (e0.mpr q)))
theorem w_if_ne (hexec : p.tables.exec = Jvm.exec) (hb : c.code = cc) {x : Int} {off : Int} {tgt : Nat} (hdg : decode cc pc = .ok (.ifCond .ne off, 3)) (ht : (pc : Int) + off = (tgt : Int)) (hr : rg x)
    (kt : ¬ x = 0 → W p l e R s m args below meth c H locs cells slots Q (F0 m tgt ls rest)) (kf : x = 0 → W p l e R s m args below meth c H locs cells slots Q (F0 m (pc + 3) ls rest)) : W p l e R s m args below meth c H locs cells slots Q (F0 m pc ls (.int (J x) :: rest)) :=
  have e0 : J x = 0 ↔ x = 0 := by rw [J_0]; exact J_eq hr (by constructor <;> omega)
  lv_if_ne hexec hb hdg ht (fun h => kt (fun q => h (e0.mpr q))) (fun h => kf (e0.mp h))
theorem w_if_lt (hexec : p.tables.exec = Jvm.exec) (hb : c.code = cc) {x : Int} {off : Int} {tgt : Nat} (hdg : decode cc pc = .ok (.ifCond .lt off, 3)) (ht : (pc : Int) + off = (tgt : Int)) (hr : rg x)
    (kt : x < 0 → W p l e R s m args below meth c H locs cells slots Q (F0 m tgt ls rest)) (kf : 0 ≤ x → W p l e R s m args below meth c H locs cells slots Q (F0 m (pc + 3) ls rest)) : W p l e R s m args below meth c H locs cells slots Q (F0 m pc ls (.int (J x) :: rest)) :=
  have e0 : J x < 0 ↔ x < 0 := by rw [J_0]; exact J_lt hr (by constructor <;> omega)
  lv_if_lt hexec hb hdg ht (fun h => kt (e0.mp h)) (fun h => kf (Int.not_lt.mp (fun q => h (e0.mpr q))))
theorem w_if_ge (hexec : p.tables.exec = Jvm.exec) (hb : c.code = cc) {x : Int} {off : Int} {tgt : Nat} (hdg : decode cc pc = .ok (.ifCond .ge off, 3)) (ht : (pc : Int) + off = (tgt : Int)) (hr : rg x)
    (kt : 0 ≤ x → W p l e R s m args below meth c H locs cells slots Q (F0 m tgt ls rest)) (kf : x < 0 → W p l e R s m args below meth c H locs cells slots Q (F0 m (pc + 3) ls rest)) : W p l e R s m args below meth c H locs cells slots Q (F0 m pc ls (.int (J x) :: rest)) :=
  have e0 : 0 ≤ J x ↔ 0 ≤ x := by rw [J_0]; exact J_le (by constructor <;> omega) hr
  lv_if_ge hexec hb hdg ht (fun h => kt (e0.mp h)) (fun h => kf (Int.not_le.mp (fun q => h (e0.mpr q))))
theorem w_if_gt (hexec : p.tables.exec = Jvm.exec) (hb : c.code = cc) {x : Int} {off : Int} {tgt : Nat} (hdg : decode cc pc = .ok (.ifCond .gt off, 3)) (ht : (pc : Int) + off = (tgt : Int)) (hr : rg x)
    (kt : 0 < x → W p l e R s m args below meth c H locs cells slots Q (F0 m tgt ls rest)) (kf : x ≤ 0 → W p l e R s m args below meth c H locs cells slots Q (F0 m (pc + 3) ls rest)) : W p l e R s m args below meth c H locs cells slots Q (F0 m pc ls (.int (J x) :: rest)) :=
  have e0 : 0 < J x ↔ 0 < x := by rw [J_0]; exact J_lt (by constructor <;> omega) hr
  lv_if_gt hexec hb hdg ht (fun h => kt (e0.mp h)) (fun h => kf (Int.not_lt.mp (fun q => h (e0.mpr q))))
theorem w_if_le (hexec : p.tables.exec = Jvm.exec) (hb : c.code = cc) {x : Int} {off : Int} {tgt : Nat} (hdg : decode cc pc = .ok (.ifCond .le off, 3)) (ht : (pc : Int) + off = (tgt : Int)) (hr : rg x)
    (kt : x ≤ 0 → W p l e R s m args below meth c H locs cells slots Q (F0 m tgt ls rest)) (kf : 0 < x → W p l e R s m args below meth c H locs cells slots Q (F0 m (pc + 3) ls rest)) : W p l e R s m args below meth c H locs cells slots Q (F0 m pc ls (.int (J x) :: rest)) :=
  have e0 : J x ≤ 0 ↔ x ≤ 0 := by rw [J_0]; exact J_le hr (by constructor <;> omega)
  lv_if_le hexec hb hdg ht (fun h => kt (e0.mp h)) (fun h => kf (Int.not_le.mp (fun q => h (e0.mpr q))))
theorem w_icmp_eq (hexec : p.tables.exec = Jvm.exec) (hb : c.code = cc) {x y : Int} {off : Int} {tgt : Nat} (hdg : decode cc pc = .ok (.if_icmp .eq off, 3)) (ht : (pc : Int) + off = (tgt : Int)) (hr : rg x) (hs : rg y)
    (kt : x = y → W p l e R s m args below meth c H locs cells slots Q (F0 m tgt ls rest)) (kf : ¬ x = y → W p l e R s m args below meth c H locs cells slots Q (F0 m (pc + 3) ls rest)) : W p l e R s m args below meth c H locs cells slots Q (F0 m pc ls (.int (J y) :: .int (J x) :: rest)) :=
  lv_icmp_eq hexec hb hdg ht (fun h => kt ((J_eq hr hs).mp h)) (fun h => kf (fun q => h ((J_eq hr hs).mpr q)))
theorem w_icmp_ne (hexec : p.tables.exec = Jvm.exec) (hb : c.code = cc) {x y : Int} {off : Int} {tgt : Nat} (hdg : decode cc pc = .ok (.if_icmp .ne off, 3)) (ht : (pc : Int) + off = (tgt : Int)) (hr : rg x) (hs : rg y)
    (kt : ¬ x = y → W p l e R s m args below meth c H locs cells slots Q (F0 m tgt ls rest)) (kf : x = y → W p l e R s m args below meth c H locs cells slots Q (F0 m (pc + 3) ls rest)) : W p l e R s m args below meth c H locs cells slots Q (F0 m pc ls (.int (J y) :: .int (J x) :: rest)) :=
  lv_icmp_ne hexec hb hdg ht (fun h => kt (fun q => h ((J_eq hr hs).mpr q))) (fun h => kf ((J_eq hr hs).mp h))
theorem w_icmp_lt (hexec : p.tables.exec = Jvm.exec) (hb : c.code = cc) {x y : Int} {off : Int} {tgt : Nat} (hdg : decode cc pc = .ok (.if_icmp .lt off, 3)) (ht : (pc : Int) + off = (tgt : Int)) (hr : rg x) (hs : rg y)
    (kt : x < y → W p l e R s m args below meth c H locs cells slots Q (F0 m tgt ls rest)) (kf : y ≤ x → W p l e R s m args below meth c H locs cells slots Q (F0 m (pc + 3) ls rest)) : W p l e R s m args below meth c H locs cells slots Q (F0 m pc ls (.int (J y) :: .int (J x) :: rest)) :=
  lv_icmp_lt hexec hb hdg ht (fun h => kt ((J_lt hr hs).mp h)) (fun h => kf (Int.not_lt.mp (fun q => h ((J_lt hr hs).mpr q))))
theorem w_icmp_ge (hexec : p.tables.exec = Jvm.exec) (hb : c.code = cc) {x y : Int} {off : Int} {tgt : Nat} (hdg : decode cc pc = .ok (.if_icmp .ge off, 3)) (ht : (pc : Int) + off = (tgt : Int)) (hr : rg x) (hs : rg y)
    (kt : y ≤ x → W p l e R s m args below meth c H locs cells slots Q (F0 m tgt ls rest)) (kf : x < y → W p l e R s m args below meth c H locs cells slots Q (F0 m (pc + 3) ls rest)) : W p l e R s m args below meth c H locs cells slots Q (F0 m pc ls (.int (J y) :: .int (J x) :: rest)) :=
  lv_icmp_ge hexec hb hdg ht (fun h => kt ((J_le hs hr).mp h)) (fun h => kf (Int.not_le.mp (fun q => h ((J_le hs hr).mpr q))))
theorem w_icmp_gt (hexec : p.tables.exec = Jvm.exec) (hb : c.code = cc) {x y : Int} {off : Int} {tgt : Nat} (hdg : decode cc pc = .ok (.if_icmp .gt off, 3)) (ht : (pc : Int) + off = (tgt : Int)) (hr : rg x) (hs : rg y)
    (kt : y < x → W p l e R s m args below meth c H locs cells slots Q (F0 m tgt ls rest)) (kf : x ≤ y → W p l e R s m args below meth c H locs cells slots Q (F0 m (pc + 3) ls rest)) : W p l e R s m args below meth c H locs cells slots Q (F0 m pc ls (.int (J y) :: .int (J x) :: rest)) :=
  lv_icmp_gt hexec hb hdg ht (fun h => kt ((J_lt hs hr).mp h)) (fun h => kf (Int.not_lt.mp (fun q => h ((J_lt hs hr).mpr q))))
theorem w_icmp_le (hexec : p.tables.exec = Jvm.exec) (hb : c.code = cc) {x y : Int} {off : Int} {tgt : Nat} (hdg : decode cc pc = .ok (.if_icmp .le off, 3)) (ht : (pc : Int) + off = (tgt : Int)) (hr : rg x) (hs : rg y)
    (kt : x ≤ y → W p l e R s m args below meth c H locs cells slots Q (F0 m tgt ls rest)) (kf : y < x → W p l e R s m args below meth c H locs cells slots Q (F0 m (pc + 3) ls rest)) : W p l e R s m args below meth c H locs cells slots Q (F0 m pc ls (.int (J y) :: .int (J x) :: rest)) :=
  lv_icmp_le hexec hb hdg ht (fun h => kt ((J_le hr hs).mp h)) (fun h => kf (Int.not_le.mp (fun q => h ((J_le hr hs).mpr q))))
theorem w_iald (hexec : p.tables.exec = Jvm.exec) (hb : c.code = cc) (hK : va_K D cl tys s) (hP : va_P D cl ws H) (q0 t0 : Nat) {cA : ClassId} {n : Nat} {g : Nat → Int} (ha : ws[q0]? = some (a, ca cA n g)) (ht : tys[t0]? = some (cA, .int)) (k : Nat) {z : Int} (hz : z = (k : Int)) (hk : k < n) (hn : n < 2147483648) (hdg : decode cc pc = .ok (.iaload, 1))
    (kk : W p l e R s m args below meth c H locs cells slots Q (F0 m (pc + 1) ls (.int (J (g k)) :: rest))) : W p l e R s m args below meth c H locs cells slots Q (F0 m pc ls (.int (J z) :: .ref a :: rest)) := by
  subst hz
  refine va_iald hexec hb hK hP q0 t0 ha ht (J_in hk hn) hdg ?_
  rw [J_cl (by omega)]
  exact kk
theorem w_zald (hexec : p.tables.exec = Jvm.exec) (hb : c.code = cc) (hK : va_K D cl tys s) (hP : va_P D cl ws H) (q0 t0 : Nat) {cA : ClassId} {n : Nat} {g : Nat → Int} (ha : ws[q0]? = some (a, ca cA n g)) (ht : tys[t0]? = some (cA, .boolean)) (k : Nat) {z : Int} (hz : z = (k : Int)) (hk : k < n) (hn : n < 2147483648) (hdg : decode cc pc = .ok (.baload, 1))
    (kk : W p l e R s m args below meth c H locs cells slots Q (F0 m (pc + 1) ls (.int (J (g k)) :: rest))) : W p l e R s m args below meth c H locs cells slots Q (F0 m pc ls (.int (J z) :: .ref a :: rest)) := by
  subst hz
  refine va_zald hexec hb hK hP q0 t0 ha ht (J_in hk hn) hdg ?_
  rw [J_cl (by omega)]
  exact kk
theorem w_iast (hexec : p.tables.exec = Jvm.exec) (hb : c.code = cc) (hK : va_K D cl tys s) (hP : va_P D cl ws H) (hD : va_D A ws) (hS : va_S A H0 H locs) (q0 t0 : Nat) {cA : ClassId} {n : Nat} {g : Nat → Int} (ha : ws[q0]? = some (a, ca cA n g)) (ht : tys[t0]? = some (cA, .int)) (k : Nat) {z v : Int} (hz : z = (k : Int)) (hk : k < n) (hn : n < 2147483648) (hdg : decode cc pc = .ok (.iastore, 1))
    (kk : ∀ (H1 : Heap) (locs1 : List Loc), va_P D cl (ws.set q0 (a, ca cA n (iu g k v))) H1 → va_D A (ws.set q0 (a, ca cA n (iu g k v))) → va_S A H0 H1 locs1 → W p l e R s m args below meth c H1 locs1 cells slots Q (F0 m (pc + 1) ls rest)) : W p l e R s m args below meth c H locs cells slots Q (F0 m pc ls (.int (J v) :: .int (J z) :: .ref a :: rest)) := by
  subst hz
  refine va_iast hexec hb hK hP hD hS q0 t0 ha ht (J_in hk hn) hdg (fun H1 locs1 hP1 hD1 hS1 => ?_)
  rw [J_cl (by omega), ar_up] at hP1 hD1
  exact kk H1 locs1 hP1 hD1 hS1
theorem w_zast (hexec : p.tables.exec = Jvm.exec) (hb : c.code = cc) (hK : va_K D cl tys s) (hP : va_P D cl ws H) (hD : va_D A ws) (hS : va_S A H0 H locs) (q0 t0 : Nat) {cA : ClassId} {n : Nat} {g : Nat → Int} (ha : ws[q0]? = some (a, ca cA n g)) (ht : tys[t0]? = some (cA, .boolean)) (k : Nat) {z v : Int} (hz : z = (k : Int)) (hk : k < n) (hn : n < 2147483648) (hv : v = 0 ∨ v = 1) (hdg : decode cc pc = .ok (.bastore, 1))
    (kk : ∀ (H1 : Heap) (locs1 : List Loc), va_P D cl (ws.set q0 (a, ca cA n (iu g k v))) H1 → va_D A (ws.set q0 (a, ca cA n (iu g k v))) → va_S A H0 H1 locs1 → W p l e R s m args below meth c H1 locs1 cells slots Q (F0 m (pc + 1) ls rest)) : W p l e R s m args below meth c H locs cells slots Q (F0 m pc ls (.int (J v) :: .int (J z) :: .ref a :: rest)) := by
  subst hz
  have hb1 : vp_nar .boolean (J v) = J v := by rcases hv with rfl | rfl <;> decide
  refine va_zast hexec hb hK hP hD hS q0 t0 ha ht (J_in hk hn) hdg (fun H1 locs1 hP1 hD1 hS1 => ?_)
  rw [J_cl (by omega), hb1, ar_up] at hP1 hD1
  exact kk H1 locs1 hP1 hD1 hS1
/-- a new array of ints (all 0), its class being the one that the tables name -/
theorem w_newi (hexec : p.tables.exec = Jvm.exec) (hb : c.code = cc) (harr : (Cond.arrayClass .int).before args s = true) (hK : va_K D cl tys s) (hP : va_P D cl ws H) (hD : va_D A ws) (hS : va_S A H0 H locs) (hA : ∀ q, H0.size ≤ q → A q) (t0 : Nat) {cI : ClassId} (ht : tys[t0]? = some (cI, .int)) {atype : ArrayType} (hty : newarray.typeOf atype = .int)
    (N : Nat) {z : Int} (hz : z = (N : Int)) (hN : N ≤ 100000) (hcells : cells + 1 ≤ R.cells) (hslots : slots + N ≤ R.slots) (hdg : decode cc pc = .ok (.newarray atype, 2))
    (kk : ∀ (q : Nat) (H1 : Heap), va_P D cl (ws ++ [(q, ca cI N (fun _ => 0))]) H1 → va_D A (ws ++ [(q, ca cI N (fun _ => 0))]) → va_S A H0 H1 locs →
      W p l e R s m args below meth c H1 locs (cells + 1) (slots + N) Q (F0 m (pc + 2) ls (.ref q :: rest))) : W p l e R s m args below meth c H locs cells slots Q (F0 m pc ls (.int (J z) :: rest)) := by
  subst hz
  refine va_newa (ty := .int) (N' := N) (a0 := (N, .inl (ar (fun _ => 0)))) hexec hb (by rw [hty]; exact harr) hty hK hP hD hS hA (fun cA => ?_) ?_ (J_cl (by omega)) ?_ hcells hslots hdg (fun q cA H1 hK1 hP1 hD1 hS1 => ?_)
  · show arrV cA N (fun _ => Value.int (J 0)) = _
    rw [← J_0]
    rfl
  · rw [J_nat]; exact nI_pos (by omega)
  · show N * 4 ≤ 536870912
    omega
  · have h1 := (hK1.2 tys.length (cA, .int) (by simp)).2
    have h2 := (hK.2 t0 _ ht).2
    have h3 : s.vm.findClass ("[" ++ FieldType.int.toString) = some cA := h1
    have h4 : s.vm.findClass ("[" ++ FieldType.int.toString) = some cI := h2
    have : cA = cI := Option.some.inj (h3.symm.trans h4)
    subst this
    exact kk q H1 hP1 hD1 hS1
theorem w_newz (hexec : p.tables.exec = Jvm.exec) (hb : c.code = cc) (harr : (Cond.arrayClass .boolean).before args s = true) (hK : va_K D cl tys s) (hP : va_P D cl ws H) (hD : va_D A ws) (hS : va_S A H0 H locs) (hA : ∀ q, H0.size ≤ q → A q) (t0 : Nat) {cI : ClassId} (ht : tys[t0]? = some (cI, .boolean)) {atype : ArrayType} (hty : newarray.typeOf atype = .boolean)
    (N : Nat) {z : Int} (hz : z = (N : Int)) (hN : N ≤ 100000) (hcells : cells + 1 ≤ R.cells) (hslots : slots + N ≤ R.slots) (hdg : decode cc pc = .ok (.newarray atype, 2))
    (kk : ∀ (q : Nat) (H1 : Heap), va_P D cl (ws ++ [(q, ca cI N (fun _ => 0))]) H1 → va_D A (ws ++ [(q, ca cI N (fun _ => 0))]) → va_S A H0 H1 locs →
      W p l e R s m args below meth c H1 locs (cells + 1) (slots + N) Q (F0 m (pc + 2) ls (.ref q :: rest))) : W p l e R s m args below meth c H locs cells slots Q (F0 m pc ls (.int (J z) :: rest)) := by
  subst hz
  refine va_newa (ty := .boolean) (N' := N) (a0 := (N, .inl (ar (fun _ => 0)))) hexec hb (by rw [hty]; exact harr) hty hK hP hD hS hA (fun cA => ?_) ?_ (J_cl (by omega)) ?_ hcells hslots hdg (fun q cA H1 hK1 hP1 hD1 hS1 => ?_)
  · show arrV cA N (fun _ => Value.int (J 0)) = _
    rw [← J_0]
    rfl
  · rw [J_nat]; exact nI_pos (by omega)
  · show N * 1 ≤ 536870912
    omega
  · have h1 := (hK1.2 tys.length (cA, .boolean) (by simp)).2
    have h2 := (hK.2 t0 _ ht).2
    have h3 : s.vm.findClass ("[" ++ FieldType.boolean.toString) = some cA := h1
    have h4 : s.vm.findClass ("[" ++ FieldType.boolean.toString) = some cI := h2
    have : cA = cI := Option.some.inj (h3.symm.trans h4)
    subst this
    exact kk q H1 hP1 hD1 hS1
theorem J_min {x y : Int} (hx : rg x) (hy : rg y) : (if J y < J x then J y else J x) = J (min x y) := by
  by_cases h : y < x
  · rw [if_pos ((J_lt hy hx).mpr h), show min x y = y by omega]
  · rw [if_neg (fun q => h ((J_lt hy hx).mp q)), show min x y = x by omega]
theorem J_max {x y : Int} (hx : rg x) (hy : rg y) : (if J x < J y then J y else J x) = J (max x y) := by
  by_cases h : x < y
  · rw [if_pos ((J_lt hx hy).mpr h), show max x y = y by omega]
  · rw [if_neg (fun q => h ((J_lt hx hy).mp q)), show max x y = x by omega]
theorem w_mmin (hexec : p.tables.exec = Jvm.exec) (hb : c.code = cc) (hml : c.maxLocals = ls.size) {own : String} {index : Nat} (hown : s.vm.findClass own = some m.cls) (hlink : (Cond.methodLink own index Lib.Math.min.name).before args s = true) (hstat : (Cond.static Lib.Math.min.name).before args s = true) (hini : (Cond.initialized "java/lang/Math").before args s = true) (hcode : (Cond.code Lib.Math.min.name Lib.Math.min.code 2 (some .int)).before args s = true)
    (hframes : 1 ≤ R.frames) (hlocals : (rest.map fun v => v.category).sum + 13 ≤ R.locals) (hc : cells ≤ R.cells) (hs : slots ≤ R.slots) {x y : Int} (hdg : decode cc pc = .ok (.invokestatic index, 3)) (hrx : rg x) (hry : rg y)
    (kk : W p l e R s m args below meth c H locs cells slots Q (F0 m (pc + 3) ls (.int (J (min x y)) :: rest))) : W p l e R s m args below meth c H locs cells slots Q (F0 m pc ls (.int (J y) :: .int (J x) :: rest)) :=
  va_mmin hexec hb hml hown hlink hstat hini hcode hframes hlocals hc hs hdg (tp_i (J_min hrx hry) kk)
theorem w_mmax (hexec : p.tables.exec = Jvm.exec) (hb : c.code = cc) (hml : c.maxLocals = ls.size) {own : String} {index : Nat} (hown : s.vm.findClass own = some m.cls) (hlink : (Cond.methodLink own index Lib.Math.max.name).before args s = true) (hstat : (Cond.static Lib.Math.max.name).before args s = true) (hini : (Cond.initialized "java/lang/Math").before args s = true) (hcode : (Cond.code Lib.Math.max.name Lib.Math.max.code 2 (some .int)).before args s = true)
    (hframes : 1 ≤ R.frames) (hlocals : (rest.map fun v => v.category).sum + 13 ≤ R.locals) (hc : cells ≤ R.cells) (hs : slots ≤ R.slots) {x y : Int} (hdg : decode cc pc = .ok (.invokestatic index, 3)) (hrx : rg x) (hry : rg y)
    (kk : W p l e R s m args below meth c H locs cells slots Q (F0 m (pc + 3) ls (.int (J (max x y)) :: rest))) : W p l e R s m args below meth c H locs cells slots Q (F0 m pc ls (.int (J y) :: .int (J x) :: rest)) :=
  va_mmax hexec hb hml hown hlink hstat hini hcode hframes hlocals hc hs hdg (tp_i (J_max hrx hry) kk)
end LB
