/-! what is found -/
abbrev nr (fs hd : Nat → Int) (sum day : Int) (i : Nat) : Prop := sum < fs i ∨ (sum = fs i ∧ hd i < day)
/-- where a new one stands among n -/
def psn (fs hd : Nat → Int) (sum day : Int) : Nat → Nat
  | 0 => 0
  | n + 1 => if nr fs hd sum day n then psn fs hd sum day n else n + 1
theorem psn_le (fs hd : Nat → Int) (sum day : Int) : ∀ n : Nat, psn fs hd sum day n ≤ n
  | 0 => Nat.le_refl 0
  | n + 1 => by
    have := psn_le fs hd sum day n
    rw [psn]
    split <;> omega
theorem psn_eq {fs hd hd' : Nat → Int} (sum day : Int) : ∀ {n : Nat}, (∀ i, i < n → hd i = hd' i) → psn fs hd sum day n = psn fs hd' sum day n
  | 0, _ => rfl
  | n + 1, h => by
    rw [psn, psn, psn_eq sum day (n := n) (fun i hi => h i (by omega))]
    have e := h n (by omega)
    simp only [nr, e]
/-- f with v put in at place q, the ones behind it moved, up to n -/
def ins (f : Nat → Int) (q n : Nat) (v : Int) : Nat → Int := fun j => if j < q then f j else if j = q then v else if j < n then f (j - 1) else f j
/-- f while its places behind i and below n are moved -/
def mvd (f : Nat → Int) (i n : Nat) : Nat → Int := fun j => if i < j ∧ j < n then f (j - 1) else f j
theorem mvd_0 (f : Nat → Int) {i n : Nat} (h : n ≤ i + 1) : mvd f i n = f := by
  funext j
  unfold mvd
  rw [if_neg (by omega)]
theorem mvd_s (f : Nat → Int) {i n : Nat} (h : i + 1 < n) : iu (mvd f (i + 1) n) (i + 1) (mvd f (i + 1) n i) = mvd f i n := by
  funext j
  by_cases e : j = i + 1
  · subst e
    rw [iu_s]
    unfold mvd
    rw [if_neg (by omega), if_pos (by omega)]
    rfl
  · rw [iu_n _ _ e]
    unfold mvd
    by_cases q : i < j ∧ j < n
    · rw [if_pos q, if_pos (by omega)]
    · rw [if_neg q, if_neg (by omega)]
theorem mvd_e (f : Nat → Int) {q n : Nat} (h : q < n) (v : Int) : iu (mvd f q n) q v = ins f q n v := by
  funext j
  by_cases e : j = q
  · subst e
    rw [iu_s]
    unfold ins
    rw [if_neg (by omega), if_pos rfl]
  · rw [iu_n _ _ e]
    unfold mvd ins
    by_cases z : j < q
    · rw [if_pos z, if_neg (by omega)]
    · rw [if_neg z, if_neg e]
      by_cases y : j < n
      · rw [if_pos y, if_pos (by omega)]
      · rw [if_neg y, if_neg (by omega)]
