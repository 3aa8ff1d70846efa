/-! the mathematics of changes and counts -/
/-- an exchange of letter b for letter a -/
def xc (wt : Nat → Int) (a b : Int) : Int := if a = b then 0 else if sd a.toNat = sd b.toNat then min (wt 2) (wt 3) else wt 2
def ed0 (wt : Nat → Int) : Nat → Int
  | 0 => 0
  | j + 1 => ed0 wt j + wt 0
/-- a row of the table of changes, out of the one before -/
def edr (wt : Nat → Int) (a : Int) (v pr : Nat → Int) : Nat → Int
  | 0 => pr 0 + wt 1
  | j + 1 => min (pr j + xc wt a (v j)) (min (edr wt a v pr j + wt 0) (pr (j + 1) + wt 1))
/-- the changes from the first i letters of u to the first j letters of v -/
def ed (wt : Nat → Int) (u v : Nat → Int) : Nat → Nat → Int
  | 0 => ed0 wt
  | i + 1 => edr wt (u i) v (ed wt u v i)
theorem xc_rg {wt : Nat → Int} (hw : ∀ k, 0 ≤ wt k ∧ wt k ≤ 1000) (a b : Int) : 0 ≤ xc wt a b ∧ xc wt a b ≤ 1000 := by
  have h2 := hw 2
  have h3 := hw 3
  unfold xc
  split
  · omega
  · split
    · omega
    · omega
theorem ed0_rg {wt : Nat → Int} (hw : ∀ k, 0 ≤ wt k ∧ wt k ≤ 1000) : ∀ j : Nat, 0 ≤ ed0 wt j ∧ ed0 wt j ≤ 1000 * (j : Int)
  | 0 => by simp [ed0]
  | j + 1 => by
    have h := ed0_rg hw j
    have h0 := hw 0
    simp only [ed0]
    omega
theorem ed_rg {wt : Nat → Int} (hw : ∀ k, 0 ≤ wt k ∧ wt k ≤ 1000) (u v : Nat → Int) : ∀ i j : Nat, 0 ≤ ed wt u v i j ∧ ed wt u v i j ≤ 1000 * (i + j : Int)
  | 0, j => by
    have h := ed0_rg hw j
    show 0 ≤ ed0 wt j ∧ ed0 wt j ≤ 1000 * (((0 : Nat) : Int) + (j : Int))
    omega
  | i + 1, 0 => by
    have h := ed_rg hw u v i 0
    have h1 := hw 1
    show 0 ≤ ed wt u v i 0 + wt 1 ∧ ed wt u v i 0 + wt 1 ≤ 1000 * (((i + 1 : Nat) : Int) + ((0 : Nat) : Int))
    omega
  | i + 1, j + 1 => by
    have h := ed_rg hw u v i j
    have h1 := ed_rg hw u v (i + 1) j
    have h2 := ed_rg hw u v i (j + 1)
    have hx := xc_rg hw (u i) (v j)
    have hw0 := hw 0
    have hw1 := hw 1
    have e1 : ed wt u v (i + 1) j = edr wt (u i) v (ed wt u v i) j := rfl
    rw [e1] at h1
    show 0 ≤ min (ed wt u v i j + xc wt (u i) (v j)) (min (edr wt (u i) v (ed wt u v i) j + wt 0) (ed wt u v i (j + 1) + wt 1)) ∧ min (ed wt u v i j + xc wt (u i) (v j)) (min (edr wt (u i) v (ed wt u v i) j + wt 0) (ed wt u v i (j + 1) + wt 1)) ≤ 1000 * (((i + 1 : Nat) : Int) + ((j + 1 : Nat) : Int))
    omega
theorem ed0_mul (wt : Nat → Int) : ∀ j : Nat, ed0 wt j = (j : Int) * wt 0
  | 0 => by simp [ed0]
  | j + 1 => by
    rw [ed0, ed0_mul wt j, show ((j + 1 : Nat) : Int) = (j : Int) + 1 from rfl, Int.add_mul, Int.one_mul]
/-- how often c stands among the first n of u -/
def cnt (u : Nat → Int) : Nat → Int → Int
  | 0, _ => 0
  | n + 1, c => cnt u n c + (if u n = c then 1 else 0)
def sm (f : Nat → Int) : Nat → Int
  | 0 => 0
  | n + 1 => sm f n + f n
theorem cnt_rg (u : Nat → Int) : ∀ (n : Nat) (c : Int), 0 ≤ cnt u n c ∧ cnt u n c ≤ (n : Int)
  | 0, c => by simp [cnt]
  | n + 1, c => by
    have h := cnt_rg u n c
    simp only [cnt]
    split <;> omega
theorem sm_eq {f g : Nat → Int} : ∀ {n : Nat}, (∀ k, k < n → f k = g k) → sm f n = sm g n
  | 0, _ => rfl
  | n + 1, h => by
    rw [sm, sm, sm_eq (fun k hk => h k (by omega)), h n (by omega)]
theorem sm_add (f g : Nat → Int) : ∀ n : Nat, sm (fun k => f k + g k) n = sm f n + sm g n
  | 0 => rfl
  | n + 1 => by
    simp only [sm]
    rw [sm_add f g n]
    omega
theorem sm_sub (f g : Nat → Int) : ∀ n : Nat, sm (fun k => f k - g k) n = sm f n - sm g n
  | 0 => rfl
  | n + 1 => by
    simp only [sm]
    rw [sm_sub f g n]
    omega
theorem sm_0 : ∀ n : Nat, sm (fun _ => 0) n = 0
  | 0 => rfl
  | n + 1 => by
    simp only [sm]
    rw [sm_0 n]
    omega
/-- one place grows by d -/
theorem sm_at {f g : Nat → Int} {k : Nat} {d : Int} : ∀ {n : Nat}, k < n → (∀ j, j ≠ k → g j = f j) → g k = f k + d → sm g n = sm f n + d
  | 0, h, _, _ => absurd h (Nat.not_lt_zero _)
  | n + 1, h, ho, hk => by
    simp only [sm]
    by_cases e : k = n
    · subst e
      rw [hk, sm_eq (f := g) (g := f) (fun j hj => ho j (by omega))]
      omega
    · rw [sm_at (f := f) (g := g) (k := k) (d := d) (n := n) (by omega) ho hk, ho n (fun z => e z.symm)]
      omega
theorem sm_rg {f : Nat → Int} {a b : Int} (h : ∀ k, a ≤ f k ∧ f k ≤ b) : ∀ n : Nat, a * (n : Int) ≤ sm f n ∧ sm f n ≤ b * (n : Int)
  | 0 => by simp [sm]
  | n + 1 => by
    have h1 := sm_rg h n
    have h2 := h n
    simp only [sm]
    rw [show ((n + 1 : Nat) : Int) = (n : Int) + 1 from rfl, Int.mul_add, Int.mul_add, Int.mul_one, Int.mul_one]
    omega
theorem sm_cnt {u : Nat → Int} : ∀ {n : Nat}, (∀ k, k < n → 0 ≤ u k ∧ u k < 26) → sm (fun c => cnt u n (c : Int)) 26 = (n : Int)
  | 0, _ => by
    show sm (fun _ => 0) 26 = _
    rw [sm_0]
    rfl
  | n + 1, h => by
    have ih := sm_cnt (u := u) (n := n) (fun k hk => h k (by omega))
    have hu := h n (by omega)
    have h1 : ∀ j : Nat, j ≠ (u n).toNat → cnt u (n + 1) (j : Int) = cnt u n (j : Int) := fun j hj => by
      show cnt u n (j : Int) + (if u n = (j : Int) then 1 else 0) = cnt u n (j : Int)
      rw [if_neg (by omega)]
      omega
    have h2 : cnt u (n + 1) (((u n).toNat : Nat) : Int) = cnt u n (((u n).toNat : Nat) : Int) + 1 := by
      show cnt u n (((u n).toNat : Nat) : Int) + (if u n = (((u n).toNat : Nat) : Int) then 1 else 0) = cnt u n (((u n).toNat : Nat) : Int) + 1
      rw [if_pos (by omega)]
    have h3 := sm_at (f := fun c => cnt u n (c : Int)) (g := fun c => cnt u (n + 1) (c : Int)) (k := (u n).toNat) (d := 1) (n := 26) (by omega) h1 h2
    rw [h3, ih]
    rfl
/-- letters of the one beyond those of the other -/
def bey (u : Nat → Int) (n : Nat) (v : Nat → Int) (k : Nat) : Int := sm (fun c => max 0 (cnt u n (c : Int) - cnt v k (c : Int))) 26
def shr (u : Nat → Int) (n : Nat) (v : Nat → Int) (k : Nat) : Int := sm (fun c => min (cnt u n (c : Int)) (cnt v k (c : Int))) 26
theorem shr_bey {u v : Nat → Int} {n k : Nat} (h : ∀ j, j < n → 0 ≤ u j ∧ u j < 26) : (n : Int) - shr u n v k = bey u n v k := by
  unfold shr bey
  rw [← sm_cnt h, ← sm_sub]
  exact sm_eq (fun c _ => by omega)
theorem shr_comm (u : Nat → Int) (n : Nat) (v : Nat → Int) (k : Nat) : shr u n v k = shr v k u n := sm_eq (fun c _ => by omega)
theorem bey_rg {u v : Nat → Int} {n k : Nat} (h : ∀ j, j < n → 0 ≤ u j ∧ u j < 26) : 0 ≤ bey u n v k ∧ bey u n v k ≤ (n : Int) := by
  rw [← shr_bey h]
  have h1 : 0 * ((26 : Nat) : Int) ≤ bey u n v k := by
    have : ∀ m : Nat, 0 ≤ sm (fun c => max 0 (cnt u n (c : Int) - cnt v k (c : Int))) m := by
      intro m
      induction m with
      | zero => simp [sm]
      | succ m ih => simp only [sm]; omega
    have := this 26
    unfold bey
    omega
  have h2 : 0 ≤ shr u n v k := by
    have : ∀ m : Nat, 0 ≤ sm (fun c => min (cnt u n (c : Int)) (cnt v k (c : Int))) m := by
      intro m
      induction m with
      | zero => simp [sm]
      | succ m ih =>
        have e1 := cnt_rg u n (m : Int)
        have e2 := cnt_rg v k (m : Int)
        simp only [sm]; omega
    exact this 26
  rw [← shr_bey h] at h1
  omega
/-- the least that the changes can be, by counting -/
def lb (wt : Nat → Int) (u : Nat → Int) (n : Nat) (v : Nat → Int) (k : Nat) : Int := max (bey u n v k * min (wt 1) (min (wt 2) (wt 3))) (bey v k u n * min (wt 0) (min (wt 2) (wt 3)))
/-! ways to pair -/
/-- the word of the entry with which way k pairs word w; -1: none -/
def dgt (k w : Nat) : Int := ((k / 4 ^ (2 - w) % 4 : Nat) : Int) - 1
theorem dgt_rg (k w : Nat) : -1 ≤ dgt k w ∧ dgt k w ≤ 2 := by
  unfold dgt
  have : k / 4 ^ (2 - w) % 4 < 4 := Nat.mod_lt _ (by omega)
  omega
abbrev may (la lt : Nat → Int) (w : Nat) (d : Int) : Prop := d < 0 ∨ (0 < la w ∧ 0 < lt d.toNat)
abbrev okp (la lt : Nat → Int) (x y z : Int) : Prop := ((x < 0 ∨ (x ≠ y ∧ x ≠ z)) ∧ (y < 0 ∨ y ≠ z)) ∧ may la lt 0 x ∧ may la lt 1 y ∧ may la lt 2 z
def csv (cs : Nat → Int) (w : Nat) (d : Int) : Int := if d < 0 then 0 else cs (3 * w + d.toNat)
def trn (a b : Int) : Int := if 0 ≤ a ∧ 0 ≤ b ∧ b < a then 1 else 0
def one (x : Int) : Int := if x < 0 then 0 else 1
def top (wt cs : Nat → Int) (al : Int) (x y z : Int) : Int := csv cs 0 x + csv cs 1 y + csv cs 2 z + wt 4 * (al - 2 * (one x + one y + one z)) + wt 5 * (trn x y + trn x z + trn y z)
/-- the least sum of the ways below n that can be, and the first way that gives it -/
def pkw (la lt wt cs : Nat → Int) (al : Int) : Nat → Int × Nat
  | 0 => (-1, 0)
  | n + 1 => if okp la lt (dgt n 0) (dgt n 1) (dgt n 2) ∧ ((pkw la lt wt cs al n).1 < 0 ∨ top wt cs al (dgt n 0) (dgt n 1) (dgt n 2) < (pkw la lt wt cs al n).1) then (top wt cs al (dgt n 0) (dgt n 1) (dgt n 2), n) else pkw la lt wt cs al n
/-- how many of three words are there -/
def nw (la : Nat → Int) : Int := b2 (0 < la 0) + b2 (0 < la 1) + b2 (0 < la 2)
theorem mul_rg {a b : Int} {k : Nat} (ha : 0 ≤ a ∧ a ≤ 1000) (hb : 0 ≤ b ∧ b ≤ (k : Int)) : 0 ≤ a * b ∧ a * b ≤ 1000 * (k : Int) :=
  ⟨Int.mul_nonneg ha.1 hb.1, Int.mul_le_mul ha.2 hb.2 hb.1 (by omega)⟩
theorem csv_rg {cs : Nat → Int} {B : Int} (h : ∀ j, 0 ≤ cs j ∧ cs j ≤ B) (w : Nat) (d : Int) : 0 ≤ csv cs w d ∧ csv cs w d ≤ B := by
  unfold csv
  have h0 := h 0
  split
  · omega
  · exact h _
theorem trn_rg (a b : Int) : 0 ≤ trn a b ∧ trn a b ≤ 1 := by unfold trn; split <;> omega
theorem nw_pairs {la lt : Nat → Int} {x y z : Int} (hx : -1 ≤ x ∧ x ≤ 2) (hy : -1 ≤ y ∧ y ≤ 2) (hz : -1 ≤ z ∧ z ≤ 2) (h : okp la lt x y z) : one x + one y + one z ≤ nw la ∧ one x + one y + one z ≤ nw lt ∧ 0 ≤ one x + one y + one z := by
  obtain ⟨⟨h1, h2⟩, h3, h4, h5⟩ := h
  unfold nw
  have a0 := b2_rg (q := 0 < la 0)
  have a1 := b2_rg (q := 0 < la 1)
  have a2 := b2_rg (q := 0 < la 2)
  have c0 := b2_rg (q := 0 < lt 0)
  have c1 := b2_rg (q := 0 < lt 1)
  have c2 := b2_rg (q := 0 < lt 2)
  have ex : x = -1 ∨ x = 0 ∨ x = 1 ∨ x = 2 := by omega
  have ey : y = -1 ∨ y = 0 ∨ y = 1 ∨ y = 2 := by omega
  have ez : z = -1 ∨ z = 0 ∨ z = 1 ∨ z = 2 := by omega
  have key : ∀ (f : Nat → Int) (w : Nat), 0 < f w → b2 (0 < f w) = 1 := fun f w q => b2_t q
  rcases ex with rfl | rfl | rfl | rfl <;> rcases ey with rfl | rfl | rfl | rfl <;> rcases ez with rfl | rfl | rfl | rfl <;> simp [one, may] at h1 h2 h3 h4 h5 ⊢ <;> (try simp only [b2_t h3.1, b2_t h3.2]) <;> (try simp only [b2_t h4.1, b2_t h4.2]) <;> (try simp only [b2_t h5.1, b2_t h5.2]) <;> omega
theorem nw_rg (la : Nat → Int) : 0 ≤ nw la ∧ nw la ≤ 3 := by
  have a0 := b2_rg (q := 0 < la 0)
  have a1 := b2_rg (q := 0 < la 1)
  have a2 := b2_rg (q := 0 < la 2)
  unfold nw
  omega
theorem top_rg {la lt wt cs : Nat → Int} {x y z : Int} (hw : ∀ k, 0 ≤ wt k ∧ wt k ≤ 1000) (hc : ∀ j, 0 ≤ cs j ∧ cs j ≤ 20000) (hx : -1 ≤ x ∧ x ≤ 2) (hy : -1 ≤ y ∧ y ≤ 2) (hz : -1 ≤ z ∧ z ≤ 2) (h : okp la lt x y z) : 0 ≤ top wt cs (nw la + nw lt) x y z ∧ top wt cs (nw la + nw lt) x y z ≤ 69000 := by
  have h1 := nw_pairs hx hy hz h
  have h2 := nw_rg la
  have h3 := nw_rg lt
  have h4 := mul_rg (k := 6) (hw 4) (b := nw la + nw lt - 2 * (one x + one y + one z)) (by omega)
  have t1 := trn_rg x y
  have t2 := trn_rg x z
  have t3 := trn_rg y z
  have h5 := mul_rg (k := 3) (hw 5) (b := trn x y + trn x z + trn y z) (by omega)
  have c0 := csv_rg hc 0 x
  have c1 := csv_rg hc 1 y
  have c2 := csv_rg hc 2 z
  unfold top
  omega
theorem ok0 (la lt : Nat → Int) : okp la lt (dgt 0 0) (dgt 0 1) (dgt 0 2) := by
  have e0 : dgt 0 0 = -1 := rfl
  have e1 : dgt 0 1 = -1 := rfl
  have e2 : dgt 0 2 = -1 := rfl
  rw [e0, e1, e2]
  simp [okp, may]
theorem pkw_rg {la lt wt cs : Nat → Int} (hw : ∀ k, 0 ≤ wt k ∧ wt k ≤ 1000) (hc : ∀ j, 0 ≤ cs j ∧ cs j ≤ 20000) : ∀ n : Nat, 0 ≤ (pkw la lt wt cs (nw la + nw lt) (n + 1)).1 ∧ (pkw la lt wt cs (nw la + nw lt) (n + 1)).1 ≤ 69000 ∧ (pkw la lt wt cs (nw la + nw lt) (n + 1)).2 ≤ n
  | 0 => by
    have h := ok0 la lt
    have h2 := top_rg hw hc (dgt_rg 0 0) (dgt_rg 0 1) (dgt_rg 0 2) h
    rw [pkw, if_pos ⟨h, Or.inl (by simp [pkw])⟩]
    exact ⟨h2.1, h2.2, Nat.le_refl 0⟩
  | n + 1 => by
    have ih := pkw_rg (la := la) (lt := lt) hw hc n
    rw [pkw]
    split
    · next h =>
      have h2 := top_rg hw hc (dgt_rg (n + 1) 0) (dgt_rg (n + 1) 1) (dgt_rg (n + 1) 2) h.1
      exact ⟨h2.1, h2.2, Nat.le_refl _⟩
    · exact ⟨ih.1, ih.2.1, by omega⟩
/-! the class's costs: -1 where one of the two words is none -/
abbrev okc (ck : Nat → Int) (x y z : Int) : Prop := ((x < 0 ∨ (x ≠ y ∧ x ≠ z)) ∧ (y < 0 ∨ y ≠ z)) ∧ (x < 0 ∨ ck (3 * 0 + x.toNat) ≠ -1) ∧ (y < 0 ∨ ck (3 * 1 + y.toNat) ≠ -1) ∧ (z < 0 ∨ ck (3 * 2 + z.toNat) ≠ -1)
def tcl (wt ck : Nat → Int) (al : Int) (x y z : Int) : Int := if okc ck x y z then top wt ck al x y z else 1000000
def ckf (la lt cs : Nat → Int) (ck : Nat → Int) : Prop := ∀ w o : Nat, w < 3 → o < 3 → ck (3 * w + o) = if 0 < la w ∧ 0 < lt o then cs (3 * w + o) else -1
theorem ck_may {la lt cs ck : Nat → Int} (hc : ∀ j, 0 ≤ cs j) (h : ckf la lt cs ck) {w : Nat} (hw : w < 3) {x : Int} (hx : -1 ≤ x ∧ x ≤ 2) : (x < 0 ∨ ck (3 * w + x.toNat) ≠ -1) ↔ may la lt w x := by
  unfold may
  by_cases e : x < 0
  · simp [e]
  · have h1 := h w x.toNat hw (by omega)
    have h2 := hc (3 * w + x.toNat)
    rw [h1]
    by_cases q : 0 < la w ∧ 0 < lt x.toNat
    · rw [if_pos q]
      simp only [e, q, and_self, or_true, iff_true]
      right
      omega
    · rw [if_neg q]
      simp only [e, false_or, ne_eq, not_true_eq_false, false_iff]
      exact q
theorem okc_okp {la lt cs ck : Nat → Int} (hc : ∀ j, 0 ≤ cs j) (h : ckf la lt cs ck) {x y z : Int} (hx : -1 ≤ x ∧ x ≤ 2) (hy : -1 ≤ y ∧ y ≤ 2) (hz : -1 ≤ z ∧ z ≤ 2) : okc ck x y z ↔ okp la lt x y z := by
  unfold okc okp
  rw [ck_may hc h (by omega) hx, ck_may hc h (by omega) hy, ck_may hc h (by omega) hz]
theorem csv_ck {la lt cs ck : Nat → Int} (h : ckf la lt cs ck) {w : Nat} (hw : w < 3) {x : Int} (hx : -1 ≤ x ∧ x ≤ 2) (hm : may la lt w x) : csv ck w x = csv cs w x := by
  unfold csv
  by_cases e : x < 0
  · rw [if_pos e, if_pos e]
  · rw [if_neg e, if_neg e, h w x.toNat hw (by omega), if_pos (hm.resolve_left e)]
theorem top_ck {la lt cs ck : Nat → Int} (h : ckf la lt cs ck) (wt : Nat → Int) (al : Int) {x y z : Int} (hx : -1 ≤ x ∧ x ≤ 2) (hy : -1 ≤ y ∧ y ≤ 2) (hz : -1 ≤ z ∧ z ≤ 2) (hm : okp la lt x y z) : top wt ck al x y z = top wt cs al x y z := by
  unfold top
  rw [csv_ck h (by omega) hx hm.2.1, csv_ck h (by omega) hy hm.2.2.1, csv_ck h (by omega) hz hm.2.2.2]
/-- the least sum of the ways below n, 1,000,000 ahead of the first -/
def lst (la lt wt cs : Nat → Int) (al : Int) (n : Nat) : Int := if n = 0 then 1000000 else (pkw la lt wt cs al n).1
theorem lst_rg {la lt wt cs : Nat → Int} (hw : ∀ k, 0 ≤ wt k ∧ wt k ≤ 1000) (hc : ∀ j, 0 ≤ cs j ∧ cs j ≤ 20000) (n : Nat) : 0 ≤ lst la lt wt cs (nw la + nw lt) n ∧ lst la lt wt cs (nw la + nw lt) n ≤ 1000000 := by
  unfold lst
  split
  · omega
  · next h =>
    obtain ⟨k, rfl⟩ : ∃ k, n = k + 1 := ⟨n - 1, by omega⟩
    have := pkw_rg (la := la) (lt := lt) hw hc k
    omega
/-- a way's total, and the step of the loop over ways -/
theorem lst_lt {la lt wt cs ck : Nat → Int} (hw : ∀ k, 0 ≤ wt k ∧ wt k ≤ 1000) (hc : ∀ j, 0 ≤ cs j ∧ cs j ≤ 20000) (h : ckf la lt cs ck) (n : Nat) (hl : tcl wt ck (nw la + nw lt) (dgt n 0) (dgt n 1) (dgt n 2) < lst la lt wt cs (nw la + nw lt) n) :
    pkw la lt wt cs (nw la + nw lt) (n + 1) = (tcl wt ck (nw la + nw lt) (dgt n 0) (dgt n 1) (dgt n 2), n) := by
  have hq := lst_rg (la := la) (lt := lt) hw hc n
  have e0 := okc_okp (fun j => (hc j).1) h (dgt_rg n 0) (dgt_rg n 1) (dgt_rg n 2)
  unfold tcl at hl ⊢
  by_cases q : okc ck (dgt n 0) (dgt n 1) (dgt n 2)
  · rw [if_pos q] at hl ⊢
    have q2 := e0.mp q
    rw [top_ck h wt _ (dgt_rg n 0) (dgt_rg n 1) (dgt_rg n 2) q2] at hl ⊢
    rw [pkw, if_pos]
    refine ⟨q2, ?_⟩
    unfold lst at hl
    split at hl
    · next z => subst z; left; simp [pkw]
    · right; exact hl
  · rw [if_neg q] at hl
    omega
theorem lst_ge {la lt wt cs ck : Nat → Int} (hw : ∀ k, 0 ≤ wt k ∧ wt k ≤ 1000) (hc : ∀ j, 0 ≤ cs j ∧ cs j ≤ 20000) (h : ckf la lt cs ck) (n : Nat) (hl : lst la lt wt cs (nw la + nw lt) n ≤ tcl wt ck (nw la + nw lt) (dgt n 0) (dgt n 1) (dgt n 2)) :
    0 < n ∧ pkw la lt wt cs (nw la + nw lt) (n + 1) = pkw la lt wt cs (nw la + nw lt) n := by
  have e0 := okc_okp (fun j => (hc j).1) h (dgt_rg n 0) (dgt_rg n 1) (dgt_rg n 2)
  unfold tcl at hl
  by_cases z : n = 0
  · subst z
    have q2 := ok0 la lt
    have q := e0.mpr q2
    have := top_rg hw hc (dgt_rg 0 0) (dgt_rg 0 1) (dgt_rg 0 2) q2
    rw [if_pos q, top_ck h wt _ (dgt_rg 0 0) (dgt_rg 0 1) (dgt_rg 0 2) q2] at hl
    unfold lst at hl
    rw [if_pos rfl] at hl
    omega
  · refine ⟨by omega, ?_⟩
    obtain ⟨k, rfl⟩ : ∃ k, n = k + 1 := ⟨n - 1, by omega⟩
    have hb := pkw_rg (la := la) (lt := lt) hw hc k
    unfold lst at hl
    rw [if_neg z] at hl
    rw [pkw, if_neg]
    rintro ⟨q2, q3⟩
    rw [if_pos (e0.mpr q2), top_ck h wt _ (dgt_rg (k + 1) 0) (dgt_rg (k + 1) 1) (dgt_rg (k + 1) 2) q2] at hl
    omega
/-- the word with which a way pairs a word, in bits -/
theorem ptn : ∀ k : Nat, k < 64 → ∀ w : Nat, w < 3 → ((J (k : Int) >>> ((J 2 * (J 2 - J (w : Int))) &&& 31)) &&& J 3) - J 1 = J (dgt k w) := by decide +kernel
