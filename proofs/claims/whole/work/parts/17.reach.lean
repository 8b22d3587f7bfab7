-- sets that can be come to
theorem tb5 {m j : Nat} (hm : m < 32) (h : m.testBit j = true) : j < 5 := by
  rcases Nat.lt_or_ge j 5 with q | q
  · exact q
  · have h2 : m.testBit j = false := Nat.testBit_lt_two_pow (Nat.lt_of_lt_of_le hm (Nat.pow_le_pow_right (n := 2) (by decide) q))
    rw [h] at h2; cases h2
def card (m : Nat) : Nat := sN (fun k => if m.testBit k then 1 else 0) 5
theorem card_grow : ∀ a, a < 32 → ∀ b, b < 32 → (a ||| b = a) ∨ card a < card (a ||| b) := by decide +kernel
theorem card_le : ∀ a, a < 32 → ∀ n, n ≤ 5 → (∀ k, k < 5 → a.testBit k = true → k < n) → card a ≤ n := by decide +kernel
theorem or_bits {a b j : Nat} : (a ||| b).testBit j = true ↔ a.testBit j = true ∨ b.testBit j = true := by
  rw [Nat.testBit_or, Bool.or_eq_true]
theorem an_bits {a b j : Nat} (ha : a < 32) (hb : b < 32) : (an a b).testBit j = true ↔ a.testBit j = true ∧ b.testBit j = false := by
  constructor
  · intro h
    have hj := tb5 (an_lt a ha b hb) h
    rw [an_bit a ha b hb j hj] at h
    simpa using h
  · rintro ⟨h1, h2⟩
    have hj := tb5 ha h1
    rw [an_bit a ha b hb j hj, h1, h2]; rfl
/-- a table of next nodes -/
def okX (n : Nat) (X : Nat → Nat) : Prop := n ≤ 5 ∧ ∀ u, u < n → X u < 32 ∧ ∀ j, (X u).testBit j = true → j < n
section REACH
variable {n av m : Nat} {X : Nat → Nat}
theorem okX.lt (h : okX n X) : ∀ u, u < n → X u < 32 := fun u hu => (h.2 u hu).1
theorem bh_mono (h : okX n X) (ha : av < 32) (hm : m < 32) {k j : Nat} (hj : (bh X n av m k).testBit j = true) : (bh X n av m (k + 1)).testBit j = true := or_bits.mpr (Or.inl hj)
theorem bh_in (h : okX n X) (ha : av < 32) (hm : m < 32) (hmn : ∀ j, m.testBit j = true → j < n) : ∀ {k j : Nat}, (bh X n av m k).testBit j = true → j < n
  | 0, j, hj => hmn j hj
  | k + 1, j, hj => by
    rcases or_bits.mp hj with q | q
    · exact bh_in h ha hm hmn q
    · obtain ⟨u, hu, -, h3⟩ := nxO_bit.mp ((an_bits (nxO_lt h.lt) ha).mp q).1
      exact (h.2 u hu).2 j h3
theorem bh_fix {k : Nat} (e : bh X n av m (k + 1) = bh X n av m k) : ∀ i, bh X n av m (k + i) = bh X n av m k
  | 0 => rfl
  | i + 1 => by
    have h1 := bh_fix e i
    show bh X n av m (k + i) ||| an (nxO X (bh X n av m (k + i)) n) av = bh X n av m k
    rw [h1]; exact e
theorem bh_grow (h : okX n X) (ha : av < 32) (hm : m < 32) : ∀ k, (∃ i, i < k ∧ bh X n av m (i + 1) = bh X n av m i) ∨ card m + k ≤ card (bh X n av m k)
  | 0 => Or.inr (Nat.le_refl _)
  | k + 1 => by
    rcases bh_grow h ha hm k with ⟨i, hi, e⟩ | q
    · exact Or.inl ⟨i, by omega, e⟩
    · rcases card_grow _ (bh_lt h.lt ha hm k) _ (an_lt _ (nxO_lt (m := bh X n av m k) h.lt) _ ha) with e | e
      · exact Or.inl ⟨k, by omega, e⟩
      · right
        show card m + (k + 1) ≤ card (bh X n av m k ||| an (nxO X (bh X n av m k) n) av)
        omega
/-- after n rounds nothing more comes -/
theorem bh_stable (h : okX n X) (ha : av < 32) (hm : m < 32) (hmn : ∀ j, m.testBit j = true → j < n) (h0 : 0 < card m) : bh X n av m (n + 1) = bh X n av m n := by
  rcases bh_grow h ha hm n with ⟨i, hi, e⟩ | q
  · have e1 := bh_fix e (n - i)
    have e2 := bh_fix e (n + 1 - i)
    rw [show i + (n - i) = n by omega] at e1
    rw [show i + (n + 1 - i) = n + 1 by omega] at e2
    rw [e1, e2]
  · have := card_le _ (bh_lt h.lt ha hm n) n h.1 (fun k _ hk => bh_in h ha hm hmn hk)
    omega
theorem bh_closed (h : okX n X) (ha : av < 32) (hm : m < 32) (hmn : ∀ j, m.testBit j = true → j < n) (h0 : 0 < card m) {u w : Nat} (hu : (bh X n av m n).testBit u = true) (hw : (X u).testBit w = true) (hv : av.testBit w = false) : (bh X n av m n).testBit w = true := by
  have e := bh_stable h ha hm hmn h0
  rw [← e]
  exact or_bits.mpr (Or.inr ((an_bits (nxO_lt h.lt) ha).mpr ⟨nxO_bit.mpr ⟨u, bh_in h ha hm hmn hu, hu, hw⟩, hv⟩))
theorem bh_start {k j : Nat} (hj : m.testBit j = true) : (bh X n av m k).testBit j = true := by
  induction k with
  | zero => exact hj
  | succ k ih => exact or_bits.mpr (Or.inl ih)
theorem bh_least (h : okX n X) (ha : av < 32) {p : Nat → Prop} (h1 : ∀ j, m.testBit j = true → p j) (h2 : ∀ u w, u < n → p u → (X u).testBit w = true → av.testBit w = false → p w) : ∀ {k j : Nat}, (bh X n av m k).testBit j = true → p j
  | 0, j, hj => h1 j hj
  | k + 1, j, hj => by
    rcases or_bits.mp hj with q | q
    · exact bh_least h ha h1 h2 q
    · obtain ⟨q1, q2⟩ := (an_bits (nxO_lt h.lt) ha).mp q
      obtain ⟨u, hu, h3, h4⟩ := nxO_bit.mp q1
      exact h2 u j hu (bh_least h ha h1 h2 h3) h4 q2
end REACH
theorem card_pow : ∀ u, u < 5 → card (2 ^ u) = 1 := by decide +kernel
theorem pow_in {u n : Nat} (hu : u < n) : ∀ j, (2 ^ u).testBit j = true → j < n := fun j hj => by
  rw [pow_bit] at hj
  have : u = j := by simpa using hj
  omega
/-- where ways from u lead -/
def Dm (X : Nat → Nat) (n u : Nat) : Nat := bh X n 0 (2 ^ u) n
section DM
variable {n : Nat} {X : Nat → Nat}
theorem Dm_lt (h : okX n X) {u : Nat} (hu : u < n) : Dm X n u < 32 := bh_lt h.lt (by decide) (pow_32 (by have := h.1; omega)) n
theorem Dm_in (h : okX n X) {u j : Nat} (hu : u < n) (hj : (Dm X n u).testBit j = true) : j < n := bh_in h (by decide) (pow_32 (by have := h.1; omega)) (pow_in hu) hj
theorem Dm_rf {u : Nat} : (Dm X n u).testBit u = true := bh_start (by rw [pow_bit]; simp)
theorem Dm_step (h : okX n X) {u a b : Nat} (hu : u < n) (ha : (Dm X n u).testBit a = true) (hb : (X a).testBit b = true) : (Dm X n u).testBit b = true :=
  bh_closed h (by decide) (pow_32 (by have := h.1; omega)) (pow_in hu) (by rw [card_pow u (by have := h.1; omega)]; decide) ha hb (Nat.zero_testBit b)
theorem Dm_least (h : okX n X) {u : Nat} {p : Nat → Prop} (h1 : p u) (h2 : ∀ a b, a < n → p a → (X a).testBit b = true → p b) {j : Nat} (hj : (Dm X n u).testBit j = true) : p j :=
  bh_least h (by decide) (fun i hi => by
    rw [pow_bit] at hi
    have e : u = i := by simpa using hi
    rw [← e]; exact h1) (fun a b ha hp hb _ => h2 a b ha hp hb) hj
theorem Dm_tr (h : okX n X) {a b c : Nat} (ha : a < n) (h1 : (Dm X n a).testBit b = true) (h2 : (Dm X n b).testBit c = true) : (Dm X n a).testBit c = true :=
  Dm_least h (p := fun j => (Dm X n a).testBit j = true) h1 (fun x y _ hx hy => Dm_step h ha hx hy) h2
end DM
