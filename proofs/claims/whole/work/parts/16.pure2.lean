-- bounds; sets of nodes one step on
theorem gcd_le_add (a b : Nat) : Nat.gcd a b ≤ a + b := by
  by_cases h : 0 < b
  · exact Nat.le_trans (Nat.le_of_dvd h (Nat.gcd_dvd_right a b)) (by omega)
  · have : b = 0 := by omega
    subst this
    rw [Nat.gcd_zero_right]; omega
theorem gcdN_le' (f : Nat → Nat) : ∀ n, gcdN f n ≤ sN f n
  | 0 => Nat.le_refl 0
  | n + 1 => by
    rw [gcdN, sN]
    have h1 := gcdN_le' f n
    have h2 := gcd_le_add (gcdN f n) (f n)
    omega
theorem sN_mono (f : Nat → Nat) {i n : Nat} (h : i ≤ n) : sN f i ≤ sN f n := by
  induction n with
  | zero => have : i = 0 := by omega
            subst this; exact Nat.le_refl _
  | succ n ih =>
    by_cases e : i = n + 1
    · subst e; exact Nat.le_refl _
    · rw [sN]
      have := ih (by omega)
      omega
theorem mul99 {a b : Nat} (ha : a < 2 ^ 48) (hb : b < 2 ^ 48) : a * b < 2 ^ 99 := by
  have h : a * b ≤ 2 ^ 48 * 2 ^ 48 := Nat.mul_le_mul (by omega) (by omega)
  exact Nat.lt_of_le_of_lt h (by decide)
/-- what the steps hold of a graph -/
def okS (n x y : Nat) (W : Nat → Nat → Nat) (J : Nat → Nat) (P : Nat → Nat → Nat) (T X : Nat → Nat) : Prop :=
  ∀ u, u < n → (∀ v, v < n → P u v = nr n x y W J u v) ∧ T u = tt n x y W J u ∧ X u = mk (fun v => decide (0 < nr n x y W J u v)) n
/-- the nodes to which one step from some of m leads -/
def nxO (X : Nat → Nat) (m : Nat) : Nat → Nat
  | 0 => 0
  | k + 1 => if m.testBit k then nxO X m k ||| X k else nxO X m k
theorem nxO_lt {X : Nat → Nat} {m : Nat} : ∀ {n : Nat}, (∀ u, u < n → X u < 32) → nxO X m n < 32
  | 0, _ => by simp [nxO]
  | n + 1, h => by
    rw [nxO]
    have h1 := nxO_lt (m := m) (n := n) (fun u hu => h u (by omega))
    split
    · exact or_32 h1 (h n (by omega))
    · exact h1
theorem nxO_bit {X : Nat → Nat} {m j : Nat} : ∀ {n : Nat}, (nxO X m n).testBit j = true ↔ ∃ u, u < n ∧ m.testBit u = true ∧ (X u).testBit j = true
  | 0 => by simp [nxO]
  | n + 1 => by
    rw [nxO]
    by_cases h : m.testBit n = true
    · rw [if_pos h, Nat.testBit_or, Bool.or_eq_true, nxO_bit]
      constructor
      · rintro (⟨u, h1, h2, h3⟩ | h1)
        · exact ⟨u, by omega, h2, h3⟩
        · exact ⟨n, by omega, h, h1⟩
      · rintro ⟨u, h1, h2, h3⟩
        by_cases e : u = n
        · subst e; exact Or.inr h3
        · exact Or.inl ⟨u, by omega, h2, h3⟩
    · rw [if_neg h, nxO_bit]
      constructor
      · rintro ⟨u, h1, h2, h3⟩
        exact ⟨u, by omega, h2, h3⟩
      · rintro ⟨u, h1, h2, h3⟩
        by_cases e : u = n
        · subst e; exact absurd h2 h
        · exact ⟨u, by omega, h2, h3⟩
/-- k rounds of growing -/
def bh (X : Nat → Nat) (n av m : Nat) : Nat → Nat
  | 0 => m
  | k + 1 => bh X n av m k ||| an (nxO X (bh X n av m k) n) av
theorem bh_lt {X : Nat → Nat} {n av m : Nat} (hX : ∀ u, u < n → X u < 32) (ha : av < 32) (hm : m < 32) : ∀ k, bh X n av m k < 32
  | 0 => hm
  | k + 1 => or_32 (bh_lt hX ha hm k) (an_lt _ (nxO_lt hX) _ ha)
