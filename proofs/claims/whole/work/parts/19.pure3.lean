-- the common total; periods; drawing
def lcmT (T : Nat → Nat) : Nat → Nat
  | 0 => 1
  | k + 1 => lcmT T k / Nat.gcd (lcmT T k) (T k) * T k
theorem lcm_eq' (a b : Nat) : a / Nat.gcd a b * b = Nat.lcm a b := by
  rw [Nat.lcm_eq_mul_div, Nat.mul_comm a b, Nat.mul_div_assoc b (Nat.gcd_dvd_left a b), Nat.mul_comm]
theorem lcmT_dvd {T : Nat → Nat} {m : Nat} : ∀ {k : Nat}, (∀ i, i < k → T i ∣ m) → lcmT T k ∣ m
  | 0, _ => Nat.one_dvd m
  | k + 1, h => by
    rw [lcmT, lcm_eq']
    exact Nat.lcm_dvd (lcmT_dvd (fun i hi => h i (by omega))) (h k (by omega))
theorem lcmT_pos {T : Nat → Nat} : ∀ {k : Nat}, (∀ i, i < k → 0 < T i) → 0 < lcmT T k
  | 0, _ => Nat.zero_lt_one
  | k + 1, h => by
    rw [lcmT, lcm_eq']
    exact Nat.lcm_pos (lcmT_pos (fun i hi => h i (by omega))) (h k (by omega))
theorem T_dvd_lcmT {T : Nat → Nat} : ∀ {k i : Nat}, i < k → T i ∣ lcmT T k
  | 0, i, h => absurd h (Nat.not_lt_zero i)
  | k + 1, i, h => by
    rw [lcmT, lcm_eq']
    by_cases e : i = k
    · subst e; exact Nat.dvd_lcm_right _ _
    · exact Nat.dvd_trans (T_dvd_lcmT (by omega)) (Nat.dvd_lcm_left _ _)
theorem lcmT_congr {T U : Nat → Nat} : ∀ {k : Nat}, (∀ i, i < k → T i = U i) → lcmT T k = lcmT U k
  | 0, _ => rfl
  | k + 1, h => by rw [lcmT, lcmT, lcmT_congr (fun i hi => h i (by omega)), h k (by omega)]
theorem dvd_2520 : ∀ o, o ≤ 10 → ∀ a, a ≤ 10 → 0 < o → 0 < a → (o * a / Nat.gcd o a ∣ 2520 ∧ o ∣ 2520) := by decide +kernel
theorem gcdN_dvd_of {f : Nat → Nat} {d : Nat} : ∀ {n : Nat}, (∀ i, i < n → d ∣ f i) → d ∣ gcdN f n
  | 0, _ => Nat.dvd_zero d
  | n + 1, h => by
    rw [gcdN]
    exact Nat.dvd_gcd (gcdN_dvd_of (fun i hi => h i (by omega))) (h n (by omega))
theorem gcdN_dvd_sN (f : Nat → Nat) : ∀ n, ∀ d, (∀ i, i < n → d ∣ f i) → d ∣ sN f n
  | 0, d, _ => Nat.dvd_zero d
  | n + 1, d, h => by
    rw [sN]
    exact Nat.dvd_add (gcdN_dvd_sN f n d (fun i hi => h i (by omega))) (h n (by omega))
theorem div_dvd_div {s d g m : Nat} (h1 : d ∣ g) (h2 : g ∣ s) (hg : 0 < g) (h3 : s / d ∣ m) : s / g ∣ m := by
  obtain ⟨a, rfl⟩ := h1
  obtain ⟨b, rfl⟩ := h2
  have hd : 0 < d := Nat.pos_of_ne_zero (fun q => by subst q; simp at hg)
  have e1 : d * a * b / (d * a) = b := Nat.mul_div_cancel_left b hg
  have e2 : d * a * b / d = a * b := by rw [Nat.mul_assoc]; exact Nat.mul_div_cancel_left _ hd
  rw [e1]; rw [e2] at h3
  exact Nat.dvd_trans (Nat.dvd_mul_left b a) h3
theorem tt_dvd {n x y : Nat} {W : Nat → Nat → Nat} {J : Nat → Nat} (h : okG n x y W J) {u : Nat} (hu : u < n) : tt n x y W J u ∣ 2520 * y := by
  obtain ⟨r1, r2⟩ := raw_sum h hu
  have g0 := gcdN_pos r1
  obtain ⟨-, -, e⟩ := nr_ok h hu
  obtain ⟨hn, hxy, hy1, hy4, hW, hJ⟩ := h
  have ho := sN_le (f := W u) (b := 2) (n := n) (fun i hi => hW u i (by omega) (by omega))
  have ha := sN_le (f := J) (b := 2) (n := n) (fun i hi => hJ i (by omega))
  have hgs : gcdN (raw n x y W J u) n ∣ sN (raw n x y W J u) n := gcdN_dvd_sN _ n _ (fun i hi => gcdN_dvd _ hi)
  rw [e]
  by_cases h1 : 0 < sN (W u) n
  · by_cases h2 : 0 < sN J n
    · have er : ∀ v, raw n x y W J u v = x * sN J n * W u v + (y - x) * sN (W u) n * J v := fun v => by unfold raw; rw [if_pos h1, if_pos h2]
      have es : sN (raw n x y W J u) n = y * (sN (W u) n * sN J n) := by
        rw [sN_congr (fun i _ => er i), sN_add, sN_mul, sN_mul]
        have : y = x + (y - x) := by omega
        generalize y - x = d at *
        subst this
        rw [Nat.add_mul, Nat.mul_assoc, Nat.mul_assoc, Nat.mul_comm (sN J n) (sN (W u) n)]
      refine div_dvd_div (d := Nat.gcd (sN (W u) n) (sN J n)) (gcdN_dvd_of (fun i _ => ?_)) hgs g0 ?_
      · rw [er]
        refine Nat.dvd_add ?_ ?_
        · exact Nat.dvd_trans (Nat.dvd_trans (Nat.gcd_dvd_right _ _) (Nat.dvd_mul_left _ x)) (Nat.dvd_mul_right _ _)
        · exact Nat.dvd_trans (Nat.dvd_trans (Nat.gcd_dvd_left _ _) (Nat.dvd_mul_left _ (y - x))) (Nat.dvd_mul_right _ _)
      · rw [es, Nat.mul_div_assoc y (Nat.dvd_trans (Nat.gcd_dvd_left _ _) (Nat.dvd_mul_right _ _)), Nat.mul_comm 2520 y]
        exact Nat.mul_dvd_mul_left y (dvd_2520 _ (by omega) _ (by omega) h1 h2).1
    · have er : ∀ v, raw n x y W J u v = W u v := fun v => by unfold raw; rw [if_pos h1, if_neg h2]
      have es : sN (raw n x y W J u) n = sN (W u) n := sN_congr (fun i _ => er i)
      refine div_dvd_div (d := 1) (Nat.one_dvd _) hgs g0 ?_
      rw [es, Nat.div_one]
      exact Nat.dvd_trans (dvd_2520 _ (by omega) 1 (by omega) h1 (by omega)).2 (Nat.dvd_mul_right _ _)
  · by_cases h2 : 0 < sN J n
    · have er : ∀ v, raw n x y W J u v = J v := fun v => by unfold raw; rw [if_neg h1, if_pos h2]
      have es : sN (raw n x y W J u) n = sN J n := sN_congr (fun i _ => er i)
      refine div_dvd_div (d := 1) (Nat.one_dvd _) hgs g0 ?_
      rw [es, Nat.div_one]
      exact Nat.dvd_trans (dvd_2520 _ (by omega) 1 (by omega) h2 (by omega)).2 (Nat.dvd_mul_right _ _)
    · have er : ∀ v, raw n x y W J u v = if u = v then 1 else 0 := fun v => by unfold raw; rw [if_neg h1, if_neg h2]
      have es : sN (raw n x y W J u) n = 1 := by rw [sN_congr (fun i _ => er i), sN_one u n hu]
      refine div_dvd_div (d := 1) (Nat.one_dvd _) hgs g0 ?_
      rw [es, Nat.div_one]
      exact Nat.one_dvd _
/-- the least number that all totals divide: 10080 at most -/
theorem unit_ok {n x y : Nat} {W : Nat → Nat → Nat} {J : Nat → Nat} (h : okG n x y W J) {k : Nat} (hk : k ≤ n) : 0 < lcmT (tt n x y W J) k ∧ lcmT (tt n x y W J) k ≤ 10080 := by
  have h1 := lcmT_pos (T := tt n x y W J) (k := k) (fun i hi => (nr_ok h (by omega)).1)
  have h2 := lcmT_dvd (T := tt n x y W J) (k := k) (fun i hi => tt_dvd h (show i < n by omega))
  refine ⟨h1, Nat.le_trans (Nat.le_of_dvd (by have := h.2.2.1; omega) h2) (by have := h.2.2.2.1; omega)⟩
/-- the nodes at which a walk may be behind k steps -/
def itX (X : Nat → Nat) (n m : Nat) : Nat → Nat
  | 0 => m
  | k + 1 => nxO X (itX X n m k) n
theorem itX_lt {X : Nat → Nat} {n m : Nat} (hX : ∀ u, u < n → X u < 32) (hm : m < 32) : ∀ k, itX X n m k < 32
  | 0 => hm
  | _ + 1 => nxO_lt hX
/-- the greatest number that divides the lengths up to k of the ways from v back to v -/
def perd (X : Nat → Nat) (n v : Nat) : Nat → Nat
  | 0 => 0
  | k + 1 => if (itX X n (2 ^ v) (k + 1)).testBit v then Nat.gcd (perd X n v k) (k + 1) else perd X n v k
theorem perd_le {X : Nat → Nat} {n v : Nat} : ∀ k, perd X n v k ≤ k
  | 0 => Nat.le_refl 0
  | k + 1 => by
    rw [perd]
    split
    · exact Nat.le_of_dvd (by omega) (Nat.gcd_dvd_right _ _)
    · have := perd_le (X := X) (n := n) (v := v) k
      omega
/-- the place at which a sum comes to be above t is one -/
theorem pick_uniq {f : Nat → Nat} {t v w : Nat} (h1 : sN f v ≤ t) (h2 : t < sN f (v + 1)) (h3 : sN f w ≤ t) (h4 : t < sN f (w + 1)) : v = w := by
  rcases Nat.lt_trichotomy v w with q | q | q
  · have := sN_mono f (show v + 1 ≤ w by omega); omega
  · exact q
  · have := sN_mono f (show w + 1 ≤ v by omega); omega
theorem ite_iff {α : Type} {c d : Prop} {x y : α} {ic : Decidable c} {id : Decidable d} (h : c ↔ d) : @ite α c ic x y = @ite α d id x y := by
  by_cases q : c
  · rw [if_pos q, if_pos (h.mp q)]
  · rw [if_neg q, if_neg (fun z => q (h.mpr z))]
