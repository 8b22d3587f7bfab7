-- the rows of chances, as numbers
def raw (n x y : Nat) (W : Nat → Nat → Nat) (J : Nat → Nat) (u v : Nat) : Nat :=
  if 0 < sN (W u) n then (if 0 < sN J n then x * sN J n * W u v + (y - x) * sN (W u) n * J v else W u v) else (if 0 < sN J n then J v else if u = v then 1 else 0)
def gcdN (f : Nat → Nat) : Nat → Nat
  | 0 => 0
  | k + 1 => Nat.gcd (gcdN f k) (f k)
def nr (n x y : Nat) (W : Nat → Nat → Nat) (J : Nat → Nat) (u v : Nat) : Nat := raw n x y W J u v / gcdN (raw n x y W J u) n
def tt (n x y : Nat) (W : Nat → Nat → Nat) (J : Nat → Nat) (u : Nat) : Nat := sN (nr n x y W J u) n
/-- what a graph is bound to -/
def okG (n x y : Nat) (W : Nat → Nat → Nat) (J : Nat → Nat) : Prop := n ≤ 5 ∧ x ≤ y ∧ 1 ≤ y ∧ y ≤ 4 ∧ (∀ u v, u < 5 → v < 5 → W u v ≤ 2) ∧ ∀ v, v < 5 → J v ≤ 2
theorem sN_zero {f : Nat → Nat} {n : Nat} (h : sN f n = 0) : ∀ i, i < n → f i = 0 := fun i hi => by
  have := sN_mem (f := f) hi
  omega
theorem sN_mul (c : Nat) (f : Nat → Nat) : ∀ n, sN (fun i => c * f i) n = c * sN f n
  | 0 => by simp [sN]
  | n + 1 => by rw [sN, sN, sN_mul c f n, Nat.mul_add]
theorem sN_add (f h : Nat → Nat) : ∀ n, sN (fun i => f i + h i) n = sN f n + sN h n
  | 0 => rfl
  | n + 1 => by rw [sN, sN, sN, sN_add f h n]; omega
theorem sN_one (u : Nat) : ∀ n, u < n → sN (fun v => if u = v then 1 else 0) n = 1
  | 0, h => absurd h (Nat.not_lt_zero u)
  | n + 1, h => by
    rw [sN]
    by_cases e : u = n
    · subst e
      rw [if_pos rfl, sN_congr (h := fun _ => 0) (fun i hi => if_neg (by omega))]
      have : sN (fun _ => 0) u = 0 := by
        have := sN_le (f := fun _ => 0) (b := 0) (n := u) (fun _ _ => Nat.le_refl 0)
        omega
      omega
    · rw [if_neg e, sN_one u n (by omega)]
theorem raw_sum {n x y : Nat} {W : Nat → Nat → Nat} {J : Nat → Nat} (h : okG n x y W J) {u : Nat} (hu : u < n) : 0 < sN (raw n x y W J u) n ∧ sN (raw n x y W J u) n ≤ 400 := by
  obtain ⟨hn, hxy, hy1, hy4, hW, hJ⟩ := h
  have ho := sN_le (f := W u) (b := 2) (n := n) (fun i hi => hW u i (by omega) (by omega))
  have ha := sN_le (f := J) (b := 2) (n := n) (fun i hi => hJ i (by omega))
  have e : raw n x y W J u = fun v => raw n x y W J u v := rfl
  rw [e]
  unfold raw
  by_cases h1 : 0 < sN (W u) n
  · simp only [if_pos h1]
    by_cases h2 : 0 < sN J n
    · simp only [if_pos h2]
      rw [sN_add, sN_mul, sN_mul]
      have e1 : x * sN J n * sN (W u) n + (y - x) * sN (W u) n * sN J n = y * (sN (W u) n * sN J n) := by
        have : y = x + (y - x) := by omega
        generalize y - x = d at *
        subst this
        rw [Nat.add_mul, Nat.mul_assoc, Nat.mul_assoc, Nat.mul_comm (sN J n) (sN (W u) n)]
      rw [e1]
      have h3 : 0 < sN (W u) n * sN J n := Nat.mul_pos h1 h2
      have h4 : sN (W u) n * sN J n ≤ 10 * 10 := Nat.mul_le_mul (by omega) (by omega)
      refine ⟨Nat.mul_pos (by omega) h3, ?_⟩
      have h5 : y * (sN (W u) n * sN J n) ≤ 4 * (10 * 10) := Nat.mul_le_mul hy4 h4
      omega
    · simp only [if_neg h2]
      show 0 < sN (W u) n ∧ sN (W u) n ≤ 400
      exact ⟨h1, by omega⟩
  · simp only [if_neg h1]
    by_cases h2 : 0 < sN J n
    · simp only [if_pos h2]
      show 0 < sN J n ∧ sN J n ≤ 400
      exact ⟨h2, by omega⟩
    · simp only [if_neg h2]
      rw [sN_one u n hu]
      omega
theorem gcdN_dvd (f : Nat → Nat) : ∀ {n i : Nat}, i < n → gcdN f n ∣ f i
  | 0, i, h => absurd h (Nat.not_lt_zero i)
  | n + 1, i, h => by
    rw [gcdN]
    by_cases e : i = n
    · subst e; exact Nat.gcd_dvd_right _ _
    · exact Nat.dvd_trans (Nat.gcd_dvd_left _ _) (gcdN_dvd f (by omega))
theorem gcdN_congr {f h : Nat → Nat} : ∀ {n : Nat}, (∀ i, i < n → f i = h i) → gcdN f n = gcdN h n
  | 0, _ => rfl
  | n + 1, e => by rw [gcdN, gcdN, gcdN_congr (fun i hi => e i (by omega)), e n (by omega)]
theorem gcdN_pos {f : Nat → Nat} {n : Nat} (h : 0 < sN f n) : 0 < gcdN f n := by
  obtain ⟨i, hi, hp⟩ := sN_pos h
  exact Nat.pos_of_dvd_of_pos (gcdN_dvd f hi) hp
theorem gcdN_le {f : Nat → Nat} {n : Nat} (h : 0 < sN f n) : gcdN f n ≤ sN f n := by
  obtain ⟨i, hi, hp⟩ := sN_pos h
  exact Nat.le_trans (Nat.le_of_dvd hp (gcdN_dvd f hi)) (sN_mem hi)
theorem sN_div {f : Nat → Nat} {d : Nat} (h0 : 0 < d) : ∀ {n : Nat}, (∀ i, i < n → d ∣ f i) → sN (fun i => f i / d) n = sN f n / d
  | 0, _ => by simp [sN]
  | n + 1, h => by
    rw [sN, sN, sN_div h0 (fun i hi => h i (by omega))]
    obtain ⟨c, hc⟩ := h n (by omega)
    rw [hc, Nat.mul_div_cancel_left c h0, Nat.add_mul_div_left _ _ h0]
theorem nr_ok {n x y : Nat} {W : Nat → Nat → Nat} {J : Nat → Nat} (h : okG n x y W J) {u : Nat} (hu : u < n) : 0 < tt n x y W J u ∧ tt n x y W J u ≤ 400 ∧ tt n x y W J u = sN (raw n x y W J u) n / gcdN (raw n x y W J u) n := by
  obtain ⟨h1, h2⟩ := raw_sum h hu
  have g0 := gcdN_pos h1
  have e : tt n x y W J u = sN (raw n x y W J u) n / gcdN (raw n x y W J u) n := sN_div g0 (fun i hi => gcdN_dvd _ hi)
  have g1 := gcdN_le h1
  refine ⟨by rw [e]; exact Nat.div_pos g1 g0, ?_, e⟩
  rw [e]
  exact Nat.le_trans (Nat.div_le_self _ _) h2
theorem nr_le {n x y : Nat} {W : Nat → Nat → Nat} {J : Nat → Nat} {u v : Nat} (hv : v < n) : nr n x y W J u v ≤ tt n x y W J u := sN_mem hv
/-- sets of nodes as bits -/
def mk (p : Nat → Bool) : Nat → Nat
  | 0 => 0
  | k + 1 => if p k then mk p k ||| 2 ^ k else mk p k
theorem mk_bit (p : Nat → Bool) : ∀ n k, (mk p n).testBit k = (decide (k < n) && p k)
  | 0, k => by simp [mk]
  | n + 1, k => by
    rw [mk]
    by_cases h : p n = true
    · rw [if_pos h, Nat.testBit_or, mk_bit p n k, Nat.testBit_two_pow]
      by_cases e : n = k
      · subst e; simp [h]
      · have e1 : decide (n = k) = false := by simp [e]
        have e2 : decide (k < n + 1) = decide (k < n) := by
          by_cases q : k < n
          · simp [q, Nat.lt_succ_of_lt q]
          · simp [q, show ¬ k < n + 1 by omega]
        rw [e1, e2]; simp
    · rw [if_neg h, mk_bit p n k]
      by_cases e : k = n
      · subst e; simp [h]
      · have e2 : decide (k < n + 1) = decide (k < n) := by
          by_cases q : k < n
          · simp [q, Nat.lt_succ_of_lt q]
          · simp [q, show ¬ k < n + 1 by omega]
        rw [e2]
theorem mk_lt (p : Nat → Bool) : ∀ n, mk p n < 2 ^ n
  | 0 => by simp [mk]
  | n + 1 => by
    have h := mk_lt p n
    have e : 2 ^ (n + 1) = 2 ^ n * 2 := Nat.pow_succ 2 n
    rw [mk]
    split
    · exact Nat.or_lt_two_pow (by omega) (by omega)
    · omega
theorem mk_congr {p q : Nat → Bool} : ∀ {n : Nat}, (∀ i, i < n → p i = q i) → mk p n = mk q n
  | 0, _ => rfl
  | n + 1, e => by rw [mk, mk, mk_congr (fun i hi => e i (by omega)), e n (by omega)]
theorem mk_32 (p : Nat → Bool) {n : Nat} (h : n ≤ 5) : mk p n < 32 := Nat.lt_of_lt_of_le (mk_lt p n) (Nat.pow_le_pow_right (by decide) h)
theorem nI_or (a b : Nat) : nI a ||| nI b = nI (a ||| b) := by
  apply Int32.toBitVec.inj
  show BitVec.ofNat 32 a ||| BitVec.ofNat 32 b = BitVec.ofNat 32 (a ||| b)
  exact (BitVec.ofNat_or).symm
theorem nI_and (a b : Nat) : nI a &&& nI b = nI (a &&& b) := by
  apply Int32.toBitVec.inj
  show BitVec.ofNat 32 a &&& BitVec.ofNat 32 b = BitVec.ofNat 32 (a &&& b)
  exact (BitVec.ofNat_and).symm
/-- a without b -/
def an (a b : Nat) : Nat := a &&& (b ^^^ 31)
theorem an_eq : ∀ a, a < 32 → ∀ b, b < 32 → nI a &&& (nI b ^^^ (-1)) = nI (an a b) := by decide +kernel
theorem an_lt : ∀ a, a < 32 → ∀ b, b < 32 → an a b < 32 := by decide +kernel
theorem an_bit : ∀ a, a < 32 → ∀ b, b < 32 → ∀ k, k < 5 → (an a b).testBit k = (a.testBit k && !b.testBit k) := by decide +kernel
theorem an_zero : ∀ a, a < 32 → ∀ b, b < 32 → (an a b = 0 ↔ ∀ k, k < 5 → a.testBit k = true → b.testBit k = true) := by decide +kernel
theorem bits_ext : ∀ a, a < 32 → ∀ b, b < 32 → (∀ k, k < 5 → a.testBit k = b.testBit k) → a = b := by decide +kernel
theorem or_32 {a b : Nat} (ha : a < 32) (hb : b < 32) : a ||| b < 32 := Nat.or_lt_two_pow (n := 5) ha hb
theorem pow_32 {k : Nat} (h : k < 5) : 2 ^ k < 32 := Nat.pow_lt_pow_right (by decide) h
theorem pow_bit (k j : Nat) : (2 ^ k).testBit j = decide (k = j) := Nat.testBit_two_pow
section AWD
variable {g : aw_G} {y : MethodName} {cc : ByteArray} {nL : Nat} {ret : Option FieldType} {R : Room} {E : (Nat → Prop) → State → Array Value → Prop} {F : List Frame → Array Value → State → (Nat → Prop) → State → Prop} {kc ks pc : Nat} {lv : List (Nat × Value)} {st : List Value} {ws : va_W}
theorem aw_iorN {a b : Nat} (hd : decode cc pc = .ok (.ior, 1)) (k : AW g y cc nL ret R E F kc ks (pc + 1) lv (.int (nI (a ||| b)) :: st) ws) : AW g y cc nL ret R E F kc ks pc lv (.int (nI b) :: .int (nI a) :: st) ws := aw_ior hd (aw_nmi (nI_or a b) k)
theorem aw_iandN {a b : Nat} (hd : decode cc pc = .ok (.iand, 1)) (k : AW g y cc nL ret R E F kc ks (pc + 1) lv (.int (nI (a &&& b)) :: st) ws) : AW g y cc nL ret R E F kc ks pc lv (.int (nI b) :: .int (nI a) :: st) ws := aw_iand hd (aw_nmi (nI_and a b) k)
end AWD
