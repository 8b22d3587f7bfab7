-- sums over the step maps of U as numbers
def fsU (P : Nat → Nat → Nat) (n U : Nat) (G : (Nat → Nat) → Nat) : Nat → Nat → (Nat → Nat) → Nat
  | 0, _, f => G f
  | k + 1, r, f => if U.testBit r = true then sN (fun w => P r w * fsU P n U G k (r + 1) (fup f r w)) n else fsU P n U G k (r + 1) f
/-- two maps that do the same at U below r, within n -/
def agr (n U r : Nat) (f h : Nat → Nat) : Prop := ∀ i, i < r → U.testBit i = true → f i = h i ∧ f i < n
theorem nst_fs {P : Nat → Nat → Nat} {n U : Nat} {G' : (Nat → Nat) → Int} {G : (Nat → Nat) → Nat} (h0 : 0 < n) (hG : ∀ f h, agr n U n f h → G' f = (G h : Int)) : ∀ (k r : Nat) (f h : Nat → Nat), r + k = n → agr n U r f h → nst (aU P U) n G' k r f = (fsU P n U G k r h : Int)
  | 0, r, f, h, hr, ha => by
    have : r = n := by omega
    subst this
    exact hG f h ha
  | k + 1, r, f, h, hr, ha => by
    rw [nst, fsU]
    by_cases q : U.testBit r = true
    · rw [if_pos q, ← sZ_cast]
      refine sZ_congr (fun w hw => ?_)
      rw [nst_fs h0 hG k (r + 1) (fup f r w) (fup h r w) (by omega) (fun i hi hu => by
        unfold fup
        by_cases e : i = r
        · rw [if_pos e, if_pos e]; exact ⟨rfl, hw⟩
        · rw [if_neg e, if_neg e]; exact ha i (by omega) hu), Int.natCast_mul]
      unfold aU
      rw [if_pos q]
    · rw [if_neg q]
      rw [sZ_congr (h := fun w => if w = 0 then nst (aU P U) n G' k (r + 1) (fup f r w) else 0) (fun w _ => by
        unfold aU
        rw [if_neg q]
        by_cases e : w = 0
        · rw [if_pos e, if_pos e, Int.one_mul]
        · rw [if_neg e, if_neg e, Int.zero_mul]), sZ_pick (x := fun w => nst (aU P U) n G' k (r + 1) (fup f r w)) h0]
      refine nst_fs h0 hG k (r + 1) (fup f r 0) h (by omega) (fun i hi hu => ?_)
      by_cases e : i = r
      · subst e; exact absurd hu q
      · rw [fup_n e]; exact ha i (by omega) hu
theorem agr.acyc {n U : Nat} {f h : Nat → Nat} (e : agr n U n f h) : acyc n U f = acyc n U h := acyc_congr e
theorem agr.rch {n U : Nat} {f h : Nat → Nat} (e : agr n U n f h) {v : Nat} (hv : v < n) : rch U f 5 v = rch U h 5 v := rch_congr e 5 v hv
section FSS
variable {P : Nat → Nat → Nat} {T : Nat → Nat} {U n : Nat}
def FA (n U : Nat) : (Nat → Nat) → Nat := fun f => if acyc n U f = true then 1 else 0
def FG (n U a G : Nat) : (Nat → Nat) → Nat := fun f => if (acyc n U f && G.testBit (rch U f 5 a)) = true then 1 else 0
theorem det1 (h0 : 0 < n) (hn : n ≤ 5) (hU : U < 2 ^ n) (hM : U ≠ 2 ^ n - 1) (hT : ∀ i, i < n → U.testBit i = true → T i = sN (P i) n) (s : Nat → Nat) : exD (eqZ P T U) n n 0 0 = (fsU P n U (FA n U) n 0 s : Int) := by
  rw [MT1 h0 hn hU hM hT]
  refine nst_fs h0 (fun f h e => ?_) n 0 _ s (by omega) (fun i hi => absurd hi (Nat.not_lt_zero i))
  unfold FA
  rw [e.acyc]
  split <;> rfl
theorem det2 {a G : Nat} (hn : n ≤ 5) (hU : U < 2 ^ n) (hM : U ≠ 2 ^ n - 1) (ha : a < n) (hUa : U.testBit a = true) (hG : G < 2 ^ n) (hGU : G &&& U = 0) (hT : ∀ i, i < n → U.testBit i = true → T i = sN (P i) n) (s : Nat → Nat) : exD (setc (eqZ P T U) a (fun i => if U.testBit i = true then (gsum P G i n : Int) else 0)) n n 0 0 = (fsU P n U (FG n U a G) n 0 s : Int) := by
  rw [MT2 hn hU hM ha hUa hG hGU hT]
  refine nst_fs (by omega) (fun f h e => ?_) n 0 _ s (by omega) (fun i hi => absurd hi (Nat.not_lt_zero i))
  unfold FG
  rw [e.acyc, e.rch ha]
  split <;> rfl
theorem n3_congr {a : Nat} {f h : Nat → Nat} (hU5 : U < 32) (hn : n ≤ 5) (ha : a < n) (e : agr n U n f h) : n3 n U a f = n3 n U a h := by
  unfold n3
  refine sN_congr (fun w hw => ?_)
  have hs : ∀ i, (an U (2 ^ w)).testBit i = true → U.testBit i = true := fun i q => ((an_bits hU5 (pow_32 (by omega))).mp q).1
  have c1 : cut3 n U a f w = cut3 n U a h w := by
    unfold cut3
    rw [acyc_congr (fun i hi q => e i hi (hs i q)), rch_sub hs e 5 a ha]
  rw [c1]
theorem det3 {a : Nat} (hn : n ≤ 5) (hU : U < 2 ^ n) (hM : U ≠ 2 ^ n - 1) (ha : a < n) (hUa : U.testBit a = true) (hT : ∀ i, i < n → U.testBit i = true → T i = sN (P i) n) (s : Nat → Nat) : exD (setc (eqZ P T U) a (fun i => if U.testBit i = true then (T i : Int) else 0)) n n 0 0 = (fsU P n U (n3 n U a) n 0 s : Int) := by
  rw [MT3 hn hU hM ha hUa hT]
  have hU5 : U < 32 := Nat.lt_of_lt_of_le hU (Nat.pow_le_pow_right (n := 2) (by decide) hn)
  exact nst_fs (by omega) (fun f h e => by rw [n3_congr hU5 hn ha e]) n 0 _ s (by omega) (fun i hi => absurd hi (Nat.not_lt_zero i))
-- bounds
def pB (U : Nat) : Nat → Nat → Nat
  | 0, _ => 1
  | k + 1, r => (if U.testBit r = true then 400 else 1) * pB U k (r + 1)
theorem pB_le : ∀ n, n ≤ 5 → ∀ U, U < 32 → U < 2 ^ n → U ≠ 2 ^ n - 1 → pB U n 0 ≤ 400 ^ 4 := by decide +kernel
theorem sN_mulL (c : Nat) (f : Nat → Nat) (n : Nat) : sN (fun i => f i * c) n = sN f n * c := by
  rw [Nat.mul_comm, ← sN_mul]
  exact sN_congr (fun i _ => Nat.mul_comm _ _)
theorem sN_leF {f h : Nat → Nat} : ∀ {n : Nat}, (∀ i, i < n → f i ≤ h i) → sN f n ≤ sN h n
  | 0, _ => Nat.le_refl 0
  | n + 1, e => by
    rw [sN, sN]
    have := sN_leF (n := n) (fun i hi => e i (by omega))
    have := e n (by omega)
    omega
theorem fs_le {G : (Nat → Nat) → Nat} {L : Nat} (hG : ∀ f, G f ≤ L) (hB : ∀ i, i < n → U.testBit i = true → sN (P i) n ≤ 400) : ∀ (k r : Nat) (f : Nat → Nat), r + k = n → fsU P n U G k r f ≤ pB U k r * L
  | 0, _, f, _ => by rw [fsU, pB]; have := hG f; omega
  | k + 1, r, f, h => by
    rw [fsU, pB]
    by_cases q : U.testBit r = true
    · rw [if_pos q, if_pos q]
      have h1 : sN (fun w => P r w * fsU P n U G k (r + 1) (fup f r w)) n ≤ sN (fun w => P r w * (pB U k (r + 1) * L)) n := sN_leF (fun w _ => Nat.mul_le_mul_left _ (fs_le hG hB k (r + 1) _ (by omega)))
      rw [sN_mulL] at h1
      have h2 : sN (P r) n * (pB U k (r + 1) * L) ≤ 400 * (pB U k (r + 1) * L) := Nat.mul_le_mul_right _ (hB r (by omega) q)
      rw [Nat.mul_assoc]
      exact Nat.le_trans h1 h2
    · rw [if_neg q, if_neg q, Nat.one_mul]
      exact fs_le hG hB k (r + 1) f (by omega)
theorem fs_bound {G : (Nat → Nat) → Nat} {L : Nat} (hn : n ≤ 5) (hU : U < 2 ^ n) (hM : U ≠ 2 ^ n - 1) (hG : ∀ f, G f ≤ L) (hB : ∀ i, i < n → U.testBit i = true → sN (P i) n ≤ 400) (s : Nat → Nat) : fsU P n U G n 0 s ≤ 400 ^ 4 * L := by
  have hU5 : U < 32 := Nat.lt_of_lt_of_le hU (Nat.pow_le_pow_right (n := 2) (by decide) hn)
  exact Nat.le_trans (fs_le hG hB n 0 s (by omega)) (Nat.mul_le_mul_right _ (pB_le n hn U hU5 hU hM))
theorem FA_le (f : Nat → Nat) : FA n U f ≤ 1 := by unfold FA; split <;> omega
theorem FG_le {a G : Nat} (f : Nat → Nat) : FG n U a G f ≤ 1 := by unfold FG; split <;> omega
theorem n3_le {a : Nat} (f : Nat → Nat) (hn : n ≤ 5) : n3 n U a f ≤ 5 := by
  have := sN_le (f := fun w => if cut3 n U a f w then 1 else 0) (b := 1) (n := n) (fun w _ => by split <;> omega)
  unfold n3
  omega
/-- a step map that goes by steps of some chance counts -/
theorem fs_pos {G : (Nat → Nat) → Nat} {f0 : Nat → Nat} (hf : ∀ i, i < n → U.testBit i = true → f0 i < n ∧ 0 < P i (f0 i)) (hG : ∀ f, agr n U n f f0 → 0 < G f) : ∀ (k r : Nat) (f : Nat → Nat), r + k = n → agr n U r f f0 → 0 < fsU P n U G k r f
  | 0, r, f, h, ha => by
    have : r = n := by omega
    subst this
    exact hG f ha
  | k + 1, r, f, h, ha => by
    rw [fsU]
    by_cases q : U.testBit r = true
    · rw [if_pos q]
      obtain ⟨h1, h2⟩ := hf r (by omega) q
      have h3 := fs_pos hf hG k (r + 1) (fup f r (f0 r)) (by omega) (fun i hi hu => by
        by_cases e : i = r
        · subst e; rw [fup_s]; exact ⟨rfl, h1⟩
        · rw [fup_n e]; exact ha i (by omega) hu)
      have h4 := sN_mem (f := fun w => P r w * fsU P n U G k (r + 1) (fup f r w)) h1
      exact Nat.lt_of_lt_of_le (Nat.mul_pos h2 h3) h4
    · rw [if_neg q]
      exact fs_pos hf hG k (r + 1) f (by omega) (fun i hi hu => by
        by_cases e : i = r
        · subst e; exact absurd hu q
        · exact ha i (by omega) hu)
theorem fs_congr {Q : Nat → Nat → Nat} {G H : (Nat → Nat) → Nat} (hP : ∀ i w, i < n → U.testBit i = true → w < n → P i w = Q i w) (hG : ∀ f, G f = H f) : ∀ (k r : Nat) (f : Nat → Nat), r + k = n → fsU P n U G k r f = fsU Q n U H k r f
  | 0, _, f, _ => hG f
  | k + 1, r, f, h => by
    rw [fsU, fsU]
    by_cases q : U.testBit r = true
    · rw [if_pos q, if_pos q]
      exact sN_congr (fun w hw => by rw [hP r w (by omega) q hw, fs_congr hP hG k (r + 1) _ (by omega)])
    · rw [if_neg q, if_neg q]
      exact fs_congr hP hG k (r + 1) f (by omega)
end FSS
