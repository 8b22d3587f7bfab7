-- determinants as sums over step maps
def aU (P : Nat → Nat → Nat) (U r w : Nat) : Int := if U.testBit r = true then (P r w : Int) else (if w = 0 then 1 else 0)
def dj (i j : Nat) : Int := if i = j then 1 else 0
theorem dj_s (i : Nat) : dj i i = 1 := if_pos rfl
theorem dj_n {i j : Nat} (h : i ≠ j) : dj i j = 0 := if_neg h
theorem tb_ne {U i : Nat} (h : ¬ U.testBit i = true) : U.testBit i = false := by
  cases q : U.testBit i with
  | false => rfl
  | true => exact absurd q h
theorem RU_1 {U i w j : Nat} (hi : U.testBit i = true) (hw : U.testBit w = true) : RU U i w j = dj i j - dj w j := by
  unfold RU dj
  simp [hi, hw]
theorem RU_0 {U i w j : Nat} (h : U.testBit i = false ∨ U.testBit w = false) : RU U i w j = dj i j := by
  unfold RU dj
  rcases h with h | h <;> simp [h]
theorem aU_1 {P : Nat → Nat → Nat} {U r w : Nat} (h : U.testBit r = true) : aU P U r w = (P r w : Int) := if_pos h
theorem aU_0 {P : Nat → Nat → Nat} {U r w : Nat} (h : U.testBit r = false) : aU P U r w = dj w 0 := if_neg (by rw [h]; decide)
theorem eqZ_1 {P : Nat → Nat → Nat} {T : Nat → Nat} {U i j : Nat} (hi : U.testBit i = true) (hj : U.testBit j = true) : eqZ P T U i j = dj i j * (T i : Int) - (P i j : Int) := by
  unfold eqZ dj
  rw [hi, hj]
  by_cases q : i = j
  · simp [q]
  · simp [q]
theorem eqZ_0 {P : Nat → Nat → Nat} {T : Nat → Nat} {U i j : Nat} (h : U.testBit i = false ∨ U.testBit j = false) : eqZ P T U i j = dj i j := by
  unfold eqZ dj
  rcases h with h | h <;> rw [h] <;> simp
theorem sZ_dj {x : Nat → Int} {n j : Nat} (hj : j < n) : sZ (fun w => x w * dj w j) n = x j := by
  rw [sZ_congr (h := fun w => if w = j then x w else 0) (fun w _ => by
    unfold dj
    split
    · rw [Int.mul_one]
    · rw [Int.mul_zero]), sZ_pick hj]
theorem row1 {P : Nat → Nat → Nat} {T : Nat → Nat} {U n i j : Nat} (h0 : 0 < n) (hj : j < n) (hT : U.testBit i = true → T i = sN (P i) n) : eqZ P T U i j = sZ (fun w => aU P U i w * RU U i w j) n := by
  by_cases hi : U.testBit i = true
  · have e1 : ∀ w, aU P U i w * RU U i w j = dj i j * (P i w : Int) + (-1) * ((if U.testBit w = true then (P i w : Int) else 0) * dj w j) := fun w => by
      rw [aU_1 hi]
      by_cases z : U.testBit w = true
      · rw [RU_1 hi z, if_pos z]
        generalize dj i j = a
        generalize dj w j = b
        generalize (P i w : Int) = c
        grind
      · rw [RU_0 (Or.inr (tb_ne z)), if_neg z]
        generalize dj i j = a
        generalize dj w j = b
        generalize (P i w : Int) = c
        grind
    rw [sZ_congr (fun w _ => e1 w), sZ_add, sZ_mulL, sZ_mulL, sZ_cast, ← hT hi, sZ_dj (x := fun w => if U.testBit w = true then (P i w : Int) else 0) hj]
    by_cases z : U.testBit j = true
    · rw [eqZ_1 hi z, if_pos z]
      omega
    · rw [eqZ_0 (Or.inr (tb_ne z)), if_neg z, dj_n (fun q => z (by rw [← q]; exact hi))]
      omega
  · have e1 : ∀ w, aU P U i w * RU U i w j = dj i j * dj w 0 := fun w => by
      rw [aU_0 (tb_ne hi), RU_0 (Or.inl (tb_ne hi)), Int.mul_comm]
    rw [sZ_congr (fun w _ => e1 w), sZ_dj (x := fun _ => dj i j) h0, eqZ_0 (Or.inl (tb_ne hi))]
theorem nst_sub {a : Nat → Nat → Int} {n : Nat} {G H : (Nat → Nat) → Int} : ∀ (k r : Nat) (f : Nat → Nat), nst a n (fun f => G f - H f) k r f = nst a n G k r f - nst a n H k r f
  | 0, _, _ => rfl
  | k + 1, r, f => by
    rw [nst, nst, nst]
    have e : ∀ w, a r w * nst a n (fun f => G f - H f) k (r + 1) (fup f r w) = a r w * nst a n G k (r + 1) (fup f r w) + (-1) * (a r w * nst a n H k (r + 1) (fup f r w)) := fun w => by
      rw [nst_sub k (r + 1) (fup f r w)]
      generalize a r w = x
      generalize nst a n G k (r + 1) (fup f r w) = y
      generalize nst a n H k (r + 1) (fup f r w) = z
      grind
    rw [sZ_congr (fun w _ => e w), sZ_add, sZ_mulL]
    omega
section MT
variable {P : Nat → Nat → Nat} {T : Nat → Nat} {U n : Nat}
/-- what stands below in all solutions: the sum over all step maps without a round -/
theorem MT1 (h0 : 0 < n) (hn : n ≤ 5) (hU : U < 2 ^ n) (hM : U ≠ 2 ^ n - 1) (hT : ∀ i, i < n → U.testBit i = true → T i = sN (P i) n) : exD (eqZ P T U) n n 0 0 = nst (aU P U) n (fun f => if acyc n U f = true then 1 else 0) n 0 (fun _ => 0) := by
  rw [exD_all (Z := eqZ P T U) (a := aU P U) (R := fun i w j => RU U i w j) (fun r c hr hc => row1 h0 hc (hT r hr))]
  exact nst_congr (fun _ _ _ _ => rfl) (fun f hf => L1 h0 hn hU hM (fun i hi _ => hf i hi)) n 0 _ (by omega) (fun i hi => absurd hi (Nat.not_lt_zero i))
theorem row2 {a G i j : Nat} (h0 : 0 < n) (hj : j < n) (hUa : U.testBit a = true) (hd : ∀ w, G.testBit w = true → U.testBit w = false) (hT : U.testBit i = true → T i = sN (P i) n) : setc (eqZ P T U) a (fun i => eqZ P T U i a - (if U.testBit i = true then (gsum P G i n : Int) else 0)) i j = sZ (fun w => aU P U i w * RU U i (rho G a w) j) n := by
  have r1 := row1 (P := P) (T := T) (U := U) h0 hj hT
  by_cases hUi : U.testBit i = true
  · have e2 : ∀ w, aU P U i w * RU U i (rho G a w) j = aU P U i w * RU U i w j + (-dj a j) * ((if G.testBit w = true then P i w else 0 : Nat) : Int) := fun w => by
      unfold rho
      by_cases g : G.testBit w = true
      · rw [if_pos g, if_pos g, RU_1 hUi hUa, RU_0 (w := w) (Or.inr (hd w g)), aU_1 hUi]
        generalize dj i j = x
        generalize dj a j = y
        generalize (P i w : Int) = z
        grind
      · rw [if_neg g, if_neg g]
        generalize aU P U i w * RU U i w j = x
        generalize dj a j = y
        show x = x + -y * 0
        omega
    rw [sZ_congr (fun w _ => e2 w), sZ_add, ← r1, sZ_mulL, sZ_cast]
    show setc _ _ _ i j = eqZ P T U i j + -dj a j * (gsum P G i n : Int)
    unfold setc
    by_cases q : j = a
    · rw [if_pos q]
      dsimp only
      rw [if_pos hUi, q, dj_s]
      omega
    · rw [if_neg q, dj_n (fun z => q z.symm)]
      omega
  · have e2 : ∀ w, aU P U i w * RU U i (rho G a w) j = aU P U i w * RU U i w j := fun w => by
      rw [RU_0 (Or.inl (tb_ne hUi)), RU_0 (Or.inl (tb_ne hUi))]
    rw [sZ_congr (fun w _ => e2 w), ← r1]
    unfold setc
    by_cases q : j = a
    · rw [if_pos q]
      dsimp only
      rw [if_neg hUi, q]
      omega
    · rw [if_neg q]
/-- the column of the steps into the goal at a -/
theorem MT2 {a G : Nat} (hn : n ≤ 5) (hU : U < 2 ^ n) (hM : U ≠ 2 ^ n - 1) (ha : a < n) (hUa : U.testBit a = true) (hG : G < 2 ^ n) (hGU : G &&& U = 0) (hT : ∀ i, i < n → U.testBit i = true → T i = sN (P i) n) : exD (setc (eqZ P T U) a (fun i => if U.testBit i = true then (gsum P G i n : Int) else 0)) n n 0 0 = nst (aU P U) n (fun f => if (acyc n U f && G.testBit (rch U f 5 a)) = true then 1 else 0) n 0 (fun _ => 0) := by
  have h0 : 0 < n := by omega
  have hd : ∀ w, G.testBit w = true → U.testBit w = false := fun w hw => by
    have e : (G &&& U).testBit w = false := by rw [hGU]; exact Nat.zero_testBit w
    rw [Nat.testBit_and, hw, Bool.true_and] at e
    exact e
  have hc := exD_col (Z := eqZ P T U) (a := a) (b := fun i => eqZ P T U i a) (c := fun i => if U.testBit i = true then (gsum P G i n : Int) else 0) ha n 0 0 (cu_0 n) (Nat.zero_testBit a)
  have e0 : exD (setc (eqZ P T U) a (fun i => eqZ P T U i a)) n n 0 0 = exD (eqZ P T U) n n 0 0 := exD_congr n 0 0 (by omega) (fun i j _ _ => by
    unfold setc
    by_cases q : j = a
    · rw [if_pos q, q]
    · rw [if_neg q])
  have e1 : exD (setc (eqZ P T U) a (fun i => eqZ P T U i a - (if U.testBit i = true then (gsum P G i n : Int) else 0))) n n 0 0 = nst (aU P U) n (fun f => if (acyc n U f && !(G.testBit (rch U f 5 a))) = true then 1 else 0) n 0 (fun _ => 0) := by
    rw [exD_all (a := aU P U) (R := fun i w j => RU U i (rho G a w) j) (fun i j hi hj => row2 h0 hj hUa hd (hT i hi))]
    refine nst_congr (fun _ _ _ _ => rfl) (fun f hf => ?_) n 0 _ (by omega) (fun i hi => absurd hi (Nat.not_lt_zero i))
    rw [← L2 h0 hn hU hM ha hUa hG hGU (fun i hi _ => hf i hi)]
    exact L1 (f := fun i => rho G a (f i)) h0 hn hU hM (fun i hi _ => by
      show rho G a (f i) < n
      unfold rho
      split
      · exact ha
      · exact hf i hi)
  rw [e0, e1, MT1 h0 hn hU hM hT] at hc
  have e3 : exD (setc (eqZ P T U) a (fun i => if U.testBit i = true then (gsum P G i n : Int) else 0)) n n 0 0 = nst (aU P U) n (fun f => if acyc n U f = true then 1 else 0) n 0 (fun _ => 0) - nst (aU P U) n (fun f => if (acyc n U f && !(G.testBit (rch U f 5 a))) = true then 1 else 0) n 0 (fun _ => 0) := by omega
  rw [e3, ← nst_sub]
  refine nst_congr (fun _ _ _ _ => rfl) (fun f _ => ?_) n 0 _ (by omega) (fun i hi => absurd hi (Nat.not_lt_zero i))
  cases acyc n U f <;> cases G.testBit (rch U f 5 a) <;> decide
/-- the column of the totals at a -/
theorem MT3 {a : Nat} (hn : n ≤ 5) (hU : U < 2 ^ n) (hM : U ≠ 2 ^ n - 1) (ha : a < n) (hUa : U.testBit a = true) (hT : ∀ i, i < n → U.testBit i = true → T i = sN (P i) n) : exD (setc (eqZ P T U) a (fun i => if U.testBit i = true then (T i : Int) else 0)) n n 0 0 = nst (aU P U) n (fun f => (n3 n U a f : Int)) n 0 (fun _ => 0) := by
  have h0 : 0 < n := by omega
  rw [exD_all (a := aU P U) (R := fun i w j => R3 U a i w j) (fun i j hi hj => ?_)]
  · exact nst_congr (fun _ _ _ _ => rfl) (fun f hf => L3 h0 hn hU hM ha hUa (fun i hi _ => hf i hi)) n 0 _ (by omega) (fun i hi => absurd hi (Nat.not_lt_zero i))
  · unfold setc
    by_cases q : j = a
    · rw [if_pos q]
      dsimp only
      by_cases hUi : U.testBit i = true
      · rw [if_pos hUi, sZ_congr (h := fun w => (P i w : Int)) (fun w _ => by
          show aU P U i w * R3 U a i w j = _
          unfold R3
          rw [if_pos q, if_pos hUi, aU_1 hUi, Int.mul_one]), sZ_cast, hT i hi hUi]
      · rw [if_neg hUi, sZ_congr (h := fun _ => 0) (fun w _ => by
          show aU P U i w * R3 U a i w j = _
          unfold R3
          rw [if_pos q, if_neg hUi, Int.mul_zero]), sZ_zero]
    · rw [if_neg q, row1 h0 hj (hT i hi)]
      exact sZ_congr (fun w _ => by
        show _ = aU P U i w * R3 U a i w j
        unfold R3
        rw [if_neg q])
end MT
