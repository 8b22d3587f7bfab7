-- more of sums over step maps
section FS2
variable {P : Nat → Nat → Nat} {n : Nat}
/-- f goes by steps of some chance at U below r -/
def psv (P : Nat → Nat → Nat) (n U r : Nat) (f : Nat → Nat) : Prop := ∀ i, i < r → U.testBit i = true → f i < n ∧ 0 < P i (f i)
theorem fs_pcongr {U : Nat} {G H : (Nat → Nat) → Nat} (h : ∀ f, psv P n U n f → G f = H f) : ∀ (k r : Nat) (f : Nat → Nat), r + k = n → psv P n U r f → fsU P n U G k r f = fsU P n U H k r f
  | 0, r, f, hr, hp => by
    have : r = n := by omega
    subst this
    exact h f hp
  | k + 1, r, f, hr, hp => by
    rw [fsU, fsU]
    by_cases q : U.testBit r = true
    · rw [if_pos q, if_pos q]
      refine sN_congr (fun w hw => ?_)
      by_cases z : 0 < P r w
      · rw [fs_pcongr h k (r + 1) (fup f r w) (by omega) (fun i hi hu => by
          by_cases e : i = r
          · subst e; rw [fup_at]; exact ⟨hw, z⟩
          · rw [fup_ne e]; exact hp i (by omega) hu)]
      · rw [show P r w = 0 by omega, Nat.zero_mul, Nat.zero_mul]
    · rw [if_neg q, if_neg q]
      exact fs_pcongr h k (r + 1) f (by omega) (fun i hi hu => by
        by_cases e : i = r
        · subst e; exact absurd hu q
        · exact hp i (by omega) hu)
theorem fs_p0 {U : Nat} {G H : (Nat → Nat) → Nat} (h : ∀ f, psv P n U n f → G f = H f) (f : Nat → Nat) : fsU P n U G n 0 f = fsU P n U H n 0 f := fs_pcongr h n 0 f (by omega) (fun i hi => absurd hi (Nat.not_lt_zero i))
def dep (n U : Nat) (G : (Nat → Nat) → Nat) : Prop := ∀ f h, agr n U n f h → G f = G h
theorem fs_dep {U : Nat} {G : (Nat → Nat) → Nat} (hG : dep n U G) : ∀ (k r : Nat) (f h : Nat → Nat), r + k = n → agr n U r f h → fsU P n U G k r f = fsU P n U G k r h
  | 0, r, f, h, hr, ha => by
    have : r = n := by omega
    subst this
    exact hG f h ha
  | k + 1, r, f, h, hr, ha => by
    rw [fsU, fsU]
    by_cases q : U.testBit r = true
    · rw [if_pos q, if_pos q]
      refine sN_congr (fun w hw => ?_)
      rw [fs_dep hG k (r + 1) (fup f r w) (fup h r w) (by omega) (fun i hi hu => by
        by_cases e : i = r
        · subst e; rw [fup_at, fup_at]; exact ⟨rfl, hw⟩
        · rw [fup_ne e, fup_ne e]; exact ha i (by omega) hu)]
    · rw [if_neg q, if_neg q]
      exact fs_dep hG k (r + 1) f h (by omega) (fun i hi hu => by
        by_cases e : i = r
        · subst e; exact absurd hu q
        · exact ha i (by omega) hu)
theorem fs_factor {U U1 U2 : Nat} {A B : (Nat → Nat) → Nat} (hU : ∀ i, i < n → (U.testBit i = true ↔ U1.testBit i = true ∨ U2.testBit i = true)) (hd : ∀ i, i < n → U1.testBit i = true → U2.testBit i = false) (hA : dep n U1 A) (hB : dep n U2 B) : ∀ (k r : Nat) (f : Nat → Nat), r + k = n → (∀ i, i < r → U.testBit i = true → f i < n) → fsU P n U (fun f => A f * B f) k r f = fsU P n U1 A k r f * fsU P n U2 B k r f
  | 0, r, f, hr, hf => rfl
  | k + 1, r, f, hr, hf => by
    have step : ∀ w, w < n → ∀ i, i < r + 1 → U.testBit i = true → fup f r w i < n := fun w hw i hi hu => by
      by_cases e : i = r
      · subst e; rw [fup_at]; exact hw
      · rw [fup_ne e]; exact hf i (by omega) hu
    have keep : ∀ V, (∀ i, i < n → V.testBit i = true → U.testBit i = true) → V.testBit r = false → ∀ w, agr n V (r + 1) (fup f r w) f := fun V hV hVr w i hi hv => by
      by_cases e : i = r
      · subst e; rw [hVr] at hv; cases hv
      · rw [fup_ne e]; exact ⟨rfl, hf i (by omega) (hV i (by omega) hv)⟩
    by_cases q1 : U1.testBit r = true
    · have q2 := hd r (by omega) q1
      rw [fsU, if_pos ((hU r (by omega)).mpr (Or.inl q1))]
      rw [show fsU P n U1 A (k + 1) r f = sN (fun w => P r w * fsU P n U1 A k (r + 1) (fup f r w)) n by rw [fsU, if_pos q1]]
      rw [show fsU P n U2 B (k + 1) r f = fsU P n U2 B k (r + 1) f by rw [fsU, if_neg (by rw [q2]; decide)]]
      rw [← sN_mulL]
      refine sN_congr (fun w hw => ?_)
      rw [fs_factor hU hd hA hB k (r + 1) (fup f r w) (by omega) (step w hw), fs_dep hB k (r + 1) (fup f r w) f (by omega) (keep U2 (fun i hi hv => (hU i hi).mpr (Or.inr hv)) q2 w), Nat.mul_assoc]
    · by_cases q2 : U2.testBit r = true
      · rw [fsU, if_pos ((hU r (by omega)).mpr (Or.inr q2))]
        rw [show fsU P n U2 B (k + 1) r f = sN (fun w => P r w * fsU P n U2 B k (r + 1) (fup f r w)) n by rw [fsU, if_pos q2]]
        rw [show fsU P n U1 A (k + 1) r f = fsU P n U1 A k (r + 1) f by rw [fsU, if_neg q1]]
        rw [← sN_mul]
        refine sN_congr (fun w hw => ?_)
        rw [fs_factor hU hd hA hB k (r + 1) (fup f r w) (by omega) (step w hw), fs_dep hA k (r + 1) (fup f r w) f (by omega) (keep U1 (fun i hi hv => (hU i hi).mpr (Or.inl hv)) (tb_ne q1) w), Nat.mul_left_comm]
      · have q : ¬ U.testBit r = true := fun z => by rcases (hU r (by omega)).mp z with z | z; exact q1 z; exact q2 z
        rw [fsU, if_neg q]
        rw [show fsU P n U1 A (k + 1) r f = fsU P n U1 A k (r + 1) f by rw [fsU, if_neg q1]]
        rw [show fsU P n U2 B (k + 1) r f = fsU P n U2 B k (r + 1) f by rw [fsU, if_neg q2]]
        exact fs_factor hU hd hA hB k (r + 1) f (by omega) (fun i hi hu => by
          by_cases e : i = r
          · subst e; exact absurd hu q
          · exact hf i (by omega) hu)
theorem fs_sum {U m : Nat} {G : Nat → (Nat → Nat) → Nat} : ∀ (k r : Nat) (f : Nat → Nat), fsU P n U (fun f => sN (fun w => G w f) m) k r f = sN (fun w => fsU P n U (G w) k r f) m
  | 0, r, f => rfl
  | k + 1, r, f => by
    by_cases q : U.testBit r = true
    · rw [fsU, if_pos q, sN_congr (h := fun w => sN (fun c => P r w * fsU P n U (G c) k (r + 1) (fup f r w)) m) (fun w _ => by rw [fs_sum k (r + 1), sN_mul]), sN_swap]
      exact sN_congr (fun c _ => by rw [fsU, if_pos q])
    · rw [fsU, if_neg q, fs_sum k (r + 1)]
      exact sN_congr (fun c _ => by rw [fsU, if_neg q])
theorem fs_zero {U : Nat} (k r : Nat) (f : Nat → Nat) : fsU P n U (fun _ => 0) k r f = 0 := fs_sum (m := 0) (G := fun _ _ => 0) k r f
theorem fs_one {w : Nat} (hw : w < n) : ∀ (k r : Nat) (f : Nat → Nat), r + k = n → fsU P n (2 ^ w) (fun _ => 1) k r f = if r ≤ w then sN (P w) n else 1
  | 0, r, f, hr => by rw [if_neg (by omega)]; rfl
  | k + 1, r, f, hr => by
    rw [fsU, pow_bit]
    by_cases e : w = r
    · subst e
      rw [if_pos (by simp), if_pos (Nat.le_refl w)]
      refine sN_congr (fun d _ => ?_)
      rw [fs_one hw k (w + 1) _ (by omega), if_neg (by omega), Nat.mul_one]
    · rw [if_neg (by simp [e]), fs_one hw k (r + 1) f (by omega)]
      exact ite_iff (by omega)
theorem fs_drop {U w : Nat} {G : (Nat → Nat) → Nat} (hn : n ≤ 5) (hU : U < 32) (hw : w < n) (hUw : U.testBit w = true) (hG : dep n (an U (2 ^ w)) G) (f : Nat → Nat) : fsU P n U G n 0 f = sN (P w) n * fsU P n (an U (2 ^ w)) G n 0 f := by
  have h := fs_factor (P := P) (U := U) (U1 := 2 ^ w) (U2 := an U (2 ^ w)) (A := fun _ => 1) (B := G) (n := n) (fun i hi => by
    rw [an_tb hU (pow_32 (by omega)), pow_bit]
    by_cases e : w = i
    · subst e; simp [hUw]
    · simp [e]) (fun i hi q => by
    cases z : (an U (2 ^ w)).testBit i with
    | false => rfl
    | true => have := ((an_tb hU (pow_32 (by omega))).mp z).2; rw [q] at this; cases this) (fun _ _ _ => rfl) hG n 0 f (by omega) (fun i hi => absurd hi (Nat.not_lt_zero i))
  rw [fs_one hw n 0 f (by omega), if_pos (Nat.zero_le w)] at h
  rw [← h]
  exact fs_congr (fun _ _ _ _ _ => rfl) (fun f => (Nat.one_mul _).symm) n 0 f (by omega)
end FS2
theorem FA_dep {n U : Nat} : dep n U (FA n U) := fun f h e => FA_agr f h e
theorem FG_dep {n U a G : Nat} (ha : a < n) : dep n U (FG n U a G) := fun f h e => FG_agr ha f h e
/-- the number of steps, as the reference sums it -/
theorem F3_sum {n x y : Nat} {W : Nat → Nat → Nat} {J : Nat → Nat} {U a : Nat} (hn : n ≤ 5) (hU : U < 32) (ha : a < n) : F3 n x y W J U a = sN (fun w => if U.testBit w = true then Fg n x y W J (an U (2 ^ w)) a (2 ^ w) * tt n x y W J w else 0) n := by
  unfold F3
  have e : fsU (nr n x y W J) n U (n3 n U a) n 0 (fun _ => 0) = fsU (nr n x y W J) n U (fun f => sN (fun w => if cut3 n U a f w then 1 else 0) n) n 0 (fun _ => 0) := rfl
  rw [e, fs_sum n 0]
  refine sN_congr (fun w hw => ?_)
  by_cases q : U.testBit w = true
  · rw [if_pos q]
    have e2 : fsU (nr n x y W J) n U (fun f => if cut3 n U a f w then 1 else 0) n 0 (fun _ => 0) = fsU (nr n x y W J) n U (FG n (an U (2 ^ w)) a (2 ^ w)) n 0 (fun _ => 0) := fs_congr (fun _ _ _ _ _ => rfl) (fun f => by
      unfold cut3 FG
      rw [q, pow_bit]
      refine ite_iff ?_
      simp only [Bool.true_and, Bool.and_eq_true, beq_iff_eq, decide_eq_true_eq]
      constructor
      · rintro ⟨h1, h2⟩; exact ⟨h1, h2.symm⟩
      · rintro ⟨h1, h2⟩; exact ⟨h1, h2.symm⟩) n 0 _ (by omega)
    rw [e2, fs_drop hn hU hw q (FG_dep ha), Nat.mul_comm]
    rfl
  · rw [if_neg q]
    have e2 : fsU (nr n x y W J) n U (fun f => if cut3 n U a f w then 1 else 0) n 0 (fun _ => 0) = fsU (nr n x y W J) n U (fun _ => 0) n 0 (fun _ => 0) := fs_congr (fun _ _ _ _ _ => rfl) (fun f => by
      unfold cut3
      rw [tb_ne q]
      rfl) n 0 _ (by omega)
    rw [e2, fs_zero]
theorem fracN_mul {a b k p : Nat} (hk : 0 < k) : fracN (a * k) (b * k) p = fracN a b p := by
  unfold fracN
  rw [Nat.gcd_mul_right]
  split
  · exact Nat.mul_div_mul_right _ _ hk
  · exact Nat.mul_div_mul_right _ _ hk
theorem fracN_11 {k p : Nat} (hk : 0 < k) : fracN k k p = fracN 1 1 p := by
  have := fracN_mul (a := 1) (b := 1) (p := p) hk
  rw [Nat.one_mul] at this
  exact this
theorem fracN_01 {k p : Nat} (hk : 0 < k) : fracN 0 k p = fracN 0 1 p := by
  have := fracN_mul (a := 0) (b := 1) (p := p) hk
  rw [Nat.one_mul, Nat.zero_mul] at this
  exact this
