-- what the reference's reached and findSets find
def Xc (n x y : Nat) (W : Nat → Nat → Nat) (J : Nat → Nat) (u : Nat) : Nat := mk (fun v => decide (0 < nr n x y W J u v)) n
theorem Xc_bit {n x y : Nat} {W : Nat → Nat → Nat} {J : Nat → Nat} {a b : Nat} : (Xc n x y W J a).testBit b = true ↔ b < n ∧ 0 < nr n x y W J a b := by
  unfold Xc
  rw [mk_bit]
  simp
theorem Xc_ok {n x y : Nat} {W : Nat → Nat → Nat} {J : Nat → Nat} (hn : n ≤ 5) : okX n (Xc n x y W J) := ⟨hn, fun _ _ => ⟨mk_32 _ hn, fun _ hj => (Xc_bit.mp hj).1⟩⟩
def lst (X : Nat → Nat) (n u : Nat) (but : Int32) (s : Nat) : Prop := ∀ p : Nat → Prop, p u → (∀ a b, a < n → p a → ¬ nI a = but → (X a).testBit b = true → p b) → ∀ j, s.testBit j = true → p j
def clo (X : Nat → Nat) (but : Int32) (s : Nat) : Prop := ∀ a b, s.testBit a = true → ¬ nI a = but → (X a).testBit b = true → s.testBit b = true
def rcs (X : Nat → Nat) (n u : Nat) (but : Int32) (s : Nat) : Prop := s < 32 ∧ (∀ j, s.testBit j = true → j < n) ∧ s.testBit u = true ∧ lst X n u but s ∧ clo X but s
def rI (X : Nat → Nat) (n u : Nat) (but : Int32) (s0 a b s : Nat) : Prop :=
  s < 32 ∧ (∀ j, s.testBit j = true → j < n) ∧ (∀ j, s0.testBit j = true → s.testBit j = true) ∧ lst X n u but s ∧ (∀ c d, c < a → s0.testBit c = true → ¬ nI c = but → (X c).testBit d = true → s.testBit d = true) ∧ (∀ d, d < b → s0.testBit a = true → ¬ nI a = but → (X a).testBit d = true → s.testBit d = true)
def rO (X : Nat → Nat) (n u : Nat) (but : Int32) (t s : Nat) : Prop := s < 32 ∧ (∀ j, s.testBit j = true → j < n) ∧ s.testBit u = true ∧ lst X n u but s ∧ (clo X but s ∨ t + 1 ≤ card s)
section RI
variable {X : Nat → Nat} {n u : Nat} {but : Int32} {s0 a b s t : Nat}
theorem rI_yes (h : rI X n u but s0 a b s) (hn : n ≤ 5) (ha : a < n) (hb : b < n) (h1 : s.testBit a = true) (h2 : ¬ nI a = but) (h3 : (X a).testBit b = true) : rI X n u but s0 a (b + 1) (s ||| 2 ^ b) := by
  obtain ⟨g1, g2, g3, g4, g5, g6⟩ := h
  refine ⟨or_32 g1 (pow_32 (by omega)), fun j hj => ?_, fun j hj => or_bits.mpr (Or.inl (g3 j hj)), fun p p1 p2 j hj => ?_, fun c d k1 k2 k3 k4 => or_bits.mpr (Or.inl (g5 c d k1 k2 k3 k4)), fun d k1 k2 k3 k4 => ?_⟩
  · rcases or_bits.mp hj with q | q
    · exact g2 j q
    · exact pow_in hb j q
  · rcases or_bits.mp hj with q | q
    · exact g4 p p1 p2 j q
    · rw [pow_bit] at q
      have e : b = j := by simpa using q
      subst e
      exact p2 a b ha (g4 p p1 p2 a h1) h2 h3
  · by_cases e : d = b
    · subst e
      exact or_bits.mpr (Or.inr (by rw [pow_bit]; simp))
    · exact or_bits.mpr (Or.inl (g6 d (by omega) k2 k3 k4))
theorem rI_no (h : rI X n u but s0 a b s) (h1 : s.testBit a = true → ¬ nI a = but → (X a).testBit b = true → False) : rI X n u but s0 a (b + 1) s := by
  obtain ⟨g1, g2, g3, g4, g5, g6⟩ := h
  refine ⟨g1, g2, g3, g4, g5, fun d k1 k2 k3 k4 => ?_⟩
  by_cases e : d = b
  · subst e
    exact (h1 (g3 a k2) k3 k4).elim
  · exact g6 d (by omega) k2 k3 k4
theorem rI_next (h : rI X n u but s0 a n s) (hX : okX n X) (ha : a < n) : rI X n u but s0 (a + 1) 0 s := by
  obtain ⟨g1, g2, g3, g4, g5, g6⟩ := h
  refine ⟨g1, g2, g3, g4, fun c d k1 k2 k3 k4 => ?_, fun d hd => absurd hd (by omega)⟩
  by_cases e : c = a
  · subst e
    exact g6 d ((hX.2 c ha).2 d k4) k2 k3 k4
  · exact g5 c d (by omega) k2 k3 k4
theorem rI_start (h : rO X n u but t s) : rI X n u but s 0 0 s := ⟨h.1, h.2.1, fun _ hj => hj, h.2.2.2.1, fun _ _ hc => absurd hc (by omega), fun _ hd => absurd hd (by omega)⟩
theorem rO_0 (hn : n ≤ 5) (hu : u < n) : rO X n u but 0 (2 ^ u) := by
  refine ⟨pow_32 (by omega), pow_in hu, by rw [pow_bit]; simp, fun p p1 p2 j hj => ?_, Or.inr (by rw [card_pow u (by omega)]; exact Nat.le_refl 1)⟩
  rw [pow_bit] at hj
  have e : u = j := by simpa using hj
  rw [← e]; exact p1
theorem rO_next (h : rO X n u but t s0) (hI : rI X n u but s0 n 0 s) : rO X n u but (t + 1) s := by
  obtain ⟨g1, g2, g3, g4, g5, -⟩ := hI
  refine ⟨g1, g2, g3 u h.2.2.1, g4, ?_⟩
  have e : s0 ||| s = s := by
    refine bits_ext _ (or_32 h.1 g1) _ g1 (fun k _ => ?_)
    rw [Nat.testBit_or]
    cases q : s0.testBit k with
    | false => simp
    | true => rw [g3 k q]; rfl
  have same : s = s0 → clo X but s := fun q => by
    intro a b k1 k2 k3
    rw [q] at k1
    exact g5 a b (h.2.1 a k1) k1 k2 k3
  rcases card_grow s0 h.1 s g1 with q | q
  · rw [e] at q
    exact Or.inl (same q)
  · rw [e] at q
    rcases h.2.2.2.2 with c | c
    · refine Or.inl (same ?_)
      refine bits_ext _ g1 _ h.1 (fun k _ => ?_)
      cases q1 : s0.testBit k with
      | true => exact g3 k q1
      | false =>
        cases q2 : s.testBit k with
        | false => rfl
        | true =>
          have := g4 (fun j => s0.testBit j = true) h.2.2.1 (fun a b _ k1 k2 k3 => c a b k1 k2 k3) k q2
          rw [q1] at this; cases this
    · exact Or.inr (by omega)
theorem rO_end (h : rO X n u but 5 s) (hn : n ≤ 5) : rcs X n u but s := by
  refine ⟨h.1, h.2.1, h.2.2.1, h.2.2.2.1, ?_⟩
  rcases h.2.2.2.2 with c | c
  · exact c
  · have := card_le s h.1 n hn (fun k _ hk => h.2.1 k hk)
    omega
theorem nI_m1 : ∀ a, a < 32 → ¬ nI a = -1 := by decide +kernel
theorem rcs_D (h : rcs X n u (-1) s) (hX : okX n X) (hu : u < n) : s = Dm X n u := by
  have hn := hX.1
  refine bits_ext _ h.1 _ (Dm_lt hX hu) (fun k _ => ?_)
  have d1 : s.testBit k = true → (Dm X n u).testBit k = true := fun q => h.2.2.2.1 (fun j => (Dm X n u).testBit j = true) Dm_rf (fun a b _ k1 _ k3 => Dm_step hX hu k1 k3) k q
  have d2 : (Dm X n u).testBit k = true → s.testBit k = true := fun q => Dm_least hX (p := fun j => s.testBit j = true) h.2.2.1 (fun a b ha k1 k3 => h.2.2.2.2 a b k1 (nI_m1 a (by omega)) k3) q
  cases q1 : s.testBit k with
  | true => rw [d1 q1]
  | false =>
    cases q2 : (Dm X n u).testBit k with
    | false => rfl
    | true => rw [d2 q2] at q1; cases q1
end RI
-- closed sets, as the reference finds them
def FI (n : Nat) (D : Nat → Nat) (v q : Nat) (Bo : Nat → Nat) (So : Nat → Int32) : Prop :=
  q = cntB (ldB D n) v ∧ (∀ l, l < v → ldB D n l = true → Bo (cntB (ldB D n) l) = D l) ∧ (∀ w l, w < v → l < n → ldB D n l = true → (D l).testBit w = true → So w = nI (cntB (ldB D n) l)) ∧ ∀ w, w < v → (∀ l, l < n → ldB D n l = true → (D l).testBit w = false) → So w = -3
section FI
variable {n : Nat} {D : Nat → Nat} {v q : Nat} {Bo : Nat → Nat} {So : Nat → Int32}
theorem FI_0 : FI n D 0 0 Bo So := ⟨rfl, fun _ h => absurd h (by omega), fun _ _ h => absurd h (by omega), fun _ h => absurd h (by omega)⟩
theorem FI_no (h : FI n D v q Bo So) (hD : okD n D) (hv : v < n) (hc : clB D n v = false) : FI n D (v + 1) q Bo (fup So v (-3)) := by
  have hl : ldB D n v = false := by unfold ldB; rw [hc]; rfl
  refine ⟨by rw [cntB, hl]; exact h.1, fun l h1 h2 => ?_, fun w l h1 h2 h3 h4 => ?_, fun w h1 h2 => ?_⟩
  · by_cases e : l = v
    · subst e; rw [hl] at h2; cases h2
    · exact h.2.1 l (by omega) h2
  · by_cases e : w = v
    · subst e
      have := (cl_same hD h2 ((ldB_iff hD h2).mp h3).1 h4).2
      rw [hc] at this; cases this
    · rw [fup_ne e]; exact h.2.2.1 w l (by omega) h2 h3 h4
  · by_cases e : w = v
    · subst e; rw [fup_at]
    · rw [fup_ne e]; exact h.2.2.2 w (by omega) h2
/-- when set v has been counted: its place, and no other place holds it -/
theorem FI_cnt (h : FI n D v q Bo So) (hD : okD n D) (hv : v < n) (hc : clB D n v = true) {q' : Nat} {Bo' : Nat → Nat} (hq : (ldB D n v = true ∧ q' = q + 1 ∧ Bo' = fup Bo q (D v)) ∨ (ldB D n v = false ∧ q' = q ∧ Bo' = Bo)) : q' = cntB (ldB D n) (v + 1) ∧ (∀ l, l < v + 1 → ldB D n l = true → Bo' (cntB (ldB D n) l) = D l) ∧ ∃ l, l ≤ v ∧ ldB D n l = true ∧ D l = D v ∧ cntB (ldB D n) l < q' ∧ ∀ j, j < q' → (Bo' j = D v ↔ j = cntB (ldB D n) l) := by
  have p1 : q' = cntB (ldB D n) (v + 1) := by
    rw [cntB]
    rcases hq with ⟨h1, h2, -⟩ | ⟨h1, h2, -⟩
    · rw [if_pos h1, h2, h.1]
    · rw [h1, h2, h.1]; rfl
  have p2 : ∀ l, l < v + 1 → ldB D n l = true → Bo' (cntB (ldB D n) l) = D l := fun l h1 h2 => by
    rcases hq with ⟨k1, k2, rfl⟩ | ⟨k1, k2, rfl⟩
    · by_cases e : l = v
      · subst e; rw [← h.1, fup_at]
      · have := cntB_lt (ldB D n) (show l < v by omega) h2
        rw [fup_ne (by rw [h.1]; omega)]; exact h.2.1 l (by omega) h2
    · by_cases e : l = v
      · subst e; rw [k1] at h2; cases h2
      · exact h.2.1 l (by omega) h2
  obtain ⟨l, g1, g2, g3, g4⟩ := cl_least hD hv hc
  refine ⟨p1, p2, l, g1, g2, g4, by rw [p1]; exact cntB_lt _ (by omega) g2, fun j hj => ⟨fun e => ?_, fun e => ?_⟩⟩
  · rw [p1] at hj
    obtain ⟨l', k1, k2, k3⟩ := cntB_ex _ hj
    have e2 := p2 l' k1 k2
    rw [k3] at e2
    have e3 : D l' = D v := e2.symm.trans e
    rw [← k3, ld_uniq hD (by omega) (by omega) k2 g2 (w := v) (by rw [e3]; exact hD.rf hv) (by rw [g4]; exact hD.rf hv)]
  · rw [e, p2 l (by omega) g2, g4]
theorem FI_yes (h : FI n D v q Bo So) (hD : okD n D) (hv : v < n) {q' l : Nat} {Bo' : Nat → Nat} {So' : Nat → Int32} (p1 : q' = cntB (ldB D n) (v + 1)) (p2 : ∀ l, l < v + 1 → ldB D n l = true → Bo' (cntB (ldB D n) l) = D l) (g1 : l ≤ v) (g2 : ldB D n l = true) (g4 : D l = D v) (s1 : So' v = nI (cntB (ldB D n) l)) (s2 : ∀ w, w < v → So' w = So w) : FI n D (v + 1) q' Bo' So' := by
  refine ⟨p1, p2, fun w l' h1 h2 h3 h4 => ?_, fun w h1 h2 => ?_⟩
  · by_cases e : w = v
    · subst e
      rw [s1, ld_uniq hD (by omega) h2 g2 h3 (w := w) (by rw [g4]; exact hD.rf hv) h4]
    · rw [s2 w (by omega)]; exact h.2.2.1 w l' (by omega) h2 h3 h4
  · by_cases e : w = v
    · subst e
      have := h2 l (by omega) g2
      rw [g4, hD.rf hv] at this; cases this
    · rw [s2 w (by omega)]; exact h.2.2.2 w (by omega) h2
/-- the reference's sets are the class's -/
theorem FI_IC (h : FI n D n q Bo So) (hD : okD n D) {q2 : Nat} {M L : Nat → Nat} {O : Nat → Int32} (C : IC n D n q2 M L O) : q = q2 ∧ (∀ i, i < q2 → Bo i = M i) ∧ ∀ w, w < n → So w = O w := by
  refine ⟨h.1.trans C.1.symm, fun i hi => ?_, fun w hw => ?_⟩
  · rw [C.1] at hi
    obtain ⟨l, k1, k2, k3⟩ := cntB_ex _ hi
    rw [← k3, h.2.1 l k1 k2, (C.2.1 l k1 k2).1]
  · by_cases e : ∃ l, l < n ∧ ldB D n l = true ∧ (D l).testBit w = true
    · obtain ⟨l, k1, k2, k3⟩ := e
      rw [h.2.2.1 w l hw k1 k2 k3, C.2.2.1 l k1 k2 w k3]
    · have no : ∀ l, l < n → ldB D n l = true → (D l).testBit w = false := fun l k1 k2 => by
        cases k3 : (D l).testBit w with
        | false => rfl
        | true => exact absurd ⟨l, k1, k2, k3⟩ e
      rw [h.2.2.2 w hw no, C.2.2.2 w hw no]
/-- the first node of set i -/
theorem FI_first (h : FI n D n q Bo So) (hD : okD n D) {i : Nat} (hi : i < q) : ∃ l, l < n ∧ ldB D n l = true ∧ cntB (ldB D n) l = i ∧ So l = nI i ∧ ∀ w, w < l → ¬ So w = nI i := by
  have hi' := hi
  rw [h.1] at hi'
  obtain ⟨l, k1, k2, k3⟩ := cntB_ex _ hi'
  have hn := hD.1
  have cl := cntB_le (ldB D n) n
  have hq := h.1
  refine ⟨l, k1, k2, k3, by rw [h.2.2.1 l l k1 k1 k2 (hD.rf k1), k3], fun w hw e => ?_⟩
  by_cases e2 : ∃ l', l' < n ∧ ldB D n l' = true ∧ (D l').testBit w = true
  · obtain ⟨l', j1, j2, j3⟩ := e2
    rw [h.2.2.1 w l' (by omega) j1 j2 j3] at e
    have c1 := cntB_le (ldB D n) l'
    have e4 : cntB (ldB D n) l' = i := by
      have := congrArg Int32.toNatClampNeg e
      rw [nI_clamp (by omega), nI_clamp (by omega)] at this
      exact this
    have e5 : l' = l := by
      rcases Nat.lt_trichotomy l' l with z | z | z
      · have := cntB_lt (ldB D n) z j2; omega
      · exact z
      · have := cntB_lt (ldB D n) z k2; omega
    subst e5
    have := ((ldB_iff hD j1).mp j2).2 w hw
    rw [j3] at this; cases this
  · have no : ∀ l, l < n → ldB D n l = true → (D l).testBit w = false := fun l k1 k2 => by
      cases k3 : (D l).testBit w with
      | false => rfl
      | true => exact absurd ⟨l, k1, k2, k3⟩ e2
    rw [h.2.2.2 w (by omega) no] at e
    exact m3_ne i (by omega) e.symm
end FI
