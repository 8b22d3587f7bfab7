-- closed sets
def okD (n : Nat) (D : Nat → Nat) : Prop := n ≤ 5 ∧ (∀ u, u < n → D u < 32 ∧ (∀ j, (D u).testBit j = true → j < n) ∧ (D u).testBit u = true) ∧ ∀ a b c, a < n → (D a).testBit b = true → (D b).testBit c = true → (D a).testBit c = true
theorem okD_of {n : Nat} {X D : Nat → Nat} (h : okX n X) (e : ∀ u, u < n → D u = Dm X n u) : okD n D := by
  refine ⟨h.1, fun u hu => ?_, fun a b c ha h1 h2 => ?_⟩
  · rw [e u hu]
    exact ⟨Dm_lt h hu, fun j hj => Dm_in h hu hj, Dm_rf⟩
  · rw [e a ha] at h1 ⊢
    rw [e b (Dm_in h ha h1)] at h2
    exact Dm_tr h ha h1 h2
/-- the nodes that lead to some of m -/
def lead (D : Nat → Nat) (n m : Nat) : Nat := mk (fun u => decide (¬ (D u &&& m = 0))) n
def clB (D : Nat → Nat) (n v : Nat) : Bool := decide (an (D v) (lead D n (2 ^ v)) = 0)
theorem low_bit : ∀ a, a < 32 → ∀ v, v < 5 → (a &&& (2 ^ v - 1) = 0 ↔ ∀ w, w < v → a.testBit w = false) := by decide +kernel
def ldB (D : Nat → Nat) (n v : Nat) : Bool := clB D n v && decide (D v &&& (2 ^ v - 1) = 0)
def cntB (p : Nat → Bool) : Nat → Nat
  | 0 => 0
  | k + 1 => cntB p k + (if p k then 1 else 0)
theorem cntB_le (p : Nat → Bool) : ∀ k, cntB p k ≤ k
  | 0 => Nat.le_refl 0
  | k + 1 => by
    have := cntB_le p k
    rw [cntB]; split <;> omega
theorem cntB_mono (p : Nat → Bool) {i j : Nat} (h : i ≤ j) : cntB p i ≤ cntB p j := by
  induction j with
  | zero => have : i = 0 := by omega
            subst this; exact Nat.le_refl _
  | succ j ih =>
    by_cases e : i = j + 1
    · subst e; exact Nat.le_refl _
    · have := ih (by omega)
      rw [cntB]; omega
theorem cntB_lt (p : Nat → Bool) {i j : Nat} (h : i < j) (hp : p i = true) : cntB p i < cntB p j := by
  have := cntB_mono p (show i + 1 ≤ j by omega)
  rw [cntB, if_pos hp] at this
  omega
theorem has_bit0 : ∀ m, m < 32 → ∀ k, k < 5 → (m &&& 2 ^ k = 0 ↔ m.testBit k = false) := by decide +kernel
theorem m3_ne : ∀ k, k < 32 → ¬ nI k = -3 := by decide +kernel
section SETS
variable {n : Nat} {D : Nat → Nat}
theorem okD.lt (h : okD n D) {u : Nat} (hu : u < n) : D u < 32 := (h.2.1 u hu).1
theorem okD.in (h : okD n D) {u j : Nat} (hu : u < n) (hj : (D u).testBit j = true) : j < n := (h.2.1 u hu).2.1 j hj
theorem okD.rf (h : okD n D) {u : Nat} (hu : u < n) : (D u).testBit u = true := (h.2.1 u hu).2.2
theorem lead_lt (h : okD n D) (m : Nat) : lead D n m < 32 := mk_32 _ h.1
theorem lead_bit (h : okD n D) {v u : Nat} (hv : v < n) : (lead D n (2 ^ v)).testBit u = true ↔ u < n ∧ (D u).testBit v = true := by
  unfold lead
  rw [mk_bit, Bool.and_eq_true, decide_eq_true_eq, decide_eq_true_eq]
  constructor
  · rintro ⟨h1, h2⟩
    refine ⟨h1, ?_⟩
    cases q : (D u).testBit v with
    | true => rfl
    | false => exact absurd ((has_bit0 _ (h.lt h1) v (by have := h.1; omega)).mpr q) h2
  · rintro ⟨h1, h2⟩
    refine ⟨h1, fun q => ?_⟩
    rw [(has_bit0 _ (h.lt h1) v (by have := h.1; omega)).mp q] at h2
    cases h2
theorem clB_iff (h : okD n D) {v : Nat} (hv : v < n) : clB D n v = true ↔ ∀ w, (D v).testBit w = true → (D w).testBit v = true := by
  unfold clB
  rw [decide_eq_true_eq, an_zero _ (h.lt hv) _ (lead_lt h _)]
  constructor
  · intro q w hw
    exact ((lead_bit h hv).mp (q w (tb5 (h.lt hv) hw) hw)).2
  · intro q w _ hw
    exact (lead_bit h hv).mpr ⟨h.in hv hw, q w hw⟩
theorem ldB_iff (h : okD n D) {v : Nat} (hv : v < n) : ldB D n v = true ↔ clB D n v = true ∧ ∀ w, w < v → (D v).testBit w = false := by
  unfold ldB
  rw [Bool.and_eq_true, decide_eq_true_eq, low_bit _ (h.lt hv) v (by have := h.1; omega)]
/-- within a closed set all lead alike -/
theorem cl_same (h : okD n D) {v w : Nat} (hv : v < n) (hc : clB D n v = true) (hw : (D v).testBit w = true) : D w = D v ∧ clB D n w = true := by
  have c := (clB_iff h hv).mp hc
  have hwn := h.in hv hw
  have e : D w = D v := by
    refine bits_ext _ (h.lt hwn) _ (h.lt hv) (fun k _ => ?_)
    have a1 : (D w).testBit k = true → (D v).testBit k = true := fun q => h.2.2 v w k hv hw q
    have a2 : (D v).testBit k = true → (D w).testBit k = true := fun q => h.2.2 w v k hwn (c w hw) q
    cases q1 : (D w).testBit k with
    | true => rw [a1 q1]
    | false =>
      cases q2 : (D v).testBit k with
      | true => rw [a2 q2] at q1; cases q1
      | false => rfl
  refine ⟨e, (clB_iff h hwn).mpr (fun z hz => ?_)⟩
  rw [e] at hz
  exact h.2.2 z v w (h.in hv hz) (c z hz) hw
/-- every closed set has a least node -/
theorem cl_least (h : okD n D) {v : Nat} (hv : v < n) (hc : clB D n v = true) : ∃ l, l ≤ v ∧ ldB D n l = true ∧ (D v).testBit l = true ∧ D l = D v := by
  obtain ⟨l, hl, hm⟩ := pk_least (fun k => (D v).testBit k = true) ⟨v, h.rf hv⟩
  have hln := h.in hv hl
  obtain ⟨e, c⟩ := cl_same h hv hc hl
  refine ⟨l, ?_, (ldB_iff h hln).mpr ⟨c, fun w hw => ?_⟩, hl, e⟩
  · rcases Nat.lt_or_ge v l with q | q
    · exact absurd (h.rf hv) (hm v q)
    · exact q
  · rw [e]
    cases q : (D v).testBit w with
    | true => exact absurd q (hm w hw)
    | false => rfl
theorem ld_uniq (h : okD n D) {l k : Nat} (hl : l < n) (hk : k < n) (h1 : ldB D n l = true) (h2 : ldB D n k = true) {w : Nat} (w1 : (D l).testBit w = true) (w2 : (D k).testBit w = true) : l = k := by
  obtain ⟨c1, m1⟩ := (ldB_iff h hl).mp h1
  obtain ⟨c2, m2⟩ := (ldB_iff h hk).mp h2
  have e1 := (cl_same h hl c1 w1).1
  have e2 := (cl_same h hk c2 w2).1
  have e : D l = D k := e1.symm.trans e2
  rcases Nat.lt_trichotomy l k with q | q | q
  · have := m2 l q
    rw [← e, h.rf hl] at this; cases this
  · exact q
  · have := m1 k q
    rw [e, h.rf hk] at this; cases this
/-- what the closed sets hold when the nodes below v have been looked at -/
def IC (n : Nat) (D : Nat → Nat) (v q : Nat) (M L : Nat → Nat) (O : Nat → Int32) : Prop :=
  q = cntB (ldB D n) v ∧ (∀ l, l < v → ldB D n l = true → M (cntB (ldB D n) l) = D l ∧ L (cntB (ldB D n) l) = l) ∧ (∀ l, l < v → ldB D n l = true → ∀ w, (D l).testBit w = true → O w = nI (cntB (ldB D n) l)) ∧ ∀ w, w < n → (∀ l, l < v → ldB D n l = true → (D l).testBit w = false) → O w = -3
variable {v q : Nat} {M L : Nat → Nat} {O : Nat → Int32}
theorem IC_0 (hO : ∀ w, w < n → O w = -3) : IC n D 0 0 M L O :=
  ⟨rfl, fun l hl => absurd hl (Nat.not_lt_zero l), fun l hl => absurd hl (Nat.not_lt_zero l), fun w hw _ => hO w hw⟩
theorem IC_test (h : okD n D) (hv : v < n) (C : IC n D v q M L O) : (O v = -3 ∧ clB D n v = true) ↔ ldB D n v = true := by
  constructor
  · rintro ⟨ho, hc⟩
    obtain ⟨l, hl, h1, h2, h3⟩ := cl_least h hv hc
    by_cases e : l = v
    · rw [← e]; exact h1
    · have := C.2.2.1 l (by omega) h1 v (by rw [h3]; exact h.rf hv)
      rw [ho] at this
      exact absurd this.symm (m3_ne _ (by have := cntB_le (ldB D n) l; have := h.1; omega))
  · intro hl
    obtain ⟨c, m⟩ := (ldB_iff h hv).mp hl
    refine ⟨C.2.2.2 v hv (fun l hlv h1 => ?_), c⟩
    cases q1 : (D l).testBit v with
    | false => rfl
    | true => exact absurd (ld_uniq h (by omega) hv h1 hl q1 (h.rf hv)) (by omega)
theorem IC_no (C : IC n D v q M L O) (hl : ldB D n v = false) : IC n D (v + 1) q M L O := by
  refine ⟨by rw [cntB, hl]; exact C.1, fun l h1 h2 => ?_, fun l h1 h2 => ?_, fun w hw h3 => C.2.2.2 w hw (fun l h1 h2 => h3 l (by omega) h2)⟩
  · by_cases e : l = v
    · subst e; rw [hl] at h2; cases h2
    · exact C.2.1 l (by omega) h2
  · by_cases e : l = v
    · subst e; rw [hl] at h2; cases h2
    · exact C.2.2.1 l (by omega) h2
theorem IC_add (h : okD n D) (hv : v < n) (C : IC n D v q M L O) (hl : ldB D n v = true) {O' : Nat → Int32} (hO : ∀ w, O' w = if w < n ∧ (D v).testBit w = true then nI q else O w) : IC n D (v + 1) (q + 1) (fup M q (D v)) (fup L q v) O' := by
  have hq := C.1
  refine ⟨by rw [cntB, if_pos hl, ← hq], fun l h1 h2 => ?_, fun l h1 h2 w hw => ?_, fun w hw h3 => ?_⟩
  · by_cases e : l = v
    · subst e; rw [← hq, fup_s, fup_s]; exact ⟨rfl, rfl⟩
    · have h4 := cntB_lt (ldB D n) (show l < v by omega) h2
      rw [fup_n (by omega), fup_n (by omega)]
      exact C.2.1 l (by omega) h2
  · by_cases e : l = v
    · subst e
      rw [hO w, if_pos ⟨h.in hv hw, hw⟩, hq]
    · rw [hO w, if_neg (fun z => e (ld_uniq h (by omega) hv h2 hl hw z.2))]
      exact C.2.2.1 l (by omega) h2 w hw
  · rw [hO w, if_neg (fun z => by rw [h3 v (by omega) hl] at z; cases z.2)]
    exact C.2.2.2 w hw (fun l h1 h2 => h3 l (by omega) h2)
end SETS
