-- where every node leads out of U there is a step map without a round
theorem card_sub : ∀ a, a < 32 → ∀ b, b < 32 → a ||| b = b → b = a ∨ card a < card b := by decide +kernel
theorem grow_stable {m : Nat → Nat} {n : Nat} (hn : n ≤ 5) (h32 : ∀ k, m k < 32) (hin : ∀ k j, (m k).testBit j = true → j < n) (hsub : ∀ k, m k ||| m (k + 1) = m (k + 1)) (hfix : ∀ k, m (k + 1) = m k → m (k + 2) = m (k + 1)) (h0 : 0 < card (m 0)) : m (n + 1) = m n := by
  have hst : ∀ i, m (i + 1) = m i → ∀ j, m (i + j + 1) = m (i + j) := fun i e j => by
    induction j with
    | zero => exact e
    | succ j ih => exact hfix (i + j) ih
  have hg : ∀ k, (∃ i, i < k ∧ m (i + 1) = m i) ∨ card (m 0) + k ≤ card (m k) := fun k => by
    induction k with
    | zero => exact Or.inr (Nat.le_refl _)
    | succ k ih =>
      rcases ih with ⟨i, hi, e⟩ | q
      · exact Or.inl ⟨i, by omega, e⟩
      · rcases card_sub _ (h32 k) _ (h32 (k + 1)) (hsub k) with e | e
        · exact Or.inl ⟨k, by omega, e⟩
        · exact Or.inr (by omega)
  rcases hg n with ⟨i, hi, e⟩ | q
  · have := hst i e (n - i)
    rw [show i + (n - i) = n by omega] at this
    exact this
  · have := card_le _ (h32 n) n hn (fun k _ hk => hin n k hk)
    omega
def lay (X : Nat → Nat) (U n : Nat) : Nat → Nat
  | 0 => mk (fun v => !(U.testBit v)) n
  | k + 1 => mk (fun v => (lay X U n k).testBit v || decide (¬ (X v &&& lay X U n k = 0))) n
theorem and_zero : ∀ a, a < 32 → ∀ b, b < 32 → (a &&& b = 0 ↔ ∀ k, k < 5 → a.testBit k = true → b.testBit k = false) := by decide +kernel
section EX
variable {X : Nat → Nat} {U n : Nat}
theorem lay_lt (hn : n ≤ 5) : ∀ k, lay X U n k < 32
  | 0 => mk_32 _ hn
  | _ + 1 => mk_32 _ hn
theorem lay_in : ∀ k j, (lay X U n k).testBit j = true → j < n
  | 0, j, h => by rw [lay, mk_bit] at h; simp at h; exact h.1
  | _ + 1, j, h => by rw [lay, mk_bit] at h; simp at h; exact h.1
theorem lay_0 {v : Nat} (hv : v < n) : (lay X U n 0).testBit v = true ↔ U.testBit v = false := by rw [lay, mk_bit]; simp [hv]
theorem lay_s (h : okX n X) {k v : Nat} (hv : v < n) : (lay X U n (k + 1)).testBit v = true ↔ (lay X U n k).testBit v = true ∨ ∃ w, (X v).testBit w = true ∧ (lay X U n k).testBit w = true := by
  rw [lay, mk_bit]
  simp only [hv, decide_true, Bool.true_and, Bool.or_eq_true, decide_eq_true_eq]
  rw [and_zero _ (h.lt v hv) _ (lay_lt h.1 k)]
  constructor
  · rintro (q | q)
    · exact Or.inl q
    · right
      refine Classical.byContradiction (fun z => q (fun w _ hw => ?_))
      cases e : (lay X U n k).testBit w with
      | false => rfl
      | true => exact absurd ⟨w, hw, e⟩ z
  · rintro (q | ⟨w, h1, h2⟩)
    · exact Or.inl q
    · right
      intro z
      have := z w (tb5 (h.lt v hv) h1) h1
      rw [h2] at this; cases this
theorem lay_mono (h : okX n X) {k v : Nat} (q : (lay X U n k).testBit v = true) : (lay X U n (k + 1)).testBit v = true := (lay_s h (lay_in k v q)).mpr (Or.inl q)
theorem lay_le (h : okX n X) {k j v : Nat} (hkj : k ≤ j) (q : (lay X U n k).testBit v = true) : (lay X U n j).testBit v = true := by
  induction j with
  | zero => have : k = 0 := by omega
            subst this; exact q
  | succ j ih =>
    by_cases e : k = j + 1
    · subst e; exact q
    · exact lay_mono h (ih (by omega))
theorem bit_eq {a b : Nat} (ha : a < 32) (hb : b < 32) (h : ∀ k, a.testBit k = true ↔ b.testBit k = true) : a = b := bits_ext a ha b hb (fun k _ => by
  cases q1 : a.testBit k with
  | true => rw [(h k).mp q1]
  | false =>
    cases q2 : b.testBit k with
    | false => rfl
    | true => rw [(h k).mpr q2] at q1; cases q1)
theorem card_pos : ∀ a, a < 32 → ∀ k, k < 5 → a.testBit k = true → 0 < card a := by decide +kernel
theorem lay_fix (h : okX n X) {o : Nat} (ho : o < n) (hoU : U.testBit o = false) : lay X U n (n + 1) = lay X U n n := by
  refine grow_stable h.1 (lay_lt h.1) lay_in (fun k => ?_) (fun k e => ?_) (card_pos _ (lay_lt h.1 0) o (by have := h.1; omega) ((lay_0 ho).mpr hoU))
  · exact bit_eq (or_32 (lay_lt h.1 _) (lay_lt h.1 _)) (lay_lt h.1 _) (fun j => by
      rw [or_bits]
      exact ⟨fun q => q.elim (fun q => lay_mono h q) id, Or.inr⟩)
  · show mk _ n = mk _ n
    rw [e]
/-- all that leads out of U lies in a layer -/
theorem lay_all (h : okX n X) {v w : Nat} (hv : v < n) (hw : (Dm X n v).testBit w = true) (hU : U.testBit w = false) : (lay X U n n).testBit v = true := by
  refine Classical.byContradiction (fun q => ?_)
  have hwn := Dm_in h hv hw
  have := Dm_least h (p := fun j => j < n ∧ ¬ (lay X U n n).testBit j = true) ⟨hv, q⟩ (fun a b ha hp hb => ⟨(h.2 a ha).2 b hb, fun z => hp.2 (by
    rw [← lay_fix h hwn hU]
    exact (lay_s h ha).mpr (Or.inr ⟨b, hb, z⟩))⟩) hw
  exact this.2 (lay_le h (Nat.zero_le n) ((lay_0 hwn).mpr hU))
theorem rch_lay {f : Nat → Nat} (hf : ∀ v, v < n → U.testBit v = true → f v < n ∧ ∀ k, (lay X U n (k + 1)).testBit v = true → (lay X U n k).testBit (f v) = true) : ∀ (k v : Nat), v < n → (lay X U n k).testBit v = true → U.testBit (rch U f k v) = false
  | 0, v, hv, q => (lay_0 hv).mp q
  | k + 1, v, hv, q => by
    rw [rch]
    by_cases z : U.testBit v = true
    · rw [if_pos z]
      exact rch_lay hf k (f v) (hf v hv z).1 ((hf v hv z).2 k q)
    · rw [if_neg z]
      cases e : U.testBit v with
      | false => rfl
      | true => exact absurd e z
theorem forest_ex {P : Nat → Nat → Nat} (h : okX n X) (hX : ∀ u v, u < n → (X u).testBit v = true → 0 < P u v) (ho : ∀ v, v < n → U.testBit v = true → ∃ w, (Dm X n v).testBit w = true ∧ U.testBit w = false) : ∃ f : Nat → Nat, (∀ i, i < n → U.testBit i = true → f i < n ∧ 0 < P i (f i)) ∧ acyc n U f = true := by
  have hall : ∀ v, v < n → (lay X U n n).testBit v = true := fun v hv => by
    cases e : U.testBit v with
    | false => exact lay_le h (Nat.zero_le n) ((lay_0 hv).mpr e)
    | true =>
      obtain ⟨w, h1, h2⟩ := ho v hv e
      exact lay_all h hv h1 h2
  have hex : ∀ v, v < n → U.testBit v = true → ∃ w, w < n ∧ 0 < P v w ∧ ∀ k, (lay X U n (k + 1)).testBit v = true → (lay X U n k).testBit w = true := fun v hv hU => by
    obtain ⟨k, hk, hm⟩ := pk_least (fun k => (lay X U n k).testBit v = true) ⟨n, hall v hv⟩
    match k, hk, hm with
    | 0, hk, _ => rw [(lay_0 hv).mp hk] at hU; cases hU
    | k + 1, hk, hm =>
      rcases (lay_s h hv).mp hk with q | ⟨w, h1, h2⟩
      · exact absurd q (hm k (by omega))
      · refine ⟨w, (h.2 v hv).2 w h1, hX v w hv h1, fun j hj => ?_⟩
        have hkj : k ≤ j := by
          rcases Nat.lt_or_ge j k with z | z
          · exact absurd hj (hm (j + 1) (by omega))
          · exact z
        exact lay_le h hkj h2
  have hex2 : ∀ v, ∃ w, v < n → U.testBit v = true → (w < n ∧ 0 < P v w ∧ ∀ k, (lay X U n (k + 1)).testBit v = true → (lay X U n k).testBit w = true) := fun v => by
    rcases Classical.em (v < n ∧ U.testBit v = true) with q | q
    · obtain ⟨w, hw⟩ := hex v q.1 q.2
      exact ⟨w, fun _ _ => hw⟩
    · exact ⟨0, fun h1 h2 => absurd ⟨h1, h2⟩ q⟩
  obtain ⟨f, hf⟩ := Classical.axiomOfChoice hex2
  refine ⟨f, fun i hi hu => ⟨(hf i hi hu).1, (hf i hi hu).2.1⟩, ?_⟩
  unfold acyc
  rw [List.all_eq_true]
  intro v hv
  have hv := List.mem_range.mp hv
  rw [rch_lay (X := X) (fun v hv hu => ⟨(hf v hv hu).1, (hf v hv hu).2.2⟩) 5 v hv (lay_le h h.1 (hall v hv))]
  rfl
end EX
