-- that what stands below is above 0
theorem and_an : ∀ a, a < 32 → ∀ b, b < 32 → b &&& an a b = 0 := by decide +kernel
section POS
variable {n x y : Nat} {W P : Nat → Nat → Nat} {J T X D : Nat → Nat}
theorem leadG (h : okD n D) {G v : Nat} (hG : G < 32) : (lead D n G).testBit v = true ↔ v < n ∧ ∃ w, (D v).testBit w = true ∧ G.testBit w = true := by
  unfold lead
  rw [mk_bit, Bool.and_eq_true, decide_eq_true_eq, decide_eq_true_eq]
  constructor
  · rintro ⟨h1, h2⟩
    refine ⟨h1, ?_⟩
    rw [and_zero _ (h.lt h1) _ hG] at h2
    refine Classical.byContradiction (fun q => h2 (fun k _ hk => ?_))
    cases e : G.testBit k with
    | false => rfl
    | true => exact absurd ⟨k, hk, e⟩ q
  · rintro ⟨h1, w, h2, h3⟩
    refine ⟨h1, fun q => ?_⟩
    rw [and_zero _ (h.lt h1) _ hG] at q
    have := q w (tb5 (h.lt h1) h2) h2
    rw [h3] at this; cases this
theorem uG_lt (h : okD n D) {G : Nat} (hG : G < 32) : uG D n G < 32 := an_lt _ (lead_lt h G) _ hG
theorem uG_bit (h : okD n D) {G v : Nat} (hG : G < 32) : (uG D n G).testBit v = true ↔ (v < n ∧ ∃ w, (D v).testBit w = true ∧ G.testBit w = true) ∧ G.testBit v = false := by
  unfold uG
  rw [an_bits (lead_lt h G) hG, leadG h hG]
theorem uG_out (h : okD n D) {G v : Nat} (hG : G < 32) (hv : (uG D n G).testBit v = true) : ∃ w, w < n ∧ (D v).testBit w = true ∧ (uG D n G).testBit w = false := by
  obtain ⟨⟨h1, w, h2, h3⟩, -⟩ := (uG_bit h hG).mp hv
  refine ⟨w, h.in h1 h2, h2, ?_⟩
  cases e : (uG D n G).testBit w with
  | false => rfl
  | true => rw [((uG_bit h hG).mp e).2] at h3; cases h3
theorem uG_ok (h : okD n D) {G v : Nat} (hG : G < 32) (hv : (uG D n G).testBit v = true) : okU n (uG D n G) := by
  obtain ⟨w, hw, -, h2⟩ := uG_out h hG hv
  exact okU_of h.1 (uG_lt h hG) (fun k hk => ((uG_bit h hG).mp hk).1.1) hw h2
theorem uG_pos (h : okS n x y W J P T X) (hX : okX n X) (hD : ∀ u, u < n → D u = Dm X n u) {G : Nat} (hG : G < 32) : 0 < Fo n x y W J (uG D n G) :=
  Fo_pos h hX.1 (fun v hv hu => by
    obtain ⟨w, -, h1, h2⟩ := uG_out (okD_of hX hD) hG hu
    rw [hD v hv] at h1
    exact ⟨w, h1, h2⟩)
theorem set_pos (h : okS n x y W J P T X) (hX : okX n X) (hD : ∀ u, u < n → D u = Dm X n u) {l v : Nat} (hl : l < n) (hc : clB D n l = true) (hv : (D l).testBit v = true) : 0 < Fo n x y W J (an (D l) (2 ^ v)) := by
  have hok := okD_of hX hD
  have hvn := hok.in hl hv
  have hn := hX.1
  refine Fo_pos h hX.1 (fun w hw hu => ⟨v, ?_, an_self (hok.lt hl) (by omega)⟩)
  have h1 := ((an_bits (hok.lt hl) (pow_32 (by omega))).mp hu).1
  rw [← hD w hw, (cl_same hok hl hc h1).1]
  exact hv
theorem share_pos (h : okS n x y W J P T X) (hX : okX n X) (hD : ∀ u, u < n → D u = Dm X n u) (hg : okG n x y W J) {l v : Nat} (hl : l < n) (hc : clB D n l = true) (hv : (D l).testBit v = true) : 0 < shG n x y W J (D l) v := by
  unfold shG
  rw [if_pos hv]
  exact Nat.mul_pos (nr_ok hg ((okD_of hX hD).in hl hv)).1 (set_pos h hX hD hl hc hv)
theorem sum_le (hg : okG n x y W J) {m : Nat} (hm : m < 32) (hb : ∀ k, m.testBit k = true → k < n) : sN (shG n x y W J m) n ≤ 5 * 400 ^ 5 := by
  have h1 := sN_le (f := shG n x y W J m) (b := 400 ^ 5) (n := n) (fun v hv => shG_le hg hv hm hb)
  exact Nat.le_trans h1 (Nat.mul_le_mul_right _ hg.1)
theorem cnt_inj {p : Nat → Bool} {a b : Nat} (ha : p a = true) (hb : p b = true) (h : cntB p a = cntB p b) : a = b := by
  rcases Nat.lt_trichotomy a b with q | q | q
  · have := cntB_lt p q ha; omega
  · exact q
  · have := cntB_lt p q hb; omega
/-- a node's set, if it is in one -/
theorem IC_of {q : Nat} {M L : Nat → Nat} {O : Nat → Int32} (hok : okD n D) (h : IC n D n q M L O) {v : Nat} (hv : v < n) (hq : nb q (O v) = true) : ∃ i l, i < q ∧ O v = nI i ∧ l < n ∧ ldB D n l = true ∧ cntB (ldB D n) l = i ∧ M i = D l ∧ (D l).testBit v = true := by
  obtain ⟨i, hi, e⟩ := nb_true (IC_q h hok.1) hq
  obtain ⟨l, h1, h2, h3, h4, -⟩ := IC_set h hi
  refine ⟨i, l, hi, e, h1, h2, h3, h4, ?_⟩
  rcases Classical.em (∃ k, k < n ∧ ldB D n k = true ∧ (D k).testBit v = true) with ⟨k, k1, k2, k3⟩ | z
  · have e2 := h.2.2.1 k k1 k2 v k3
    rw [e] at e2
    have := cntB_le (ldB D n) k
    have hq5 := IC_q h hok.1
    have hn := hok.1
    have e3 := (nI_eq (by omega) (by omega)).mp e2
    have e4 := cnt_inj h2 k2 (by rw [h3, e3])
    rw [e4]; exact k3
  · have e2 := h.2.2.2 v hv (fun k k1 k2 => by
      cases q1 : (D k).testBit v with
      | false => rfl
      | true => exact absurd ⟨k, k1, k2, q1⟩ z)
    rw [e] at e2
    exact absurd e2 (m3_ne i (by have := IC_q h hok.1; omega))
-- the nodes on the way from u to v
theorem hU_lt (hX : okX n X) {u v : Nat} (hu : u < n) (hv : v < n) : hU X n u v < 32 := bh_lt hX.lt (pow_32 (by have := hX.1; omega)) (pow_32 (by have := hX.1; omega)) n
theorem hU_in (hX : okX n X) {u v k : Nat} (hu : u < n) (hv : v < n) (h : (hU X n u v).testBit k = true) : k < n := bh_in hX (pow_32 (by have := hX.1; omega)) (pow_32 (by have := hX.1; omega)) (pow_in hu) h
theorem hU_u {u v : Nat} : (hU X n u v).testBit u = true := bh_start (by rw [pow_bit]; simp)
theorem hU_v (hX : okX n X) {u v : Nat} (hu : u < n) (hv : v < n) (hne : u ≠ v) : (hU X n u v).testBit v = false := by
  cases e : (hU X n u v).testBit v with
  | false => rfl
  | true =>
    have := bh_least hX (pow_32 (by have := hX.1; omega)) (p := fun j => j ≠ v) (fun j hj => by
      rw [pow_bit] at hj
      have : u = j := by simpa using hj
      omega) (fun a b _ _ _ hb q => by
      rw [q, pow_bit] at hb
      simp at hb) e
    exact absurd rfl this
theorem hU_ok (hX : okX n X) {u v : Nat} (hu : u < n) (hv : v < n) (hne : u ≠ v) : okU n (hU X n u v) := okU_of hX.1 (hU_lt hX hu hv) (fun k hk => hU_in hX hu hv hk) hv (hU_v hX hu hv hne)
theorem hU_pos (h : okS n x y W J P T X) (hX : okX n X) (hD : ∀ u, u < n → D u = Dm X n u) {u v : Nat} (hu : u < n) (hv : v < n) (hne : u ≠ v) (hz : an (hU X n u v) (lead D n (2 ^ v)) = 0) : 0 < Fo n x y W J (hU X n u v) := by
  have hok := okD_of hX hD
  refine Fo_pos h hX.1 (fun w hw hu' => ⟨v, ?_, hU_v hX hu hv hne⟩)
  rw [an_zero _ (hU_lt hX hu hv) _ (lead_lt hok _)] at hz
  have h1 := hz w (by have := hX.1; omega) hu'
  rw [← hD w hw]
  exact ((lead_bit hok hv).mp h1).2
theorem ch_b {U a G : Nat} {Z Y : Nat → Nat → Int} (hn : n ≤ 5) (hY : ∀ i j, i < n → j < n → Y i j = eqZ P T U i j) (hZ : ∀ i j, i < n → j < n → Z i j = (fun i j => if j = a then (if U.testBit i = true then (gsum P G i n : Int) else 0) else Y i j) i j) (hb : ∀ i j, i < n → j < n → P i j ≤ 400 ∧ T i ≤ 400) : ∀ i j, i < n → j < n → -2 ^ 62 ≤ Z i j ∧ Z i j ≤ 2 ^ 62 := fun i j hi hj => by
  have e := hZ i j hi hj
  have e1 := eqZ_b (U := U) (hb i j hi hj)
  have e2 := gsum_b (P := P) (G := G) (i := i) hn (fun j hj => (hb i j hi hj).1)
  rw [← hY i j hi hj] at e1
  dsimp only at e
  rw [e]
  split
  · split <;> omega
  · exact e1
theorem st_b {U a : Nat} {Z Y : Nat → Nat → Int} (hY : ∀ i j, i < n → j < n → Y i j = eqZ P T U i j) (hZ : ∀ i j, i < n → j < n → Z i j = (fun i j => if j = a then (if U.testBit i = true then (T i : Int) else 0) else Y i j) i j) (hb : ∀ i j, i < n → j < n → P i j ≤ 400 ∧ T i ≤ 400) : ∀ i j, i < n → j < n → -2 ^ 62 ≤ Z i j ∧ Z i j ≤ 2 ^ 62 := fun i j hi hj => by
  have e := hZ i j hi hj
  have e0 := hb i j hi hj
  have e1 := eqZ_b (U := U) e0
  rw [← hY i j hi hj] at e1
  dsimp only at e
  rw [e]
  split
  · split <;> omega
  · exact e1
end POS
