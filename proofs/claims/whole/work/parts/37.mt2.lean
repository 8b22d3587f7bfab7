-- the checks, for every step map
def nn (U : Nat) (f : Nat → Nat) : Nat → Nat → (Nat → Nat) → (Nat → Nat)
  | 0, _, h => h
  | k + 1, r, h => nn U f k (r + 1) (fup h r (if U.testBit r = true then f r else 0))
theorem nn_at {U : Nat} {f : Nat → Nat} : ∀ (k r : Nat) (h : Nat → Nat) (i : Nat), nn U f k r h i = if r ≤ i ∧ i < r + k then (if U.testBit i = true then f i else 0) else h i
  | 0, r, h, i => by rw [nn, if_neg (by omega)]
  | k + 1, r, h, i => by
    rw [nn, nn_at k (r + 1) _ i]
    by_cases e : i = r
    · subst e
      rw [if_neg (show ¬ (i + 1 ≤ i ∧ i < i + 1 + k) by omega), if_pos (show i ≤ i ∧ i < i + (k + 1) by omega), fup_s]
    · rw [fup_n e]
      by_cases q : r + 1 ≤ i ∧ i < r + 1 + k
      · rw [if_pos q, if_pos (show r ≤ i ∧ i < r + (k + 1) by omega)]
      · rw [if_neg q, if_neg (show ¬ (r ≤ i ∧ i < r + (k + 1)) by omega)]
theorem allF_get {n U : Nat} {p : (Nat → Nat) → Bool} {f : Nat → Nat} (hf : ∀ i, i < n → U.testBit i = true → f i < n) : ∀ (k r : Nat) (h : Nat → Nat), r + k = n → allF n U p k r h = true → p (nn U f k r h) = true
  | 0, _, _, _, e => e
  | k + 1, r, h, hr, e => by
    rw [nn]
    rw [allF] at e
    by_cases q : U.testBit r = true
    · rw [if_pos q] at e ⊢
      exact allF_get hf k (r + 1) _ (by omega) (List.all_eq_true.mp e (f r) (List.mem_range.mpr (hf r (by omega) q)))
    · rw [if_neg q] at e ⊢
      exact allF_get hf k (r + 1) _ (by omega) e
theorem rch_congr {n U : Nat} {f h : Nat → Nat} (e : ∀ i, i < n → U.testBit i = true → f i = h i ∧ f i < n) : ∀ (k v : Nat), v < n → rch U f k v = rch U h k v
  | 0, _, _ => rfl
  | k + 1, v, hv => by
    rw [rch, rch]
    by_cases q : U.testBit v = true
    · rw [if_pos q, if_pos q, (e v hv q).1]
      exact rch_congr e k (h v) (by rw [← (e v hv q).1]; exact (e v hv q).2)
    · rw [if_neg q, if_neg q]
theorem rch_sub {n U V : Nat} {f h : Nat → Nat} (hs : ∀ i, V.testBit i = true → U.testBit i = true) (e : ∀ i, i < n → U.testBit i = true → f i = h i ∧ f i < n) (k v : Nat) (hv : v < n) : rch V f k v = rch V h k v := rch_congr (fun i hi q => e i hi (hs i q)) k v hv
theorem acyc_congr {n U : Nat} {f h : Nat → Nat} (e : ∀ i, i < n → U.testBit i = true → f i = h i ∧ f i < n) : acyc n U f = acyc n U h := by
  unfold acyc
  rw [Bool.eq_iff_iff, List.all_eq_true, List.all_eq_true]
  constructor <;> (intro q v hv; have z := q v hv; first | (rw [← rch_congr e 5 v (List.mem_range.mp hv)]; exact z) | (rw [rch_congr e 5 v (List.mem_range.mp hv)]; exact z))
theorem nn_ok {n U : Nat} {f : Nat → Nat} (hf : ∀ i, i < n → U.testBit i = true → f i < n) : ∀ i, i < n → U.testBit i = true → f i = nn U f n 0 (fun _ => 0) i ∧ f i < n := fun i hi q => by
  rw [nn_at, if_pos (show 0 ≤ i ∧ i < 0 + n by omega), if_pos q]
  exact ⟨rfl, hf i hi q⟩
theorem RU_nn {n U : Nat} {f : Nat → Nat} {i j : Nat} (hi : i < n) : RU U i (nn U f n 0 (fun _ => 0) i) j = RU U i (f i) j := by
  unfold RU
  rw [nn_at, if_pos (show 0 ≤ i ∧ i < 0 + n by omega)]
  by_cases q : U.testBit i = true
  · rw [if_pos q]
  · have e : ∀ w, (if U.testBit i = true ∧ U.testBit w = true ∧ w = j then (1 : Int) else 0) = 0 := fun w => if_neg (fun z => q z.1)
    rw [e, e]
theorem all_or {N M U : Nat} {q : Nat → Bool} (h : (List.range N).all (fun U => U == M || q U) = true) (hU : U < N) (hM : U ≠ M) : q U = true := by
  have h1 := List.all_eq_true.mp h U (List.mem_range.mpr hU)
  simpa [hM] using h1
theorem all_imp {N a : Nat} {q b : Nat → Bool} (h : (List.range N).all (fun a => !(b a) || q a) = true) (ha : a < N) (hb : b a = true) : q a = true := by
  have h1 := List.all_eq_true.mp h a (List.mem_range.mpr ha)
  simpa [hb] using h1
theorem chk1 {n U : Nat} (h0 : 0 < n) (hn : n ≤ 5) (hU : U < 2 ^ n) (hM : U ≠ 2 ^ n - 1) : allF n U (p1 n U) n 0 (fun _ => 0) = true := by
  rcases (show n = 1 ∨ n = 2 ∨ n = 3 ∨ n = 4 ∨ n = 5 by omega) with rfl | rfl | rfl | rfl | rfl
  · exact all_or leaf1_1 hU hM
  · exact all_or leaf1_2 hU hM
  · exact all_or leaf1_3 hU hM
  · exact all_or leaf1_4 hU hM
  · exact all_or leaf1_5 hU hM
/-- MT: the small determinant of a step map is 1 where it has no round, else 0 -/
theorem L1 {n U : Nat} {f : Nat → Nat} (h0 : 0 < n) (hn : n ≤ 5) (hU : U < 2 ^ n) (hM : U ≠ 2 ^ n - 1) (hf : ∀ i, i < n → U.testBit i = true → f i < n) : exD (fun i j => RU U i (f i) j) n n 0 0 = if acyc n U f = true then 1 else 0 := by
  have h := allF_get hf n 0 (fun _ => 0) (by omega) (chk1 h0 hn hU hM)
  unfold p1 at h
  rw [exE_eq, beq_iff_eq] at h
  rw [acyc_congr (nn_ok hf), ← h]
  exact exD_congr n 0 0 (by omega) (fun i j hi _ => (RU_nn hi).symm)
theorem tab {α : Type} {p : α → Prop} (l : List α) (h : ∀ x, x ∈ l → p x) {x : α} (hx : x ∈ l) : p x := h x hx
abbrev Ua5 : List (Nat × Nat) := [(1, 0), (2, 1), (3, 0), (3, 1), (4, 2), (5, 0), (5, 2), (6, 1), (6, 2), (7, 0), (7, 1), (7, 2), (8, 3), (9, 0), (9, 3), (10, 1), (10, 3), (11, 0), (11, 1), (11, 3), (12, 2), (12, 3), (13, 0), (13, 2), (13, 3), (14, 1), (14, 2), (14, 3), (15, 0), (15, 1), (15, 2), (15, 3), (16, 4), (17, 0), (17, 4), (18, 1), (18, 4), (19, 0), (19, 1), (19, 4), (20, 2), (20, 4), (21, 0), (21, 2), (21, 4), (22, 1), (22, 2), (22, 4), (23, 0), (23, 1), (23, 2), (23, 4), (24, 3), (24, 4), (25, 0), (25, 3), (25, 4), (26, 1), (26, 3), (26, 4), (27, 0), (27, 1), (27, 3), (27, 4), (28, 2), (28, 3), (28, 4), (29, 0), (29, 2), (29, 3), (29, 4), (30, 1), (30, 2), (30, 3), (30, 4)]
theorem Ua5_b : (List.range 31).all (fun U => (List.range 5).all (fun a => !(U.testBit a) || List.contains Ua5 (U, a))) = true := by decide +kernel
theorem Ua5_in (U : Nat) (hU : U < 31) (a : Nat) (ha : a < 5) (h : U.testBit a = true) : (U, a) ∈ Ua5 := by
  have h1 := all_imp (b := fun a => U.testBit a) (q := fun a => List.contains Ua5 (U, a)) (List.all_eq_true.mp Ua5_b U (List.mem_range.mpr hU)) ha h
  exact List.contains_iff_mem.mp h1
theorem chk3_5 : ∀ x ∈ Ua5, allF 5 x.1 (p3 5 x.1 x.2) 5 0 (fun _ => 0) = true := by
  exact List.forall_mem_cons.mpr ⟨l3_1_0, List.forall_mem_cons.mpr ⟨l3_2_1, List.forall_mem_cons.mpr ⟨l3_3_0, List.forall_mem_cons.mpr ⟨l3_3_1, List.forall_mem_cons.mpr ⟨l3_4_2, List.forall_mem_cons.mpr ⟨l3_5_0, List.forall_mem_cons.mpr ⟨l3_5_2, List.forall_mem_cons.mpr ⟨l3_6_1, List.forall_mem_cons.mpr ⟨l3_6_2, List.forall_mem_cons.mpr ⟨l3_7_0, List.forall_mem_cons.mpr ⟨l3_7_1, List.forall_mem_cons.mpr ⟨l3_7_2, List.forall_mem_cons.mpr ⟨l3_8_3, List.forall_mem_cons.mpr ⟨l3_9_0, List.forall_mem_cons.mpr ⟨l3_9_3, List.forall_mem_cons.mpr ⟨l3_10_1, List.forall_mem_cons.mpr ⟨l3_10_3, List.forall_mem_cons.mpr ⟨l3_11_0, List.forall_mem_cons.mpr ⟨l3_11_1, List.forall_mem_cons.mpr ⟨l3_11_3, List.forall_mem_cons.mpr ⟨l3_12_2, List.forall_mem_cons.mpr ⟨l3_12_3, List.forall_mem_cons.mpr ⟨l3_13_0, List.forall_mem_cons.mpr ⟨l3_13_2, List.forall_mem_cons.mpr ⟨l3_13_3, List.forall_mem_cons.mpr ⟨l3_14_1, List.forall_mem_cons.mpr ⟨l3_14_2, List.forall_mem_cons.mpr ⟨l3_14_3, List.forall_mem_cons.mpr ⟨l3_15_0, List.forall_mem_cons.mpr ⟨l3_15_1, List.forall_mem_cons.mpr ⟨l3_15_2, List.forall_mem_cons.mpr ⟨l3_15_3, List.forall_mem_cons.mpr ⟨l3_16_4, List.forall_mem_cons.mpr ⟨l3_17_0, List.forall_mem_cons.mpr ⟨l3_17_4, List.forall_mem_cons.mpr ⟨l3_18_1, List.forall_mem_cons.mpr ⟨l3_18_4, List.forall_mem_cons.mpr ⟨l3_19_0, List.forall_mem_cons.mpr ⟨l3_19_1, List.forall_mem_cons.mpr ⟨l3_19_4, List.forall_mem_cons.mpr ⟨l3_20_2, List.forall_mem_cons.mpr ⟨l3_20_4, List.forall_mem_cons.mpr ⟨l3_21_0, List.forall_mem_cons.mpr ⟨l3_21_2, List.forall_mem_cons.mpr ⟨l3_21_4, List.forall_mem_cons.mpr ⟨l3_22_1, List.forall_mem_cons.mpr ⟨l3_22_2, List.forall_mem_cons.mpr ⟨l3_22_4, List.forall_mem_cons.mpr ⟨l3_23_0, List.forall_mem_cons.mpr ⟨l3_23_1, List.forall_mem_cons.mpr ⟨l3_23_2, List.forall_mem_cons.mpr ⟨l3_23_4, List.forall_mem_cons.mpr ⟨l3_24_3, List.forall_mem_cons.mpr ⟨l3_24_4, List.forall_mem_cons.mpr ⟨l3_25_0, List.forall_mem_cons.mpr ⟨l3_25_3, List.forall_mem_cons.mpr ⟨l3_25_4, List.forall_mem_cons.mpr ⟨l3_26_1, List.forall_mem_cons.mpr ⟨l3_26_3, List.forall_mem_cons.mpr ⟨l3_26_4, List.forall_mem_cons.mpr ⟨l3_27_0, List.forall_mem_cons.mpr ⟨l3_27_1, List.forall_mem_cons.mpr ⟨l3_27_3, List.forall_mem_cons.mpr ⟨l3_27_4, List.forall_mem_cons.mpr ⟨l3_28_2, List.forall_mem_cons.mpr ⟨l3_28_3, List.forall_mem_cons.mpr ⟨l3_28_4, List.forall_mem_cons.mpr ⟨l3_29_0, List.forall_mem_cons.mpr ⟨l3_29_2, List.forall_mem_cons.mpr ⟨l3_29_3, List.forall_mem_cons.mpr ⟨l3_29_4, List.forall_mem_cons.mpr ⟨l3_30_1, List.forall_mem_cons.mpr ⟨l3_30_2, List.forall_mem_cons.mpr ⟨l3_30_3, List.forall_mem_cons.mpr ⟨l3_30_4, fun _ h => absurd h List.not_mem_nil⟩⟩⟩⟩⟩⟩⟩⟩⟩⟩⟩⟩⟩⟩⟩⟩⟩⟩⟩⟩⟩⟩⟩⟩⟩⟩⟩⟩⟩⟩⟩⟩⟩⟩⟩⟩⟩⟩⟩⟩⟩⟩⟩⟩⟩⟩⟩⟩⟩⟩⟩⟩⟩⟩⟩⟩⟩⟩⟩⟩⟩⟩⟩⟩⟩⟩⟩⟩⟩⟩⟩⟩⟩⟩⟩
theorem chk3 {n U a : Nat} (h0 : 0 < n) (hn : n ≤ 5) (hU : U < 2 ^ n) (hM : U ≠ 2 ^ n - 1) (ha : a < n) (hUa : U.testBit a = true) : allF n U (p3 n U a) n 0 (fun _ => 0) = true := by
  rcases (show n = 1 ∨ n = 2 ∨ n = 3 ∨ n = 4 ∨ n = 5 by omega) with rfl | rfl | rfl | rfl | rfl
  · exact all_imp (all_or leaf3_1 hU hM) ha hUa
  · exact all_imp (all_or leaf3_2 hU hM) ha hUa
  · exact all_imp (all_or leaf3_3 hU hM) ha hUa
  · exact all_imp (all_or leaf3_4 hU hM) ha hUa
  · exact chk3_5 (U, a) (Ua5_in U (by omega) a ha hUa)
def Gs5 (U : Nat) : List Nat := (List.range 32).filter (fun G => G &&& U == 0)
theorem chk2_5 : ∀ x ∈ Ua5, ∀ G ∈ Gs5 x.1, allF 5 x.1 (p2 5 x.1 x.2 G) 5 0 (fun _ => 0) = true := by
  exact List.forall_mem_cons.mpr ⟨fun G hG => List.all_eq_true.mp l2_1_0 G hG, List.forall_mem_cons.mpr ⟨fun G hG => List.all_eq_true.mp l2_2_1 G hG, List.forall_mem_cons.mpr ⟨fun G hG => List.all_eq_true.mp l2_3_0 G hG, List.forall_mem_cons.mpr ⟨fun G hG => List.all_eq_true.mp l2_3_1 G hG, List.forall_mem_cons.mpr ⟨fun G hG => List.all_eq_true.mp l2_4_2 G hG, List.forall_mem_cons.mpr ⟨fun G hG => List.all_eq_true.mp l2_5_0 G hG, List.forall_mem_cons.mpr ⟨fun G hG => List.all_eq_true.mp l2_5_2 G hG, List.forall_mem_cons.mpr ⟨fun G hG => List.all_eq_true.mp l2_6_1 G hG, List.forall_mem_cons.mpr ⟨fun G hG => List.all_eq_true.mp l2_6_2 G hG, List.forall_mem_cons.mpr ⟨fun G hG => List.all_eq_true.mp l2_7_0 G hG, List.forall_mem_cons.mpr ⟨fun G hG => List.all_eq_true.mp l2_7_1 G hG, List.forall_mem_cons.mpr ⟨fun G hG => List.all_eq_true.mp l2_7_2 G hG, List.forall_mem_cons.mpr ⟨fun G hG => List.all_eq_true.mp l2_8_3 G hG, List.forall_mem_cons.mpr ⟨fun G hG => List.all_eq_true.mp l2_9_0 G hG, List.forall_mem_cons.mpr ⟨fun G hG => List.all_eq_true.mp l2_9_3 G hG, List.forall_mem_cons.mpr ⟨fun G hG => List.all_eq_true.mp l2_10_1 G hG, List.forall_mem_cons.mpr ⟨fun G hG => List.all_eq_true.mp l2_10_3 G hG, List.forall_mem_cons.mpr ⟨fun G hG => List.all_eq_true.mp l2_11_0 G hG, List.forall_mem_cons.mpr ⟨fun G hG => List.all_eq_true.mp l2_11_1 G hG, List.forall_mem_cons.mpr ⟨fun G hG => List.all_eq_true.mp l2_11_3 G hG, List.forall_mem_cons.mpr ⟨fun G hG => List.all_eq_true.mp l2_12_2 G hG, List.forall_mem_cons.mpr ⟨fun G hG => List.all_eq_true.mp l2_12_3 G hG, List.forall_mem_cons.mpr ⟨fun G hG => List.all_eq_true.mp l2_13_0 G hG, List.forall_mem_cons.mpr ⟨fun G hG => List.all_eq_true.mp l2_13_2 G hG, List.forall_mem_cons.mpr ⟨fun G hG => List.all_eq_true.mp l2_13_3 G hG, List.forall_mem_cons.mpr ⟨fun G hG => List.all_eq_true.mp l2_14_1 G hG, List.forall_mem_cons.mpr ⟨fun G hG => List.all_eq_true.mp l2_14_2 G hG, List.forall_mem_cons.mpr ⟨fun G hG => List.all_eq_true.mp l2_14_3 G hG, List.forall_mem_cons.mpr ⟨fun G hG => List.all_eq_true.mp l2_15_0 G hG, List.forall_mem_cons.mpr ⟨fun G hG => List.all_eq_true.mp l2_15_1 G hG, List.forall_mem_cons.mpr ⟨fun G hG => List.all_eq_true.mp l2_15_2 G hG, List.forall_mem_cons.mpr ⟨fun G hG => List.all_eq_true.mp l2_15_3 G hG, List.forall_mem_cons.mpr ⟨fun G hG => List.all_eq_true.mp l2_16_4 G hG, List.forall_mem_cons.mpr ⟨fun G hG => List.all_eq_true.mp l2_17_0 G hG, List.forall_mem_cons.mpr ⟨fun G hG => List.all_eq_true.mp l2_17_4 G hG, List.forall_mem_cons.mpr ⟨fun G hG => List.all_eq_true.mp l2_18_1 G hG, List.forall_mem_cons.mpr ⟨fun G hG => List.all_eq_true.mp l2_18_4 G hG, List.forall_mem_cons.mpr ⟨fun G hG => List.all_eq_true.mp l2_19_0 G hG, List.forall_mem_cons.mpr ⟨fun G hG => List.all_eq_true.mp l2_19_1 G hG, List.forall_mem_cons.mpr ⟨fun G hG => List.all_eq_true.mp l2_19_4 G hG, List.forall_mem_cons.mpr ⟨fun G hG => List.all_eq_true.mp l2_20_2 G hG, List.forall_mem_cons.mpr ⟨fun G hG => List.all_eq_true.mp l2_20_4 G hG, List.forall_mem_cons.mpr ⟨fun G hG => List.all_eq_true.mp l2_21_0 G hG, List.forall_mem_cons.mpr ⟨fun G hG => List.all_eq_true.mp l2_21_2 G hG, List.forall_mem_cons.mpr ⟨fun G hG => List.all_eq_true.mp l2_21_4 G hG, List.forall_mem_cons.mpr ⟨fun G hG => List.all_eq_true.mp l2_22_1 G hG, List.forall_mem_cons.mpr ⟨fun G hG => List.all_eq_true.mp l2_22_2 G hG, List.forall_mem_cons.mpr ⟨fun G hG => List.all_eq_true.mp l2_22_4 G hG, List.forall_mem_cons.mpr ⟨fun G hG => List.all_eq_true.mp l2_23_0 G hG, List.forall_mem_cons.mpr ⟨fun G hG => List.all_eq_true.mp l2_23_1 G hG, List.forall_mem_cons.mpr ⟨fun G hG => List.all_eq_true.mp l2_23_2 G hG, List.forall_mem_cons.mpr ⟨fun G hG => List.all_eq_true.mp l2_23_4 G hG, List.forall_mem_cons.mpr ⟨fun G hG => List.all_eq_true.mp l2_24_3 G hG, List.forall_mem_cons.mpr ⟨fun G hG => List.all_eq_true.mp l2_24_4 G hG, List.forall_mem_cons.mpr ⟨fun G hG => List.all_eq_true.mp l2_25_0 G hG, List.forall_mem_cons.mpr ⟨fun G hG => List.all_eq_true.mp l2_25_3 G hG, List.forall_mem_cons.mpr ⟨fun G hG => List.all_eq_true.mp l2_25_4 G hG, List.forall_mem_cons.mpr ⟨fun G hG => List.all_eq_true.mp l2_26_1 G hG, List.forall_mem_cons.mpr ⟨fun G hG => List.all_eq_true.mp l2_26_3 G hG, List.forall_mem_cons.mpr ⟨fun G hG => List.all_eq_true.mp l2_26_4 G hG, List.forall_mem_cons.mpr ⟨fun G hG => List.all_eq_true.mp l2_27_0 G hG, List.forall_mem_cons.mpr ⟨fun G hG => List.all_eq_true.mp l2_27_1 G hG, List.forall_mem_cons.mpr ⟨fun G hG => List.all_eq_true.mp l2_27_3 G hG, List.forall_mem_cons.mpr ⟨fun G hG => List.all_eq_true.mp l2_27_4 G hG, List.forall_mem_cons.mpr ⟨fun G hG => List.all_eq_true.mp l2_28_2 G hG, List.forall_mem_cons.mpr ⟨fun G hG => List.all_eq_true.mp l2_28_3 G hG, List.forall_mem_cons.mpr ⟨fun G hG => List.all_eq_true.mp l2_28_4 G hG, List.forall_mem_cons.mpr ⟨fun G hG => List.all_eq_true.mp l2_29_0 G hG, List.forall_mem_cons.mpr ⟨fun G hG => List.all_eq_true.mp l2_29_2 G hG, List.forall_mem_cons.mpr ⟨fun G hG => List.all_eq_true.mp l2_29_3 G hG, List.forall_mem_cons.mpr ⟨fun G hG => List.all_eq_true.mp l2_29_4 G hG, List.forall_mem_cons.mpr ⟨fun G hG => List.all_eq_true.mp l2_30_1 G hG, List.forall_mem_cons.mpr ⟨fun G hG => List.all_eq_true.mp l2_30_2 G hG, List.forall_mem_cons.mpr ⟨fun G hG => List.all_eq_true.mp l2_30_3 G hG, List.forall_mem_cons.mpr ⟨fun G hG => List.all_eq_true.mp l2_30_4 G hG, fun _ h => absurd h List.not_mem_nil⟩⟩⟩⟩⟩⟩⟩⟩⟩⟩⟩⟩⟩⟩⟩⟩⟩⟩⟩⟩⟩⟩⟩⟩⟩⟩⟩⟩⟩⟩⟩⟩⟩⟩⟩⟩⟩⟩⟩⟩⟩⟩⟩⟩⟩⟩⟩⟩⟩⟩⟩⟩⟩⟩⟩⟩⟩⟩⟩⟩⟩⟩⟩⟩⟩⟩⟩⟩⟩⟩⟩⟩⟩⟩⟩
theorem chk2 {n U a G : Nat} (h0 : 0 < n) (hn : n ≤ 5) (hU : U < 2 ^ n) (hM : U ≠ 2 ^ n - 1) (ha : a < n) (hUa : U.testBit a = true) (hG : G < 2 ^ n) (hGU : G &&& U = 0) : allF n U (p2 n U a G) n 0 (fun _ => 0) = true := by
  have hb : (G &&& U == 0) = true := by rw [beq_iff_eq]; exact hGU
  rcases (show n = 1 ∨ n = 2 ∨ n = 3 ∨ n = 4 ∨ n = 5 by omega) with rfl | rfl | rfl | rfl | rfl
  · exact all_imp (b := fun G => G &&& U == 0) (all_imp (List.all_eq_true.mp leaf2_1 U (List.mem_range.mpr hU)) ha hUa) hG hb
  · exact all_imp (b := fun G => G &&& U == 0) (all_imp (List.all_eq_true.mp leaf2_2 U (List.mem_range.mpr hU)) ha hUa) hG hb
  · exact all_imp (b := fun G => G &&& U == 0) (all_imp (List.all_eq_true.mp leaf2_3 U (List.mem_range.mpr hU)) ha hUa) hG hb
  · exact all_imp (b := fun G => G &&& U == 0) (all_imp (List.all_eq_true.mp leaf2_4 U (List.mem_range.mpr hU)) ha hUa) hG hb
  · exact chk2_5 (U, a) (Ua5_in U (by omega) a ha hUa) G (List.mem_filter.mpr ⟨List.mem_range.mpr hG, hb⟩)
theorem L3 {n U a : Nat} {f : Nat → Nat} (h0 : 0 < n) (hn : n ≤ 5) (hU : U < 2 ^ n) (hM : U ≠ 2 ^ n - 1) (ha : a < n) (hUa : U.testBit a = true) (hf : ∀ i, i < n → U.testBit i = true → f i < n) : exD (fun i j => R3 U a i (f i) j) n n 0 0 = (n3 n U a f : Int) := by
  have h := allF_get hf n 0 (fun _ => 0) (by omega) (chk3 h0 hn hU hM ha hUa)
  unfold p3 at h
  rw [exE_eq, beq_iff_eq] at h
  have hU5 : U < 32 := Nat.lt_of_lt_of_le hU (Nat.pow_le_pow_right (n := 2) (by decide) hn)
  have e3 : n3 n U a f = n3 n U a (nn U f n 0 (fun _ => 0)) := by
    unfold n3
    refine sN_congr (fun w hw => ?_)
    have hs : ∀ i, (an U (2 ^ w)).testBit i = true → U.testBit i = true := fun i q => ((an_bits hU5 (pow_32 (by omega))).mp q).1
    have ee := nn_ok hf
    have c1 : cut3 n U a f w = cut3 n U a (nn U f n 0 (fun _ => 0)) w := by
      unfold cut3
      rw [acyc_congr (fun i hi q => ee i hi (hs i q)), rch_sub hs ee 5 a ha]
    rw [c1]
  rw [e3, ← h]
  exact exD_congr n 0 0 (by omega) (fun i j hi _ => by unfold R3; rw [RU_nn hi])
theorem L2 {n U a G : Nat} {f : Nat → Nat} (h0 : 0 < n) (hn : n ≤ 5) (hU : U < 2 ^ n) (hM : U ≠ 2 ^ n - 1) (ha : a < n) (hUa : U.testBit a = true) (hG : G < 2 ^ n) (hGU : G &&& U = 0) (hf : ∀ i, i < n → U.testBit i = true → f i < n) : acyc n U (fun i => rho G a (f i)) = (acyc n U f && !(G.testBit (rch U f 5 a))) := by
  have h := allF_get hf n 0 (fun _ => 0) (by omega) (chk2 h0 hn hU hM ha hUa hG hGU)
  unfold p2 at h
  rw [beq_iff_eq] at h
  have ee := nn_ok hf
  rw [acyc_congr ee, rch_congr ee 5 a ha, ← h]
  refine acyc_congr (fun i hi q => ?_)
  rw [← (ee i hi q).1]
  refine ⟨rfl, ?_⟩
  unfold rho
  split
  · exact ha
  · exact (ee i hi q).2
