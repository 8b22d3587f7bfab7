-- end: the reference's forests over all unsettled nodes
theorem lead_cl {n : Nat} {D : Nat → Nat} (h : okD n D) : ∀ m v, v < n → card (D v) ≤ m → ∃ w, (D v).testBit w = true ∧ clB D n w = true
  | 0, v, hv, hm => by
    have := card_pos (D v) (h.lt hv) v (by have := h.1; omega) (h.rf hv)
    omega
  | m + 1, v, hv, hm => by
    by_cases hc : clB D n v = true
    · exact ⟨v, h.rf hv, hc⟩
    · have hx : ∃ w, (D v).testBit w = true ∧ (D w).testBit v = false := by
        refine Classical.byContradiction (fun z => hc ((clB_iff h hv).mpr (fun w hw => ?_)))
        cases q : (D w).testBit v with
        | true => rfl
        | false => exact absurd ⟨w, hw, q⟩ z
      obtain ⟨w, h1, h2⟩ := hx
      have hw := h.in hv h1
      have e : D w ||| D v = D v := by
        refine bit_eq (or_32 (h.lt hw) (h.lt hv)) (h.lt hv) (fun k => ?_)
        rw [or_bits]
        exact ⟨fun z => by rcases z with z | z; exact h.2.2 v w k hv h1 z; exact z, fun z => Or.inr z⟩
      have lt : card (D w) < card (D v) := by
        rcases card_sub (D w) (h.lt hw) (D v) (h.lt hv) e with z | z
        · rw [← z, h.rf hv] at h2; cases h2
        · exact z
      obtain ⟨x, k1, k2⟩ := lead_cl h m w hw (by omega)
      exact ⟨x, h.2.2 v w x hv h1 k1, k2⟩
section RR
variable {n U U1 U2 S : Nat} {f : Nat → Nat}
theorem rch_in1 (hs : ∀ i, U1.testBit i = true → U.testBit i = true) : ∀ k v, U1.testBit (rch U1 f k v) = true → rch U f k v = rch U1 f k v
  | 0, _, _ => rfl
  | k + 1, v, h => by
    by_cases q : U1.testBit v = true
    · rw [rch_1 q] at h
      rw [rch_1 q, rch_1 (hs v q)]
      exact rch_in1 hs k (f v) h
    · rw [rch_0 (tb_ne q)] at h
      exact absurd h q
theorem rch_two (hs : ∀ i, U1.testBit i = true → U.testBit i = true) : ∀ k v j, ∃ j', j ≤ j' ∧ rch U f (k + j) v = rch U f j' (rch U1 f k v)
  | 0, v, j => ⟨j, Nat.le_refl j, by rw [Nat.zero_add]; rfl⟩
  | k + 1, v, j => by
    by_cases q : U1.testBit v = true
    · obtain ⟨j', h1, h2⟩ := rch_two hs k (f v) j
      exact ⟨j', h1, by rw [show k + 1 + j = (k + j) + 1 by omega, rch_1 (hs v q), rch_1 q]; exact h2⟩
    · exact ⟨k + 1 + j, by omega, by rw [rch_0 (U := U1) (tb_ne q)]⟩
theorem rch_stay {Z : Nat → Prop} (hU : ∀ i, U.testBit i = true ↔ U1.testBit i = true ∨ U2.testBit i = true) (hZ1 : ∀ x, Z x → U1.testBit x = false) (hf : ∀ i, i < n → U2.testBit i = true → f i < n ∧ Z (f i)) : ∀ k x, x < n → Z x → rch U f k x = rch U2 f k x ∧ Z (rch U2 f k x)
  | 0, x, _, hz => ⟨rfl, hz⟩
  | k + 1, x, hx, hz => by
    by_cases q : U2.testBit x = true
    · rw [rch_1 q, rch_1 ((hU x).mpr (Or.inr q))]
      exact rch_stay hU hZ1 hf k (f x) (hf x hx q).1 (hf x hx q).2
    · have q2 : U.testBit x = false := tb_ne (fun z => by
        rcases (hU x).mp z with z | z
        · rw [hZ1 x hz] at z; cases z
        · exact q z)
      rw [rch_0 q2, rch_0 (tb_ne q)]
      exact ⟨rfl, hz⟩
theorem rch_out : ∀ k v i, U.testBit (rch U f k v) = false → rch U f (k + i) v = rch U f k v
  | 0, v, i, h => by rw [Nat.zero_add]; exact rch_0 h
  | k + 1, v, i, h => by
    by_cases q : U.testBit v = true
    · rw [rch_1 q] at h
      rw [show k + 1 + i = (k + i) + 1 by omega, rch_1 q, rch_1 q]
      exact rch_out k (f v) i h
    · rw [rch_0 (tb_ne q), rch_0 (tb_ne q)]
theorem rch_lt (hf : ∀ i, i < n → U.testBit i = true → f i < n) : ∀ k v, v < n → rch U f k v < n
  | 0, _, hv => hv
  | k + 1, v, hv => by
    by_cases q : U.testBit v = true
    · rw [rch_1 q]; exact rch_lt hf k (f v) (hf v hv q)
    · rw [rch_0 (tb_ne q)]; exact hv
def exM (U n : Nat) (f : Nat → Nat) (k : Nat) : Nat := mk (fun v => !U.testBit (rch U f k v)) n
theorem exM_bit {k v : Nat} : (exM U n f k).testBit v = true ↔ v < n ∧ U.testBit (rch U f k v) = false := by
  unfold exM
  rw [mk_bit]
  simp
theorem exit_stable (hn : n ≤ 5) {o : Nat} (ho : o < n) (hoU : U.testBit o = false) (hf : ∀ i, i < n → U.testBit i = true → f i < n) {v j : Nat} (hv : v < n) (h : U.testBit (rch U f (5 + j) v) = false) : U.testBit (rch U f 5 v) = false := by
  have h32 : ∀ k, exM U n f k < 32 := fun k => mk_32 _ hn
  have hfix : ∀ k, exM U n f (k + 1) = exM U n f k → exM U n f (k + 2) = exM U n f (k + 1) := fun k e => bit_eq (h32 _) (h32 _) (fun v => by
    rw [exM_bit, exM_bit]
    refine ⟨fun z => ⟨z.1, ?_⟩, fun z => ⟨z.1, by rw [show k + 2 = k + 1 + 1 by omega, rch_out (k + 1) v 1 z.2]; exact z.2⟩⟩
    by_cases q : U.testBit v = true
    · have h1 := z.2
      rw [rch_1 q] at h1 ⊢
      have h2 : (exM U n f (k + 1)).testBit (f v) = true := exM_bit.mpr ⟨hf v z.1 q, h1⟩
      rw [e] at h2
      exact (exM_bit.mp h2).2
    · rw [rch_0 (tb_ne q)]; exact tb_ne q)
  have st := grow_stable (m := exM U n f) hn h32 (fun k j hj => (exM_bit.mp hj).1) (fun k => bit_eq (or_32 (h32 _) (h32 _)) (h32 _) (fun v => by
    rw [or_bits, exM_bit, exM_bit]
    exact ⟨fun z => by
      rcases z with z | z
      · exact ⟨z.1, by rw [rch_out k v 1 z.2]; exact z.2⟩
      · exact z, fun z => Or.inr z⟩)) hfix (card_pos _ (h32 0) o (by omega) (exM_bit.mpr ⟨ho, hoU⟩))
  have all : ∀ i, exM U n f (n + i + 1) = exM U n f (n + i) := fun i => by
    induction i with
    | zero => exact st
    | succ i ih => exact hfix (n + i) ih
  have same : ∀ i, exM U n f (n + i) = exM U n f n := fun i => by
    induction i with
    | zero => rfl
    | succ i ih => exact (all i).trans ih
  have e : exM U n f (5 + j) = exM U n f 5 := by
    have a := same (5 - n + j)
    have b := same (5 - n)
    rw [show n + (5 - n + j) = 5 + j by omega] at a
    rw [show n + (5 - n) = 5 by omega] at b
    rw [a, b]
  have h1 : (exM U n f (5 + j)).testBit v = true := exM_bit.mpr ⟨hv, h⟩
  rw [e] at h1
  exact (exM_bit.mp h1).2
/-- U falls apart into U1 and U2, and no step goes from U2 to U1 or S -/
def spl (n U U1 U2 S : Nat) (f : Nat → Nat) : Prop := n ≤ 5 ∧ (∃ o, o < n ∧ U.testBit o = false) ∧ (∀ i, U.testBit i = true ↔ U1.testBit i = true ∨ U2.testBit i = true) ∧ (∀ i, i < n → U.testBit i = true → f i < n) ∧ (∀ i, i < n → U2.testBit i = true → U1.testBit (f i) = false ∧ S.testBit (f i) = false) ∧ ∀ i, S.testBit i = true → U.testBit i = false
theorem spl.n5 (h : spl n U U1 U2 S f) : n ≤ 5 := h.1
theorem spl.o (h : spl n U U1 U2 S f) : ∃ o, o < n ∧ U.testBit o = false := h.2.1
theorem spl.hU (h : spl n U U1 U2 S f) : ∀ i, U.testBit i = true ↔ U1.testBit i = true ∨ U2.testBit i = true := h.2.2.1
theorem spl.lt (h : spl n U U1 U2 S f) : ∀ i, i < n → U.testBit i = true → f i < n := h.2.2.2.1
theorem spl.away (h : spl n U U1 U2 S f) : ∀ i, i < n → U2.testBit i = true → U1.testBit (f i) = false ∧ S.testBit (f i) = false := h.2.2.2.2.1
theorem spl.apart (h : spl n U U1 U2 S f) : ∀ i, S.testBit i = true → U.testBit i = false := h.2.2.2.2.2
theorem spl.s1 (h : spl n U U1 U2 S f) : ∀ i, U1.testBit i = true → U.testBit i = true := fun i q => (h.hU i).mpr (Or.inl q)
theorem spl.s2 (h : spl n U U1 U2 S f) : ∀ i, U2.testBit i = true → U.testBit i = true := fun i q => (h.hU i).mpr (Or.inr q)
theorem spl.tail (h : spl n U U1 U2 S f) (h2 : acyc n U2 f = true) {x k : Nat} (hx : x < n) (hx1 : U1.testBit x = false) (hk : 5 ≤ k) : U.testBit (rch U f k x) = false := by
  obtain ⟨e1, e2⟩ := rch_stay (Z := fun x => U1.testBit x = false) h.hU (fun _ z => z) (fun i hi q => ⟨h.lt i hi (h.s2 i q), (h.away i hi q).1⟩) k x hx hx1
  have e3 : U2.testBit (rch U2 f k x) = false := by
    by_cases q : U2.testBit x = true
    · have e4 := acyc_iff.mp h2 x hx q
      have e5 := rch_out 5 x (k - 5) e4
      rw [show 5 + (k - 5) = k by omega] at e5
      rw [e5]; exact e4
    · rw [rch_0 (tb_ne q)]; exact tb_ne q
  rw [e1]
  refine tb_ne (fun z => ?_)
  rcases (h.hU _).mp z with z | z
  · rw [e2] at z; cases z
  · rw [e3] at z; cases z
theorem spl.ac (h : spl n U U1 U2 S f) : acyc n U f = (acyc n U1 f && acyc n U2 f) := by
  refine Bool.eq_iff_iff.mpr ?_
  rw [Bool.and_eq_true]
  constructor
  · intro a
    refine ⟨acyc_iff.mpr (fun v hv q => tb_ne (fun z => ?_)), acyc_iff.mpr (fun v hv q => tb_ne (fun z => ?_))⟩
    · have := acyc_iff.mp a v hv (h.s1 v q)
      rw [rch_in1 h.s1 5 v z, h.s1 _ z] at this; cases this
    · have := acyc_iff.mp a v hv (h.s2 v q)
      rw [rch_in1 h.s2 5 v z, h.s2 _ z] at this; cases this
  · rintro ⟨a1, a2⟩
    refine acyc_iff.mpr (fun v hv q => ?_)
    by_cases q1 : U1.testBit v = true
    · obtain ⟨j', hj, e⟩ := rch_two (f := f) h.s1 5 v 5
      obtain ⟨o, ho, hoU⟩ := h.o
      refine exit_stable h.n5 ho hoU h.lt (j := 5) hv ?_
      rw [e]
      exact h.tail a2 (rch_lt (fun i hi q => h.lt i hi (h.s1 i q)) 5 v hv) (acyc_iff.mp a1 v hv q1) hj
    · exact h.tail a2 hv (tb_ne q1) (Nat.le_refl 5)
theorem spl.goal (h : spl n U U1 U2 S f) (a1 : acyc n U1 f = true) (a2 : acyc n U2 f = true) {u : Nat} (hu : u < n) (hu1 : U1.testBit u = true) : S.testBit (rch U f 5 u) = S.testBit (rch U1 f 5 u) := by
  have a : acyc n U f = true := by rw [h.ac, a1, a2]; rfl
  have e0 := rch_out 5 u 5 (acyc_iff.mp a u hu (h.s1 u hu1))
  obtain ⟨j', hj, e⟩ := rch_two (f := f) h.s1 5 u 5
  have hx := rch_lt (fun i hi q => h.lt i hi (h.s1 i q)) 5 u hu
  have hx1 := acyc_iff.mp a1 u hu hu1
  rw [← e0, e]
  by_cases q : S.testBit (rch U1 f 5 u) = true
  · rw [rch_0 (h.apart _ q)]
  · obtain ⟨e1, e2⟩ := rch_stay (Z := fun x => U1.testBit x = false ∧ S.testBit x = false) h.hU (fun _ z => z.1) (fun i hi q => ⟨h.lt i hi (h.s2 i q), h.away i hi q⟩) j' _ hx ⟨hx1, tb_ne q⟩
    rw [e1, e2.2, tb_ne q]
theorem spl.never (h : spl n U U1 U2 S f) {u : Nat} (hu : u < n) (hu1 : U1.testBit u = false) (hus : S.testBit u = false) : S.testBit (rch U f 5 u) = false := by
  obtain ⟨e1, e2⟩ := rch_stay (Z := fun x => U1.testBit x = false ∧ S.testBit x = false) h.hU (fun _ z => z.1) (fun i hi q => ⟨h.lt i hi (h.s2 i q), h.away i hi q⟩) 5 u hu ⟨hu1, hus⟩
  rw [e1]; exact e2.2
theorem FA_spl (h : spl n U U1 U2 S f) : FA n U f = FA n U1 f * FA n U2 f := by
  unfold FA
  rw [h.ac]
  cases acyc n U1 f <;> cases acyc n U2 f <;> rfl
theorem FG_spl (h : spl n U U1 U2 S f) {u : Nat} (hu : u < n) (hu1 : U1.testBit u = true) : FG n U u S f = FG n U1 u S f * FA n U2 f := by
  unfold FG FA
  rw [h.ac]
  cases a1 : acyc n U1 f with
  | false => simp
  | true =>
    cases a2 : acyc n U2 f with
    | false => simp
    | true => rw [h.goal a1 a2 hu hu1]; simp
end RR
section EN
variable {n x y : Nat} {W : Nat → Nat → Nat} {J : Nat → Nat} {q : Nat} {M L : Nat → Nat} {O : Nat → Int32}
/-- the reference's set of unsettled nodes -/
theorem end_ans (hn : n ≤ 5) (C : IC n (Dc n x y W J) n q M L O) {r u s p : Nat} (hr : r < 32) (hrb : ∀ k, r.testBit k = true ↔ ∃ i, i < q ∧ (M i).testBit k = true) (hs : s < q) (hu : u < n) : fracN (Fg n x y W J (an (2 ^ n - 1) r) u (M s)) (Fo n x y W J (an (2 ^ n - 1) r)) p = chG n x y W J (Dc n x y W J) u (M s) p ∧ 0 < Fo n x y W J (an (2 ^ n - 1) r) ∧ okU n (an (2 ^ n - 1) r) := by
  have hD : okD n (Dc n x y W J) := Dc_ok hn
  have hX : okX n (Xc n x y W J) := Xc_ok hn
  obtain ⟨l, hl, l2, -, eM, -⟩ := IC_set C hs
  have lc := ((ldB_iff hD hl).mp l2).1
  have hS : M s < 32 := by rw [eM]; exact hD.lt hl
  have h32 := full_32 n hn
  have hUb : ∀ k, (an (2 ^ n - 1) r).testBit k = true ↔ k < n ∧ ¬ ∃ i, i < q ∧ (M i).testBit k = true := fun k => by
    rw [an_tb h32 hr, Nat.testBit_two_pow_sub_one, decide_eq_true_eq, ← hrb k]
    exact ⟨fun z => ⟨z.1, by rw [z.2]; decide⟩, fun z => ⟨z.1, tb_ne z.2⟩⟩
  have hSU : ∀ i, (M s).testBit i = true → (an (2 ^ n - 1) r).testBit i = false := fun i hi => tb_ne (fun z => ((hUb i).mp z).2 ⟨s, hs, hi⟩)
  have hlS : (M s).testBit l = true := by rw [eM]; exact hD.rf hl
  have hU32 : an (2 ^ n - 1) r < 32 := an_lt _ h32 _ hr
  have hUk : okU n (an (2 ^ n - 1) r) := okU_of hn hU32 (fun k hk => ((hUb k).mp hk).1) hl (hSU l hlS)
  have hu32 := uG_lt hD (G := M s) hS
  have sub1 : ∀ i, (uG (Dc n x y W J) n (M s)).testBit i = true → (an (2 ^ n - 1) r).testBit i = true := fun i hi => by
    obtain ⟨⟨h1, w, h2, h3⟩, h4⟩ := (uG_bit hD hS).mp hi
    refine (hUb i).mpr ⟨h1, ?_⟩
    rintro ⟨j, hj, hji⟩
    obtain ⟨l', hl', l2', -, eM', -⟩ := IC_set C hj
    rw [eM'] at hji
    have e1 := (cl_same hD hl' ((ldB_iff hD hl').mp l2').1 hji).1
    rw [e1] at h2
    rw [eM] at h3
    have e2 := ld_uniq hD hl' hl l2' l2 h2 h3
    rw [eM, ← e2, hji] at h4
    cases h4
  have hU : ∀ i, (an (2 ^ n - 1) r).testBit i = true ↔ (uG (Dc n x y W J) n (M s)).testBit i = true ∨ (an (an (2 ^ n - 1) r) (uG (Dc n x y W J) n (M s))).testBit i = true := fun i => by
    rw [an_tb hU32 hu32]
    constructor
    · intro z
      by_cases e : (uG (Dc n x y W J) n (M s)).testBit i = true
      · exact Or.inl e
      · exact Or.inr ⟨z, tb_ne e⟩
    · rintro (z | z)
      · exact sub1 i z
      · exact z.1
  have hsp : ∀ f, psv (nr n x y W J) n (an (2 ^ n - 1) r) n f → spl n (an (2 ^ n - 1) r) (uG (Dc n x y W J) n (M s)) (an (an (2 ^ n - 1) r) (uG (Dc n x y W J) n (M s))) (M s) f := fun f hf => by
    refine ⟨hn, ⟨l, hl, hSU l hlS⟩, hU, fun i hi z => (hf i hi z).1, fun i hi z => ?_, hSU⟩
    obtain ⟨z1, z2⟩ := (an_tb hU32 hu32).mp z
    obtain ⟨f1, f2⟩ := hf i hi z1
    have st : (Dc n x y W J i).testBit (f i) = true := Dm_step hX hi Dm_rf (Xc_bit.mpr ⟨f1, f2⟩)
    have key : ∀ w, (Dc n x y W J (f i)).testBit w = true → (M s).testBit w = true → False := fun w w1 w2 => by
      have : (uG (Dc n x y W J) n (M s)).testBit i = true := (uG_bit hD hS).mpr ⟨⟨hi, w, hD.2.2 i (f i) w hi st w1, w2⟩, tb_ne (fun k => by rw [hSU i k] at z1; cases z1)⟩
      rw [z2] at this; cases this
    refine ⟨tb_ne (fun k => ?_), tb_ne (fun k => key (f i) (hD.rf f1) k)⟩
    obtain ⟨⟨-, w, w1, w2⟩, -⟩ := (uG_bit hD hS).mp k
    exact key w w1 w2
  have hpos : 0 < Fo n x y W J (an (2 ^ n - 1) r) := Fo_pos okSc hn (fun v hv _ => by
    obtain ⟨w, w1, w2⟩ := lead_cl hD (card (Dc n x y W J v)) v hv (Nat.le_refl _)
    have hw := hD.in hv w1
    refine ⟨w, w1, tb_ne (fun z => ((hUb w).mp z).2 ?_)⟩
    obtain ⟨l', k1, k2, k3, k4⟩ := cl_least hD hw w2
    exact ⟨cntB (ldB (Dc n x y W J) n) l', by rw [C.1]; exact cntB_lt _ (by omega) k2, by rw [(C.2.1 l' (by omega) k2).1, k4]; exact hD.rf hw⟩)
  refine ⟨?_, hpos, hUk⟩
  have hdis : ∀ i, i < n → (uG (Dc n x y W J) n (M s)).testBit i = true → (an (an (2 ^ n - 1) r) (uG (Dc n x y W J) n (M s))).testBit i = false := fun i _ z => tb_ne (fun k => by rw [((an_tb hU32 hu32).mp k).2] at z; cases z)
  have eFo : Fo n x y W J (an (2 ^ n - 1) r) = Fo n x y W J (uG (Dc n x y W J) n (M s)) * Fo n x y W J (an (an (2 ^ n - 1) r) (uG (Dc n x y W J) n (M s))) := by
    unfold Fo
    rw [fs_p0 (fun f hf => FA_spl (hsp f hf))]
    exact fs_factor (fun i _ => hU i) hdis FA_dep FA_dep n 0 _ (by omega) (fun i hi => absurd hi (Nat.not_lt_zero i))
  have hK : 0 < Fo n x y W J (an (an (2 ^ n - 1) r) (uG (Dc n x y W J) n (M s))) := by
    rw [eFo] at hpos
    exact Nat.pos_of_mul_pos_left hpos
  rw [← ch_ans hn hu hS]
  by_cases h1 : (uG (Dc n x y W J) n (M s)).testBit u = true
  · have eFg : Fg n x y W J (an (2 ^ n - 1) r) u (M s) = Fg n x y W J (uG (Dc n x y W J) n (M s)) u (M s) * Fo n x y W J (an (an (2 ^ n - 1) r) (uG (Dc n x y W J) n (M s))) := by
      unfold Fg Fo
      rw [fs_p0 (fun f hf => FG_spl (hsp f hf) hu h1)]
      exact fs_factor (fun i _ => hU i) hdis (FG_dep hu) FA_dep n 0 _ (by omega) (fun i hi => absurd hi (Nat.not_lt_zero i))
    rw [eFg, eFo, fracN_mul hK]
  · rw [ch_ans hn hu hS]
    unfold chG
    by_cases h2 : (M s).testBit u = true
    · have e : Fg n x y W J (an (2 ^ n - 1) r) u (M s) = Fo n x y W J (an (2 ^ n - 1) r) := by
        unfold Fg Fo
        exact fs_congr (fun _ _ _ _ _ => rfl) (fun f => by unfold FG FA; rw [rch_0 (hSU u h2), h2, Bool.and_true]) n 0 _ (by omega)
      rw [if_pos h2, e, fracN_11 hpos]
    · have e : Fg n x y W J (an (2 ^ n - 1) r) u (M s) = 0 := by
        unfold Fg
        exact (fs_p0 (H := fun _ => 0) (fun f hf => by unfold FG; rw [(hsp f hf).never hu (tb_ne h1) (tb_ne h2), Bool.and_false]; rfl) _).trans (fs_zero n 0 _)
      rw [if_neg h2, if_neg h1, e, fracN_01 hpos]
end EN
