-- reach and hit: the reference's sums are the class's
section LK
variable {n x y : Nat} {W : Nat → Nat → Nat} {J : Nat → Nat}
theorem full_32 : ∀ n, n ≤ 5 → 2 ^ n - 1 < 32 := by decide
theorem uG_v (hn : n ≤ 5) {v : Nat} (hv : v < n) : (uG (Dc n x y W J) n (2 ^ v)).testBit v = false := by
  cases q : (uG (Dc n x y W J) n (2 ^ v)).testBit v with
  | false => rfl
  | true => have := ((uG_bit (Dc_ok hn) (pow_32 (by omega))).mp q).2; rw [pow_bit] at this; simp at this
theorem uG_in (hn : n ≤ 5) {G k : Nat} (hG : G < 32) (h : (uG (Dc n x y W J) n G).testBit k = true) : k < n := ((uG_bit (Dc_ok hn) hG).mp h).1.1
theorem uG_okv (hn : n ≤ 5) {v : Nat} (hv : v < n) : okU n (uG (Dc n x y W J) n (2 ^ v)) := okU_of hn (uG_lt (Dc_ok hn) (pow_32 (by omega))) (fun _ hk => uG_in hn (pow_32 (by omega)) hk) hv (uG_v hn hv)
/-- the set of the reference's unknown nodes -/
theorem uG_eq (hn : n ≤ 5) {v r : Nat} (hv : v < n) (hr : r < 32) (h : ∀ k, r.testBit k = true ↔ k = v ∨ (k < n ∧ (Dc n x y W J k).testBit v = false)) : an (2 ^ n - 1) r = uG (Dc n x y W J) n (2 ^ v) := by
  refine bit_eq (an_lt _ (full_32 n hn) _ hr) (uG_lt (Dc_ok hn) (pow_32 (by omega))) (fun k => ?_)
  rw [an_tb (full_32 n hn) hr, uG_bit (Dc_ok hn) (pow_32 (by omega)), Nat.testBit_two_pow_sub_one, decide_eq_true_eq]
  constructor
  · rintro ⟨h1, h2⟩
    have h3 : ¬ (k = v ∨ (k < n ∧ (Dc n x y W J k).testBit v = false)) := fun z => by rw [(h k).mpr z] at h2; cases h2
    refine ⟨⟨h1, v, ?_, by rw [pow_bit]; simp⟩, ?_⟩
    · cases q : (Dc n x y W J k).testBit v with
      | true => rfl
      | false => exact absurd (Or.inr ⟨h1, q⟩) h3
    · rw [pow_bit]
      exact decide_eq_false (fun z => h3 (Or.inl z.symm))
  · rintro ⟨⟨h1, w, h2, h3⟩, h4⟩
    rw [pow_bit, decide_eq_true_eq] at h3
    rw [pow_bit, decide_eq_false_iff_not] at h4
    subst h3
    refine ⟨h1, ?_⟩
    cases q : r.testBit k with
    | false => rfl
    | true =>
      rcases (h k).mp q with z | z
      · exact absurd z.symm h4
      · rw [h2] at z; cases z.2
theorem fs_full {P : Nat → Nat → Nat} {U : Nat} {G : (Nat → Nat) → Nat} {f : Nat → Nat} (hn : n ≤ 5) : fsU (Pov P (2 ^ n - 1)) n U G n 0 f = fsU P n U G n 0 f := fs_ov (fun i j _ _ hj h => by rw [full_bit n hn j hj] at h; cases h)
/-- chances, the three cases at once -/
theorem ch_ans (hn : n ≤ 5) {u G p : Nat} (hu : u < n) (hG : G < 32) : fracN (Fg n x y W J (uG (Dc n x y W J) n G) u G) (Fo n x y W J (uG (Dc n x y W J) n G)) p = chG n x y W J (Dc n x y W J) u G p := by
  have hp : 0 < Fo n x y W J (uG (Dc n x y W J) n G) := uG_pos okSc (Xc_ok hn) (fun _ _ => rfl) hG
  unfold chG
  by_cases h1 : G.testBit u = true
  · rw [if_pos h1]
    have h2 : (uG (Dc n x y W J) n G).testBit u = false := by
      cases q : (uG (Dc n x y W J) n G).testBit u with
      | false => rfl
      | true => have := ((uG_bit (Dc_ok hn) hG).mp q).2; rw [h1] at this; cases this
    have e : Fg n x y W J (uG (Dc n x y W J) n G) u G = Fo n x y W J (uG (Dc n x y W J) n G) := by
      unfold Fg Fo
      exact fs_congr (fun _ _ _ _ _ => rfl) (fun f => by unfold FG FA; rw [rch_0 h2, h1, Bool.and_true]) n 0 _ (by omega)
    rw [e, fracN_11 hp]
  · rw [if_neg h1]
    by_cases h2 : (uG (Dc n x y W J) n G).testBit u = true
    · rw [if_pos h2]
    · rw [if_neg h2]
      have e : Fg n x y W J (uG (Dc n x y W J) n G) u G = 0 := by
        unfold Fg
        exact (fs_congr (H := fun _ => 0) (fun _ _ _ _ _ => rfl) (fun f => by unfold FG; rw [rch_0 (tb_ne h2), tb_ne h1, Bool.and_false]; rfl) n 0 _ (by omega)).trans (fs_zero n 0 _)
      rw [e, fracN_01 hp]
theorem nI_inj5 : ∀ a, a < 5 → ∀ b, b < 5 → (nI a = nI b ↔ a = b) := by decide +kernel
variable {X : Nat → Nat} {u v S : Nat}
theorem rcs_v (h : rcs X n v (nI v) S) {k : Nat} (hk : S.testBit k = true) : k = v :=
  h.2.2.2.1 (fun j => j = v) rfl (fun a b _ e z _ => absurd (by rw [e]) z) k hk
theorem rcs_hU (hX : okX n X) (hu : u < n) (hv : v < n) (hne : u ≠ v) (h : rcs X n u (nI v) S) {k : Nat} : (hU X n u v).testBit k = true ↔ S.testBit k = true ∧ k ≠ v := by
  have hn := hX.1
  constructor
  · intro hk
    exact bh_least hX (pow_32 (by omega)) (p := fun j => S.testBit j = true ∧ j ≠ v) (fun j hj => by
      rw [pow_bit, decide_eq_true_eq] at hj
      rw [← hj]; exact ⟨h.2.2.1, hne⟩) (fun a b ha p1 p2 p3 => by
      refine ⟨h.2.2.2.2 a b p1.1 (fun z => p1.2 ((nI_inj5 a (by omega) v (by omega)).mp z)) p2, fun z => ?_⟩
      rw [z, pow_bit] at p3
      simp at p3) hk
  · rintro ⟨h1, h2⟩
    have := h.2.2.2.1 (fun j => j = v ∨ (hU X n u v).testBit j = true) (Or.inr hU_u) (fun a b ha p1 p2 p3 => by
      rcases p1 with z | z
      · exact absurd (by rw [z]) p2
      · by_cases e : b = v
        · exact Or.inl e
        · refine Or.inr (bh_closed hX (pow_32 (by omega)) (pow_32 (by omega)) (pow_in hu) (by rw [card_pow u (by omega)]; decide) z p3 ?_)
          rw [pow_bit]
          exact decide_eq_false (fun z => e z.symm)) k h1
    rcases this with z | z
    · exact absurd z h2
    · exact z
theorem sure_iff (hn : n ≤ 5) (hu : u < n) (hv : v < n) (hne : u ≠ v) (h : rcs (Xc n x y W J) n u (nI v) S) : (∀ k, k < n → S.testBit k = true → (Dc n x y W J k).testBit v = true) ↔ an (hU (Xc n x y W J) n u v) (lead (Dc n x y W J) n (2 ^ v)) = 0 := by
  have hX : okX n (Xc n x y W J) := Xc_ok hn
  have hD : okD n (Dc n x y W J) := Dc_ok hn
  rw [an_zero _ (hU_lt hX hu hv) _ (lead_lt hD _)]
  constructor
  · intro z k _ hk
    have := (rcs_hU hX hu hv hne h).mp hk
    have hkn := h.2.1 k this.1
    exact (lead_bit hD hv).mpr ⟨hkn, z k hkn this.1⟩
  · intro z k hk hS
    by_cases e : k = v
    · rw [e]; exact hD.rf hv
    · exact ((lead_bit hD hv).mp (z k (by omega) ((rcs_hU hX hu hv hne h).mpr ⟨hS, e⟩))).2
theorem rcs_ov (hn : n ≤ 5) (hv : v < n) (h : rcs (Xc n x y W J) n u (nI v) S) {i j : Nat} (hi : S.testBit i = true) (hne : i ≠ v) (hj : j < n) (hS : S.testBit j = false) : nr n x y W J i j = 0 := by
  by_cases e : 0 < nr n x y W J i j
  · have hin := h.2.1 i hi
    have := h.2.2.2.2 i j hi (fun z => hne ((nI_inj5 i (by omega) v (by omega)).mp z)) (Xc_bit.mpr ⟨hj, e⟩)
    rw [hS] at this; cases this
  · omega
theorem an_1 (hX : okX n X) (hu : u < n) (hv : v < n) (hne : u ≠ v) (h : rcs X n u (nI v) S) : an S (2 ^ v) = hU X n u v := by
  have hn := hX.1
  refine bit_eq (an_lt _ h.1 _ (pow_32 (by omega))) (hU_lt hX hu hv) (fun k => ?_)
  rw [an_tb h.1 (pow_32 (by omega)), rcs_hU hX hu hv hne h, pow_bit, decide_eq_false_iff_not]
  exact ⟨fun z => ⟨z.1, fun e => z.2 e.symm⟩, fun z => ⟨z.1, fun e => z.2 e.symm⟩⟩
theorem an_2 (hX : okX n X) (hu : u < n) (hv : v < n) (hne : u ≠ v) (h : rcs X n u (nI v) S) {w : Nat} (hw : w < n) : an S (2 ^ v ||| 2 ^ w) = an (hU X n u v) (2 ^ w) := by
  have hn := hX.1
  have h2 := or_32 (pow_32 (show v < 5 by omega)) (pow_32 (show w < 5 by omega))
  refine bit_eq (an_lt _ h.1 _ h2) (an_lt _ (hU_lt hX hu hv) _ (pow_32 (by omega))) (fun k => ?_)
  rw [an_tb h.1 h2, an_tb (hU_lt hX hu hv) (pow_32 (by omega)), rcs_hU hX hu hv hne h, Nat.testBit_or, pow_bit, pow_bit, Bool.or_eq_false_iff, decide_eq_false_iff_not, decide_eq_false_iff_not]
  exact ⟨fun z => ⟨⟨z.1, fun e => z.2.1 e.symm⟩, z.2.2⟩, fun z => ⟨z.1.1, fun e => z.1.2 e.symm, z.2⟩⟩
/-- if all of S lead to v, v is in S -/
theorem rcs_has (hn : n ≤ 5) (hu : u < n) (hv : v < n) (h : rcs (Xc n x y W J) n u (nI v) S) (hs : (Dc n x y W J u).testBit v = true) : S.testBit v = true := by
  cases q : S.testBit v with
  | true => rfl
  | false =>
    have := Dm_least (Xc_ok hn) (u := u) (p := fun j => S.testBit j = true) h.2.2.1 (fun a b ha p1 p2 => h.2.2.2.2 a b p1 (fun z => by
      have := (nI_inj5 a (by omega) v (by omega)).mp z
      rw [this, q] at p1; cases p1) p2) hs
    rw [q] at this; exact this
def sHit (n x y : Nat) (W : Nat → Nat → Nat) (J : Nat → Nat) (U a : Nat) : Nat → Nat := fun w => if U.testBit w = true then Fg n x y W J (an U (2 ^ w)) a (2 ^ w) * tt n x y W J w else 0
end LK
