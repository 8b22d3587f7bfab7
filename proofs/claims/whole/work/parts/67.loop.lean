-- laid by wip/whole/m23.py
theorem and31 (z : Int32) : ∃ c, c < 32 ∧ z &&& nI 31 = nI c := by
  refine ⟨(z &&& nI 31).toBitVec.toNat, ?_, ?_⟩
  · rw [Int32.toBitVec_and, BitVec.toNat_and]
    exact Nat.lt_of_le_of_lt Nat.and_le_right (by decide)
  · exact Int32.toBitVec_inj.mp (by simp [nI])
theorem lp_in {i N : Nat} (hN : N ≤ 2560) (hi : i ≤ N) (h : ¬ (Int32.ofNat N - nI 5 < nI i)) : i + 5 ≤ N := by
  rcases Nat.lt_or_ge N 5 with z | z
  · exact absurd ((by decide : ∀ N, N < 5 → ∀ i, i ≤ N → Int32.ofNat N - nI 5 < nI i) N z i hi) h
  · have e : Int32.ofNat N - nI 5 = nI (N - 5) := by
      have : nI (N - 5) + nI 5 = nI N := by
        show Int32.ofNat (N - 5) + Int32.ofNat 5 = Int32.ofNat N
        rw [← Int32.ofNat_add, show N - 5 + 5 = N by omega]
      show nI N - nI 5 = nI (N - 5)
      rw [← this, Int32.add_sub_cancel]
    rw [e] at h
    have h2 := Int32.not_lt.mp h
    have h3 : (nI i).toInt ≤ (nI (N - 5)).toInt := Int32.le_iff_toInt_le.mp h2
    rw [nI_toInt (by omega), nI_toInt (by omega)] at h3
    omega

set_option maxHeartbeats 4000000 in
set_option maxRecDepth 100000 in
theorem law_loop {g : aw_G} (hg : aw_T g) {ad : Nat → Nat} {b N : Nat} {xs : Nat → Int32} {F : List Frame → Array Value → State → (Nat → Prop) → State → Prop} (hN : N ≤ 2560) (hret : ∀ (lv : List (Nat × Value)) (ws : va_W), AW g y_L_law c_L_law 4 ret room_1 (aw_EX b N xs) F 51 304 745 lv [.int (nI 1)] ws) : ∀ (k i : Nat) (ws : va_W) (n x y : Nat) (W : Nat → Nat → Nat) (J : Nat → Nat), i ≤ N → N - i < k → gB g ws ad n x y W J → AW g y_L_law c_L_law 4 ret room_1 (aw_EX b N xs) F 51 304 18 [(0, .ref b), (1, .ref (ad 0)), (2, .ref (ad 40)), (3, .int (nI i))] [] ws := by
  intro k
  induction k with
  | zero => intro i ws n x y W J _ h; omega
  | succ k ih =>
    intro i ws n x y W J hi0 hk hB
    refine aw_iload_n d_L_law_18 rfl rfl ?_
    refine aw_aload_n d_L_law_19 rfl rfl ?_
    refine aw_slen d_L_law_20 ?_
    refine aw_iconst (v := nI 5) d_L_law_21 (by decide) ?_
    refine aw_isub d_L_law_22 ?_
    refine aw_icmp_gt (tgt := 744) d_L_law_23 (by decide) (fun h => ?_) (fun h => ?_)
    · refine aw_iconst (v := nI 1) d_L_law_744 (by decide) ?_
      exact hret _ _
    · have hi := lp_in hN hi0 (by exact h)
      have K : ∀ (ws' : va_W) (n x y : Nat) (W : Nat → Nat → Nat) (J : Nat → Nat), gB g ws' ad n x y W J → AW g y_L_law c_L_law 4 ret room_1 (aw_EX b N xs) F 51 304 738 [(0, .ref b), (1, .ref (ad 0)), (2, .ref (ad 40)), (3, .int (nI i))] [] ws' := fun ws' n x y W J hB => aw_iinc (v := nI (i + 5)) (lv' := [(3, .int (nI (i + 5))), (0, .ref b), (1, .ref (ad 0)), (2, .ref (ad 40))]) d_L_law_738 rfl (nI_5 i) (by decide) rfl (aw_goto (tgt := 18) d_L_law_741 (by decide) (aw_sub (lv' := [(0, .ref b), (1, .ref (ad 0)), (2, .ref (ad 40)), (3, .int (nI (i + 5)))]) [1, 2, 3, 0] rfl (ih (i + 5) ws' n x y W J hi (by omega) hB)))
      refine aw_aload_n d_L_law_26 rfl rfl ?_
      refine aw_iload_n d_L_law_27 rfl rfl ?_
      refine aw_sld d_L_law_28 (vpi (by omega) hN) ?_
      refine aw_nmi (z := xs i) (by rw [nI_clamp (by omega)]) ?_
      refine aw_bipush (v := nI 31) d_L_law_29 (by decide) ?_
      refine aw_iand d_L_law_31 ?_
      obtain ⟨c, hc, ec⟩ := and31 (xs i)
      refine aw_nmi (z := nI c) ec ?_
      rcases (show c = 0 ∨ c = 1 ∨ c = 2 ∨ c = 3 ∨ c = 4 ∨ c = 5 ∨ c = 6 ∨ c = 7 ∨ c = 8 ∨ c = 9 ∨ c = 10 ∨ c = 11 ∨ c = 12 ∨ c = 13 ∨ c = 14 ∨ c = 15 ∨ c = 16 ∨ c = 17 ∨ c = 18 ∨ 19 ≤ c by omega) with rfl | rfl | rfl | rfl | rfl | rfl | rfl | rfl | rfl | rfl | rfl | rfl | rfl | rfl | rfl | rfl | rfl | rfl | rfl | h19
      · exact aw_tableIn (tgt := 124) d_L_law_32 (by decide) (by decide) rfl (by decide) (law_node hg hN hi hB K)
      · exact aw_tableIn (tgt := 137) d_L_law_32 (by decide) (by decide) rfl (by decide) (law_weight hg hN hi hB K)
      · exact aw_tableIn (tgt := 180) d_L_law_32 (by decide) (by decide) rfl (by decide) (law_jump hg hN hi hB K)
      · exact aw_tableIn (tgt := 213) d_L_law_32 (by decide) (by decide) rfl (by decide) (law_keep hg hN hi hB K)
      · exact aw_tableIn (tgt := 246) d_L_law_32 (by decide) (by decide) rfl (by decide) (law_clear hg hN hi hB K)
      · exact aw_tableIn (tgt := 259) d_L_law_32 (by decide) (by decide) rfl (by decide) (law_row hg hN hi hB K)
      · exact aw_tableIn (tgt := 292) d_L_law_32 (by decide) (by decide) rfl (by decide) (law_total hg hN hi hB K)
      · exact aw_tableIn (tgt := 315) d_L_law_32 (by decide) (by decide) rfl (by decide) (law_closed hg hN hi hB K)
      · exact aw_tableIn (tgt := 328) d_L_law_32 (by decide) (by decide) rfl (by decide) (law_closedOf hg hN hi hB K)
      · exact aw_tableIn (tgt := 351) d_L_law_32 (by decide) (by decide) rfl (by decide) (law_period hg hN hi hB K)
      · exact aw_tableIn (tgt := 374) d_L_law_32 (by decide) (by decide) rfl (by decide) (law_rank hg hN hi hB K)
      · exact aw_tableIn (tgt := 408) d_L_law_32 (by decide) (by decide) rfl (by decide) (law_place hg hN hi hB K)
      · exact aw_tableIn (tgt := 431) d_L_law_32 (by decide) (by decide) rfl (by decide) (law_reach hg hN hi hB K)
      · exact aw_tableIn (tgt := 475) d_L_law_32 (by decide) (by decide) rfl (by decide) (law_hit hg hN hi hB K)
      · exact aw_tableIn (tgt := 519) d_L_law_32 (by decide) (by decide) rfl (by decide) (law_back hg hN hi hB K)
      · exact aw_tableIn (tgt := 553) d_L_law_32 (by decide) (by decide) rfl (by decide) (law_end hg hN hi hB K)
      · exact aw_tableIn (tgt := 597) d_L_law_32 (by decide) (by decide) rfl (by decide) (law_after hg hN hi hB K)
      · exact aw_tableIn (tgt := 651) d_L_law_32 (by decide) (by decide) rfl (by decide) (law_walks hg hN hi hB K)
      · exact aw_tableIn (tgt := 695) d_L_law_32 (by decide) (by decide) rfl (by decide) (law_drawn hg hN hi hB K)
      · exact aw_tableOut (tgt := 738) d_L_law_32 (Or.inr (by rw [nI_toInt (by omega)]; omega)) (by decide) (K ws n x y W J hB)
