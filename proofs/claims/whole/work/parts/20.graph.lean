-- laid by wip/whole/m1.py
set_option maxHeartbeats 4000000 in
set_option maxRecDepth 100000 in
theorem m_G_outOf {g : aw_G} (hg : aw_T g) {ws : va_W} {ad : Nat → Nat} {n x y u : Nat} {W : Nat → Nat → Nat} {J : Nat → Nat} (hG : gG g ws ad n x y W J) (hn : n ≤ 5) (hu : u < 5) : AMet g y_G_outOf c_G_outOf 4 (some .int) 0 [.ref (ad 1), .int (nI u)] ws (aw_R (.int (nI (sN (W u) n))) ws) 0 0 := by
  refine amet_of (by decide +kernel) (Nat.le_of_ble_eq_true rfl) ?_
  refine aw_sub (lv' := [(0, .ref (ad 1)), (1, .int (nI u))]) [0, 1] rfl ?_
  refine aw_iconst (v := nI 0) d_G_outOf_0 (by decide) ?_
  refine aw_istore_n (lv' := [(2, .int (nI 0)), (0, .ref (ad 1)), (1, .int (nI u))]) d_G_outOf_1 rfl (by decide) rfl ?_
  refine aw_iconst (v := nI 0) d_G_outOf_2 (by decide) ?_
  refine aw_istore_n (lv' := [(3, .int (nI 0)), (2, .int (nI 0)), (0, .ref (ad 1)), (1, .int (nI u))]) d_G_outOf_3 rfl (by decide) rfl ?_
  have lp : ∀ (k : Nat) (i : Nat), i ≤ n → n - i < k → AW g y_G_outOf c_G_outOf 4 (some .int) (aw_rm 0 0 0) aw_E0 (aw_F g (aw_R (.int (nI (sN (W u) n))) ws) 0 0) 0 0 4 [(0, .ref (ad 1)), (1, .int (nI u)), (2, .int (nI (sN (W u) i))), (3, .int (nI i))] [] ws := by
    intro k
    induction k with
    | zero => intro i hi hk; omega
    | succ k ih =>
      intro i hi hk
      refine aw_iload_n d_G_outOf_4 rfl rfl ?_
      refine aw_aload_n d_G_outOf_5 rfl rfl ?_
      refine aw_get kc_1 0 (by decide) k_24 d_G_outOf_6 hG.1 rfl ?_
      refine aw_icmp_geN (tgt := 29) d_G_outOf_9 (by decide) (by omega) (by omega) (fun h => ?_) (fun h => ?_)
      · have e : i = n := by omega
        subst e
        refine aw_iload_n d_G_outOf_29 rfl rfl ?_
        exact aw_iret d_G_outOf_30 (Nat.le_refl 0) (Nat.le_refl 0) ⟨rfl, rfl⟩
      · refine aw_iload_n d_G_outOf_12 rfl rfl ?_
        refine aw_aload_n d_G_outOf_13 rfl rfl ?_
        refine aw_get kc_1 3 (by decide) k_34 d_G_outOf_14 hG.1 rfl ?_
        refine aw_iload_n d_G_outOf_17 rfl rfl ?_
        refine aw_aaldI d_G_outOf_18 hG.2.1 hg (by omega) ?_
        refine aw_iload_n d_G_outOf_19 rfl rfl ?_
        refine aw_ialdA d_G_outOf_20 (hG.2.2.1 u (by omega)) hg (by omega) (by decide) ?_
        refine aw_iaddN d_G_outOf_21 ?_
        refine aw_istore_n (lv' := [(2, .int (nI ((sN (W u) i) + (W u i)))), (0, .ref (ad 1)), (1, .int (nI u)), (3, .int (nI i))]) d_G_outOf_22 rfl (by decide) rfl ?_
        refine aw_iinc1 (lv' := [(3, .int (nI (i + 1))), (2, .int (nI ((sN (W u) i) + (W u i)))), (0, .ref (ad 1)), (1, .int (nI u))]) d_G_outOf_23 rfl (by decide) rfl ?_
        refine aw_goto (tgt := 4) d_G_outOf_26 (by decide) ?_
        refine aw_sub (lv' := [(0, .ref (ad 1)), (1, .int (nI u)), (2, .int (nI (sN (W u) (i + 1)))), (3, .int (nI (i + 1)))]) [2, 3, 1, 0] rfl ?_
        exact ih (i + 1) (by omega) (by omega)
  refine aw_sub (lv' := [(0, .ref (ad 1)), (1, .int (nI u)), (2, .int (nI (sN (W u) 0))), (3, .int (nI 0))]) [2, 3, 1, 0] rfl ?_
  exact lp (n + 1) 0 (by omega) (by omega)

set_option maxHeartbeats 4000000 in
set_option maxRecDepth 100000 in
theorem m_G_allJumps {g : aw_G} (hg : aw_T g) {ws : va_W} {ad : Nat → Nat} {n x y : Nat} {W : Nat → Nat → Nat} {J : Nat → Nat} (hG : gG g ws ad n x y W J) (hn : n ≤ 5) : AMet g y_G_allJumps c_G_allJumps 3 (some .int) 0 [.ref (ad 1)] ws (aw_R (.int (nI (sN J n))) ws) 0 0 := by
  refine amet_of (by decide +kernel) (Nat.le_of_ble_eq_true rfl) ?_
  refine aw_sub (lv' := [(0, .ref (ad 1))]) [0] rfl ?_
  refine aw_iconst (v := nI 0) d_G_allJumps_0 (by decide) ?_
  refine aw_istore_n (lv' := [(1, .int (nI 0)), (0, .ref (ad 1))]) d_G_allJumps_1 rfl (by decide) rfl ?_
  refine aw_iconst (v := nI 0) d_G_allJumps_2 (by decide) ?_
  refine aw_istore_n (lv' := [(2, .int (nI 0)), (1, .int (nI 0)), (0, .ref (ad 1))]) d_G_allJumps_3 rfl (by decide) rfl ?_
  have lp : ∀ (k : Nat) (i : Nat), i ≤ n → n - i < k → AW g y_G_allJumps c_G_allJumps 3 (some .int) (aw_rm 0 0 0) aw_E0 (aw_F g (aw_R (.int (nI (sN J n))) ws) 0 0) 0 0 4 [(0, .ref (ad 1)), (1, .int (nI (sN J i))), (2, .int (nI i))] [] ws := by
    intro k
    induction k with
    | zero => intro i hi hk; omega
    | succ k ih =>
      intro i hi hk
      refine aw_iload_n d_G_allJumps_4 rfl rfl ?_
      refine aw_aload_n d_G_allJumps_5 rfl rfl ?_
      refine aw_get kc_1 0 (by decide) k_24 d_G_allJumps_6 hG.1 rfl ?_
      refine aw_icmp_geN (tgt := 27) d_G_allJumps_9 (by decide) (by omega) (by omega) (fun h => ?_) (fun h => ?_)
      · have e : i = n := by omega
        subst e
        refine aw_iload_n d_G_allJumps_27 rfl rfl ?_
        exact aw_iret d_G_allJumps_28 (Nat.le_refl 0) (Nat.le_refl 0) ⟨rfl, rfl⟩
      · refine aw_iload_n d_G_allJumps_12 rfl rfl ?_
        refine aw_aload_n d_G_allJumps_13 rfl rfl ?_
        refine aw_get kc_1 4 (by decide) k_38 d_G_allJumps_14 hG.1 rfl ?_
        refine aw_iload_n d_G_allJumps_17 rfl rfl ?_
        refine aw_ialdA d_G_allJumps_18 hG.2.2.2 hg (by omega) (by decide) ?_
        refine aw_iaddN d_G_allJumps_19 ?_
        refine aw_istore_n (lv' := [(1, .int (nI ((sN J i) + (J i)))), (0, .ref (ad 1)), (2, .int (nI i))]) d_G_allJumps_20 rfl (by decide) rfl ?_
        refine aw_iinc1 (lv' := [(2, .int (nI (i + 1))), (1, .int (nI ((sN J i) + (J i)))), (0, .ref (ad 1))]) d_G_allJumps_21 rfl (by decide) rfl ?_
        refine aw_goto (tgt := 4) d_G_allJumps_24 (by decide) ?_
        refine aw_sub (lv' := [(0, .ref (ad 1)), (1, .int (nI (sN J (i + 1)))), (2, .int (nI (i + 1)))]) [2, 1, 0] rfl ?_
        exact ih (i + 1) (by omega) (by omega)
  refine aw_sub (lv' := [(0, .ref (ad 1)), (1, .int (nI (sN J 0))), (2, .int (nI 0))]) [2, 1, 0] rfl ?_
  exact lp (n + 1) 0 (by omega) (by omega)

set_option maxHeartbeats 4000000 in
set_option maxRecDepth 100000 in
theorem m_W_only {g : aw_G} (hg : aw_T g) {ws : va_W} {ad : Nat → Nat} {k : Nat} (hk : k < 5) : AMet g y_W_only c_W_only 1 (some .int) 0 [.int (nI k)] ws (aw_R (.int (nI (2 ^ k))) ws) 0 0 := by
  refine amet_of (by decide +kernel) (Nat.le_of_ble_eq_true rfl) ?_
  refine aw_sub (lv' := [(0, .int (nI k))]) [0] rfl ?_
  refine aw_iconst (v := nI 1) d_W_only_0 (by decide) ?_
  refine aw_iload_n d_W_only_1 rfl rfl ?_
  refine aw_ishl d_W_only_2 ?_
  refine aw_nmi (z := nI (2 ^ k)) (by rcases (show k = 0 ∨ k = 1 ∨ k = 2 ∨ k = 3 ∨ k = 4 by omega) with rfl | rfl | rfl | rfl | rfl <;> decide) ?_
  exact aw_iret d_W_only_3 (Nat.le_refl 0) (Nat.le_refl 0) ⟨rfl, rfl⟩

theorem has_bit : ∀ m, m < 32 → ∀ k, k < 5 → (m &&& 2 ^ k = 0 ↔ m.testBit k = false) := by decide +kernel

set_option maxHeartbeats 4000000 in
set_option maxRecDepth 100000 in
theorem m_W_has {g : aw_G} (hg : aw_T g) {ws : va_W} {ad : Nat → Nat} {m k : Nat} (hm : m < 32) (hk : k < 5) : AMet g y_W_has c_W_has 2 (some .boolean) 1 [.int (nI m), .int (nI k)] ws (aw_R (.int (bI (m.testBit k))) ws) 0 0 := by
  refine amet_of (by decide +kernel) (Nat.le_of_ble_eq_true rfl) ?_
  refine aw_sub (lv' := [(0, .int (nI m)), (1, .int (nI k))]) [0, 1] rfl ?_
  refine aw_iload_n d_W_has_0 rfl rfl ?_
  refine aw_iload_n d_W_has_1 rfl rfl ?_
  refine aw_callS (av := [.int (nI k)]) (rest := [.int (nI m)]) (m_W_only (ad := ad) hg hk) kd_W_only k_223 k_206  d_W_has_2 rfl ⟨by decide, by decide⟩ (Nat.le_of_ble_eq_true rfl) ⟨by decide, by decide⟩ rfl (fun v ws2 hq => ?_)
  obtain ⟨rfl, rfl⟩ := hq
  refine aw_iandN d_W_has_5 ?_
  refine aw_if_eqN (tgt := 13) d_W_has_6 (by decide) (Nat.lt_of_le_of_lt Nat.and_le_left (by omega)) (fun h => ?_) (fun h => ?_)
  · have e := (has_bit m hm k hk).mp h
    refine aw_iconst (v := nI 0) d_W_has_13 (by decide) ?_
    exact aw_zret d_W_has_14 rfl (Nat.le_refl 0) (Nat.le_refl 0) ⟨by rw [e]; rfl, rfl⟩
  · have e : m.testBit k = true := by cases q : m.testBit k with | true => rfl | false => exact absurd ((has_bit m hm k hk).mpr q) h
    refine aw_iconst (v := nI 1) d_W_has_9 (by decide) ?_
    refine aw_goto (tgt := 14) d_W_has_10 (by decide) ?_
    exact aw_zret d_W_has_14 rfl (Nat.le_refl 0) (Nat.le_refl 0) ⟨by rw [e]; rfl, rfl⟩
