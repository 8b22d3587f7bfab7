-- laid by wip/whole/m9.py
set_option maxHeartbeats 4000000 in
set_option maxRecDepth 100000 in
theorem m_W_walks {g : aw_G} (hg : aw_T g) {ws : va_W} {ad : Nat → Nat} {n x y q : Nat} {W P : Nat → Nat → Nat} {J T X M L D : Nat → Nat} {O : Nat → Int32} {u v k : Int32} (hK : gK g ws ad n x y W J P T X q M L O D) : AMet g y_W_walks c_W_walks 4 (some .long) 2 [.ref (ad 0), .int u, .int v, .int k] ws (qQry g ad ws (.long (aWalks n W u v k)) n x y W J P T X q M L O D) 0 0 := by
  obtain ⟨hW, hG, hok, hS, hoS, hC, hD, hI, hE0, hP0, hH0⟩ := id hK
  have hn := hok.1
  obtain ⟨p4, q4, m4, A4, B4, Z4, hP⟩ := hP0
  refine amet_of (by decide +kernel) (Nat.le_of_ble_eq_true rfl) ?_
  refine aw_sub (lv' := [(0, .ref (ad 0)), (1, .int u), (2, .int v), (3, .int k)]) [0, 1, 2, 3] rfl ?_
  refine aw_aload_n d_W_walks_0 rfl rfl ?_
  refine aw_iload_n d_W_walks_1 rfl rfl ?_
  refine aw_callV (av := [.int u]) (rest := []) (m_W_isNode hg hW hG) kd_W_isNode k_242 k_244 ks_W_isNode rfl hW d_W_walks_2 rfl ⟨by decide, by decide⟩ (Nat.le_of_ble_eq_true rfl) ⟨by decide, by decide⟩ rfl (fun v2 ws2 hq2 => ?_)
  obtain ⟨rfl, rfl⟩ := hq2
  refine aw_if_eqB (tgt := 16) d_W_walks_5 (by decide) (fun h1 => ?_) (fun h1 => ?_)
  · refine aw_ldc2 (v := (-1 : Int64)) d_W_walks_16 k_290 ?_
    exact aw_lret d_W_walks_19 (Nat.le_refl 0) (Nat.le_refl 0) ⟨by unfold aWalks; rw [if_neg (by simp [h1])], fr.rf, hK⟩
  · refine aw_aload_n d_W_walks_8 rfl rfl ?_
    refine aw_iload_n d_W_walks_9 rfl rfl ?_
    refine aw_callV (av := [.int v]) (rest := []) (m_W_isNode hg hW hG) kd_W_isNode k_242 k_244 ks_W_isNode rfl hW d_W_walks_10 rfl ⟨by decide, by decide⟩ (Nat.le_of_ble_eq_true rfl) ⟨by decide, by decide⟩ rfl (fun v2 ws2 hq2 => ?_)
    obtain ⟨rfl, rfl⟩ := hq2
    refine aw_if_neB (tgt := 20) d_W_walks_13 (by decide) (fun h2 => ?_) (fun h2 => ?_)
    · refine aw_iload_n d_W_walks_20 rfl rfl ?_
      refine aw_if_lt (tgt := 30) d_W_walks_21 (by decide) (fun h3 => ?_) (fun h3 => ?_)
      · refine aw_ldc2 (v := (-2 : Int64)) d_W_walks_30 k_294 ?_
        exact aw_lret d_W_walks_33 (Nat.le_refl 0) (Nat.le_refl 0) ⟨by unfold aWalks; rw [if_pos ⟨h1, h2⟩, if_neg (by rw [ib_lt h3]; decide)], fr.rf, hK⟩
      · refine aw_iload_n d_W_walks_24 rfl rfl ?_
        refine aw_bipush (v := nI 12) d_W_walks_25 (by decide) ?_
        refine aw_icmp_le (tgt := 34) d_W_walks_27 (by decide) (fun h4 => ?_) (fun h4 => ?_)
        · have h5 := ib_in h3 h4
          obtain ⟨k1, hk1, rfl⟩ := ib_true (by decide) h5
          obtain ⟨u1, hu1, rfl⟩ := nb_true hn h1
          obtain ⟨v1, hv1, rfl⟩ := nb_true hn h2
          refine aw_aload_n d_W_walks_34 rfl rfl ?_
          refine aw_get kc_0 4 (by decide) k_151 d_W_walks_35 hW rfl ?_
          refine aw_aload_n d_W_walks_38 rfl rfl ?_
          refine aw_get kc_0 0 (by decide) k_147 d_W_walks_39 hW rfl ?_
          refine aw_callV (av := [.ref (ad 1)]) (rest := []) (m_P_fillByWeights hg hP hG hn (fun i j hi hj => hok.2.2.2.2.1 i j (by omega) (by omega))) kd_P_fillByWeights k_384 k_385 ks_P_fillByWeights rfl hP.2.1 d_W_walks_42 rfl ⟨by decide, by decide⟩ (Nat.le_of_ble_eq_true rfl) ⟨by decide, by decide⟩ rfl (fun v2 ws2 hq2 => ?_)
          obtain ⟨rfl, f2, Z2, hP2, hZ2⟩ := hq2
          have hW2 : gW ws2 ad := (f2.1 0 (by omega)).trans hW
          have hG2 := hG.kept f2 (by omega)
          refine aw_aload_n d_W_walks_45 rfl rfl ?_
          refine aw_get kc_0 4 (by decide) k_151 d_W_walks_46 hW2 rfl ?_
          refine aw_iload_n d_W_walks_49 rfl rfl ?_
          refine aw_iload_n d_W_walks_50 rfl rfl ?_
          refine aw_callV (av := [.int (nI u1), .int (nI k1)]) (rest := []) (m_P_run hg hP2 hn hu1 hk1) kd_P_run k_368 k_369 ks_P_run rfl hP2.2.1 d_W_walks_51 rfl ⟨by decide, by decide⟩ (Nat.le_of_ble_eq_true rfl) ⟨by decide, by decide⟩ rfl (fun v3 ws3 hq3 => ?_)
          obtain ⟨rfl, f3, p5, q5, A5, B5, hP3, hA5⟩ := hq3
          have hW3 : gW ws3 ad := (f3.1 0 (by omega)).trans hW2
          refine aw_aload_n d_W_walks_54 rfl rfl ?_
          refine aw_get kc_0 4 (by decide) k_151 d_W_walks_55 hW3 rfl ?_
          refine aw_iload_n d_W_walks_58 rfl rfl ?_
          refine aw_callV (av := [.int (nI v1)]) (rest := []) (m_P_numberAt hg hP3 (by omega)) kd_P_numberAt k_376 k_377 ks_P_numberAt rfl hP3.2.1 d_W_walks_59 rfl ⟨by decide, by decide⟩ (Nat.le_of_ble_eq_true rfl) ⟨by decide, by decide⟩ rfl (fun v4 ws4 hq4 => ?_)
          obtain ⟨rfl, rfl⟩ := hq4
          have f := f2.tr f3
          exact aw_lret d_W_walks_62 (Nat.le_refl 0) (Nat.le_refl 0) ⟨by unfold aWalks; rw [if_pos ⟨h1, h2⟩, if_pos h5, ix_nI (by omega), ix_nI (by omega), ix_nI (by omega), hA5 v1 hv1, itM_cast hZ2 hv1], f.wide (by omega) (by omega), hW3, (hG2.kept f3 (by omega)), hok, hS.kept f (by omega), hoS, hC.kept f (by omega), hD, hI, (by obtain ⟨m, Z, h⟩ := hE0; exact ⟨m, Z, h.kept f (by omega)⟩), ⟨_, _, _, _, _, _, hP3⟩, (by obtain ⟨A, h⟩ := hH0; exact ⟨A, (f.1 39 (by omega)).trans h⟩)⟩
        · refine aw_ldc2 (v := (-2 : Int64)) d_W_walks_30 k_294 ?_
          exact aw_lret d_W_walks_33 (Nat.le_refl 0) (Nat.le_refl 0) ⟨by unfold aWalks; rw [if_pos ⟨h1, h2⟩, if_neg (by rw [ib_gt h4]; decide)], fr.rf, hK⟩
    · refine aw_ldc2 (v := (-1 : Int64)) d_W_walks_16 k_290 ?_
      exact aw_lret d_W_walks_19 (Nat.le_refl 0) (Nat.le_refl 0) ⟨by unfold aWalks; rw [if_neg (by simp [h2])], fr.rf, hK⟩

set_option maxHeartbeats 4000000 in
set_option maxRecDepth 100000 in
theorem m_W_after {g : aw_G} (hg : aw_T g) {ws : va_W} {ad : Nat → Nat} {n x y q : Nat} {W P : Nat → Nat → Nat} {J T X M L D : Nat → Nat} {O : Nat → Int32} {u v k p : Int32} (hK : gK g ws ad n x y W J P T X q M L O D) : AMet g y_W_after c_W_after 10 (some .long) 2 [.ref (ad 0), .int u, .int v, .int k, .int p] ws (qQry g ad ws (.long (aAfter n x y W J u v k p)) n x y W J P T X q M L O D) 0 0 := by
  obtain ⟨hW, hG, hok, hS, hoS, hC, hD, hI, hE0, hP0, hH0⟩ := id hK
  have hn := hok.1
  obtain ⟨p4, q4, m4, A4, B4, Z4, hP⟩ := hP0
  have eT : ∀ i, i < n → T i = tt n x y W J i := fun i hi => (hoS i hi).2.1
  have hU : ∀ i, i ≤ n → 0 < lcmT T i ∧ lcmT T i ≤ 10080 := fun i hi => by rw [lcmT_congr (U := tt n x y W J) (fun j hj => eT j (by omega))]; exact unit_ok hok hi
  have hT : ∀ i, i < n → 0 < T i ∧ T i ≤ 400 := fun i hi => by rw [eT i hi]; exact ⟨(nr_ok hok hi).1, (nr_ok hok hi).2.1⟩
  have eU : lcmT T n = uN n x y W J := lcmT_congr eT
  have hU1 := hU n (Nat.le_refl n)
  refine amet_of (by decide +kernel) (Nat.le_of_ble_eq_true rfl) ?_
  refine aw_sub (lv' := [(0, .ref (ad 0)), (1, .int u), (2, .int v), (3, .int k), (4, .int p)]) [0, 1, 2, 3, 4] rfl ?_
  refine aw_aload_n d_W_after_0 rfl rfl ?_
  refine aw_iload_n d_W_after_1 rfl rfl ?_
  refine aw_callV (av := [.int u]) (rest := []) (m_W_isNode hg hW hG) kd_W_isNode k_242 k_244 ks_W_isNode rfl hW d_W_after_2 rfl ⟨by decide, by decide⟩ (Nat.le_of_ble_eq_true rfl) ⟨by decide, by decide⟩ rfl (fun v2 ws2 hq2 => ?_)
  obtain ⟨rfl, rfl⟩ := hq2
  refine aw_if_eqB (tgt := 16) d_W_after_5 (by decide) (fun h1 => ?_) (fun h1 => ?_)
  · refine aw_ldc2 (v := (-1 : Int64)) d_W_after_16 k_290 ?_
    exact aw_lret d_W_after_19 (Nat.le_refl 0) (Nat.le_refl 0) ⟨by unfold aAfter; rw [if_neg (by simp [h1])], fr.rf, hK⟩
  · refine aw_aload_n d_W_after_8 rfl rfl ?_
    refine aw_iload_n d_W_after_9 rfl rfl ?_
    refine aw_callV (av := [.int v]) (rest := []) (m_W_isNode hg hW hG) kd_W_isNode k_242 k_244 ks_W_isNode rfl hW d_W_after_10 rfl ⟨by decide, by decide⟩ (Nat.le_of_ble_eq_true rfl) ⟨by decide, by decide⟩ rfl (fun v2 ws2 hq2 => ?_)
    obtain ⟨rfl, rfl⟩ := hq2
    refine aw_if_neB (tgt := 20) d_W_after_13 (by decide) (fun h2 => ?_) (fun h2 => ?_)
    · refine aw_iload_n d_W_after_20 rfl rfl ?_
      refine aw_if_lt (tgt := 37) d_W_after_21 (by decide) (fun h3 => ?_) (fun h3 => ?_)
      · refine aw_ldc2 (v := (-2 : Int64)) d_W_after_37 k_294 ?_
        exact aw_lret d_W_after_40 (Nat.le_refl 0) (Nat.le_refl 0) ⟨by unfold aAfter; rw [if_pos ⟨h1, h2⟩, if_neg (by simp [ib_lt h3])], fr.rf, hK⟩
      · refine aw_iload_n d_W_after_24 rfl rfl ?_
        refine aw_iconst (v := nI 3) d_W_after_25 (by decide) ?_
        refine aw_icmp_gt (tgt := 37) d_W_after_26 (by decide) (fun h4 => ?_) (fun h4 => ?_)
        · refine aw_ldc2 (v := (-2 : Int64)) d_W_after_37 k_294 ?_
          exact aw_lret d_W_after_40 (Nat.le_refl 0) (Nat.le_refl 0) ⟨by unfold aAfter; rw [if_pos ⟨h1, h2⟩, if_neg (by simp [ib_gt (m := 3) (x := k) (Int32.not_le.mpr h4)])], fr.rf, hK⟩
        · refine aw_iload d_W_after_29 rfl ?_
          refine aw_callS (av := [.int p]) (rest := []) (m_W_isPart (ad := ad) hg) kd_W_isPart k_291 k_292  d_W_after_31 rfl ⟨by decide, by decide⟩ (Nat.le_of_ble_eq_true rfl) ⟨by decide, by decide⟩ rfl (fun v2 ws2 hq2 => ?_)
          obtain ⟨rfl, rfl⟩ := hq2
          refine aw_if_neB (tgt := 41) d_W_after_34 (by decide) (fun h6 => ?_) (fun h6 => ?_)
          · have h5 := ib_in (m := 3) h3 (Int32.not_lt.mp h4)
            obtain ⟨k1, hk1, rfl⟩ := ib_true (by decide) h5
            obtain ⟨u1, hu1, rfl⟩ := nb_true hn h1
            obtain ⟨v1, hv1, rfl⟩ := nb_true hn h2
            obtain ⟨p1, hp1, rfl⟩ := pb_true h6
            refine aw_aload_n d_W_after_41 rfl rfl ?_
            refine aw_get kc_0 1 (by decide) k_148 d_W_after_42 hW rfl ?_
            refine aw_callV (av := []) (rest := []) (m_S_commonTotal hg hS hn hT hU) kd_S_commonTotal k_360 k_361 ks_S_commonTotal rfl hS.1 d_W_after_45 rfl ⟨by decide, by decide⟩ (Nat.le_of_ble_eq_true rfl) ⟨by decide, by decide⟩ rfl (fun v2 ws2 hq2 => ?_)
            obtain ⟨rfl, rfl⟩ := hq2
            refine aw_lstore (lv' := [(5, .long (lI (lcmT T n : Int))), (0, .ref (ad 0)), (1, .int (nI u1)), (2, .int (nI v1)), (3, .int (nI k1)), (4, .int (nI p1))]) d_W_after_48 (by decide) rfl ?_
            refine aw_aload_n d_W_after_50 rfl rfl ?_
            refine aw_get kc_0 4 (by decide) k_151 d_W_after_51 hW rfl ?_
            refine aw_aload_n d_W_after_54 rfl rfl ?_
            refine aw_get kc_0 1 (by decide) k_148 d_W_after_55 hW rfl ?_
            refine aw_lload d_W_after_58 rfl ?_
            refine aw_callV (av := [.ref (ad 9), .long (lI (lcmT T n : Int))]) (rest := []) (m_P_fillBySteps hg hP hS hn (by omega) (fun i j hi hj => (hoS.P4 hok hi hj).1) hT) kd_P_fillBySteps k_364 k_365 ks_P_fillBySteps rfl hP.2.1 d_W_after_60 rfl ⟨by decide, by decide⟩ (Nat.le_of_ble_eq_true rfl) ⟨by decide, by decide⟩ rfl (fun v2 ws2 hq2 => ?_)
            obtain ⟨rfl, f2, Z2, hP2, hZ2⟩ := hq2
            have hW2 : gW ws2 ad := (f2.1 0 (by omega)).trans hW
            have hG2 := hG.kept f2 (by omega)
            have hZf : ∀ i j, i < n → j < n → Z2 i j = (fN n x y W J i j : Int) := fun i j hi hj => (hZ2 i j hi hj).trans (by show ((lcmT T n / T i : Nat) : Int) * (P i j : Int) = _; unfold fN; rw [← eU, ← eT i hi, (hoS i hi).1 j hj, Int.natCast_mul])
            refine aw_aload_n d_W_after_63 rfl rfl ?_
            refine aw_get kc_0 4 (by decide) k_151 d_W_after_64 hW2 rfl ?_
            refine aw_iload_n d_W_after_67 rfl rfl ?_
            refine aw_iload_n d_W_after_68 rfl rfl ?_
            refine aw_callV (av := [.int (nI u1), .int (nI k1)]) (rest := []) (m_P_run hg hP2 hn hu1 (by omega)) kd_P_run k_368 k_369 ks_P_run rfl hP2.2.1 d_W_after_69 rfl ⟨by decide, by decide⟩ (Nat.le_of_ble_eq_true rfl) ⟨by decide, by decide⟩ rfl (fun v3 ws3 hq3 => ?_)
            obtain ⟨rfl, f3, p5, q5, A5, B5, hP3, hA5⟩ := hq3
            have hW3 : gW ws3 ad := (f3.1 0 (by omega)).trans hW2
            refine aw_lconst (v := lI 1) d_W_after_72 (by decide) ?_
            refine aw_lstore (lv' := [(7, .long (lI 1)), (5, .long (lI (lcmT T n : Int))), (0, .ref (ad 0)), (1, .int (nI u1)), (2, .int (nI v1)), (3, .int (nI k1)), (4, .int (nI p1))]) d_W_after_73 (by decide) rfl ?_
            refine aw_iconst (v := nI 0) d_W_after_75 (by decide) ?_
            refine aw_istore (lv' := [(9, .int (nI 0)), (7, .long (lI 1)), (5, .long (lI (lcmT T n : Int))), (0, .ref (ad 0)), (1, .int (nI u1)), (2, .int (nI v1)), (3, .int (nI k1)), (4, .int (nI p1))]) d_W_after_76 (by decide) rfl ?_
            have lp : ∀ (k : Nat) (i : Nat), i ≤ k1 → k1 - i < k → AW g y_W_after c_W_after 10 (some .long) (aw_rm 2 0 0) aw_E0 (aw_F g (qQry g ad ws (.long (aAfter n x y W J (nI u1) (nI v1) (nI k1) (nI p1))) n x y W J P T X q M L O D) 0 0) 0 0 78 [(0, .ref (ad 0)), (2, .int (nI v1)), (3, .int (nI k1)), (4, .int (nI p1)), (5, .long (lI (lcmT T n : Int))), (7, .long (lI (lcmT T n ^ i : Nat))), (9, .int (nI i))] [] ws3 := by
              intro k
              induction k with
              | zero => intro i hi hk; omega
              | succ k ih =>
                intro i hi hk
                refine aw_iload d_W_after_78 rfl ?_
                refine aw_iload_n d_W_after_80 rfl rfl ?_
                refine aw_icmp_geN (tgt := 97) d_W_after_81 (by decide) (by omega) (by omega) (fun h => ?_) (fun h => ?_)
                · have e : k1 = i := by omega
                  subst e
                  refine aw_aload_n d_W_after_97 rfl rfl ?_
                  refine aw_get kc_0 4 (by decide) k_151 d_W_after_98 hW3 rfl ?_
                  refine aw_iload_n d_W_after_101 rfl rfl ?_
                  refine aw_callV (av := [.int (nI v1)]) (rest := []) (m_P_numberAt hg hP3 (by omega)) kd_P_numberAt k_376 k_377 ks_P_numberAt rfl hP3.2.1 d_W_after_102 rfl ⟨by decide, by decide⟩ (Nat.le_of_ble_eq_true rfl) ⟨by decide, by decide⟩ rfl (fun v4 ws4 hq4 => ?_)
                  obtain ⟨rfl, rfl⟩ := hq4
                  refine aw_nml (z := lI (itN (fN n x y W J) n (dlN u1) k1 v1 : Nat)) (by rw [hA5 v1 hv1, itM_cast hZf hv1]) ?_
                  have b1 := itN_le (Z := fN n x y W J) (u := u1) hn (fun i j hi hj => fN_le hok hi hj) (k := k1) hv1
                  have b2 : (5 * 10080) ^ k1 ≤ (5 * 10080) ^ 3 := Nat.pow_le_pow_right (by decide) hk1
                  have b3 : lcmT T n ^ k1 ≤ 10080 ^ k1 := Nat.pow_le_pow_left hU1.2 k1
                  have b4 : 10080 ^ k1 ≤ 10080 ^ 3 := Nat.pow_le_pow_right (by decide) hk1
                  have b5 : 0 < lcmT T n ^ k1 := Nat.pow_pos hU1.1
                  refine aw_lload d_W_after_105 rfl ?_
                  refine aw_iload d_W_after_107 rfl ?_
                  refine aw_callS (av := [.long (lI (itN (fN n x y W J) n (dlN u1) k1 v1 : Nat)), .long (lI (lcmT T n ^ k1 : Nat)), .int (nI p1)]) (rest := []) (m_W_fraction (ad := ad) hg (by omega) (by omega) (mul99 (by omega) (by omega)) b5 hp1) kd_W_fraction k_314 k_315  d_W_after_109 rfl ⟨by decide, by decide⟩ (Nat.le_of_ble_eq_true rfl) ⟨by decide, by decide⟩ rfl (fun v5 ws5 hq5 => ?_)
                  obtain ⟨rfl, rfl⟩ := hq5
                  have f := f2.tr f3
                  exact aw_lret d_W_after_112 (Nat.le_refl 0) (Nat.le_refl 0) ⟨by unfold aAfter; rw [if_pos ⟨h1, h2⟩, if_pos ⟨h5, h6⟩, ix_nI (by omega), ix_nI (by omega), ix_nI (by omega), ix_nI (by omega), eU], f.wide (by omega) (by omega), hW3, (hG2.kept f3 (by omega)), hok, hS.kept f (by omega), hoS, hC.kept f (by omega), hD, hI, (by obtain ⟨m, Z, h⟩ := hE0; exact ⟨m, Z, h.kept f (by omega)⟩), ⟨_, _, _, _, _, _, hP3⟩, (by obtain ⟨A, h⟩ := hH0; exact ⟨A, (f.1 39 (by omega)).trans h⟩)⟩
                · refine aw_lload d_W_after_84 rfl ?_
                  refine aw_lload d_W_after_86 rfl ?_
                  refine aw_lmulI d_W_after_88 ?_
                  refine aw_nml (z := lI (lcmT T n ^ (i + 1) : Nat)) (by rw [Nat.pow_succ, Int.natCast_mul]) ?_
                  refine aw_lstore (lv' := [(7, .long (lI (lcmT T n ^ (i + 1) : Nat))), (0, .ref (ad 0)), (2, .int (nI v1)), (3, .int (nI k1)), (4, .int (nI p1)), (5, .long (lI (lcmT T n : Int))), (9, .int (nI i))]) d_W_after_89 (by decide) rfl ?_
                  refine aw_iinc1 (lv' := [(9, .int (nI (i + 1))), (7, .long (lI (lcmT T n ^ (i + 1) : Nat))), (0, .ref (ad 0)), (2, .int (nI v1)), (3, .int (nI k1)), (4, .int (nI p1)), (5, .long (lI (lcmT T n : Int)))]) d_W_after_91 rfl (by decide) rfl ?_
                  refine aw_goto (tgt := 78) d_W_after_94 (by decide) ?_
                  refine aw_sub (lv' := [(0, .ref (ad 0)), (2, .int (nI v1)), (3, .int (nI k1)), (4, .int (nI p1)), (5, .long (lI (lcmT T n : Int))), (7, .long (lI (lcmT T n ^ (i + 1) : Nat))), (9, .int (nI (i + 1)))]) [2, 3, 4, 5, 6, 1, 0] rfl ?_
                  exact ih (i + 1) (by omega) (by omega)
            refine aw_sub (lv' := [(0, .ref (ad 0)), (2, .int (nI v1)), (3, .int (nI k1)), (4, .int (nI p1)), (5, .long (lI (lcmT T n : Int))), (7, .long (lI (lcmT T n ^ 0 : Nat))), (9, .int (nI 0))]) [3, 5, 6, 7, 2, 1, 0] rfl ?_
            exact lp (k1 + 1) 0 (by omega) (by omega)
          · refine aw_ldc2 (v := (-2 : Int64)) d_W_after_37 k_294 ?_
            exact aw_lret d_W_after_40 (Nat.le_refl 0) (Nat.le_refl 0) ⟨by unfold aAfter; rw [if_pos ⟨h1, h2⟩, if_neg (by simp [h6])], fr.rf, hK⟩
    · refine aw_ldc2 (v := (-1 : Int64)) d_W_after_16 k_290 ?_
      exact aw_lret d_W_after_19 (Nat.le_refl 0) (Nat.le_refl 0) ⟨by unfold aAfter; rw [if_neg (by simp [h2])], fr.rf, hK⟩

set_option maxHeartbeats 4000000 in
set_option maxRecDepth 100000 in
theorem m_W_drawn {g : aw_G} (hg : aw_T g) {ws : va_W} {ad : Nat → Nat} {n x y q : Nat} {W P : Nat → Nat → Nat} {J T X M L D : Nat → Nat} {O : Nat → Int32} {u z k : Int32} (hK : gK g ws ad n x y W J P T X q M L O D) : AMet g y_W_drawn c_W_drawn 7 (some .int) 1 [.ref (ad 0), .int u, .int z, .int k] ws (aw_R (.int (aDrawn n x y W J u z k)) ws) 0 0 := by
  obtain ⟨hW, hG, hok, hS, hoS, hC, hD, hI, hE0, hP0, hH0⟩ := id hK
  have hn := hok.1
  refine amet_of (by decide +kernel) (Nat.le_of_ble_eq_true rfl) ?_
  refine aw_sub (lv' := [(0, .ref (ad 0)), (1, .int u), (2, .int z), (3, .int k)]) [0, 1, 2, 3] rfl ?_
  refine aw_aload_n d_W_drawn_0 rfl rfl ?_
  refine aw_iload_n d_W_drawn_1 rfl rfl ?_
  refine aw_callV (av := [.int u]) (rest := []) (m_W_isNode hg hW hG) kd_W_isNode k_242 k_244 ks_W_isNode rfl hW d_W_drawn_2 rfl ⟨by decide, by decide⟩ (Nat.le_of_ble_eq_true rfl) ⟨by decide, by decide⟩ rfl (fun v2 ws2 hq2 => ?_)
  obtain ⟨rfl, rfl⟩ := hq2
  refine aw_if_neB (tgt := 10) d_W_drawn_5 (by decide) (fun h1 => ?_) (fun h1 => ?_)
  · refine aw_iload_n d_W_drawn_10 rfl rfl ?_
    refine aw_if_lt (tgt := 21) d_W_drawn_11 (by decide) (fun h3 => ?_) (fun h3 => ?_)
    · refine aw_bipush (v := -2) d_W_drawn_21 (by decide) ?_
      exact aw_iret d_W_drawn_23 (Nat.le_refl 0) (Nat.le_refl 0) ⟨by unfold aDrawn; rw [if_pos h1, if_neg (by rw [ib_lt h3]; decide)], rfl⟩
    · refine aw_iload_n d_W_drawn_14 rfl rfl ?_
      refine aw_sipush (v := nI 200) d_W_drawn_15 (by decide) ?_
      refine aw_icmp_le (tgt := 24) d_W_drawn_18 (by decide) (fun h4 => ?_) (fun h4 => ?_)
      · have h5 := ib_in h3 h4
        obtain ⟨k1, hk1, rfl⟩ := ib_true (by decide) h5
        obtain ⟨u1, hu1, rfl⟩ := nb_true hn h1
        have hoo : ∀ a, a < n → (∀ v, v < n → P a v = nr n x y W J a v) ∧ T a = tt n x y W J a ∧ 0 < tt n x y W J a ∧ sN (nr n x y W J a) n = tt n x y W J a := fun a ha => ⟨(hoS a ha).1, (hoS a ha).2.1, (nr_ok hok ha).1, rfl⟩
        refine aw_iload_n d_W_drawn_24 rfl rfl ?_
        refine aw_istore (lv' := [(4, .int (nI u1)), (0, .ref (ad 0)), (1, .int (nI u1)), (2, .int z), (3, .int (nI k1))]) d_W_drawn_25 (by decide) rfl ?_
        refine aw_iload_n d_W_drawn_27 rfl rfl ?_
        refine aw_istore (lv' := [(5, .int z), (4, .int (nI u1)), (0, .ref (ad 0)), (1, .int (nI u1)), (2, .int z), (3, .int (nI k1))]) d_W_drawn_28 (by decide) rfl ?_
        refine aw_iconst (v := nI 0) d_W_drawn_30 (by decide) ?_
        refine aw_istore (lv' := [(6, .int (nI 0)), (5, .int z), (4, .int (nI u1)), (0, .ref (ad 0)), (1, .int (nI u1)), (2, .int z), (3, .int (nI k1))]) d_W_drawn_31 (by decide) rfl ?_
        have lp : ∀ (k : Nat) (a : Nat) (s : Int32) (i : Nat), a < n → i ≤ k1 → dwS P T n (k1 - i) a s = dwS P T n k1 u1 z → k1 - i < k → AW g y_W_drawn c_W_drawn 7 (some .int) (aw_rm 1 0 0) aw_E0 (aw_F g (aw_R (.int (aDrawn n x y W J (nI u1) z (nI k1))) ws) 0 0) 0 0 33 [(0, .ref (ad 0)), (3, .int (nI k1)), (4, .int (nI a)), (5, .int s), (6, .int (nI i))] [] ws := by
          intro k
          induction k with
          | zero => intro a s i ha hi hd hk; omega
          | succ k ih =>
            intro a s i ha hi hd hk
            refine aw_iload d_W_drawn_33 rfl ?_
            refine aw_iload_n d_W_drawn_35 rfl rfl ?_
            refine aw_icmp_geN (tgt := 70) d_W_drawn_36 (by decide) (by omega) (by omega) (fun h => ?_) (fun h => ?_)
            · have e : k1 = i := by omega
              subst e
              rw [Nat.sub_self] at hd
              refine aw_iload d_W_drawn_70 rfl ?_
              exact aw_iret d_W_drawn_72 (Nat.le_refl 0) (Nat.le_refl 0) ⟨by unfold aDrawn; rw [if_pos h1, if_pos h5, ix_nI (by omega), ix_nI (by omega), ← dwS_congr hu1 hoo, ← hd]; rfl, rfl⟩
            · have hT := (hoo a ha).2.1
              have hT2 := nr_ok hok ha
              have hsa : sN (P a) n = T a := by rw [hT]; exact sN_congr (hoo a ha).1
              refine aw_iload d_W_drawn_39 rfl ?_
              refine aw_ldc (v := (1664525 : Int32)) d_W_drawn_41 k_392 ?_
              refine aw_imul d_W_drawn_43 ?_
              refine aw_ldc (v := (1013904223 : Int32)) d_W_drawn_44 k_393 ?_
              refine aw_iadd d_W_drawn_46 ?_
              refine aw_nmi (z := nz s) rfl ?_
              refine aw_istore (lv' := [(5, .int (nz s)), (0, .ref (ad 0)), (3, .int (nI k1)), (4, .int (nI a)), (6, .int (nI i))]) d_W_drawn_47 (by decide) rfl ?_
              refine aw_aload_n d_W_drawn_49 rfl rfl ?_
              refine aw_get kc_0 1 (by decide) k_148 d_W_drawn_50 hW rfl ?_
              refine aw_iload d_W_drawn_53 rfl ?_
              refine aw_iload d_W_drawn_55 rfl ?_
              refine aw_iconst (v := nI 1) d_W_drawn_57 (by decide) ?_
              refine aw_iushr d_W_drawn_58 ?_
              refine aw_nmi (z := nI (hz (nz s))) (hz_eq _) ?_
              refine aw_callV (av := [.int (nI a), .int (nI (hz (nz s)))]) (rest := []) (m_S_nextNode hg hS hn ha (hz_lt _) (by rw [hT]; exact ⟨hT2.1, hT2.2.1⟩) hsa) kd_S_nextNode k_394 k_395 ks_S_nextNode rfl hS.1 d_W_drawn_59 rfl ⟨by decide, by decide⟩ (Nat.le_of_ble_eq_true rfl) ⟨by decide, by decide⟩ rfl (fun v2 ws2 hq2 => ?_)
              obtain ⟨rfl, b, hb, rfl, b1, b2⟩ := hq2
              refine aw_istore (lv' := [(4, .int (nI b)), (5, .int (nz s)), (0, .ref (ad 0)), (3, .int (nI k1)), (6, .int (nI i))]) d_W_drawn_62 (by decide) rfl ?_
              refine aw_iinc1 (lv' := [(6, .int (nI (i + 1))), (4, .int (nI b)), (5, .int (nz s)), (0, .ref (ad 0)), (3, .int (nI k1))]) d_W_drawn_64 rfl (by decide) rfl ?_
              refine aw_goto (tgt := 33) d_W_drawn_67 (by decide) ?_
              refine aw_sub (lv' := [(0, .ref (ad 0)), (3, .int (nI k1)), (4, .int (nI b)), (5, .int (nz s)), (6, .int (nI (i + 1)))]) [3, 4, 1, 2, 0] rfl ?_
              exact ih b (nz s) (i + 1) hb (by omega) (by
            rw [← hd, show k1 - i = (k1 - (i + 1)) + 1 by omega, dwS_succ]; unfold drF; rw [pkF_eq hb b1 b2]) (by omega)
        refine aw_sub (lv' := [(0, .ref (ad 0)), (3, .int (nI k1)), (4, .int (nI u1)), (5, .int z), (6, .int (nI 0))]) [3, 6, 2, 1, 0] rfl ?_
        exact lp (k1 + 1) u1 z 0 hu1 (by omega) rfl (by omega)
      · refine aw_bipush (v := -2) d_W_drawn_21 (by decide) ?_
        exact aw_iret d_W_drawn_23 (Nat.le_refl 0) (Nat.le_refl 0) ⟨by unfold aDrawn; rw [if_pos h1, if_neg (by rw [ib_gt h4]; decide)], rfl⟩
  · refine aw_iconst (v := -1) d_W_drawn_8 (by decide) ?_
    exact aw_iret d_W_drawn_9 (Nat.le_refl 0) (Nat.le_refl 0) ⟨by unfold aDrawn; rw [if_neg (by simp [h1])], rfl⟩
