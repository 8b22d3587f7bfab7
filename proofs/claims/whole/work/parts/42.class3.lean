-- laid by wip/whole/m10.py
def qShares (g : aw_G) (ad : Nat → Nat) (ws : va_W) (m n x y : Nat) (W : Nat → Nat → Nat) (J : Nat → Nat) (P : Nat → Nat → Nat) (T X : Nat → Nat) (q : Nat) (M L : Nat → Nat) (O : Nat → Int32) (D : Nat → Nat) : Option Value → va_W → Prop := fun r ws' => r = some (.long (lI (sN (shG n x y W J m) n : Int))) ∧ fr 0 40 ws ws' ∧ gK g ws' ad n x y W J P T X q M L O D ∧ ∃ A : Nat → Int, gH g ws' ad A ∧ ∀ v, v < n → A v = (shG n x y W J m v : Int)

set_option maxHeartbeats 4000000 in
set_option maxRecDepth 100000 in
theorem m_W_fillShares {g : aw_G} (hg : aw_T g) {ws : va_W} {ad : Nat → Nat} {n x y q : Nat} {W P : Nat → Nat → Nat} {J T X M L D : Nat → Nat} {O : Nat → Int32} {m : Nat} (hK : gK g ws ad n x y W J P T X q M L O D) (hm : m < 32) (hb : ∀ k, m.testBit k = true → k < n) : AMet g y_W_fillShares c_W_fillShares 5 (some .long) 9 [.ref (ad 0), .int (nI m)] ws (qShares g ad ws m n x y W J P T X q M L O D) 0 0 := by
  obtain ⟨hW, hG, hok, hS, hoS, hC, hD, hI, hE0, hP0, hH0⟩ := id hK
  have hn := hok.1
  obtain ⟨p4, q4, m4, A4, B4, Z4, hP⟩ := hP0
  obtain ⟨A0, hH⟩ := hH0
  refine amet_of (by decide +kernel) (Nat.le_of_ble_eq_true rfl) ?_
  refine aw_sub (lv' := [(0, .ref (ad 0)), (1, .int (nI m))]) [0, 1] rfl ?_
  have lp : ∀ (k : Nat) (ws1 : va_W) (A : Nat → Int) (v : Nat), gW ws1 ad → gG g ws1 ad n x y W J → gS g ws1 ad n P T X → gC g ws1 ad q M L O n D → (∃ (m : Nat) (Z : Nat → Nat → Int), gE g ws1 ad m Z) → gP g ws1 ad p4 q4 A4 B4 m4 Z4 → gH g ws1 ad A → fr 23 40 ws ws1 → v ≤ n → (∀ i, i < v → A i = (shG n x y W J m i : Int)) → n - v < k → AW g y_W_fillShares c_W_fillShares 5 (some .long) (aw_rm 9 0 0) aw_E0 (aw_F g (qShares g ad ws m n x y W J P T X q M L O D) 0 0) 0 0 5 [(0, .ref (ad 0)), (1, .int (nI m)), (2, .long (lI (sN (shG n x y W J m) v : Int))), (4, .int (nI v))] [] ws1 := by
    intro k
    induction k with
    | zero => intro ws1 A v hW1 hG1 hS1 hC1 hE1x hP1 hH1 hf hv hr hk; omega
    | succ k ih =>
      intro ws1 A v hW1 hG1 hS1 hC1 hE1x hP1 hH1 hf hv hr hk
      obtain ⟨m3, Z3, hE1⟩ := hE1x
      refine aw_iload d_W_fillShares_5 rfl ?_
      refine aw_aload_n d_W_fillShares_7 rfl rfl ?_
      refine aw_get kc_0 0 (by decide) k_147 d_W_fillShares_8 hW1 rfl ?_
      refine aw_get kc_1 0 (by decide) k_27 d_W_fillShares_11 hG1.1 rfl ?_
      refine aw_icmp_geN (tgt := 96) d_W_fillShares_14 (by decide) (by omega) (by omega) (fun h => ?_) (fun h => ?_)
      · have e : v = n := by omega
        rw [e] at hr
        rw [e]
        refine aw_lload_n d_W_fillShares_96 rfl rfl ?_
        exact aw_lret d_W_fillShares_97 (Nat.le_refl 0) (Nat.le_refl 0) ⟨rfl, hf.wide (by omega) (by omega), ⟨hW1, hG1, hok, hS1, hoS, hC1, hD, hI, ⟨m3, Z3, hE1⟩, ⟨_, _, _, _, _, _, hP1⟩, ⟨A, hH1⟩⟩, A, hH1, hr⟩
      · refine aw_aload_n d_W_fillShares_17 rfl rfl ?_
        refine aw_get kc_0 5 (by decide) k_152 d_W_fillShares_18 hW1 rfl ?_
        refine aw_iload d_W_fillShares_21 rfl ?_
        refine aw_lconst (v := lI 0) d_W_fillShares_23 (by decide) ?_
        refine aw_lastA d_W_fillShares_24 hH1 hg (by omega) (by decide) (fun zws1 za2 zb3 zc4 => ?_)
        have f2 := fr.one (lo := 39) (hi := 40) zb3 zc4 (by omega) (by omega)
        have hW2 : gW zws1 ad := (f2.1 0 (by omega)).trans hW1
        have hG2 := hG1.kept f2 (by omega)
        have hS2 := hS1.kept f2 (by omega)
        have hC2 := hC1.kept f2 (by omega)
        have hE2 := hE1.kept f2 (by omega)
        have hP2 := hP1.kept f2 (by omega)
        have hH2 : gH g zws1 ad (fup A v 0) := za2
        refine aw_iload_n d_W_fillShares_25 rfl rfl ?_
        refine aw_iload d_W_fillShares_26 rfl ?_
        refine aw_callS (av := [.int (nI m), .int (nI v)]) (rest := []) (m_W_has (ad := ad) hg hm (by omega)) kd_W_has k_300 k_221  d_W_fillShares_28 rfl ⟨by decide, by decide⟩ (Nat.le_of_ble_eq_true rfl) ⟨by decide, by decide⟩ rfl (fun v3 ws3 hq3 => ?_)
        obtain ⟨rfl, rfl⟩ := hq3
        refine aw_if_eqB (tgt := 80) d_W_fillShares_31 (by decide) (fun h2 => ?_) (fun h2 => ?_)
        · have e0 : shG n x y W J m v = 0 := by unfold shG; rw [if_neg (by rw [h2]; decide)]
          refine aw_lload_n d_W_fillShares_80 rfl rfl ?_
          refine aw_aload_n d_W_fillShares_81 rfl rfl ?_
          refine aw_get kc_0 5 (by decide) k_152 d_W_fillShares_82 hW2 rfl ?_
          refine aw_iload d_W_fillShares_85 rfl ?_
          refine aw_laldA d_W_fillShares_87 hH2 hg (by omega) (by decide) ?_
          refine aw_laddI d_W_fillShares_88 ?_
          refine aw_nml (z := lI (sN (shG n x y W J m) (v + 1) : Int)) (by rw [sN, e0, fup_s, Int.natCast_add]; rfl) ?_
          refine aw_lstore_n (lv' := [(2, .long (lI (sN (shG n x y W J m) (v + 1) : Int))), (0, .ref (ad 0)), (1, .int (nI m)), (4, .int (nI v))]) d_W_fillShares_89 rfl (by decide) rfl ?_
          refine aw_iinc1 (lv' := [(4, .int (nI (v + 1))), (2, .long (lI (sN (shG n x y W J m) (v + 1) : Int))), (0, .ref (ad 0)), (1, .int (nI m))]) d_W_fillShares_90 rfl (by decide) rfl ?_
          refine aw_goto (tgt := 5) d_W_fillShares_93 (by decide) ?_
          refine aw_sub (lv' := [(0, .ref (ad 0)), (1, .int (nI m)), (2, .long (lI (sN (shG n x y W J m) (v + 1) : Int))), (4, .int (nI (v + 1)))]) [2, 3, 1, 0] rfl ?_
          exact ih _ _ (v + 1) hW2 hG2 hS2 hC2 ⟨m3, Z3, hE2⟩ hP2 hH2 (hf.tr (f2.wide (by omega) (by omega))) (by omega) (fun i hi => by
            by_cases e : i = v
            · rw [e, fup_s, e0]; rfl
            · rw [fup_n e]; exact hr i (by omega)) (by omega)
        · have hU := okU_an hn h hm hb
          refine aw_aload_n d_W_fillShares_34 rfl rfl ?_
          refine aw_get kc_0 3 (by decide) k_150 d_W_fillShares_35 hW2 rfl ?_
          refine aw_aload_n d_W_fillShares_38 rfl rfl ?_
          refine aw_get kc_0 1 (by decide) k_148 d_W_fillShares_39 hW2 rfl ?_
          refine aw_iload_n d_W_fillShares_42 rfl rfl ?_
          refine aw_iload d_W_fillShares_43 rfl ?_
          refine aw_callS (av := [.int (nI v)]) (rest := [.int (nI m), .ref (ad 9), .ref (ad 23)]) (m_W_only (ad := ad) hg (by omega)) kd_W_only k_223 k_206  d_W_fillShares_45 rfl ⟨by decide, by decide⟩ (Nat.le_of_ble_eq_true rfl) ⟨by decide, by decide⟩ rfl (fun v3 ws3 hq3 => ?_)
          obtain ⟨rfl, rfl⟩ := hq3
          refine aw_iconst (v := -1) d_W_fillShares_48 (by decide) ?_
          refine aw_ixor d_W_fillShares_49 ?_
          refine aw_iand d_W_fillShares_50 ?_
          refine aw_nmi (z := nI (an m (2 ^ v))) (an_eq _ hm _ (pow_32 (by omega))) ?_
          refine aw_callV (av := [.ref (ad 9), .int (nI (an m (2 ^ v)))]) (rest := []) (m_E_fill hg hE2 hS2 hn (an_lt _ hm _ (pow_32 (by omega))) (fun i j hi hj => hoS.P4 hok hi hj)) kd_E_fill k_301 k_302 ks_E_fill rfl hE2.1 d_W_fillShares_51 rfl ⟨by decide, by decide⟩ (Nat.le_of_ble_eq_true rfl) ⟨by decide, by decide⟩ rfl (fun v4 ws4 hq4 => ?_)
          obtain ⟨rfl, f4, Z5, hE4, hZ4⟩ := hq4
          have hW4 : gW ws4 ad := (f4.1 0 (by omega)).trans hW2
          have hG4 := hG2.kept f4 (by omega)
          have hS4 := hS2.kept f4 (by omega)
          have hC4 := hC2.kept f4 (by omega)
          have hP4 := hP2.kept f4 (by omega)
          have hH4 : gH g ws4 ad (fup A v 0) := (f4.1 39 (by omega)).trans hH2
          refine aw_aload_n d_W_fillShares_54 rfl rfl ?_
          refine aw_get kc_0 5 (by decide) k_152 d_W_fillShares_55 hW4 rfl ?_
          refine aw_iload d_W_fillShares_58 rfl ?_
          refine aw_aload_n d_W_fillShares_60 rfl rfl ?_
          refine aw_get kc_0 1 (by decide) k_148 d_W_fillShares_61 hW4 rfl ?_
          refine aw_get kc_2 2 (by decide) k_71 d_W_fillShares_64 hS4.1 rfl ?_
          refine aw_iload d_W_fillShares_67 rfl ?_
          refine aw_ialdA d_W_fillShares_69 hS4.2.2.2.1 hg (by omega) (by decide) ?_
          refine aw_i2lN d_W_fillShares_70 (by have := (hoS.P4 hok h h).2; omega) ?_
          refine aw_aload_n d_W_fillShares_71 rfl rfl ?_
          refine aw_get kc_0 3 (by decide) k_150 d_W_fillShares_72 hW4 rfl ?_
          refine aw_callV (av := []) (rest := [.long (lI (T v : Nat)), .int (nI v), .ref (ad 39)]) (m_E_determinant hg hE4 hn (fun i j hi hj => by rw [hZ4 i j hi hj]; exact eqZ_b (hoS.P4 hok hi hj))) kd_E_determinant k_306 k_307 ks_E_determinant rfl hE4.1 d_W_fillShares_75 rfl ⟨by decide, by decide⟩ (Nat.le_of_ble_eq_true rfl) ⟨by decide, by decide⟩ rfl (fun v5 ws5 hq5 => ?_)
          obtain ⟨rfl, rfl⟩ := hq5
          refine aw_nml (z := lI (Fo n x y W J (an m (2 ^ v)) : Int)) (by rw [detF hoS hn (by omega) hU hZ4]) ?_
          have es : shG n x y W J m v = T v * Fo n x y W J (an m (2 ^ v)) := by unfold shG; rw [if_pos h2, (hoS v h).2.1]
          refine aw_lmulI d_W_fillShares_78 ?_
          refine aw_lastA d_W_fillShares_79 hH4 hg (by omega) (by decide) (fun zws5 za6 zb7 zc8 => ?_)
          have f5 := fr.one (lo := 39) (hi := 40) zb7 zc8 (by omega) (by omega)
          have hW5 : gW zws5 ad := (f5.1 0 (by omega)).trans hW4
          have hG5 := hG4.kept f5 (by omega)
          have hS5 := hS4.kept f5 (by omega)
          have hC5 := hC4.kept f5 (by omega)
          have hE5 := hE4.kept f5 (by omega)
          have hP5 := hP4.kept f5 (by omega)
          have hH5 : gH g zws5 ad (fup (fup A v 0) v (shG n x y W J m v : Int)) := by rw [es, Int.natCast_mul]; exact za6
          refine aw_lload_n d_W_fillShares_80 rfl rfl ?_
          refine aw_aload_n d_W_fillShares_81 rfl rfl ?_
          refine aw_get kc_0 5 (by decide) k_152 d_W_fillShares_82 hW5 rfl ?_
          refine aw_iload d_W_fillShares_85 rfl ?_
          refine aw_laldA d_W_fillShares_87 hH5 hg (by omega) (by decide) ?_
          refine aw_laddI d_W_fillShares_88 ?_
          refine aw_nml (z := lI (sN (shG n x y W J m) (v + 1) : Int)) (by rw [sN, fup_s, Int.natCast_add]) ?_
          refine aw_lstore_n (lv' := [(2, .long (lI (sN (shG n x y W J m) (v + 1) : Int))), (0, .ref (ad 0)), (1, .int (nI m)), (4, .int (nI v))]) d_W_fillShares_89 rfl (by decide) rfl ?_
          refine aw_iinc1 (lv' := [(4, .int (nI (v + 1))), (2, .long (lI (sN (shG n x y W J m) (v + 1) : Int))), (0, .ref (ad 0)), (1, .int (nI m))]) d_W_fillShares_90 rfl (by decide) rfl ?_
          refine aw_goto (tgt := 5) d_W_fillShares_93 (by decide) ?_
          refine aw_sub (lv' := [(0, .ref (ad 0)), (1, .int (nI m)), (2, .long (lI (sN (shG n x y W J m) (v + 1) : Int))), (4, .int (nI (v + 1)))]) [2, 3, 1, 0] rfl ?_
          exact ih _ _ (v + 1) hW5 hG5 hS5 hC5 ⟨n, Z5, hE5⟩ hP5 hH5 (((hf.tr (f2.wide (by omega) (by omega))).tr (f4.wide (by omega) (by omega))).tr (f5.wide (by omega) (by omega))) (by omega) (fun i hi => by
            by_cases e : i = v
            · rw [e, fup_s]
            · rw [fup_n e, fup_n e]; exact hr i (by omega)) (by omega)
  refine aw_lconst (v := lI 0) d_W_fillShares_0 (by decide) ?_
  refine aw_lstore_n (lv' := [(2, .long (lI 0)), (0, .ref (ad 0)), (1, .int (nI m))]) d_W_fillShares_1 rfl (by decide) rfl ?_
  refine aw_iconst (v := nI 0) d_W_fillShares_2 (by decide) ?_
  refine aw_istore (lv' := [(4, .int (nI 0)), (2, .long (lI 0)), (0, .ref (ad 0)), (1, .int (nI m))]) d_W_fillShares_3 (by decide) rfl ?_
  refine aw_sub (lv' := [(0, .ref (ad 0)), (1, .int (nI m)), (2, .long (lI (sN (shG n x y W J m) 0 : Int))), (4, .int (nI 0))]) [2, 3, 1, 0] rfl ?_
  exact lp (n + 1) ws A0 0 hW hG hS hC hE0 hP hH fr.rf (by omega) (fun i hi => absurd hi (by omega)) (by omega)

set_option maxHeartbeats 4000000 in
set_option maxRecDepth 100000 in
theorem m_W_nodesAhead {g : aw_G} (hg : aw_T g) {ws : va_W} {ad : Nat → Nat} {n x y v : Nat} {W : Nat → Nat → Nat} {J f : Nat → Nat} {A : Nat → Int} (hW : gW ws ad) (hG : gG g ws ad n x y W J) (hH : gH g ws ad A) (hn : n ≤ 5) (hv : v < n) (hA : ∀ i, i < n → A i = (f i : Int)) (hb : ∀ i, i < n → f i < 2 ^ 62) : AMet g y_W_nodesAhead c_W_nodesAhead 4 (some .int) 0 [.ref (ad 0), .int (nI v)] ws (aw_R (.int (nI (ahd f v n))) ws) 0 0 := by
  have hvA := hA v hv
  have hvb := hb v hv
  refine amet_of (by decide +kernel) (Nat.le_of_ble_eq_true rfl) ?_
  refine aw_sub (lv' := [(0, .ref (ad 0)), (1, .int (nI v))]) [0, 1] rfl ?_
  refine aw_iconst (v := nI 0) d_W_nodesAhead_0 (by decide) ?_
  refine aw_istore_n (lv' := [(2, .int (nI 0)), (0, .ref (ad 0)), (1, .int (nI v))]) d_W_nodesAhead_1 rfl (by decide) rfl ?_
  refine aw_iconst (v := nI 0) d_W_nodesAhead_2 (by decide) ?_
  refine aw_istore_n (lv' := [(3, .int (nI 0)), (2, .int (nI 0)), (0, .ref (ad 0)), (1, .int (nI v))]) d_W_nodesAhead_3 rfl (by decide) rfl ?_
  have lp : ∀ (k : Nat) (i : Nat), i ≤ n → n - i < k → AW g y_W_nodesAhead c_W_nodesAhead 4 (some .int) (aw_rm 0 0 0) aw_E0 (aw_F g (aw_R (.int (nI (ahd f v n))) ws) 0 0) 0 0 4 [(0, .ref (ad 0)), (1, .int (nI v)), (2, .int (nI (ahd f v i))), (3, .int (nI i))] [] ws := by
    intro k
    induction k with
    | zero => intro i hi hk; omega
    | succ k ih =>
      intro i hi hk
      refine aw_iload_n d_W_nodesAhead_4 rfl rfl ?_
      refine aw_aload_n d_W_nodesAhead_5 rfl rfl ?_
      refine aw_get kc_0 0 (by decide) k_147 d_W_nodesAhead_6 hW rfl ?_
      refine aw_get kc_1 0 (by decide) k_27 d_W_nodesAhead_9 hG.1 rfl ?_
      refine aw_icmp_geN (tgt := 61) d_W_nodesAhead_12 (by decide) (by omega) (by omega) (fun h => ?_) (fun h => ?_)
      · have e : n = i := by omega
        subst e
        refine aw_iload_n d_W_nodesAhead_61 rfl rfl ?_
        exact aw_iret d_W_nodesAhead_62 (Nat.le_refl 0) (Nat.le_refl 0) ⟨rfl, rfl⟩
      · have hiA := hA i h
        have hib := hb i h
        refine aw_aload_n d_W_nodesAhead_15 rfl rfl ?_
        refine aw_get kc_0 5 (by decide) k_152 d_W_nodesAhead_16 hW rfl ?_
        refine aw_iload_n d_W_nodesAhead_19 rfl rfl ?_
        refine aw_laldA d_W_nodesAhead_20 hH hg (by omega) (by decide) ?_
        refine aw_aload_n d_W_nodesAhead_21 rfl rfl ?_
        refine aw_get kc_0 5 (by decide) k_152 d_W_nodesAhead_22 hW rfl ?_
        refine aw_iload_n d_W_nodesAhead_25 rfl rfl ?_
        refine aw_laldA d_W_nodesAhead_26 hH hg (by omega) (by decide) ?_
        refine aw_lcmpI d_W_nodesAhead_27 (by omega) (by omega) (by omega) (by omega) ?_
        refine aw_if_gtC (tgt := 52) d_W_nodesAhead_28 (by decide) (fun h2 => ?_) (fun h2 => ?_)
        · have ex : ahd f v (i + 1) = ahd f v i + 1 := by rw [ahd, if_pos (Or.inl (by omega))]
          refine aw_iinc1 (lv' := [(2, .int (nI (ahd f v i + 1))), (0, .ref (ad 0)), (1, .int (nI v)), (3, .int (nI i))]) d_W_nodesAhead_52 rfl (by decide) rfl ?_
          rw [← ex]
          refine aw_iinc1 (lv' := [(3, .int (nI (i + 1))), (2, .int (nI (ahd f v (i + 1)))), (0, .ref (ad 0)), (1, .int (nI v))]) d_W_nodesAhead_55 rfl (by decide) rfl ?_
          refine aw_goto (tgt := 4) d_W_nodesAhead_58 (by decide) ?_
          refine aw_sub (lv' := [(0, .ref (ad 0)), (1, .int (nI v)), (2, .int (nI (ahd f v (i + 1)))), (3, .int (nI (i + 1)))]) [2, 3, 1, 0] rfl ?_
          exact ih (i + 1) (by omega) (by omega)
        · refine aw_aload_n d_W_nodesAhead_31 rfl rfl ?_
          refine aw_get kc_0 5 (by decide) k_152 d_W_nodesAhead_32 hW rfl ?_
          refine aw_iload_n d_W_nodesAhead_35 rfl rfl ?_
          refine aw_laldA d_W_nodesAhead_36 hH hg (by omega) (by decide) ?_
          refine aw_aload_n d_W_nodesAhead_37 rfl rfl ?_
          refine aw_get kc_0 5 (by decide) k_152 d_W_nodesAhead_38 hW rfl ?_
          refine aw_iload_n d_W_nodesAhead_41 rfl rfl ?_
          refine aw_laldA d_W_nodesAhead_42 hH hg (by omega) (by decide) ?_
          refine aw_lcmpI d_W_nodesAhead_43 (by omega) (by omega) (by omega) (by omega) ?_
          refine aw_if_neC (tgt := 55) d_W_nodesAhead_44 (by decide) (fun h3 => ?_) (fun h3 => ?_)
          · have ex : ahd f v i = ahd f v (i + 1) := by rw [ahd, if_neg (by omega)]; rfl
            rw [ex]
            refine aw_iinc1 (lv' := [(3, .int (nI (i + 1))), (0, .ref (ad 0)), (1, .int (nI v)), (2, .int (nI (ahd f v (i + 1))))]) d_W_nodesAhead_55 rfl (by decide) rfl ?_
            refine aw_goto (tgt := 4) d_W_nodesAhead_58 (by decide) ?_
            refine aw_sub (lv' := [(0, .ref (ad 0)), (1, .int (nI v)), (2, .int (nI (ahd f v (i + 1)))), (3, .int (nI (i + 1)))]) [1, 2, 3, 0] rfl ?_
            exact ih (i + 1) (by omega) (by omega)
          · refine aw_iload_n d_W_nodesAhead_47 rfl rfl ?_
            refine aw_iload_n d_W_nodesAhead_48 rfl rfl ?_
            refine aw_icmp_geN (tgt := 55) d_W_nodesAhead_49 (by decide) (by omega) (by omega) (fun h4 => ?_) (fun h4 => ?_)
            · have ex : ahd f v i = ahd f v (i + 1) := by rw [ahd, if_neg (by omega)]; rfl
              rw [ex]
              refine aw_iinc1 (lv' := [(3, .int (nI (i + 1))), (0, .ref (ad 0)), (1, .int (nI v)), (2, .int (nI (ahd f v (i + 1))))]) d_W_nodesAhead_55 rfl (by decide) rfl ?_
              refine aw_goto (tgt := 4) d_W_nodesAhead_58 (by decide) ?_
              refine aw_sub (lv' := [(0, .ref (ad 0)), (1, .int (nI v)), (2, .int (nI (ahd f v (i + 1)))), (3, .int (nI (i + 1)))]) [1, 2, 3, 0] rfl ?_
              exact ih (i + 1) (by omega) (by omega)
            · have ex : ahd f v (i + 1) = ahd f v i + 1 := by rw [ahd, if_pos (by omega)]
              refine aw_iinc1 (lv' := [(2, .int (nI (ahd f v i + 1))), (0, .ref (ad 0)), (1, .int (nI v)), (3, .int (nI i))]) d_W_nodesAhead_52 rfl (by decide) rfl ?_
              rw [← ex]
              refine aw_iinc1 (lv' := [(3, .int (nI (i + 1))), (2, .int (nI (ahd f v (i + 1)))), (0, .ref (ad 0)), (1, .int (nI v))]) d_W_nodesAhead_55 rfl (by decide) rfl ?_
              refine aw_goto (tgt := 4) d_W_nodesAhead_58 (by decide) ?_
              refine aw_sub (lv' := [(0, .ref (ad 0)), (1, .int (nI v)), (2, .int (nI (ahd f v (i + 1)))), (3, .int (nI (i + 1)))]) [2, 3, 1, 0] rfl ?_
              exact ih (i + 1) (by omega) (by omega)
  refine aw_sub (lv' := [(0, .ref (ad 0)), (1, .int (nI v)), (2, .int (nI (ahd f v 0))), (3, .int (nI 0))]) [2, 3, 1, 0] rfl ?_
  exact lp (n + 1) 0 (by omega) (by omega)
