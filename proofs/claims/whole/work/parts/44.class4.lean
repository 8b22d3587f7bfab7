-- laid by wip/whole/m11.py
set_option maxHeartbeats 4000000 in
set_option maxRecDepth 100000 in
theorem m_W_chanceToCome {g : aw_G} (hg : aw_T g) {ws : va_W} {ad : Nat → Nat} {n x y q : Nat} {W P : Nat → Nat → Nat} {J T X M L D : Nat → Nat} {O : Nat → Int32} {u G p : Nat} (hK : gK g ws ad n x y W J P T X q M L O D) (hu : u < n) (hG0 : G < 32) (hGn : ∀ k, G.testBit k = true → k < n) (hp : p < 2) : AMet g y_W_chanceToCome c_W_chanceToCome 7 (some .long) 9 [.ref (ad 0), .int (nI u), .int (nI G), .int (nI p)] ws (qQry g ad ws (.long (lI (chG n x y W J D u G p : Int))) n x y W J P T X q M L O D) 0 0 := by
  obtain ⟨hW, hG, hok, hS, hoS, hC, hD, hI, hE0, hP0, hH0⟩ := id hK
  have hn := hok.1
  have hX := hoS.X hn
  have hoD := okD_of hX hD
  obtain ⟨m3, Z3, hE⟩ := hE0
  obtain ⟨p4, q4, m4, A4, B4, Z4, hP⟩ := hP0
  obtain ⟨A0, hH⟩ := hH0
  refine amet_of (by decide +kernel) (Nat.le_of_ble_eq_true rfl) ?_
  refine aw_sub (lv' := [(0, .ref (ad 0)), (1, .int (nI u)), (2, .int (nI G)), (3, .int (nI p))]) [0, 1, 2, 3] rfl ?_
  refine aw_iload_n d_W_chanceToCome_0 rfl rfl ?_
  refine aw_iload_n d_W_chanceToCome_1 rfl rfl ?_
  refine aw_callS (av := [.int (nI G), .int (nI u)]) (rest := []) (m_W_has (ad := ad) hg hG0 (by omega)) kd_W_has k_300 k_221  d_W_chanceToCome_2 rfl ⟨by decide, by decide⟩ (Nat.le_of_ble_eq_true rfl) ⟨by decide, by decide⟩ rfl (fun v3 ws3 hq3 => ?_)
  obtain ⟨rfl, rfl⟩ := hq3
  refine aw_if_eqB (tgt := 15) d_W_chanceToCome_5 (by decide) (fun h1 => ?_) (fun h1 => ?_)
  · refine aw_aload_n d_W_chanceToCome_15 rfl rfl ?_
    refine aw_get kc_0 2 (by decide) k_149 d_W_chanceToCome_16 hW rfl ?_
    refine aw_iload_n d_W_chanceToCome_19 rfl rfl ?_
    refine aw_callV (av := [.int (nI G)]) (rest := []) (m_C_leadingTo hg hC hn (fun u hu => hoD.lt hu)) kd_C_leadingTo k_334 k_230 ks_C_leadingTo rfl hC.1 d_W_chanceToCome_20 rfl ⟨by decide, by decide⟩ (Nat.le_of_ble_eq_true rfl) ⟨by decide, by decide⟩ rfl (fun v3 ws3 hq3 => ?_)
    obtain ⟨rfl, rfl⟩ := hq3
    refine aw_iload_n d_W_chanceToCome_23 rfl rfl ?_
    refine aw_iconst (v := -1) d_W_chanceToCome_24 (by decide) ?_
    refine aw_ixor d_W_chanceToCome_25 ?_
    refine aw_iand d_W_chanceToCome_26 ?_
    refine aw_nmi (z := nI (uG D n G)) (an_eq _ (lead_lt hoD G) _ hG0) ?_
    refine aw_istore (lv' := [(4, .int (nI (uG D n G))), (0, .ref (ad 0)), (1, .int (nI u)), (2, .int (nI G)), (3, .int (nI p))]) d_W_chanceToCome_27 (by decide) rfl ?_
    refine aw_iload d_W_chanceToCome_29 rfl ?_
    refine aw_iload_n d_W_chanceToCome_31 rfl rfl ?_
    refine aw_callS (av := [.int (nI (uG D n G)), .int (nI u)]) (rest := []) (m_W_has (ad := ad) hg (uG_lt hoD hG0) (by omega)) kd_W_has k_300 k_221  d_W_chanceToCome_32 rfl ⟨by decide, by decide⟩ (Nat.le_of_ble_eq_true rfl) ⟨by decide, by decide⟩ rfl (fun v3 ws3 hq3 => ?_)
    obtain ⟨rfl, rfl⟩ := hq3
    refine aw_if_neB (tgt := 45) d_W_chanceToCome_35 (by decide) (fun h2 => ?_) (fun h2 => ?_)
    · have hUk := uG_ok hoD hG0 h2
      have hpos := uG_pos hoS hX hD hG0
      have hGU : G &&& uG D n G = 0 := and_an _ (lead_lt hoD G) _ hG0
      have hG2n := bits_lt n hn G hG0 (fun k _ hk => hGn k hk)
      have b1 := Fo_le hok hUk
      have b2 := Fg_le (a := u) (G := G) hok hUk
      refine aw_aload_n d_W_chanceToCome_45 rfl rfl ?_
      refine aw_get kc_0 3 (by decide) k_150 d_W_chanceToCome_46 hW rfl ?_
      refine aw_aload_n d_W_chanceToCome_49 rfl rfl ?_
      refine aw_get kc_0 1 (by decide) k_148 d_W_chanceToCome_50 hW rfl ?_
      refine aw_iload d_W_chanceToCome_53 rfl ?_
      refine aw_callV (av := [.ref (ad 9), .int (nI (uG D n G))]) (rest := []) (m_E_fill hg hE hS hn (uG_lt hoD hG0) (fun i j hi hj => hoS.P4 hok hi hj)) kd_E_fill k_301 k_302 ks_E_fill rfl hE.1 d_W_chanceToCome_55 rfl ⟨by decide, by decide⟩ (Nat.le_of_ble_eq_true rfl) ⟨by decide, by decide⟩ rfl (fun v4 ws4 hq4 => ?_)
      obtain ⟨rfl, f4, Z5, hE4, hZ5⟩ := hq4
      have hW4 : gW ws4 ad := (f4.1 0 (by omega)).trans hW
      have hG4 := hG.kept f4 (by omega)
      have hS4 := hS.kept f4 (by omega)
      have hC4 := hC.kept f4 (by omega)
      have hP4 := hP.kept f4 (by omega)
      have hH4 : gH g ws4 ad A0 := (f4.1 39 (by omega)).trans hH
      refine aw_aload_n d_W_chanceToCome_58 rfl rfl ?_
      refine aw_get kc_0 3 (by decide) k_150 d_W_chanceToCome_59 hW4 rfl ?_
      refine aw_callV (av := []) (rest := []) (m_E_determinant hg hE4 hn (fun i j hi hj => by rw [hZ5 i j hi hj]; exact eqZ_b (hoS.P4 hok hi hj))) kd_E_determinant k_306 k_307 ks_E_determinant rfl hE4.1 d_W_chanceToCome_62 rfl ⟨by decide, by decide⟩ (Nat.le_of_ble_eq_true rfl) ⟨by decide, by decide⟩ rfl (fun v5 ws5 hq5 => ?_)
      obtain ⟨rfl, rfl⟩ := hq5
      refine aw_nml (z := lI (Fo n x y W J (uG D n G) : Int)) (by rw [detF hoS hn (by omega) hUk hZ5]) ?_
      refine aw_lstore (lv' := [(5, .long (lI (Fo n x y W J (uG D n G) : Int))), (4, .int (nI (uG D n G))), (0, .ref (ad 0)), (1, .int (nI u)), (2, .int (nI G)), (3, .int (nI p))]) d_W_chanceToCome_65 (by decide) rfl ?_
      refine aw_aload_n d_W_chanceToCome_67 rfl rfl ?_
      refine aw_get kc_0 3 (by decide) k_150 d_W_chanceToCome_68 hW4 rfl ?_
      refine aw_aload_n d_W_chanceToCome_71 rfl rfl ?_
      refine aw_get kc_0 1 (by decide) k_148 d_W_chanceToCome_72 hW4 rfl ?_
      refine aw_iload d_W_chanceToCome_75 rfl ?_
      refine aw_iload_n d_W_chanceToCome_77 rfl rfl ?_
      refine aw_iload_n d_W_chanceToCome_78 rfl rfl ?_
      refine aw_callV (av := [.ref (ad 9), .int (nI (uG D n G)), .int (nI G), .int (nI u)]) (rest := []) (m_E_putChances hg hE4 hS4 hn (uG_lt hoD hG0) hG0 (by omega) (fun i j hi hj => (hoS.P4 hok hi hj).1)) kd_E_putChances k_335 k_336 ks_E_putChances rfl hE4.1 d_W_chanceToCome_79 rfl ⟨by decide, by decide⟩ (Nat.le_of_ble_eq_true rfl) ⟨by decide, by decide⟩ rfl (fun v6 ws6 hq6 => ?_)
      obtain ⟨rfl, f6, Z6, hE6, hZ6⟩ := hq6
      have hW6 : gW ws6 ad := (f6.1 0 (by omega)).trans hW4
      have hG6 := hG4.kept f6 (by omega)
      have hS6 := hS4.kept f6 (by omega)
      have hC6 := hC4.kept f6 (by omega)
      have hP6 := hP4.kept f6 (by omega)
      have hH6 : gH g ws6 ad A0 := (f6.1 39 (by omega)).trans hH4
      have hZ6b := ch_b hn hZ5 hZ6 (fun i j hi hj => hoS.P4 hok hi hj)
      refine aw_aload_n d_W_chanceToCome_82 rfl rfl ?_
      refine aw_get kc_0 3 (by decide) k_150 d_W_chanceToCome_83 hW6 rfl ?_
      refine aw_callV (av := []) (rest := []) (m_E_determinant hg hE6 hn hZ6b) kd_E_determinant k_306 k_307 ks_E_determinant rfl hE6.1 d_W_chanceToCome_86 rfl ⟨by decide, by decide⟩ (Nat.le_of_ble_eq_true rfl) ⟨by decide, by decide⟩ rfl (fun v7 ws7 hq7 => ?_)
      obtain ⟨rfl, rfl⟩ := hq7
      refine aw_nml (z := lI (Fg n x y W J (uG D n G) u G : Int)) (by rw [detG hoS hn hUk hu h2 hG2n hGU hZ5 hZ6]) ?_
      refine aw_lload d_W_chanceToCome_89 rfl ?_
      refine aw_iload_n d_W_chanceToCome_91 rfl rfl ?_
      refine aw_callS (av := [.long (lI (Fg n x y W J (uG D n G) u G : Int)), .long (lI (Fo n x y W J (uG D n G) : Int)), .int (nI p)]) (rest := []) (m_W_fraction (ad := ad) hg (by omega) (by omega) (mul99 (by omega) (by omega)) hpos hp) kd_W_fraction k_314 k_315  d_W_chanceToCome_92 rfl ⟨by decide, by decide⟩ (Nat.le_of_ble_eq_true rfl) ⟨by decide, by decide⟩ rfl (fun v8 ws8 hq8 => ?_)
      obtain ⟨rfl, rfl⟩ := hq8
      exact aw_lret d_W_chanceToCome_95 (Nat.le_refl 0) (Nat.le_refl 0) ⟨by unfold chG; rw [if_neg (by rw [h1]; decide), if_pos h2], (f4.tr f6).wide (by omega) (by omega), hW6, hG6, hok, hS6, hoS, hC6, hD, hI, ⟨_, _, hE6⟩, ⟨_, _, _, _, _, _, hP6⟩, ⟨_, hH6⟩⟩
    · refine aw_lconst (v := lI 0) d_W_chanceToCome_38 (by decide) ?_
      refine aw_lconst (v := lI 1) d_W_chanceToCome_39 (by decide) ?_
      refine aw_iload_n d_W_chanceToCome_40 rfl rfl ?_
      refine aw_callS (av := [.long (lI 0), .long (lI 1), .int (nI p)]) (rest := []) (m_W_fraction (a := 0) (b := 1) (ad := ad) hg (by omega) (by omega) (by omega) (by omega) hp) kd_W_fraction k_314 k_315  d_W_chanceToCome_41 rfl ⟨by decide, by decide⟩ (Nat.le_of_ble_eq_true rfl) ⟨by decide, by decide⟩ rfl (fun v8 ws8 hq8 => ?_)
      obtain ⟨rfl, rfl⟩ := hq8
      exact aw_lret d_W_chanceToCome_44 (Nat.le_refl 0) (Nat.le_refl 0) ⟨by unfold chG; rw [if_neg (by rw [h1]; decide), if_neg (by rw [h2]; decide)], fr.rf, hK⟩
  · refine aw_lconst (v := lI 1) d_W_chanceToCome_8 (by decide) ?_
    refine aw_lconst (v := lI 1) d_W_chanceToCome_9 (by decide) ?_
    refine aw_iload_n d_W_chanceToCome_10 rfl rfl ?_
    refine aw_callS (av := [.long (lI 1), .long (lI 1), .int (nI p)]) (rest := []) (m_W_fraction (a := 1) (b := 1) (ad := ad) hg (by omega) (by omega) (by omega) (by omega) hp) kd_W_fraction k_314 k_315  d_W_chanceToCome_11 rfl ⟨by decide, by decide⟩ (Nat.le_of_ble_eq_true rfl) ⟨by decide, by decide⟩ rfl (fun v8 ws8 hq8 => ?_)
    obtain ⟨rfl, rfl⟩ := hq8
    exact aw_lret d_W_chanceToCome_14 (Nat.le_refl 0) (Nat.le_refl 0) ⟨by unfold chG; rw [if_pos h1], fr.rf, hK⟩

set_option maxHeartbeats 4000000 in
set_option maxRecDepth 100000 in
theorem m_W_reach {g : aw_G} (hg : aw_T g) {ws : va_W} {ad : Nat → Nat} {n x y q : Nat} {W P : Nat → Nat → Nat} {J T X M L D : Nat → Nat} {O : Nat → Int32} {u v p : Int32} (hK : gK g ws ad n x y W J P T X q M L O D) : AMet g y_W_reach c_W_reach 4 (some .long) 10 [.ref (ad 0), .int u, .int v, .int p] ws (qQry g ad ws (.long (aReach n x y W J D u v p)) n x y W J P T X q M L O D) 0 0 := by
  obtain ⟨hW, hG, hok, hS, hoS, hC, hD, hI, hE0, hP0, hH0⟩ := id hK
  have hn := hok.1
  have hX := hoS.X hn
  have hoD := okD_of hX hD
  obtain ⟨m3, Z3, hE⟩ := hE0
  obtain ⟨p4, q4, m4, A4, B4, Z4, hP⟩ := hP0
  obtain ⟨A0, hH⟩ := hH0
  refine amet_of (by decide +kernel) (Nat.le_of_ble_eq_true rfl) ?_
  refine aw_sub (lv' := [(0, .ref (ad 0)), (1, .int u), (2, .int v), (3, .int p)]) [0, 1, 2, 3] rfl ?_
  refine aw_aload_n d_W_reach_0 rfl rfl ?_
  refine aw_iload_n d_W_reach_1 rfl rfl ?_
  refine aw_callV (av := [.int u]) (rest := []) (m_W_isNode hg hW hG) kd_W_isNode k_242 k_244 ks_W_isNode rfl hW d_W_reach_2 rfl ⟨by decide, by decide⟩ (Nat.le_of_ble_eq_true rfl) ⟨by decide, by decide⟩ rfl (fun v2 ws2 hq2 => ?_)
  obtain ⟨rfl, rfl⟩ := hq2
  refine aw_if_eqB (tgt := 16) d_W_reach_5 (by decide) (fun h1 => ?_) (fun h1 => ?_)
  · refine aw_ldc2 (v := (-1 : Int64)) d_W_reach_16 k_290 ?_
    exact aw_lret d_W_reach_19 (Nat.le_refl 0) (Nat.le_refl 0) ⟨by unfold aReach; rw [if_neg (by simp [h1])], fr.rf, hK⟩
  · refine aw_aload_n d_W_reach_8 rfl rfl ?_
    refine aw_iload_n d_W_reach_9 rfl rfl ?_
    refine aw_callV (av := [.int v]) (rest := []) (m_W_isNode hg hW hG) kd_W_isNode k_242 k_244 ks_W_isNode rfl hW d_W_reach_10 rfl ⟨by decide, by decide⟩ (Nat.le_of_ble_eq_true rfl) ⟨by decide, by decide⟩ rfl (fun v2 ws2 hq2 => ?_)
    obtain ⟨rfl, rfl⟩ := hq2
    refine aw_if_neB (tgt := 20) d_W_reach_13 (by decide) (fun h2 => ?_) (fun h2 => ?_)
    · refine aw_iload_n d_W_reach_20 rfl rfl ?_
      refine aw_callS (av := [.int p]) (rest := []) (m_W_isPart (ad := ad) hg) kd_W_isPart k_291 k_292  d_W_reach_21 rfl ⟨by decide, by decide⟩ (Nat.le_of_ble_eq_true rfl) ⟨by decide, by decide⟩ rfl (fun v2 ws2 hq2 => ?_)
      obtain ⟨rfl, rfl⟩ := hq2
      refine aw_if_neB (tgt := 31) d_W_reach_24 (by decide) (fun h3 => ?_) (fun h3 => ?_)
      · obtain ⟨u1, hu1, rfl⟩ := nb_true hn h1
        obtain ⟨v1, hv1, rfl⟩ := nb_true hn h2
        obtain ⟨p1, hp1, rfl⟩ := pb_true h3
        refine aw_aload_n d_W_reach_31 rfl rfl ?_
        refine aw_iload_n d_W_reach_32 rfl rfl ?_
        refine aw_iload_n d_W_reach_33 rfl rfl ?_
        refine aw_callS (av := [.int (nI v1)]) (rest := [.int (nI u1), .ref (ad 0)]) (m_W_only (ad := ad) hg (by omega)) kd_W_only k_223 k_206  d_W_reach_34 rfl ⟨by decide, by decide⟩ (Nat.le_of_ble_eq_true rfl) ⟨by decide, by decide⟩ rfl (fun v3 ws3 hq3 => ?_)
        obtain ⟨rfl, rfl⟩ := hq3
        refine aw_iload_n d_W_reach_37 rfl rfl ?_
        refine aw_callV (av := [.int (nI u1), .int (nI (2 ^ v1)), .int (nI p1)]) (rest := []) (m_W_chanceToCome hg hK hu1 (pow_32 (by omega)) (pow_in hv1) hp1) kd_W_chanceToCome k_330 k_332 ks_W_chanceToCome rfl hW d_W_reach_38 rfl ⟨by decide, by decide⟩ (Nat.le_of_ble_eq_true rfl) ⟨by decide, by decide⟩ rfl (fun v4 ws4 hq4 => ?_)
        obtain ⟨rfl, f4, hK4⟩ := hq4
        exact aw_lret d_W_reach_41 (Nat.le_refl 0) (Nat.le_refl 0) ⟨by unfold aReach; rw [if_pos ⟨h1, h2⟩, if_pos h3, ix_nI (by omega), ix_nI (by omega), ix_nI (by omega)], f4, hK4⟩
      · refine aw_ldc2 (v := (-2 : Int64)) d_W_reach_27 k_294 ?_
        exact aw_lret d_W_reach_30 (Nat.le_refl 0) (Nat.le_refl 0) ⟨by unfold aReach; rw [if_pos ⟨h1, h2⟩, if_neg (by rw [h3]; decide)], fr.rf, hK⟩
    · refine aw_ldc2 (v := (-1 : Int64)) d_W_reach_16 k_290 ?_
      exact aw_lret d_W_reach_19 (Nat.le_refl 0) (Nat.le_refl 0) ⟨by unfold aReach; rw [if_neg (by simp [h2])], fr.rf, hK⟩

set_option maxHeartbeats 4000000 in
set_option maxRecDepth 100000 in
theorem m_W_end {g : aw_G} (hg : aw_T g) {ws : va_W} {ad : Nat → Nat} {n x y q : Nat} {W P : Nat → Nat → Nat} {J T X M L D : Nat → Nat} {O : Nat → Int32} {u s p : Int32} (hK : gK g ws ad n x y W J P T X q M L O D) : AMet g y_W_end c_W_end 4 (some .long) 10 [.ref (ad 0), .int u, .int s, .int p] ws (qQry g ad ws (.long (aEnd n x y W J D q M u s p)) n x y W J P T X q M L O D) 0 0 := by
  obtain ⟨hW, hG, hok, hS, hoS, hC, hD, hI, hE0, hP0, hH0⟩ := id hK
  have hn := hok.1
  have hX := hoS.X hn
  have hoD := okD_of hX hD
  obtain ⟨m3, Z3, hE⟩ := hE0
  obtain ⟨p4, q4, m4, A4, B4, Z4, hP⟩ := hP0
  obtain ⟨A0, hH⟩ := hH0
  have hq5 := IC_q hI hn
  refine amet_of (by decide +kernel) (Nat.le_of_ble_eq_true rfl) ?_
  refine aw_sub (lv' := [(0, .ref (ad 0)), (1, .int u), (2, .int s), (3, .int p)]) [0, 1, 2, 3] rfl ?_
  refine aw_aload_n d_W_end_0 rfl rfl ?_
  refine aw_iload_n d_W_end_1 rfl rfl ?_
  refine aw_callV (av := [.int u]) (rest := []) (m_W_isNode hg hW hG) kd_W_isNode k_242 k_244 ks_W_isNode rfl hW d_W_end_2 rfl ⟨by decide, by decide⟩ (Nat.le_of_ble_eq_true rfl) ⟨by decide, by decide⟩ rfl (fun v2 ws2 hq2 => ?_)
  obtain ⟨rfl, rfl⟩ := hq2
  refine aw_if_eqB (tgt := 16) d_W_end_5 (by decide) (fun h1 => ?_) (fun h1 => ?_)
  · refine aw_ldc2 (v := (-1 : Int64)) d_W_end_16 k_290 ?_
    exact aw_lret d_W_end_19 (Nat.le_refl 0) (Nat.le_refl 0) ⟨by unfold aEnd; rw [if_neg (by simp [h1])], fr.rf, hK⟩
  · refine aw_aload_n d_W_end_8 rfl rfl ?_
    refine aw_iload_n d_W_end_9 rfl rfl ?_
    refine aw_callV (av := [.int s]) (rest := []) (m_W_isSet hg hW hC) kd_W_isSet k_278 k_280 ks_W_isSet rfl hW d_W_end_10 rfl ⟨by decide, by decide⟩ (Nat.le_of_ble_eq_true rfl) ⟨by decide, by decide⟩ rfl (fun v2 ws2 hq2 => ?_)
    obtain ⟨rfl, rfl⟩ := hq2
    refine aw_if_neB (tgt := 20) d_W_end_13 (by decide) (fun h2 => ?_) (fun h2 => ?_)
    · refine aw_iload_n d_W_end_20 rfl rfl ?_
      refine aw_callS (av := [.int p]) (rest := []) (m_W_isPart (ad := ad) hg) kd_W_isPart k_291 k_292  d_W_end_21 rfl ⟨by decide, by decide⟩ (Nat.le_of_ble_eq_true rfl) ⟨by decide, by decide⟩ rfl (fun v2 ws2 hq2 => ?_)
      obtain ⟨rfl, rfl⟩ := hq2
      refine aw_if_neB (tgt := 31) d_W_end_24 (by decide) (fun h3 => ?_) (fun h3 => ?_)
      · obtain ⟨u1, hu1, rfl⟩ := nb_true hn h1
        obtain ⟨s1, hs1, rfl⟩ := nb_true hq5 h2
        obtain ⟨p1, hp1, rfl⟩ := pb_true h3
        obtain ⟨l, hl, l2, -, eM, -⟩ := IC_set hI hs1
        refine aw_aload_n d_W_end_31 rfl rfl ?_
        refine aw_iload_n d_W_end_32 rfl rfl ?_
        refine aw_aload_n d_W_end_33 rfl rfl ?_
        refine aw_get kc_0 2 (by decide) k_149 d_W_end_34 hW rfl ?_
        refine aw_get kc_3 1 (by decide) k_91 d_W_end_37 hC.1 rfl ?_
        refine aw_iload_n d_W_end_40 rfl rfl ?_
        refine aw_ialdA d_W_end_41 hC.2.1 hg (by omega) (by decide) ?_
        refine aw_iload_n d_W_end_42 rfl rfl ?_
        refine aw_callV (av := [.int (nI u1), .int (nI (M s1)), .int (nI p1)]) (rest := []) (m_W_chanceToCome hg hK hu1 (by rw [eM]; exact hoD.lt hl) (fun k hk => by rw [eM] at hk; exact hoD.in hl hk) hp1) kd_W_chanceToCome k_330 k_332 ks_W_chanceToCome rfl hW d_W_end_43 rfl ⟨by decide, by decide⟩ (Nat.le_of_ble_eq_true rfl) ⟨by decide, by decide⟩ rfl (fun v4 ws4 hq4 => ?_)
        obtain ⟨rfl, f4, hK4⟩ := hq4
        exact aw_lret d_W_end_46 (Nat.le_refl 0) (Nat.le_refl 0) ⟨by unfold aEnd; rw [if_pos ⟨h1, h2⟩, if_pos h3, ix_nI (by omega), ix_nI (by omega), ix_nI (by omega)], f4, hK4⟩
      · refine aw_ldc2 (v := (-2 : Int64)) d_W_end_27 k_294 ?_
        exact aw_lret d_W_end_30 (Nat.le_refl 0) (Nat.le_refl 0) ⟨by unfold aEnd; rw [if_pos ⟨h1, h2⟩, if_neg (by rw [h3]; decide)], fr.rf, hK⟩
    · refine aw_ldc2 (v := (-1 : Int64)) d_W_end_16 k_290 ?_
      exact aw_lret d_W_end_19 (Nat.le_refl 0) (Nat.le_refl 0) ⟨by unfold aEnd; rw [if_neg (by simp [h2])], fr.rf, hK⟩

set_option maxHeartbeats 4000000 in
set_option maxRecDepth 100000 in
theorem m_W_rank {g : aw_G} (hg : aw_T g) {ws : va_W} {ad : Nat → Nat} {n x y q : Nat} {W P : Nat → Nat → Nat} {J T X M L D : Nat → Nat} {O : Nat → Int32} {v p : Int32} (hK : gK g ws ad n x y W J P T X q M L O D) : AMet g y_W_rank c_W_rank 5 (some .long) 10 [.ref (ad 0), .int v, .int p] ws (qQry g ad ws (.long (aRank n x y W J q M v p)) n x y W J P T X q M L O D) 0 0 := by
  obtain ⟨hW, hG, hok, hS, hoS, hC, hD, hI, hE0, hP0, hH0⟩ := id hK
  have hn := hok.1
  have hX := hoS.X hn
  have hoD := okD_of hX hD
  obtain ⟨m3, Z3, hE⟩ := hE0
  obtain ⟨p4, q4, m4, A4, B4, Z4, hP⟩ := hP0
  obtain ⟨A0, hH⟩ := hH0
  have hq5 := IC_q hI hn
  refine amet_of (by decide +kernel) (Nat.le_of_ble_eq_true rfl) ?_
  refine aw_sub (lv' := [(0, .ref (ad 0)), (1, .int v), (2, .int p)]) [0, 1, 2] rfl ?_
  refine aw_aload_n d_W_rank_0 rfl rfl ?_
  refine aw_iload_n d_W_rank_1 rfl rfl ?_
  refine aw_callV (av := [.int v]) (rest := []) (m_W_isNode hg hW hG) kd_W_isNode k_242 k_244 ks_W_isNode rfl hW d_W_rank_2 rfl ⟨by decide, by decide⟩ (Nat.le_of_ble_eq_true rfl) ⟨by decide, by decide⟩ rfl (fun v2 ws2 hq2 => ?_)
  obtain ⟨rfl, rfl⟩ := hq2
  refine aw_if_neB (tgt := 12) d_W_rank_5 (by decide) (fun h1 => ?_) (fun h1 => ?_)
  · refine aw_iload_n d_W_rank_12 rfl rfl ?_
    refine aw_callS (av := [.int p]) (rest := []) (m_W_isPart (ad := ad) hg) kd_W_isPart k_291 k_292  d_W_rank_13 rfl ⟨by decide, by decide⟩ (Nat.le_of_ble_eq_true rfl) ⟨by decide, by decide⟩ rfl (fun v2 ws2 hq2 => ?_)
    obtain ⟨rfl, rfl⟩ := hq2
    refine aw_if_neB (tgt := 23) d_W_rank_16 (by decide) (fun h2 => ?_) (fun h2 => ?_)
    · refine aw_aload_n d_W_rank_23 rfl rfl ?_
      refine aw_get kc_0 2 (by decide) k_149 d_W_rank_24 hW rfl ?_
      refine aw_get kc_3 0 (by decide) k_89 d_W_rank_27 hC.1 rfl ?_
      refine aw_iconst (v := nI 1) d_W_rank_30 (by decide) ?_
      refine aw_icmp_eqN (tgt := 38) d_W_rank_31 (by decide) (by omega) (by omega) (fun h3 => ?_) (fun h3 => ?_)
      · obtain ⟨v1, hv1, rfl⟩ := nb_true hn h1
        obtain ⟨p1, hp1, rfl⟩ := pb_true h2
        obtain ⟨l, hl, l2, -, eM, -⟩ := IC_set hI (show 0 < q by omega)
        have lc := ((ldB_iff hoD hl).mp l2).1
        have hm : M 0 < 32 := by rw [eM]; exact hoD.lt hl
        have hmb : ∀ k, (M 0).testBit k = true → k < n := fun k hk => by rw [eM] at hk; exact hoD.in hl hk
        have b1 := sum_le hok hm hmb
        have b2 := shG_le hok hv1 hm hmb
        have b3 : 0 < sN (shG n x y W J (M 0)) n := Nat.lt_of_lt_of_le (by rw [eM]; exact share_pos hoS hX hD hok hl lc (hoD.rf hl)) (sN_mem (f := shG n x y W J (M 0)) hl)
        refine aw_aload_n d_W_rank_38 rfl rfl ?_
        refine aw_aload_n d_W_rank_39 rfl rfl ?_
        refine aw_get kc_0 2 (by decide) k_149 d_W_rank_40 hW rfl ?_
        refine aw_get kc_3 1 (by decide) k_91 d_W_rank_43 hC.1 rfl ?_
        refine aw_iconst (v := nI 0) d_W_rank_46 (by decide) ?_
        refine aw_ialdA d_W_rank_47 hC.2.1 hg (by omega) (by decide) ?_
        refine aw_callV (av := [.int (nI (M 0))]) (rest := []) (m_W_fillShares hg hK hm hmb) kd_W_fillShares k_296 k_298 ks_W_fillShares rfl hW d_W_rank_48 rfl ⟨by decide, by decide⟩ (Nat.le_of_ble_eq_true rfl) ⟨by decide, by decide⟩ rfl (fun v4 ws4 hq4 => ?_)
        obtain ⟨rfl, f4, hK4, A4s, hH4, hA4⟩ := hq4
        have hW4 := hK4.1
        refine aw_lstore_n (lv' := [(3, .long (lI (sN (shG n x y W J (M 0)) n : Int))), (0, .ref (ad 0)), (1, .int (nI v1)), (2, .int (nI p1))]) d_W_rank_51 rfl (by decide) rfl ?_
        refine aw_aload_n d_W_rank_52 rfl rfl ?_
        refine aw_get kc_0 5 (by decide) k_152 d_W_rank_53 hW4 rfl ?_
        refine aw_iload_n d_W_rank_56 rfl rfl ?_
        refine aw_laldA d_W_rank_57 hH4 hg (by omega) (by decide) ?_
        refine aw_nml (z := lI (shG n x y W J (M 0) v1 : Int)) (by rw [hA4 v1 hv1]) ?_
        refine aw_lload_n d_W_rank_58 rfl rfl ?_
        refine aw_iload_n d_W_rank_59 rfl rfl ?_
        refine aw_callS (av := [.long (lI (shG n x y W J (M 0) v1 : Int)), .long (lI (sN (shG n x y W J (M 0)) n : Int)), .int (nI p1)]) (rest := []) (m_W_fraction (ad := ad) hg (by omega) (by omega) (mul99 (by omega) (by omega)) b3 hp1) kd_W_fraction k_314 k_315  d_W_rank_60 rfl ⟨by decide, by decide⟩ (Nat.le_of_ble_eq_true rfl) ⟨by decide, by decide⟩ rfl (fun v8 ws8 hq8 => ?_)
        obtain ⟨rfl, rfl⟩ := hq8
        exact aw_lret d_W_rank_63 (Nat.le_refl 0) (Nat.le_refl 0) ⟨by unfold aRank; rw [if_pos h1, if_pos h2, if_pos h3, ix_nI (by omega), ix_nI (by omega)], f4, hK4⟩
      · refine aw_ldc2 (v := (-3 : Int64)) d_W_rank_34 k_295 ?_
        exact aw_lret d_W_rank_37 (Nat.le_refl 0) (Nat.le_refl 0) ⟨by unfold aRank; rw [if_pos h1, if_pos h2, if_neg h3], fr.rf, hK⟩
    · refine aw_ldc2 (v := (-2 : Int64)) d_W_rank_19 k_294 ?_
      exact aw_lret d_W_rank_22 (Nat.le_refl 0) (Nat.le_refl 0) ⟨by unfold aRank; rw [if_pos h1, if_neg (by rw [h2]; decide)], fr.rf, hK⟩
  · refine aw_ldc2 (v := (-1 : Int64)) d_W_rank_8 k_290 ?_
    exact aw_lret d_W_rank_11 (Nat.le_refl 0) (Nat.le_refl 0) ⟨by unfold aRank; rw [if_neg (by rw [h1]; decide)], fr.rf, hK⟩

set_option maxHeartbeats 4000000 in
set_option maxRecDepth 100000 in
theorem m_W_back {g : aw_G} (hg : aw_T g) {ws : va_W} {ad : Nat → Nat} {n x y q : Nat} {W P : Nat → Nat → Nat} {J T X M L D : Nat → Nat} {O : Nat → Int32} {v p : Int32} (hK : gK g ws ad n x y W J P T X q M L O D) : AMet g y_W_back c_W_back 5 (some .long) 10 [.ref (ad 0), .int v, .int p] ws (qQry g ad ws (.long (aBack n x y W J q M O v p)) n x y W J P T X q M L O D) 0 0 := by
  obtain ⟨hW, hG, hok, hS, hoS, hC, hD, hI, hE0, hP0, hH0⟩ := id hK
  have hn := hok.1
  have hX := hoS.X hn
  have hoD := okD_of hX hD
  obtain ⟨m3, Z3, hE⟩ := hE0
  obtain ⟨p4, q4, m4, A4, B4, Z4, hP⟩ := hP0
  obtain ⟨A0, hH⟩ := hH0
  have hq5 := IC_q hI hn
  refine amet_of (by decide +kernel) (Nat.le_of_ble_eq_true rfl) ?_
  refine aw_sub (lv' := [(0, .ref (ad 0)), (1, .int v), (2, .int p)]) [0, 1, 2] rfl ?_
  refine aw_aload_n d_W_back_0 rfl rfl ?_
  refine aw_iload_n d_W_back_1 rfl rfl ?_
  refine aw_callV (av := [.int v]) (rest := []) (m_W_isNode hg hW hG) kd_W_isNode k_242 k_244 ks_W_isNode rfl hW d_W_back_2 rfl ⟨by decide, by decide⟩ (Nat.le_of_ble_eq_true rfl) ⟨by decide, by decide⟩ rfl (fun v2 ws2 hq2 => ?_)
  obtain ⟨rfl, rfl⟩ := hq2
  refine aw_if_neB (tgt := 12) d_W_back_5 (by decide) (fun h1 => ?_) (fun h1 => ?_)
  · refine aw_iload_n d_W_back_12 rfl rfl ?_
    refine aw_callS (av := [.int p]) (rest := []) (m_W_isPart (ad := ad) hg) kd_W_isPart k_291 k_292  d_W_back_13 rfl ⟨by decide, by decide⟩ (Nat.le_of_ble_eq_true rfl) ⟨by decide, by decide⟩ rfl (fun v2 ws2 hq2 => ?_)
    obtain ⟨rfl, rfl⟩ := hq2
    refine aw_if_neB (tgt := 23) d_W_back_16 (by decide) (fun h2 => ?_) (fun h2 => ?_)
    · obtain ⟨v1, hv1, rfl⟩ := nb_true hn h1
      obtain ⟨p1, hp1, rfl⟩ := pb_true h2
      refine aw_aload_n d_W_back_23 rfl rfl ?_
      refine aw_aload_n d_W_back_24 rfl rfl ?_
      refine aw_get kc_0 2 (by decide) k_149 d_W_back_25 hW rfl ?_
      refine aw_get kc_3 3 (by decide) k_95 d_W_back_28 hC.1 rfl ?_
      refine aw_iload_n d_W_back_31 rfl rfl ?_
      refine aw_ialdR d_W_back_32 hC.2.2.2.1 hg (by omega) (by decide) ?_
      refine aw_callV (av := [.int (O v1)]) (rest := []) (m_W_isSet hg hW hC) kd_W_isSet k_278 k_280 ks_W_isSet rfl hW d_W_back_33 rfl ⟨by decide, by decide⟩ (Nat.le_of_ble_eq_true rfl) ⟨by decide, by decide⟩ rfl (fun v2 ws2 hq2 => ?_)
      obtain ⟨rfl, rfl⟩ := hq2
      refine aw_if_neB (tgt := 43) d_W_back_36 (by decide) (fun h3 => ?_) (fun h3 => ?_)
      · obtain ⟨i, l, hi, eO, hl, l2, -, eM, hvl⟩ := IC_of hoD hI hv1 h3
        have lc := ((ldB_iff hoD hl).mp l2).1
        have hm : M i < 32 := by rw [eM]; exact hoD.lt hl
        have hmb : ∀ k, (M i).testBit k = true → k < n := fun k hk => by rw [eM] at hk; exact hoD.in hl hk
        have b1 := sum_le hok hm hmb
        have b2 := shG_le hok hv1 hm hmb
        have b3 : 0 < shG n x y W J (M i) v1 := by rw [eM]; exact share_pos hoS hX hD hok hl lc hvl
        refine aw_aload_n d_W_back_43 rfl rfl ?_
        refine aw_aload_n d_W_back_44 rfl rfl ?_
        refine aw_get kc_0 2 (by decide) k_149 d_W_back_45 hW rfl ?_
        refine aw_get kc_3 1 (by decide) k_91 d_W_back_48 hC.1 rfl ?_
        refine aw_aload_n d_W_back_51 rfl rfl ?_
        refine aw_get kc_0 2 (by decide) k_149 d_W_back_52 hW rfl ?_
        refine aw_get kc_3 3 (by decide) k_95 d_W_back_55 hC.1 rfl ?_
        refine aw_iload_n d_W_back_58 rfl rfl ?_
        refine aw_ialdR d_W_back_59 hC.2.2.2.1 hg (by omega) (by decide) ?_
        refine aw_nmi (z := nI i) (by rw [eO]) ?_
        refine aw_ialdA d_W_back_60 hC.2.1 hg (by omega) (by decide) ?_
        refine aw_callV (av := [.int (nI (M i))]) (rest := []) (m_W_fillShares hg hK hm hmb) kd_W_fillShares k_296 k_298 ks_W_fillShares rfl hW d_W_back_61 rfl ⟨by decide, by decide⟩ (Nat.le_of_ble_eq_true rfl) ⟨by decide, by decide⟩ rfl (fun v4 ws4 hq4 => ?_)
        obtain ⟨rfl, f4, hK4, A4s, hH4, hA4⟩ := hq4
        have hW4 := hK4.1
        refine aw_lstore_n (lv' := [(3, .long (lI (sN (shG n x y W J (M i)) n : Int))), (0, .ref (ad 0)), (1, .int (nI v1)), (2, .int (nI p1))]) d_W_back_64 rfl (by decide) rfl ?_
        refine aw_lload_n d_W_back_65 rfl rfl ?_
        refine aw_aload_n d_W_back_66 rfl rfl ?_
        refine aw_get kc_0 5 (by decide) k_152 d_W_back_67 hW4 rfl ?_
        refine aw_iload_n d_W_back_70 rfl rfl ?_
        refine aw_laldA d_W_back_71 hH4 hg (by omega) (by decide) ?_
        refine aw_nml (z := lI (shG n x y W J (M i) v1 : Int)) (by rw [hA4 v1 hv1]) ?_
        refine aw_iload_n d_W_back_72 rfl rfl ?_
        refine aw_callS (av := [.long (lI (sN (shG n x y W J (M i)) n : Int)), .long (lI (shG n x y W J (M i) v1 : Int)), .int (nI p1)]) (rest := []) (m_W_fraction (ad := ad) hg (by omega) (by omega) (mul99 (by omega) (by omega)) b3 hp1) kd_W_fraction k_314 k_315  d_W_back_73 rfl ⟨by decide, by decide⟩ (Nat.le_of_ble_eq_true rfl) ⟨by decide, by decide⟩ rfl (fun v8 ws8 hq8 => ?_)
        obtain ⟨rfl, rfl⟩ := hq8
        exact aw_lret d_W_back_76 (Nat.le_refl 0) (Nat.le_refl 0) ⟨by unfold aBack; rw [if_pos h1, if_pos h2, ix_nI (by omega), ix_nI (by omega), if_pos h3, eO, ix_nI (by omega)], f4, hK4⟩
      · refine aw_ldc2 (v := (-3 : Int64)) d_W_back_39 k_295 ?_
        exact aw_lret d_W_back_42 (Nat.le_refl 0) (Nat.le_refl 0) ⟨by unfold aBack; rw [if_pos h1, if_pos h2, ix_nI (by omega), if_neg (by rw [h3]; decide)], fr.rf, hK⟩
    · refine aw_ldc2 (v := (-2 : Int64)) d_W_back_19 k_294 ?_
      exact aw_lret d_W_back_22 (Nat.le_refl 0) (Nat.le_refl 0) ⟨by unfold aBack; rw [if_pos h1, if_neg (by rw [h2]; decide)], fr.rf, hK⟩
  · refine aw_ldc2 (v := (-1 : Int64)) d_W_back_8 k_290 ?_
    exact aw_lret d_W_back_11 (Nat.le_refl 0) (Nat.le_refl 0) ⟨by unfold aBack; rw [if_neg (by rw [h1]; decide)], fr.rf, hK⟩

set_option maxHeartbeats 4000000 in
set_option maxRecDepth 100000 in
theorem m_W_place {g : aw_G} (hg : aw_T g) {ws : va_W} {ad : Nat → Nat} {n x y q : Nat} {W P : Nat → Nat → Nat} {J T X M L D : Nat → Nat} {O : Nat → Int32} {k : Int32} (hK : gK g ws ad n x y W J P T X q M L O D) : AMet g y_W_place c_W_place 3 (some .int) 10 [.ref (ad 0), .int k] ws (qQry g ad ws (.int (aPlace n x y W J q M k)) n x y W J P T X q M L O D) 0 0 := by
  obtain ⟨hW, hG, hok, hS, hoS, hC, hD, hI, hE0, hP0, hH0⟩ := id hK
  have hn := hok.1
  have hX := hoS.X hn
  have hoD := okD_of hX hD
  obtain ⟨m3, Z3, hE⟩ := hE0
  obtain ⟨p4, q4, m4, A4, B4, Z4, hP⟩ := hP0
  obtain ⟨A0, hH⟩ := hH0
  have hq5 := IC_q hI hn
  refine amet_of (by decide +kernel) (Nat.le_of_ble_eq_true rfl) ?_
  refine aw_sub (lv' := [(0, .ref (ad 0)), (1, .int k)]) [0, 1] rfl ?_
  refine aw_aload_n d_W_place_0 rfl rfl ?_
  refine aw_iload_n d_W_place_1 rfl rfl ?_
  refine aw_callV (av := [.int k]) (rest := []) (m_W_isNode hg hW hG) kd_W_isNode k_242 k_244 ks_W_isNode rfl hW d_W_place_2 rfl ⟨by decide, by decide⟩ (Nat.le_of_ble_eq_true rfl) ⟨by decide, by decide⟩ rfl (fun v2 ws2 hq2 => ?_)
  obtain ⟨rfl, rfl⟩ := hq2
  refine aw_if_neB (tgt := 10) d_W_place_5 (by decide) (fun h1 => ?_) (fun h1 => ?_)
  · refine aw_aload_n d_W_place_10 rfl rfl ?_
    refine aw_get kc_0 2 (by decide) k_149 d_W_place_11 hW rfl ?_
    refine aw_get kc_3 0 (by decide) k_89 d_W_place_14 hC.1 rfl ?_
    refine aw_iconst (v := nI 1) d_W_place_17 (by decide) ?_
    refine aw_icmp_eqN (tgt := 24) d_W_place_18 (by decide) (by omega) (by omega) (fun h3 => ?_) (fun h3 => ?_)
    · obtain ⟨k1, hk1, rfl⟩ := nb_true hn h1
      obtain ⟨l, hl, l2, -, eM, -⟩ := IC_set hI (show 0 < q by omega)
      have hm : M 0 < 32 := by rw [eM]; exact hoD.lt hl
      have hmb : ∀ k, (M 0).testBit k = true → k < n := fun k hk => by rw [eM] at hk; exact hoD.in hl hk
      have hbb : ∀ i, i < n → shG n x y W J (M 0) i < 2 ^ 62 := fun i hi => by have := shG_le hok hi hm hmb; omega
      refine aw_aload_n d_W_place_24 rfl rfl ?_
      refine aw_aload_n d_W_place_25 rfl rfl ?_
      refine aw_get kc_0 2 (by decide) k_149 d_W_place_26 hW rfl ?_
      refine aw_get kc_3 1 (by decide) k_91 d_W_place_29 hC.1 rfl ?_
      refine aw_iconst (v := nI 0) d_W_place_32 (by decide) ?_
      refine aw_ialdA d_W_place_33 hC.2.1 hg (by omega) (by decide) ?_
      refine aw_callV (av := [.int (nI (M 0))]) (rest := []) (m_W_fillShares hg hK hm hmb) kd_W_fillShares k_296 k_298 ks_W_fillShares rfl hW d_W_place_34 rfl ⟨by decide, by decide⟩ (Nat.le_of_ble_eq_true rfl) ⟨by decide, by decide⟩ rfl (fun v4 ws4 hq4 => ?_)
      obtain ⟨rfl, f4, hK4, A4s, hH4, hA4⟩ := hq4
      have hW4 := hK4.1
      have hG4 := hK4.2.1
      refine aw_pop2_2 d_W_place_37 rfl ?_
      refine aw_iconst (v := nI 0) d_W_place_38 (by decide) ?_
      refine aw_istore_n (lv' := [(2, .int (nI 0)), (0, .ref (ad 0)), (1, .int (nI k1))]) d_W_place_39 rfl (by decide) rfl ?_
      have hal : ∀ v k, ahd (shG n x y W J (M 0)) v k ≤ k := fun v k => by induction k with | zero => exact Nat.le_refl 0 | succ k ih => rw [ahd]; split <;> omega
      have lp : ∀ (k : Nat) (v : Nat), v ≤ n → fnd (shG n x y W J (M 0)) n k1 (n - v) v = fnd (shG n x y W J (M 0)) n k1 n 0 → n - v < k → AW g y_W_place c_W_place 3 (some .int) (aw_rm 10 0 0) aw_E0 (aw_F g (qQry g ad ws (.int (aPlace n x y W J q M (nI k1))) n x y W J P T X q M L O D) 0 0) 0 0 40 [(0, .ref (ad 0)), (1, .int (nI k1)), (2, .int (nI v))] [] ws4 := by
        intro k
        induction k with
        | zero => intro v hv he hk; omega
        | succ k ih =>
          intro v hv he hk
          refine aw_iload_n d_W_place_40 rfl rfl ?_
          refine aw_aload_n d_W_place_41 rfl rfl ?_
          refine aw_get kc_0 0 (by decide) k_147 d_W_place_42 hW4 rfl ?_
          refine aw_get kc_1 0 (by decide) k_27 d_W_place_45 hG4.1 rfl ?_
          refine aw_icmp_geN (tgt := 68) d_W_place_48 (by decide) (by omega) (by omega) (fun h => ?_) (fun h => ?_)
          · have e : n = v := by omega
            subst e
            rw [Nat.sub_self] at he
            refine aw_iconst (v := -1) d_W_place_68 (by decide) ?_
            exact aw_iret d_W_place_69 (Nat.le_refl 0) (Nat.le_refl 0) ⟨by unfold aPlace; rw [if_pos h1, if_pos h3, ix_nI (by omega), ← he]; rfl, f4, hK4⟩
          · have ha := hal v n
            refine aw_aload_n d_W_place_51 rfl rfl ?_
            refine aw_iload_n d_W_place_52 rfl rfl ?_
            refine aw_callV (av := [.int (nI v)]) (rest := []) (m_W_nodesAhead hg hW4 hG4 hH4 hn h hA4 hbb) kd_W_nodesAhead k_322 k_324 ks_W_nodesAhead rfl hW4 d_W_place_53 rfl ⟨by decide, by decide⟩ (Nat.le_of_ble_eq_true rfl) ⟨by decide, by decide⟩ rfl (fun v5 ws5 hq5 => ?_)
            obtain ⟨rfl, rfl⟩ := hq5
            rw [show n - v = (n - (v + 1)) + 1 by omega, fnd] at he
            refine aw_iload_n d_W_place_56 rfl rfl ?_
            refine aw_icmp_neN (tgt := 62) d_W_place_57 (by decide) (by omega) (by omega) (fun h5 => ?_) (fun h5 => ?_)
            · rw [if_neg h5] at he
              refine aw_iinc1 (lv' := [(2, .int (nI (v + 1))), (0, .ref (ad 0)), (1, .int (nI k1))]) d_W_place_62 rfl (by decide) rfl ?_
              refine aw_goto (tgt := 40) d_W_place_65 (by decide) ?_
              refine aw_sub (lv' := [(0, .ref (ad 0)), (1, .int (nI k1)), (2, .int (nI (v + 1)))]) [1, 2, 0] rfl ?_
              exact ih (v + 1) (by omega) he (by omega)
            · rw [if_pos h5] at he
              refine aw_iload_n d_W_place_60 rfl rfl ?_
              exact aw_iret d_W_place_61 (Nat.le_refl 0) (Nat.le_refl 0) ⟨by unfold aPlace; rw [if_pos h1, if_pos h3, ix_nI (by omega), ← he], f4, hK4⟩
      refine aw_sub (lv' := [(0, .ref (ad 0)), (1, .int (nI k1)), (2, .int (nI 0))]) [1, 2, 0] rfl ?_
      exact lp (n + 1) 0 (by omega) rfl (by omega)
    · refine aw_bipush (v := -3) d_W_place_21 (by decide) ?_
      exact aw_iret d_W_place_23 (Nat.le_refl 0) (Nat.le_refl 0) ⟨by unfold aPlace; rw [if_pos h1, if_neg h3], fr.rf, hK⟩
  · refine aw_iconst (v := -1) d_W_place_8 (by decide) ?_
    exact aw_iret d_W_place_9 (Nat.le_refl 0) (Nat.le_refl 0) ⟨by unfold aPlace; rw [if_neg (by rw [h1]; decide)], fr.rf, hK⟩

set_option maxHeartbeats 4000000 in
set_option maxRecDepth 100000 in
theorem m_W_hit {g : aw_G} (hg : aw_T g) {ws : va_W} {ad : Nat → Nat} {n x y q : Nat} {W P : Nat → Nat → Nat} {J T X M L D : Nat → Nat} {O : Nat → Int32} {u v p : Int32} (hK : gK g ws ad n x y W J P T X q M L O D) : AMet g y_W_hit c_W_hit 7 (some .long) 10 [.ref (ad 0), .int u, .int v, .int p] ws (qQry g ad ws (.long (aHit n x y W J X D u v p)) n x y W J P T X q M L O D) 0 0 := by
  obtain ⟨hW, hG, hok, hS, hoS, hC, hD, hI, hE0, hP0, hH0⟩ := id hK
  have hn := hok.1
  have hX := hoS.X hn
  have hoD := okD_of hX hD
  obtain ⟨m3, Z3, hE⟩ := hE0
  obtain ⟨p4, q4, m4, A4, B4, Z4, hP⟩ := hP0
  obtain ⟨A0, hH⟩ := hH0
  refine amet_of (by decide +kernel) (Nat.le_of_ble_eq_true rfl) ?_
  refine aw_sub (lv' := [(0, .ref (ad 0)), (1, .int u), (2, .int v), (3, .int p)]) [0, 1, 2, 3] rfl ?_
  refine aw_aload_n d_W_hit_0 rfl rfl ?_
  refine aw_iload_n d_W_hit_1 rfl rfl ?_
  refine aw_callV (av := [.int u]) (rest := []) (m_W_isNode hg hW hG) kd_W_isNode k_242 k_244 ks_W_isNode rfl hW d_W_hit_2 rfl ⟨by decide, by decide⟩ (Nat.le_of_ble_eq_true rfl) ⟨by decide, by decide⟩ rfl (fun v2 ws2 hq2 => ?_)
  obtain ⟨rfl, rfl⟩ := hq2
  refine aw_if_eqB (tgt := 16) d_W_hit_5 (by decide) (fun h1 => ?_) (fun h1 => ?_)
  · refine aw_ldc2 (v := (-1 : Int64)) d_W_hit_16 k_290 ?_
    exact aw_lret d_W_hit_19 (Nat.le_refl 0) (Nat.le_refl 0) ⟨by unfold aHit; rw [if_neg (by simp [h1])], fr.rf, hK⟩
  · refine aw_aload_n d_W_hit_8 rfl rfl ?_
    refine aw_iload_n d_W_hit_9 rfl rfl ?_
    refine aw_callV (av := [.int v]) (rest := []) (m_W_isNode hg hW hG) kd_W_isNode k_242 k_244 ks_W_isNode rfl hW d_W_hit_10 rfl ⟨by decide, by decide⟩ (Nat.le_of_ble_eq_true rfl) ⟨by decide, by decide⟩ rfl (fun v2 ws2 hq2 => ?_)
    obtain ⟨rfl, rfl⟩ := hq2
    refine aw_if_neB (tgt := 20) d_W_hit_13 (by decide) (fun h2 => ?_) (fun h2 => ?_)
    · refine aw_iload_n d_W_hit_20 rfl rfl ?_
      refine aw_callS (av := [.int p]) (rest := []) (m_W_isPart (ad := ad) hg) kd_W_isPart k_291 k_292  d_W_hit_21 rfl ⟨by decide, by decide⟩ (Nat.le_of_ble_eq_true rfl) ⟨by decide, by decide⟩ rfl (fun v2 ws2 hq2 => ?_)
      obtain ⟨rfl, rfl⟩ := hq2
      refine aw_if_neB (tgt := 31) d_W_hit_24 (by decide) (fun h3 => ?_) (fun h3 => ?_)
      · obtain ⟨u1, hu1, rfl⟩ := nb_true hn h1
        obtain ⟨v1, hv1, rfl⟩ := nb_true hn h2
        obtain ⟨p1, hp1, rfl⟩ := pb_true h3
        refine aw_iload_n d_W_hit_31 rfl rfl ?_
        refine aw_iload_n d_W_hit_32 rfl rfl ?_
        refine aw_icmp_neN (tgt := 43) d_W_hit_33 (by decide) (by omega) (by omega) (fun h4 => ?_) (fun h4 => ?_)
        · have hUk := hU_ok hX hu1 hv1 h4
          have hUl := hU_lt hX hu1 hv1
          have b1 := Fo_le hok hUk
          have b2 := F3_le (a := u1) hok hUk
          refine aw_aload_n d_W_hit_43 rfl rfl ?_
          refine aw_get kc_0 1 (by decide) k_148 d_W_hit_44 hW rfl ?_
          refine aw_iload_n d_W_hit_47 rfl rfl ?_
          refine aw_iload_n d_W_hit_48 rfl rfl ?_
          refine aw_callS (av := [.int (nI v1)]) (rest := [.int (nI u1), .ref (ad 9)]) (m_W_only (ad := ad) hg (by omega)) kd_W_only k_223 k_206  d_W_hit_49 rfl ⟨by decide, by decide⟩ (Nat.le_of_ble_eq_true rfl) ⟨by decide, by decide⟩ rfl (fun v3 ws3 hq3 => ?_)
          obtain ⟨rfl, rfl⟩ := hq3
          refine aw_callV (av := [.int (nI u1), .int (nI (2 ^ v1))]) (rest := []) (m_S_nodesBehind hg hS hn (by omega) hX.lt (pow_32 (by omega))) kd_S_nodesBehind k_343 k_213 ks_S_nodesBehind rfl hS.1 d_W_hit_52 rfl ⟨by decide, by decide⟩ (Nat.le_of_ble_eq_true rfl) ⟨by decide, by decide⟩ rfl (fun v3 ws3 hq3 => ?_)
          obtain ⟨rfl, rfl⟩ := hq3
          refine aw_istore (lv' := [(4, .int (nI (hU X n u1 v1))), (0, .ref (ad 0)), (1, .int (nI u1)), (2, .int (nI v1)), (3, .int (nI p1))]) d_W_hit_55 (by decide) rfl ?_
          refine aw_iload d_W_hit_57 rfl ?_
          refine aw_aload_n d_W_hit_59 rfl rfl ?_
          refine aw_get kc_0 2 (by decide) k_149 d_W_hit_60 hW rfl ?_
          refine aw_iload_n d_W_hit_63 rfl rfl ?_
          refine aw_callS (av := [.int (nI v1)]) (rest := [.ref (ad 18), .int (nI (hU X n u1 v1))]) (m_W_only (ad := ad) hg (by omega)) kd_W_only k_223 k_206  d_W_hit_64 rfl ⟨by decide, by decide⟩ (Nat.le_of_ble_eq_true rfl) ⟨by decide, by decide⟩ rfl (fun v3 ws3 hq3 => ?_)
          obtain ⟨rfl, rfl⟩ := hq3
          refine aw_callV (av := [.int (nI (2 ^ v1))]) (rest := [.int (nI (hU X n u1 v1))]) (m_C_leadingTo hg hC hn (fun u hu => hoD.lt hu)) kd_C_leadingTo k_334 k_230 ks_C_leadingTo rfl hC.1 d_W_hit_67 rfl ⟨by decide, by decide⟩ (Nat.le_of_ble_eq_true rfl) ⟨by decide, by decide⟩ rfl (fun v3 ws3 hq3 => ?_)
          obtain ⟨rfl, rfl⟩ := hq3
          refine aw_iconst (v := -1) d_W_hit_70 (by decide) ?_
          refine aw_ixor d_W_hit_71 ?_
          refine aw_iand d_W_hit_72 ?_
          refine aw_nmi (z := nI (an (hU X n u1 v1) (lead D n (2 ^ v1)))) (an_eq _ hUl _ (lead_lt hoD _)) ?_
          refine aw_if_eqN (tgt := 80) d_W_hit_73 (by decide) (Nat.lt_trans (an_lt _ hUl _ (lead_lt hoD _)) (by decide)) (fun h5 => ?_) (fun h5 => ?_)
          · have hpos := hU_pos hoS hX hD hu1 hv1 h4 h5
            refine aw_aload_n d_W_hit_80 rfl rfl ?_
            refine aw_get kc_0 3 (by decide) k_150 d_W_hit_81 hW rfl ?_
            refine aw_aload_n d_W_hit_84 rfl rfl ?_
            refine aw_get kc_0 1 (by decide) k_148 d_W_hit_85 hW rfl ?_
            refine aw_iload d_W_hit_88 rfl ?_
            refine aw_callV (av := [.ref (ad 9), .int (nI (hU X n u1 v1))]) (rest := []) (m_E_fill hg hE hS hn hUl (fun i j hi hj => hoS.P4 hok hi hj)) kd_E_fill k_301 k_302 ks_E_fill rfl hE.1 d_W_hit_90 rfl ⟨by decide, by decide⟩ (Nat.le_of_ble_eq_true rfl) ⟨by decide, by decide⟩ rfl (fun v4 ws4 hq4 => ?_)
            obtain ⟨rfl, f4, Z5, hE4, hZ5⟩ := hq4
            have hW4 : gW ws4 ad := (f4.1 0 (by omega)).trans hW
            have hG4 := hG.kept f4 (by omega)
            have hS4 := hS.kept f4 (by omega)
            have hC4 := hC.kept f4 (by omega)
            have hP4 := hP.kept f4 (by omega)
            have hH4 : gH g ws4 ad A0 := (f4.1 39 (by omega)).trans hH
            refine aw_aload_n d_W_hit_93 rfl rfl ?_
            refine aw_get kc_0 3 (by decide) k_150 d_W_hit_94 hW4 rfl ?_
            refine aw_callV (av := []) (rest := []) (m_E_determinant hg hE4 hn (fun i j hi hj => by rw [hZ5 i j hi hj]; exact eqZ_b (hoS.P4 hok hi hj))) kd_E_determinant k_306 k_307 ks_E_determinant rfl hE4.1 d_W_hit_97 rfl ⟨by decide, by decide⟩ (Nat.le_of_ble_eq_true rfl) ⟨by decide, by decide⟩ rfl (fun v5 ws5 hq5 => ?_)
            obtain ⟨rfl, rfl⟩ := hq5
            refine aw_nml (z := lI (Fo n x y W J (hU X n u1 v1) : Int)) (by rw [detF hoS hn (by omega) hUk hZ5]) ?_
            refine aw_lstore (lv' := [(5, .long (lI (Fo n x y W J (hU X n u1 v1) : Int))), (4, .int (nI (hU X n u1 v1))), (0, .ref (ad 0)), (1, .int (nI u1)), (2, .int (nI v1)), (3, .int (nI p1))]) d_W_hit_100 (by decide) rfl ?_
            refine aw_aload_n d_W_hit_102 rfl rfl ?_
            refine aw_get kc_0 3 (by decide) k_150 d_W_hit_103 hW4 rfl ?_
            refine aw_aload_n d_W_hit_106 rfl rfl ?_
            refine aw_get kc_0 1 (by decide) k_148 d_W_hit_107 hW4 rfl ?_
            refine aw_iload d_W_hit_110 rfl ?_
            refine aw_iload_n d_W_hit_112 rfl rfl ?_
            refine aw_callV (av := [.ref (ad 9), .int (nI (hU X n u1 v1)), .int (nI u1)]) (rest := []) (m_E_putStepCounts hg hE4 hS4 hn hUl (by omega) (fun i hi => (hoS.P4 hok hi hi).2)) kd_E_putStepCounts k_344 k_345 ks_E_putStepCounts rfl hE4.1 d_W_hit_113 rfl ⟨by decide, by decide⟩ (Nat.le_of_ble_eq_true rfl) ⟨by decide, by decide⟩ rfl (fun v6 ws6 hq6 => ?_)
            obtain ⟨rfl, f6, Z6, hE6, hZ6⟩ := hq6
            have hW6 : gW ws6 ad := (f6.1 0 (by omega)).trans hW4
            have hG6 := hG4.kept f6 (by omega)
            have hS6 := hS4.kept f6 (by omega)
            have hC6 := hC4.kept f6 (by omega)
            have hP6 := hP4.kept f6 (by omega)
            have hH6 : gH g ws6 ad A0 := (f6.1 39 (by omega)).trans hH4
            have hZ6b := st_b hZ5 hZ6 (fun i j hi hj => hoS.P4 hok hi hj)
            refine aw_aload_n d_W_hit_116 rfl rfl ?_
            refine aw_get kc_0 3 (by decide) k_150 d_W_hit_117 hW6 rfl ?_
            refine aw_callV (av := []) (rest := []) (m_E_determinant hg hE6 hn hZ6b) kd_E_determinant k_306 k_307 ks_E_determinant rfl hE6.1 d_W_hit_120 rfl ⟨by decide, by decide⟩ (Nat.le_of_ble_eq_true rfl) ⟨by decide, by decide⟩ rfl (fun v7 ws7 hq7 => ?_)
            obtain ⟨rfl, rfl⟩ := hq7
            refine aw_nml (z := lI (F3 n x y W J (hU X n u1 v1) u1 : Int)) (by rw [detT hoS hn hUk hu1 hU_u hZ5 hZ6]) ?_
            refine aw_lload d_W_hit_123 rfl ?_
            refine aw_iload_n d_W_hit_125 rfl rfl ?_
            refine aw_callS (av := [.long (lI (F3 n x y W J (hU X n u1 v1) u1 : Int)), .long (lI (Fo n x y W J (hU X n u1 v1) : Int)), .int (nI p1)]) (rest := []) (m_W_fraction (ad := ad) hg (by omega) (by omega) (mul99 (by omega) (by omega)) hpos hp1) kd_W_fraction k_314 k_315  d_W_hit_126 rfl ⟨by decide, by decide⟩ (Nat.le_of_ble_eq_true rfl) ⟨by decide, by decide⟩ rfl (fun v8 ws8 hq8 => ?_)
            obtain ⟨rfl, rfl⟩ := hq8
            exact aw_lret d_W_hit_129 (Nat.le_refl 0) (Nat.le_refl 0) ⟨by unfold aHit; rw [if_pos ⟨h1, h2⟩, if_pos h3, ix_nI (show u1 < 2 ^ 31 by omega), ix_nI (show v1 < 2 ^ 31 by omega), ix_nI (show p1 < 2 ^ 31 by omega), if_neg h4, if_pos h5], (f4.tr f6).wide (by omega) (by omega), hW6, hG6, hok, hS6, hoS, hC6, hD, hI, ⟨_, _, hE6⟩, ⟨_, _, _, _, _, _, hP6⟩, ⟨_, hH6⟩⟩
          · refine aw_ldc2 (v := (-3 : Int64)) d_W_hit_76 k_295 ?_
            exact aw_lret d_W_hit_79 (Nat.le_refl 0) (Nat.le_refl 0) ⟨by unfold aHit; rw [if_pos ⟨h1, h2⟩, if_pos h3, ix_nI (show u1 < 2 ^ 31 by omega), ix_nI (show v1 < 2 ^ 31 by omega), ix_nI (show p1 < 2 ^ 31 by omega), if_neg h4, if_neg h5], fr.rf, hK⟩
        · refine aw_lconst (v := lI 0) d_W_hit_36 (by decide) ?_
          refine aw_lconst (v := lI 1) d_W_hit_37 (by decide) ?_
          refine aw_iload_n d_W_hit_38 rfl rfl ?_
          refine aw_callS (av := [.long (lI 0), .long (lI 1), .int (nI p1)]) (rest := []) (m_W_fraction (a := 0) (b := 1) (ad := ad) hg (by omega) (by omega) (by omega) (by omega) hp1) kd_W_fraction k_314 k_315  d_W_hit_39 rfl ⟨by decide, by decide⟩ (Nat.le_of_ble_eq_true rfl) ⟨by decide, by decide⟩ rfl (fun v8 ws8 hq8 => ?_)
          obtain ⟨rfl, rfl⟩ := hq8
          exact aw_lret d_W_hit_42 (Nat.le_refl 0) (Nat.le_refl 0) ⟨by unfold aHit; rw [if_pos ⟨h1, h2⟩, if_pos h3, ix_nI (show u1 < 2 ^ 31 by omega), ix_nI (show v1 < 2 ^ 31 by omega), ix_nI (show p1 < 2 ^ 31 by omega), if_pos h4], fr.rf, hK⟩
      · refine aw_ldc2 (v := (-2 : Int64)) d_W_hit_27 k_294 ?_
        exact aw_lret d_W_hit_30 (Nat.le_refl 0) (Nat.le_refl 0) ⟨by unfold aHit; rw [if_pos ⟨h1, h2⟩, if_neg (by rw [h3]; decide)], fr.rf, hK⟩
    · refine aw_ldc2 (v := (-1 : Int64)) d_W_hit_16 k_290 ?_
      exact aw_lret d_W_hit_19 (Nat.le_refl 0) (Nat.le_refl 0) ⟨by unfold aHit; rw [if_neg (by simp [h2])], fr.rf, hK⟩
