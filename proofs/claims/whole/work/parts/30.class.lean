-- laid by wip/whole/m8.py
set_option maxHeartbeats 4000000 in
set_option maxRecDepth 100000 in
theorem m_W_isNode {g : aw_G} (hg : aw_T g) {ws : va_W} {ad : Nat → Nat} {n x y : Nat} {W : Nat → Nat → Nat} {J : Nat → Nat} {a : Int32} (hW : gW ws ad) (hG : gG g ws ad n x y W J) : AMet g y_W_isNode c_W_isNode 2 (some .boolean) 0 [.ref (ad 0), .int a] ws (aw_R (.int (bI (nb n a))) ws) 0 0 := by
  refine amet_of (by decide +kernel) (Nat.le_of_ble_eq_true rfl) ?_
  refine aw_sub (lv' := [(0, .ref (ad 0)), (1, .int a)]) [0, 1] rfl ?_
  refine aw_iload_n d_W_isNode_0 rfl rfl ?_
  refine aw_if_lt (tgt := 19) d_W_isNode_1 (by decide) (fun h => ?_) (fun h => ?_)
  · have e : nb n a = false := by unfold nb; simp [h]
    refine aw_iconst (v := nI 0) d_W_isNode_19 (by decide) ?_
    exact aw_zret d_W_isNode_20 rfl (Nat.le_refl 0) (Nat.le_refl 0) ⟨by rw [e]; rfl, rfl⟩
  · refine aw_iload_n d_W_isNode_4 rfl rfl ?_
    refine aw_aload_n d_W_isNode_5 rfl rfl ?_
    refine aw_get kc_0 0 (by decide) k_147 d_W_isNode_6 hW rfl ?_
    refine aw_get kc_1 0 (by decide) k_27 d_W_isNode_9 hG.1 rfl ?_
    refine aw_icmp_ge (tgt := 19) d_W_isNode_12 (by decide) (fun h2 => ?_) (fun h2 => ?_)
    · have e : nb n a = false := by unfold nb; simp [h2]
      refine aw_iconst (v := nI 0) d_W_isNode_19 (by decide) ?_
      exact aw_zret d_W_isNode_20 rfl (Nat.le_refl 0) (Nat.le_refl 0) ⟨by rw [e]; rfl, rfl⟩
    · have e : nb n a = true := by unfold nb; simp [h, h2]
      refine aw_iconst (v := nI 1) d_W_isNode_15 (by decide) ?_
      refine aw_goto (tgt := 20) d_W_isNode_16 (by decide) ?_
      exact aw_zret d_W_isNode_20 rfl (Nat.le_refl 0) (Nat.le_refl 0) ⟨by rw [e]; rfl, rfl⟩

set_option maxHeartbeats 4000000 in
set_option maxRecDepth 100000 in
theorem m_W_isSet {g : aw_G} (hg : aw_T g) {ws : va_W} {ad : Nat → Nat} {n q : Nat} {M L D : Nat → Nat} {O : Nat → Int32} {a : Int32} (hW : gW ws ad) (hC : gC g ws ad q M L O n D) : AMet g y_W_isSet c_W_isSet 2 (some .boolean) 0 [.ref (ad 0), .int a] ws (aw_R (.int (bI (nb q a))) ws) 0 0 := by
  refine amet_of (by decide +kernel) (Nat.le_of_ble_eq_true rfl) ?_
  refine aw_sub (lv' := [(0, .ref (ad 0)), (1, .int a)]) [0, 1] rfl ?_
  refine aw_iload_n d_W_isSet_0 rfl rfl ?_
  refine aw_if_lt (tgt := 19) d_W_isSet_1 (by decide) (fun h => ?_) (fun h => ?_)
  · have e : nb q a = false := by unfold nb; simp [h]
    refine aw_iconst (v := nI 0) d_W_isSet_19 (by decide) ?_
    exact aw_zret d_W_isSet_20 rfl (Nat.le_refl 0) (Nat.le_refl 0) ⟨by rw [e]; rfl, rfl⟩
  · refine aw_iload_n d_W_isSet_4 rfl rfl ?_
    refine aw_aload_n d_W_isSet_5 rfl rfl ?_
    refine aw_get kc_0 2 (by decide) k_149 d_W_isSet_6 hW rfl ?_
    refine aw_get kc_3 0 (by decide) k_89 d_W_isSet_9 hC.1 rfl ?_
    refine aw_icmp_ge (tgt := 19) d_W_isSet_12 (by decide) (fun h2 => ?_) (fun h2 => ?_)
    · have e : nb q a = false := by unfold nb; simp [h2]
      refine aw_iconst (v := nI 0) d_W_isSet_19 (by decide) ?_
      exact aw_zret d_W_isSet_20 rfl (Nat.le_refl 0) (Nat.le_refl 0) ⟨by rw [e]; rfl, rfl⟩
    · have e : nb q a = true := by unfold nb; simp [h, h2]
      refine aw_iconst (v := nI 1) d_W_isSet_15 (by decide) ?_
      refine aw_goto (tgt := 20) d_W_isSet_16 (by decide) ?_
      exact aw_zret d_W_isSet_20 rfl (Nat.le_refl 0) (Nat.le_refl 0) ⟨by rw [e]; rfl, rfl⟩

set_option maxHeartbeats 4000000 in
set_option maxRecDepth 100000 in
theorem m_W_isPart {g : aw_G} (hg : aw_T g) {ws : va_W} {ad : Nat → Nat} {a : Int32} : AMet g y_W_isPart c_W_isPart 1 (some .boolean) 0 [.int a] ws (aw_R (.int (bI (pb a))) ws) 0 0 := by
  refine amet_of (by decide +kernel) (Nat.le_of_ble_eq_true rfl) ?_
  refine aw_sub (lv' := [(0, .int a)]) [0] rfl ?_
  refine aw_iload_n d_W_isPart_0 rfl rfl ?_
  refine aw_if_eq (tgt := 9) d_W_isPart_1 (by decide) (fun h => ?_) (fun h => ?_)
  · have e : pb a = true := by unfold pb; simp [h]
    refine aw_iconst (v := nI 1) d_W_isPart_9 (by decide) ?_
    refine aw_goto (tgt := 14) d_W_isPart_10 (by decide) ?_
    exact aw_zret d_W_isPart_14 rfl (Nat.le_refl 0) (Nat.le_refl 0) ⟨by rw [e]; rfl, rfl⟩
  · refine aw_iload_n d_W_isPart_4 rfl rfl ?_
    refine aw_iconst (v := nI 1) d_W_isPart_5 (by decide) ?_
    refine aw_icmp_ne (tgt := 13) d_W_isPart_6 (by decide) (fun h2 => ?_) (fun h2 => ?_)
    · have e : pb a = false := by unfold pb; simp [h, show ¬ a = 1 from h2]
      refine aw_iconst (v := nI 0) d_W_isPart_13 (by decide) ?_
      exact aw_zret d_W_isPart_14 rfl (Nat.le_refl 0) (Nat.le_refl 0) ⟨by rw [e]; rfl, rfl⟩
    · have e : pb a = true := by unfold pb; simp [show a = 1 from h2]
      refine aw_iconst (v := nI 1) d_W_isPart_9 (by decide) ?_
      refine aw_goto (tgt := 14) d_W_isPart_10 (by decide) ?_
      exact aw_zret d_W_isPart_14 rfl (Nat.le_refl 0) (Nat.le_refl 0) ⟨by rw [e]; rfl, rfl⟩

set_option maxHeartbeats 4000000 in
set_option maxRecDepth 100000 in
theorem m_W_renew {g : aw_G} (hg : aw_T g) {ws : va_W} {ad : Nat → Nat} {n x y : Nat} {W : Nat → Nat → Nat} {J : Nat → Nat} (hW : gW ws ad) (hG : gG g ws ad n x y W J) (hok : okG n x y W J) (hR : gRest g ws ad) : AMet g y_W_renew c_W_renew 1 none 5 [.ref (ad 0)] ws (qMut g ad ws none n x y W J) 0 0 := by
  obtain ⟨⟨m1, P, T, X, hS⟩, ⟨q, m2, M, L, D, O, hC⟩, ⟨m3, Z3, hE⟩, ⟨p4, q4, m4, A4, B4, Z4, hP⟩, ⟨A5, hH⟩⟩ := hR
  refine amet_of (by decide +kernel) (Nat.le_of_ble_eq_true rfl) ?_
  refine aw_sub (lv' := [(0, .ref (ad 0))]) [0] rfl ?_
  refine aw_aload_n d_W_renew_0 rfl rfl ?_
  refine aw_get kc_0 1 (by decide) k_148 d_W_renew_1 hW rfl ?_
  refine aw_aload_n d_W_renew_4 rfl rfl ?_
  refine aw_get kc_0 0 (by decide) k_147 d_W_renew_5 hW rfl ?_
  refine aw_callV (av := [.ref (ad 1)]) (rest := []) (m_S_renew hg hG hS hok) kd_S_renew k_178 k_179 ks_S_renew rfl hS.1 d_W_renew_8 rfl ⟨by decide, by decide⟩ (Nat.le_of_ble_eq_true rfl) ⟨by decide, by decide⟩ rfl (fun v2 ws2 hq2 => ?_)
  obtain ⟨rfl, f2, P2, T2, X2, hS2, ho2⟩ := hq2
  have hG2 := hG.kept f2 (by omega)
  have hC2 := hC.kept f2 (by omega)
  have hW2 : gW ws2 ad := (f2.1 0 (by omega)).trans hW
  refine aw_aload_n d_W_renew_11 rfl rfl ?_
  refine aw_get kc_0 2 (by decide) k_149 d_W_renew_12 hW2 rfl ?_
  refine aw_aload_n d_W_renew_15 rfl rfl ?_
  refine aw_get kc_0 1 (by decide) k_148 d_W_renew_16 hW2 rfl ?_
  refine aw_callV (av := [.ref (ad 9)]) (rest := []) (m_C_renew hg hC2 hS2 (ho2.X hok.1)) kd_C_renew k_208 k_209 ks_C_renew rfl hC2.1 d_W_renew_19 rfl ⟨by decide, by decide⟩ (Nat.le_of_ble_eq_true rfl) ⟨by decide, by decide⟩ rfl (fun v3 ws3 hq3 => ?_)
  obtain ⟨rfl, f3, q3, M3, L3, D3, O3, hC3, hD3, hI3⟩ := hq3
  have f := (f2.wide (lo' := 0) (hi' := 40) (by omega) (by omega)).tr (f3.wide (lo' := 0) (hi' := 40) (by omega) (by omega))
  exact aw_vret d_W_renew_22 (Nat.le_refl 0) (Nat.le_refl 0) ⟨rfl, f, P2, T2, X2, q3, M3, L3, O3, D3, (f3.1 0 (by omega)).trans hW2, hG2.kept f3 (by omega), hok, hS2.kept f3 (by omega), ho2, hC3, hD3, hI3, ⟨m3, Z3, (hE.kept f2 (by omega)).kept f3 (by omega)⟩, ⟨p4, q4, m4, A4, B4, Z4, (hP.kept f2 (by omega)).kept f3 (by omega)⟩, ⟨A5, (f3.1 39 (by omega)).trans ((f2.1 39 (by omega)).trans hH)⟩⟩

theorem okG_node {n x y : Nat} {W : Nat → Nat → Nat} {J : Nat → Nat} (h : okG n x y W J) (hn : n < 5) : okG (n + 1) x y (nodeW n W) (fup J n 1) := by
  obtain ⟨h1, h2, h3, h4, h5, h6⟩ := h
  refine ⟨by omega, h2, h3, h4, fun u v hu hv => ?_, fun v hv => ?_⟩
  · unfold nodeW
    split
    · omega
    · exact h5 u v hu hv
  · unfold fup
    split
    · omega
    · exact h6 v hv
theorem okG_weight {n x y : Nat} {W : Nat → Nat → Nat} {J : Nat → Nat} (h : okG n x y W J) (a b c : Nat) (hc : c ≤ 2) : okG n x y (fup2 W a b c) J := by
  obtain ⟨h1, h2, h3, h4, h5, h6⟩ := h
  refine ⟨h1, h2, h3, h4, fun u v hu hv => ?_, h6⟩
  unfold fup2
  split
  · omega
  · exact h5 u v hu hv
theorem okG_jump {n x y : Nat} {W : Nat → Nat → Nat} {J : Nat → Nat} (h : okG n x y W J) (a c : Nat) (hc : c ≤ 2) : okG n x y W (fup J a c) := by
  obtain ⟨h1, h2, h3, h4, h5, h6⟩ := h
  refine ⟨h1, h2, h3, h4, h5, fun v hv => ?_⟩
  unfold fup
  split
  · omega
  · exact h6 v hv
def qNode (g : aw_G) (ad : Nat → Nat) (ws : va_W) (n x y : Nat) (W : Nat → Nat → Nat) (J : Nat → Nat) : Option Value → va_W → Prop := if n < 5 then qMut g ad ws (some (.int (nI n))) (n + 1) x y (nodeW n W) (fup J n 1) else qMut g ad ws (some (.int (-4))) n x y W J

set_option maxHeartbeats 4000000 in
set_option maxRecDepth 100000 in
theorem m_W_node {g : aw_G} (hg : aw_T g) {ws : va_W} {ad : Nat → Nat} {n x y q : Nat} {W P : Nat → Nat → Nat} {J T X M L D : Nat → Nat} {O : Nat → Int32} (hK : gK g ws ad n x y W J P T X q M L O D) : AMet g y_W_node c_W_node 2 (some .int) 6 [.ref (ad 0)] ws (qNode g ad ws n x y W J) 0 0 := by
  obtain ⟨hW, hG, hok, hS, hoS, hC, hD, hI, hE0, hP0, hH0⟩ := id hK
  have hn := hok.1
  refine amet_of (by decide +kernel) (Nat.le_of_ble_eq_true rfl) ?_
  refine aw_sub (lv' := [(0, .ref (ad 0))]) [0] rfl ?_
  unfold qNode
  refine aw_aload_n d_W_node_0 rfl rfl ?_
  refine aw_get kc_0 0 (by decide) k_147 d_W_node_1 hW rfl ?_
  refine aw_get kc_1 0 (by decide) k_27 d_W_node_4 hG.1 rfl ?_
  refine aw_iconst (v := nI 5) d_W_node_7 (by decide) ?_
  refine aw_icmp_ltN (tgt := 14) d_W_node_8 (by decide) (by omega) (by omega) (fun h => ?_) (fun h => ?_)
  · rw [if_pos h]
    refine aw_aload_n d_W_node_14 rfl rfl ?_
    refine aw_get kc_0 0 (by decide) k_147 d_W_node_15 hW rfl ?_
    refine aw_callV (av := []) (rest := []) (m_G_addNode hg hG h) kd_G_addNode k_170 k_171 ks_G_addNode rfl hG.1 d_W_node_18 rfl ⟨by decide, by decide⟩ (Nat.le_of_ble_eq_true rfl) ⟨by decide, by decide⟩ rfl (fun v2 ws2 hq2 => ?_)
    obtain ⟨rfl, f2, W2, hG2, hW2⟩ := hq2
    have eW : W2 = nodeW n W := funext fun i => funext fun j => hW2 i j
    subst eW
    have hR2 := hK.rest.kept f2 (by omega)
    have hw2 : gW ws2 ad := (f2.1 0 (by omega)).trans hW
    refine aw_istore_n (lv' := [(1, .int (nI n)), (0, .ref (ad 0))]) d_W_node_21 rfl (by decide) rfl ?_
    refine aw_aload_n d_W_node_22 rfl rfl ?_
    refine aw_callV (av := []) (rest := []) (m_W_renew hg hw2 hG2 (okG_node hok h) hR2) kd_W_renew k_174 k_176 ks_W_renew rfl hw2 d_W_node_23 rfl ⟨by decide, by decide⟩ (Nat.le_of_ble_eq_true rfl) ⟨by decide, by decide⟩ rfl (fun v3 ws3 hq3 => ?_)
    obtain ⟨rfl, f3, hx⟩ := hq3
    refine aw_iload_n d_W_node_26 rfl rfl ?_
    exact aw_iret d_W_node_27 (Nat.le_refl 0) (Nat.le_refl 0) ⟨rfl, (f2.wide (lo' := 0) (hi' := 40) (by omega) (by omega)).tr f3, hx⟩
  · rw [if_neg (by omega)]
    refine aw_bipush (v := -4) d_W_node_11 (by decide) ?_
    exact aw_iret d_W_node_13 (Nat.le_refl 0) (Nat.le_refl 0) ⟨rfl, fr.rf, ⟨P, T, X, q, M, L, O, D, hK⟩⟩

set_option maxHeartbeats 4000000 in
set_option maxRecDepth 100000 in
theorem m_W_weight {g : aw_G} (hg : aw_T g) {ws : va_W} {ad : Nat → Nat} {n x y q : Nat} {W P : Nat → Nat → Nat} {J T X M L D : Nat → Nat} {O : Nat → Int32} {u v w : Int32} (hK : gK g ws ad n x y W J P T X q M L O D) : AMet g y_W_weight c_W_weight 5 (some .int) 6 [.ref (ad 0), .int u, .int v, .int w] ws (qMut g ad ws (some (.int (aWeight n W u v w))) n x y (wWeight n W u v w) J) 0 0 := by
  obtain ⟨hW, hG, hok, hS, hoS, hC, hD, hI, hE0, hP0, hH0⟩ := id hK
  have hn := hok.1
  refine amet_of (by decide +kernel) (Nat.le_of_ble_eq_true rfl) ?_
  refine aw_sub (lv' := [(0, .ref (ad 0)), (1, .int u), (2, .int v), (3, .int w)]) [0, 1, 2, 3] rfl ?_
  refine aw_aload_n d_W_weight_0 rfl rfl ?_
  refine aw_iload_n d_W_weight_1 rfl rfl ?_
  refine aw_callV (av := [.int u]) (rest := []) (m_W_isNode hg hW hG) kd_W_isNode k_242 k_244 ks_W_isNode rfl hW d_W_weight_2 rfl ⟨by decide, by decide⟩ (Nat.le_of_ble_eq_true rfl) ⟨by decide, by decide⟩ rfl (fun v2 ws2 hq2 => ?_)
  obtain ⟨rfl, rfl⟩ := hq2
  refine aw_if_eqB (tgt := 16) d_W_weight_5 (by decide) (fun h1 => ?_) (fun h1 => ?_)
  · refine aw_iconst (v := -1) d_W_weight_16 (by decide) ?_
    exact aw_iret d_W_weight_17 (Nat.le_refl 0) (Nat.le_refl 0) ⟨by unfold aWeight; rw [if_neg (by simp [h1])], fr.rf, P, T, X, q, M, L, O, D, by unfold wWeight; rw [if_neg (by simp [h1])]; exact hK⟩
  · refine aw_aload_n d_W_weight_8 rfl rfl ?_
    refine aw_iload_n d_W_weight_9 rfl rfl ?_
    refine aw_callV (av := [.int v]) (rest := []) (m_W_isNode hg hW hG) kd_W_isNode k_242 k_244 ks_W_isNode rfl hW d_W_weight_10 rfl ⟨by decide, by decide⟩ (Nat.le_of_ble_eq_true rfl) ⟨by decide, by decide⟩ rfl (fun v2 ws2 hq2 => ?_)
    obtain ⟨rfl, rfl⟩ := hq2
    refine aw_if_neB (tgt := 18) d_W_weight_13 (by decide) (fun h2 => ?_) (fun h2 => ?_)
    · refine aw_iload_n d_W_weight_18 rfl rfl ?_
      refine aw_if_lt (tgt := 27) d_W_weight_19 (by decide) (fun h3 => ?_) (fun h3 => ?_)
      · refine aw_bipush (v := -2) d_W_weight_27 (by decide) ?_
        exact aw_iret d_W_weight_29 (Nat.le_refl 0) (Nat.le_refl 0) ⟨by unfold aWeight; rw [if_pos ⟨h1, h2⟩, if_neg (by rw [ib_lt h3]; decide)], fr.rf, P, T, X, q, M, L, O, D, by unfold wWeight; rw [if_neg (by simp [ib_lt h3])]; exact hK⟩
      · refine aw_iload_n d_W_weight_22 rfl rfl ?_
        refine aw_iconst (v := nI 2) d_W_weight_23 (by decide) ?_
        refine aw_icmp_le (tgt := 30) d_W_weight_24 (by decide) (fun h4 => ?_) (fun h4 => ?_)
        · have h5 := ib_in h3 h4
          obtain ⟨w1, hw1, rfl⟩ := ib_true (by decide) h5
          obtain ⟨u1, hu1, rfl⟩ := nb_true hn h1
          obtain ⟨v1, hv1, rfl⟩ := nb_true hn h2
          refine aw_aload_n d_W_weight_30 rfl rfl ?_
          refine aw_get kc_0 0 (by decide) k_147 d_W_weight_31 hW rfl ?_
          refine aw_get kc_1 3 (by decide) k_36 d_W_weight_34 hG.1 rfl ?_
          refine aw_iload_n d_W_weight_37 rfl rfl ?_
          refine aw_aaldI d_W_weight_38 hG.2.1 hg (by omega) ?_
          refine aw_iload_n d_W_weight_39 rfl rfl ?_
          refine aw_ialdA d_W_weight_40 (hG.2.2.1 u1 (by omega)) hg (by omega) (by decide) ?_
          refine aw_istore (lv' := [(4, .int (nI (W u1 v1))), (0, .ref (ad 0)), (1, .int (nI u1)), (2, .int (nI v1)), (3, .int (nI w1))]) d_W_weight_41 (by decide) rfl ?_
          refine aw_aload_n d_W_weight_43 rfl rfl ?_
          refine aw_get kc_0 0 (by decide) k_147 d_W_weight_44 hW rfl ?_
          refine aw_get kc_1 3 (by decide) k_36 d_W_weight_47 hG.1 rfl ?_
          refine aw_iload_n d_W_weight_50 rfl rfl ?_
          refine aw_aaldI d_W_weight_51 hG.2.1 hg (by omega) ?_
          refine aw_iload_n d_W_weight_52 rfl rfl ?_
          refine aw_iload_n d_W_weight_53 rfl rfl ?_
          refine aw_iastA d_W_weight_54 (hG.2.2.1 u1 (by omega)) hg (by omega) (by decide) (fun zws1 za2 zb3 zc4 => ?_)
          have zF5 := fam_putI (lo := 3) hG.2.2.1 za2 zb3
          have hG2 := hG.putW (by omega) za2 zb3
          have f2 := fr.one (lo := 1) (hi := 9) zb3 zc4 (by omega) (by omega)
          have hR2 := hK.rest.kept f2 (by omega)
          have hw2 : gW zws1 ad := (f2.1 0 (by omega)).trans hW
          refine aw_aload_n d_W_weight_55 rfl rfl ?_
          refine aw_callV (av := []) (rest := []) (m_W_renew hg hw2 hG2 (okG_weight hok u1 v1 w1 hw1) hR2) kd_W_renew k_174 k_176 ks_W_renew rfl hw2 d_W_weight_56 rfl ⟨by decide, by decide⟩ (Nat.le_of_ble_eq_true rfl) ⟨by decide, by decide⟩ rfl (fun v3 ws3 hq3 => ?_)
          obtain ⟨rfl, f3, hx⟩ := hq3
          refine aw_iload d_W_weight_59 rfl ?_
          exact aw_iret d_W_weight_61 (Nat.le_refl 0) (Nat.le_refl 0) ⟨by unfold aWeight; rw [if_pos ⟨h1, h2⟩, if_pos h5, ix_nI (by omega), ix_nI (by omega)], (f2.wide (lo' := 0) (hi' := 40) (by omega) (by omega)).tr f3, by unfold wWeight; rw [if_pos ⟨h1, h2, h5⟩, ix_nI (by omega), ix_nI (by omega), ix_nI (by omega)]; exact hx⟩
        · refine aw_bipush (v := -2) d_W_weight_27 (by decide) ?_
          exact aw_iret d_W_weight_29 (Nat.le_refl 0) (Nat.le_refl 0) ⟨by unfold aWeight; rw [if_pos ⟨h1, h2⟩, if_neg (by rw [ib_gt h4]; decide)], fr.rf, P, T, X, q, M, L, O, D, by unfold wWeight; rw [if_neg (by simp [ib_gt h4])]; exact hK⟩
    · refine aw_iconst (v := -1) d_W_weight_16 (by decide) ?_
      exact aw_iret d_W_weight_17 (Nat.le_refl 0) (Nat.le_refl 0) ⟨by unfold aWeight; rw [if_neg (by simp [h2])], fr.rf, P, T, X, q, M, L, O, D, by unfold wWeight; rw [if_neg (by simp [h2])]; exact hK⟩

set_option maxHeartbeats 4000000 in
set_option maxRecDepth 100000 in
theorem m_W_jump {g : aw_G} (hg : aw_T g) {ws : va_W} {ad : Nat → Nat} {n x y q : Nat} {W P : Nat → Nat → Nat} {J T X M L D : Nat → Nat} {O : Nat → Int32} {v w : Int32} (hK : gK g ws ad n x y W J P T X q M L O D) : AMet g y_W_jump c_W_jump 4 (some .int) 6 [.ref (ad 0), .int v, .int w] ws (qMut g ad ws (some (.int (aJump n J v w))) n x y W (jJump n J v w)) 0 0 := by
  obtain ⟨hW, hG, hok, hS, hoS, hC, hD, hI, hE0, hP0, hH0⟩ := id hK
  have hn := hok.1
  refine amet_of (by decide +kernel) (Nat.le_of_ble_eq_true rfl) ?_
  refine aw_sub (lv' := [(0, .ref (ad 0)), (1, .int v), (2, .int w)]) [0, 1, 2] rfl ?_
  refine aw_aload_n d_W_jump_0 rfl rfl ?_
  refine aw_iload_n d_W_jump_1 rfl rfl ?_
  refine aw_callV (av := [.int v]) (rest := []) (m_W_isNode hg hW hG) kd_W_isNode k_242 k_244 ks_W_isNode rfl hW d_W_jump_2 rfl ⟨by decide, by decide⟩ (Nat.le_of_ble_eq_true rfl) ⟨by decide, by decide⟩ rfl (fun v2 ws2 hq2 => ?_)
  obtain ⟨rfl, rfl⟩ := hq2
  refine aw_if_neB (tgt := 10) d_W_jump_5 (by decide) (fun h2 => ?_) (fun h2 => ?_)
  · refine aw_iload_n d_W_jump_10 rfl rfl ?_
    refine aw_if_lt (tgt := 19) d_W_jump_11 (by decide) (fun h3 => ?_) (fun h3 => ?_)
    · refine aw_bipush (v := -2) d_W_jump_19 (by decide) ?_
      exact aw_iret d_W_jump_21 (Nat.le_refl 0) (Nat.le_refl 0) ⟨by unfold aJump; rw [if_pos h2, if_neg (by rw [ib_lt h3]; decide)], fr.rf, P, T, X, q, M, L, O, D, by unfold jJump; rw [if_neg (by simp [ib_lt h3])]; exact hK⟩
    · refine aw_iload_n d_W_jump_14 rfl rfl ?_
      refine aw_iconst (v := nI 2) d_W_jump_15 (by decide) ?_
      refine aw_icmp_le (tgt := 22) d_W_jump_16 (by decide) (fun h4 => ?_) (fun h4 => ?_)
      · have h5 := ib_in h3 h4
        obtain ⟨w1, hw1, rfl⟩ := ib_true (by decide) h5
        obtain ⟨v1, hv1, rfl⟩ := nb_true hn h2
        refine aw_aload_n d_W_jump_22 rfl rfl ?_
        refine aw_get kc_0 0 (by decide) k_147 d_W_jump_23 hW rfl ?_
        refine aw_get kc_1 4 (by decide) k_40 d_W_jump_26 hG.1 rfl ?_
        refine aw_iload_n d_W_jump_29 rfl rfl ?_
        refine aw_ialdA d_W_jump_30 hG.2.2.2 hg (by omega) (by decide) ?_
        refine aw_istore_n (lv' := [(3, .int (nI (J v1))), (0, .ref (ad 0)), (1, .int (nI v1)), (2, .int (nI w1))]) d_W_jump_31 rfl (by decide) rfl ?_
        refine aw_aload_n d_W_jump_32 rfl rfl ?_
        refine aw_get kc_0 0 (by decide) k_147 d_W_jump_33 hW rfl ?_
        refine aw_get kc_1 4 (by decide) k_40 d_W_jump_36 hG.1 rfl ?_
        refine aw_iload_n d_W_jump_39 rfl rfl ?_
        refine aw_iload_n d_W_jump_40 rfl rfl ?_
        refine aw_iastA d_W_jump_41 hG.2.2.2 hg (by omega) (by decide) (fun zws1 za2 zb3 zc4 => ?_)
        have hG2 := hG.putJ za2 zb3
        have f2 := fr.one (lo := 1) (hi := 9) zb3 zc4 (by omega) (by omega)
        have hR2 := hK.rest.kept f2 (by omega)
        have hw2 : gW zws1 ad := (f2.1 0 (by omega)).trans hW
        refine aw_aload_n d_W_jump_42 rfl rfl ?_
        refine aw_callV (av := []) (rest := []) (m_W_renew hg hw2 hG2 (okG_jump hok v1 w1 hw1) hR2) kd_W_renew k_174 k_176 ks_W_renew rfl hw2 d_W_jump_43 rfl ⟨by decide, by decide⟩ (Nat.le_of_ble_eq_true rfl) ⟨by decide, by decide⟩ rfl (fun v3 ws3 hq3 => ?_)
        obtain ⟨rfl, f3, hx⟩ := hq3
        refine aw_iload_n d_W_jump_46 rfl rfl ?_
        exact aw_iret d_W_jump_47 (Nat.le_refl 0) (Nat.le_refl 0) ⟨by unfold aJump; rw [if_pos h2, if_pos h5, ix_nI (by omega)], (f2.wide (lo' := 0) (hi' := 40) (by omega) (by omega)).tr f3, by unfold jJump; rw [if_pos ⟨h2, h5⟩, ix_nI (by omega), ix_nI (by omega)]; exact hx⟩
      · refine aw_bipush (v := -2) d_W_jump_19 (by decide) ?_
        exact aw_iret d_W_jump_21 (Nat.le_refl 0) (Nat.le_refl 0) ⟨by unfold aJump; rw [if_pos h2, if_neg (by rw [ib_gt h4]; decide)], fr.rf, P, T, X, q, M, L, O, D, by unfold jJump; rw [if_neg (by simp [ib_gt h4])]; exact hK⟩
  · refine aw_iconst (v := -1) d_W_jump_8 (by decide) ?_
    exact aw_iret d_W_jump_9 (Nat.le_refl 0) (Nat.le_refl 0) ⟨by unfold aJump; rw [if_neg (by simp [h2])], fr.rf, P, T, X, q, M, L, O, D, by unfold jJump; rw [if_neg (by simp [h2])]; exact hK⟩

def qKeep (g : aw_G) (ad : Nat → Nat) (ws : va_W) (n x y : Nat) (W : Nat → Nat → Nat) (J : Nat → Nat) (a b : Int32) : Option Value → va_W → Prop := if kb a b = true then qMut g ad ws (some (.int 1)) n (ix a) (ix b) W J else qMut g ad ws (some (.int (-2))) n x y W J

set_option maxHeartbeats 4000000 in
set_option maxRecDepth 100000 in
theorem m_W_keep {g : aw_G} (hg : aw_T g) {ws : va_W} {ad : Nat → Nat} {n x y q : Nat} {W P : Nat → Nat → Nat} {J T X M L D : Nat → Nat} {O : Nat → Int32} {a b : Int32} (hK : gK g ws ad n x y W J P T X q M L O D) : AMet g y_W_keep c_W_keep 3 (some .int) 6 [.ref (ad 0), .int a, .int b] ws (qKeep g ad ws n x y W J a b) 0 0 := by
  obtain ⟨hW, hG, hok, hS, hoS, hC, hD, hI, hE0, hP0, hH0⟩ := id hK
  have hn := hok.1
  refine amet_of (by decide +kernel) (Nat.le_of_ble_eq_true rfl) ?_
  refine aw_sub (lv' := [(0, .ref (ad 0)), (1, .int a), (2, .int b)]) [0, 1, 2] rfl ?_
  unfold qKeep
  refine aw_iload_n d_W_keep_0 rfl rfl ?_
  refine aw_iconst (v := nI 1) d_W_keep_1 (by decide) ?_
  refine aw_icmp_lt (tgt := 19) d_W_keep_2 (by decide) (fun h1 => ?_) (fun h1 => ?_)
  · have e : kb a b = false := by unfold kb; simp only [decide_eq_false_iff_not]; intro z; exact z.1 h1
    rw [e, if_neg (by decide)]
    refine aw_bipush (v := -2) d_W_keep_19 (by decide) ?_
    exact aw_iret d_W_keep_21 (Nat.le_refl 0) (Nat.le_refl 0) ⟨rfl, fr.rf, ⟨P, T, X, q, M, L, O, D, hK⟩⟩
  · refine aw_iload_n d_W_keep_5 rfl rfl ?_
    refine aw_iconst (v := nI 4) d_W_keep_6 (by decide) ?_
    refine aw_icmp_gt (tgt := 19) d_W_keep_7 (by decide) (fun h2 => ?_) (fun h2 => ?_)
    · have e : kb a b = false := by unfold kb; simp only [decide_eq_false_iff_not]; intro z; exact z.2.1 h2
      rw [e, if_neg (by decide)]
      refine aw_bipush (v := -2) d_W_keep_19 (by decide) ?_
      exact aw_iret d_W_keep_21 (Nat.le_refl 0) (Nat.le_refl 0) ⟨rfl, fr.rf, ⟨P, T, X, q, M, L, O, D, hK⟩⟩
    · refine aw_iload_n d_W_keep_10 rfl rfl ?_
      refine aw_if_lt (tgt := 19) d_W_keep_11 (by decide) (fun h3 => ?_) (fun h3 => ?_)
      · have e : kb a b = false := by unfold kb; simp only [decide_eq_false_iff_not]; intro z; exact z.2.2.1 h3
        rw [e, if_neg (by decide)]
        refine aw_bipush (v := -2) d_W_keep_19 (by decide) ?_
        exact aw_iret d_W_keep_21 (Nat.le_refl 0) (Nat.le_refl 0) ⟨rfl, fr.rf, ⟨P, T, X, q, M, L, O, D, hK⟩⟩
      · refine aw_iload_n d_W_keep_14 rfl rfl ?_
        refine aw_iload_n d_W_keep_15 rfl rfl ?_
        refine aw_icmp_le (tgt := 22) d_W_keep_16 (by decide) (fun h4 => ?_) (fun h4 => ?_)
        · have e : kb a b = true := by unfold kb; simp only [decide_eq_true_eq]; exact ⟨h1, h2, h3, h4⟩
          rw [e, if_pos rfl]
          obtain ⟨a1, b1, k1, k2, k3, rfl, rfl⟩ := kb_true e
          refine aw_aload_n d_W_keep_22 rfl rfl ?_
          refine aw_get kc_0 0 (by decide) k_147 d_W_keep_23 hW rfl ?_
          refine aw_iload_n d_W_keep_26 rfl rfl ?_
          refine aw_putN kc_1 1 (by decide) k_30 d_W_keep_27 hG.1 rfl rfl rfl (Nat.le_of_ble_eq_true rfl) (fun zws1 za2 zb3 zc4 => ?_)
          have zf5 : zws1[1]? = some (ad 1, .inr (1, [.int (nI n), .int (nI a1), .int (nI y), .ref (ad 2), .ref (ad 8)])) := za2
          have hG2 := hG.putO (n' := n) (x' := a1) (y' := y) za2 zb3
          have f2 := fr.one (lo := 1) (hi := 9) zb3 zc4 (by omega) (by omega)
          refine aw_aload_n d_W_keep_30 rfl rfl ?_
          refine aw_get kc_0 0 (by decide) k_147 d_W_keep_31 ((zb3 0 (by omega)).trans hW) rfl ?_
          refine aw_iload_n d_W_keep_34 rfl rfl ?_
          refine aw_putN kc_1 2 (by decide) k_33 d_W_keep_35 zf5 rfl rfl rfl (Nat.le_of_ble_eq_true rfl) (fun zws6 za7 zb8 zc9 => ?_)
          have zf10 : zws6[1]? = some (ad 1, .inr (1, [.int (nI n), .int (nI a1), .int (nI b1), .ref (ad 2), .ref (ad 8)])) := za7
          have hG3 := hG2.putO (n' := n) (x' := a1) (y' := b1) za7 zb8
          have f3 := f2.tr (fr.one (lo := 1) (hi := 9) zb8 zc9 (by omega) (by omega))
          have hR2 := hK.rest.kept f3 (by omega)
          have hw2 : gW zws6 ad := (f3.1 0 (by omega)).trans hW
          refine aw_aload_n d_W_keep_38 rfl rfl ?_
          refine aw_callV (av := []) (rest := []) (m_W_renew hg hw2 hG3 ⟨hok.1, k1, k2, k3, hok.2.2.2.2⟩ hR2) kd_W_renew k_174 k_176 ks_W_renew rfl hw2 d_W_keep_39 rfl ⟨by decide, by decide⟩ (Nat.le_of_ble_eq_true rfl) ⟨by decide, by decide⟩ rfl (fun v3 ws3 hq3 => ?_)
          obtain ⟨rfl, f4, hx⟩ := hq3
          refine aw_iconst (v := nI 1) d_W_keep_42 (by decide) ?_
          exact aw_iret d_W_keep_43 (Nat.le_refl 0) (Nat.le_refl 0) ⟨rfl, (f3.wide (lo' := 0) (hi' := 40) (by omega) (by omega)).tr f4, by rw [ix_nI (by omega), ix_nI (by omega)]; exact hx⟩
        · have e : kb a b = false := by unfold kb; simp only [decide_eq_false_iff_not]; intro z; exact h4 z.2.2.2
          rw [e, if_neg (by decide)]
          refine aw_bipush (v := -2) d_W_keep_19 (by decide) ?_
          exact aw_iret d_W_keep_21 (Nat.le_refl 0) (Nat.le_refl 0) ⟨rfl, fr.rf, ⟨P, T, X, q, M, L, O, D, hK⟩⟩

set_option maxHeartbeats 4000000 in
set_option maxRecDepth 100000 in
theorem m_W_clear {g : aw_G} (hg : aw_T g) {ws : va_W} {ad : Nat → Nat} {n x y q : Nat} {W P : Nat → Nat → Nat} {J T X M L D : Nat → Nat} {O : Nat → Int32} (hK : gK g ws ad n x y W J P T X q M L O D) : AMet g y_W_clear c_W_clear 2 (some .int) 6 [.ref (ad 0)] ws (qMut g ad ws (some (.int (nI n))) 0 x y W J) 0 0 := by
  obtain ⟨hW, hG, hok, hS, hoS, hC, hD, hI, hE0, hP0, hH0⟩ := id hK
  have hn := hok.1
  refine amet_of (by decide +kernel) (Nat.le_of_ble_eq_true rfl) ?_
  refine aw_sub (lv' := [(0, .ref (ad 0))]) [0] rfl ?_
  refine aw_aload_n d_W_clear_0 rfl rfl ?_
  refine aw_get kc_0 0 (by decide) k_147 d_W_clear_1 hW rfl ?_
  refine aw_get kc_1 0 (by decide) k_27 d_W_clear_4 hG.1 rfl ?_
  refine aw_istore_n (lv' := [(1, .int (nI n)), (0, .ref (ad 0))]) d_W_clear_7 rfl (by decide) rfl ?_
  refine aw_aload_n d_W_clear_8 rfl rfl ?_
  refine aw_get kc_0 0 (by decide) k_147 d_W_clear_9 hW rfl ?_
  refine aw_iconst (v := nI 0) d_W_clear_12 (by decide) ?_
  refine aw_putN kc_1 0 (by decide) k_27 d_W_clear_13 hG.1 rfl rfl rfl (Nat.le_of_ble_eq_true rfl) (fun zws1 za2 zb3 zc4 => ?_)
  have zf5 : zws1[1]? = some (ad 1, .inr (1, [.int (nI 0), .int (nI x), .int (nI y), .ref (ad 2), .ref (ad 8)])) := za2
  have hG2 := hG.putO (n' := 0) (x' := x) (y' := y) za2 zb3
  have f2 := fr.one (lo := 1) (hi := 9) zb3 zc4 (by omega) (by omega)
  have hR2 := hK.rest.kept f2 (by omega)
  have hw2 : gW zws1 ad := (f2.1 0 (by omega)).trans hW
  refine aw_aload_n d_W_clear_16 rfl rfl ?_
  refine aw_callV (av := []) (rest := []) (m_W_renew hg hw2 hG2 ⟨by omega, hok.2⟩ hR2) kd_W_renew k_174 k_176 ks_W_renew rfl hw2 d_W_clear_17 rfl ⟨by decide, by decide⟩ (Nat.le_of_ble_eq_true rfl) ⟨by decide, by decide⟩ rfl (fun v3 ws3 hq3 => ?_)
  obtain ⟨rfl, f4, hx⟩ := hq3
  refine aw_iload_n d_W_clear_20 rfl rfl ?_
  exact aw_iret d_W_clear_21 (Nat.le_refl 0) (Nat.le_refl 0) ⟨rfl, (f2.wide (lo' := 0) (hi' := 40) (by omega) (by omega)).tr f4, hx⟩

set_option maxHeartbeats 4000000 in
set_option maxRecDepth 100000 in
theorem m_W_row {g : aw_G} (hg : aw_T g) {ws : va_W} {ad : Nat → Nat} {n x y q : Nat} {W P : Nat → Nat → Nat} {J T X M L D : Nat → Nat} {O : Nat → Int32} {u v : Int32} (hK : gK g ws ad n x y W J P T X q M L O D) : AMet g y_W_row c_W_row 3 (some .int) 1 [.ref (ad 0), .int u, .int v] ws (aw_R (.int (aRow n x y W J u v)) ws) 0 0 := by
  obtain ⟨hW, hG, hok, hS, hoS, hC, hD, hI, hE0, hP0, hH0⟩ := id hK
  have hn := hok.1
  refine amet_of (by decide +kernel) (Nat.le_of_ble_eq_true rfl) ?_
  refine aw_sub (lv' := [(0, .ref (ad 0)), (1, .int u), (2, .int v)]) [0, 1, 2] rfl ?_
  refine aw_aload_n d_W_row_0 rfl rfl ?_
  refine aw_iload_n d_W_row_1 rfl rfl ?_
  refine aw_callV (av := [.int u]) (rest := []) (m_W_isNode hg hW hG) kd_W_isNode k_242 k_244 ks_W_isNode rfl hW d_W_row_2 rfl ⟨by decide, by decide⟩ (Nat.le_of_ble_eq_true rfl) ⟨by decide, by decide⟩ rfl (fun v2 ws2 hq2 => ?_)
  obtain ⟨rfl, rfl⟩ := hq2
  refine aw_if_eqB (tgt := 16) d_W_row_5 (by decide) (fun h1 => ?_) (fun h1 => ?_)
  · refine aw_iconst (v := -1) d_W_row_16 (by decide) ?_
    exact aw_iret d_W_row_17 (Nat.le_refl 0) (Nat.le_refl 0) ⟨by unfold aRow; rw [if_neg (by simp [h1])], rfl⟩
  · refine aw_aload_n d_W_row_8 rfl rfl ?_
    refine aw_iload_n d_W_row_9 rfl rfl ?_
    refine aw_callV (av := [.int v]) (rest := []) (m_W_isNode hg hW hG) kd_W_isNode k_242 k_244 ks_W_isNode rfl hW d_W_row_10 rfl ⟨by decide, by decide⟩ (Nat.le_of_ble_eq_true rfl) ⟨by decide, by decide⟩ rfl (fun v2 ws2 hq2 => ?_)
    obtain ⟨rfl, rfl⟩ := hq2
    refine aw_if_neB (tgt := 18) d_W_row_13 (by decide) (fun h2 => ?_) (fun h2 => ?_)
    · obtain ⟨u1, hu1, rfl⟩ := nb_true hn h1
      obtain ⟨v1, hv1, rfl⟩ := nb_true hn h2
      refine aw_aload_n d_W_row_18 rfl rfl ?_
      refine aw_get kc_0 1 (by decide) k_148 d_W_row_19 hW rfl ?_
      refine aw_get kc_2 1 (by decide) k_67 d_W_row_22 hS.1 rfl ?_
      refine aw_iload_n d_W_row_25 rfl rfl ?_
      refine aw_aaldI d_W_row_26 hS.2.1 hg (by omega) ?_
      refine aw_iload_n d_W_row_27 rfl rfl ?_
      refine aw_ialdA d_W_row_28 (hS.2.2.1 u1 (by omega)) hg (by omega) (by decide) ?_
      exact aw_iret d_W_row_29 (Nat.le_refl 0) (Nat.le_refl 0) ⟨by unfold aRow; rw [if_pos ⟨h1, h2⟩, ix_nI (by omega), ix_nI (by omega), (hoS u1 hu1).1 v1 hv1], rfl⟩
    · refine aw_iconst (v := -1) d_W_row_16 (by decide) ?_
      exact aw_iret d_W_row_17 (Nat.le_refl 0) (Nat.le_refl 0) ⟨by unfold aRow; rw [if_neg (by simp [h2])], rfl⟩

set_option maxHeartbeats 4000000 in
set_option maxRecDepth 100000 in
theorem m_W_total {g : aw_G} (hg : aw_T g) {ws : va_W} {ad : Nat → Nat} {n x y q : Nat} {W P : Nat → Nat → Nat} {J T X M L D : Nat → Nat} {O : Nat → Int32} {u : Int32} (hK : gK g ws ad n x y W J P T X q M L O D) : AMet g y_W_total c_W_total 2 (some .int) 1 [.ref (ad 0), .int u] ws (aw_R (.int (aTotal n x y W J u)) ws) 0 0 := by
  obtain ⟨hW, hG, hok, hS, hoS, hC, hD, hI, hE0, hP0, hH0⟩ := id hK
  have hn := hok.1
  refine amet_of (by decide +kernel) (Nat.le_of_ble_eq_true rfl) ?_
  refine aw_sub (lv' := [(0, .ref (ad 0)), (1, .int u)]) [0, 1] rfl ?_
  refine aw_aload_n d_W_total_0 rfl rfl ?_
  refine aw_iload_n d_W_total_1 rfl rfl ?_
  refine aw_callV (av := [.int u]) (rest := []) (m_W_isNode hg hW hG) kd_W_isNode k_242 k_244 ks_W_isNode rfl hW d_W_total_2 rfl ⟨by decide, by decide⟩ (Nat.le_of_ble_eq_true rfl) ⟨by decide, by decide⟩ rfl (fun v2 ws2 hq2 => ?_)
  obtain ⟨rfl, rfl⟩ := hq2
  refine aw_if_neB (tgt := 10) d_W_total_5 (by decide) (fun h1 => ?_) (fun h1 => ?_)
  · obtain ⟨u1, hu1, rfl⟩ := nb_true hn h1
    refine aw_aload_n d_W_total_10 rfl rfl ?_
    refine aw_get kc_0 1 (by decide) k_148 d_W_total_11 hW rfl ?_
    refine aw_get kc_2 2 (by decide) k_71 d_W_total_14 hS.1 rfl ?_
    refine aw_iload_n d_W_total_17 rfl rfl ?_
    refine aw_ialdA d_W_total_18 hS.2.2.2.1 hg (by omega) (by decide) ?_
    exact aw_iret d_W_total_19 (Nat.le_refl 0) (Nat.le_refl 0) ⟨by unfold aTotal; rw [if_pos h1, ix_nI (by omega), (hoS u1 hu1).2.1], rfl⟩
  · refine aw_iconst (v := -1) d_W_total_8 (by decide) ?_
    exact aw_iret d_W_total_9 (Nat.le_refl 0) (Nat.le_refl 0) ⟨by unfold aTotal; rw [if_neg (by simp [h1])], rfl⟩

set_option maxHeartbeats 4000000 in
set_option maxRecDepth 100000 in
theorem m_W_closed {g : aw_G} (hg : aw_T g) {ws : va_W} {ad : Nat → Nat} {n x y q : Nat} {W P : Nat → Nat → Nat} {J T X M L D : Nat → Nat} {O : Nat → Int32} (hK : gK g ws ad n x y W J P T X q M L O D) : AMet g y_W_closed c_W_closed 1 (some .int) 0 [.ref (ad 0)] ws (aw_R (.int (nI q)) ws) 0 0 := by
  obtain ⟨hW, hG, hok, hS, hoS, hC, hD, hI, hE0, hP0, hH0⟩ := id hK
  have hn := hok.1
  refine amet_of (by decide +kernel) (Nat.le_of_ble_eq_true rfl) ?_
  refine aw_sub (lv' := [(0, .ref (ad 0))]) [0] rfl ?_
  refine aw_aload_n d_W_closed_0 rfl rfl ?_
  refine aw_get kc_0 2 (by decide) k_149 d_W_closed_1 hW rfl ?_
  refine aw_get kc_3 0 (by decide) k_89 d_W_closed_4 hC.1 rfl ?_
  exact aw_iret d_W_closed_7 (Nat.le_refl 0) (Nat.le_refl 0) ⟨rfl, rfl⟩

set_option maxHeartbeats 4000000 in
set_option maxRecDepth 100000 in
theorem m_W_closedOf {g : aw_G} (hg : aw_T g) {ws : va_W} {ad : Nat → Nat} {n x y q : Nat} {W P : Nat → Nat → Nat} {J T X M L D : Nat → Nat} {O : Nat → Int32} {u : Int32} (hK : gK g ws ad n x y W J P T X q M L O D) : AMet g y_W_closedOf c_W_closedOf 2 (some .int) 1 [.ref (ad 0), .int u] ws (aw_R (.int (if nb n u = true then O (ix u) else -1)) ws) 0 0 := by
  obtain ⟨hW, hG, hok, hS, hoS, hC, hD, hI, hE0, hP0, hH0⟩ := id hK
  have hn := hok.1
  refine amet_of (by decide +kernel) (Nat.le_of_ble_eq_true rfl) ?_
  refine aw_sub (lv' := [(0, .ref (ad 0)), (1, .int u)]) [0, 1] rfl ?_
  refine aw_aload_n d_W_closedOf_0 rfl rfl ?_
  refine aw_iload_n d_W_closedOf_1 rfl rfl ?_
  refine aw_callV (av := [.int u]) (rest := []) (m_W_isNode hg hW hG) kd_W_isNode k_242 k_244 ks_W_isNode rfl hW d_W_closedOf_2 rfl ⟨by decide, by decide⟩ (Nat.le_of_ble_eq_true rfl) ⟨by decide, by decide⟩ rfl (fun v2 ws2 hq2 => ?_)
  obtain ⟨rfl, rfl⟩ := hq2
  refine aw_if_neB (tgt := 10) d_W_closedOf_5 (by decide) (fun h1 => ?_) (fun h1 => ?_)
  · obtain ⟨u1, hu1, rfl⟩ := nb_true hn h1
    refine aw_aload_n d_W_closedOf_10 rfl rfl ?_
    refine aw_get kc_0 2 (by decide) k_149 d_W_closedOf_11 hW rfl ?_
    refine aw_get kc_3 3 (by decide) k_95 d_W_closedOf_14 hC.1 rfl ?_
    refine aw_iload_n d_W_closedOf_17 rfl rfl ?_
    refine aw_ialdR d_W_closedOf_18 hC.2.2.2.1 hg (by omega) (by decide) ?_
    exact aw_iret d_W_closedOf_19 (Nat.le_refl 0) (Nat.le_refl 0) ⟨by rw [if_pos h1, ix_nI (by omega)], rfl⟩
  · refine aw_iconst (v := -1) d_W_closedOf_8 (by decide) ?_
    exact aw_iret d_W_closedOf_9 (Nat.le_refl 0) (Nat.le_refl 0) ⟨by rw [if_neg (by simp [h1])], rfl⟩

theorem IC_q {n : Nat} {D : Nat → Nat} {q : Nat} {M L : Nat → Nat} {O : Nat → Int32} (h : IC n D n q M L O) (hn : n ≤ 5) : q ≤ 5 := by
  have := cntB_le (ldB D n) n
  have := h.1
  omega
theorem cntB_ex (p : Nat → Bool) : ∀ {k i : Nat}, i < cntB p k → ∃ l, l < k ∧ p l = true ∧ cntB p l = i
  | 0, i, h => absurd h (Nat.not_lt_zero i)
  | k + 1, i, h => by
    rw [cntB] at h
    by_cases e : i < cntB p k
    · obtain ⟨l, h1, h2, h3⟩ := cntB_ex p e
      exact ⟨l, by omega, h2, h3⟩
    · by_cases hp : p k = true
      · rw [if_pos hp] at h
        exact ⟨k, by omega, hp, by omega⟩
      · rw [if_neg hp] at h; omega
/-- set i has its least node -/
theorem IC_set {n : Nat} {D : Nat → Nat} {q : Nat} {M L : Nat → Nat} {O : Nat → Int32} (h : IC n D n q M L O) {i : Nat} (hi : i < q) : ∃ l, l < n ∧ ldB D n l = true ∧ cntB (ldB D n) l = i ∧ M i = D l ∧ L i = l := by
  rw [h.1] at hi
  obtain ⟨l, h1, h2, h3⟩ := cntB_ex _ hi
  obtain ⟨e1, e2⟩ := h.2.1 l h1 h2
  rw [h3] at e1 e2
  exact ⟨l, h1, h2, h3, e1, e2⟩

set_option maxHeartbeats 4000000 in
set_option maxRecDepth 100000 in
theorem m_W_period {g : aw_G} (hg : aw_T g) {ws : va_W} {ad : Nat → Nat} {n x y q : Nat} {W P : Nat → Nat → Nat} {J T X M L D : Nat → Nat} {O : Nat → Int32} {a : Int32} (hK : gK g ws ad n x y W J P T X q M L O D) : AMet g y_W_period c_W_period 2 (some .int) 4 [.ref (ad 0), .int a] ws (aw_R (.int (if nb q a = true then nI (perd X n (L (ix a)) 15) else -1)) ws) 0 0 := by
  obtain ⟨hW, hG, hok, hS, hoS, hC, hD, hI, hE0, hP0, hH0⟩ := id hK
  have hn := hok.1
  have hq5 := IC_q hI hn
  refine amet_of (by decide +kernel) (Nat.le_of_ble_eq_true rfl) ?_
  refine aw_sub (lv' := [(0, .ref (ad 0)), (1, .int a)]) [0, 1] rfl ?_
  refine aw_aload_n d_W_period_0 rfl rfl ?_
  refine aw_iload_n d_W_period_1 rfl rfl ?_
  refine aw_callV (av := [.int a]) (rest := []) (m_W_isSet hg hW hC) kd_W_isSet k_278 k_280 ks_W_isSet rfl hW d_W_period_2 rfl ⟨by decide, by decide⟩ (Nat.le_of_ble_eq_true rfl) ⟨by decide, by decide⟩ rfl (fun v2 ws2 hq2 => ?_)
  obtain ⟨rfl, rfl⟩ := hq2
  refine aw_if_neB (tgt := 10) d_W_period_5 (by decide) (fun h1 => ?_) (fun h1 => ?_)
  · obtain ⟨a1, ha1, rfl⟩ := nb_true hq5 h1
    obtain ⟨l, hl, -, -, -, eL⟩ := IC_set hI ha1
    refine aw_aload_n d_W_period_10 rfl rfl ?_
    refine aw_get kc_0 1 (by decide) k_148 d_W_period_11 hW rfl ?_
    refine aw_aload_n d_W_period_14 rfl rfl ?_
    refine aw_get kc_0 2 (by decide) k_149 d_W_period_15 hW rfl ?_
    refine aw_get kc_3 2 (by decide) k_93 d_W_period_18 hC.1 rfl ?_
    refine aw_iload_n d_W_period_21 rfl rfl ?_
    refine aw_ialdA d_W_period_22 hC.2.2.1 hg (by omega) (by decide) ?_
    refine aw_nmi (z := nI l) (by rw [eL]) ?_
    refine aw_callV (av := [.int (nI l)]) (rest := []) (m_S_periodAt hg hS hn (by omega) (hoS.X hn).lt) kd_S_periodAt k_282 k_283 ks_S_periodAt rfl hS.1 d_W_period_23 rfl ⟨by decide, by decide⟩ (Nat.le_of_ble_eq_true rfl) ⟨by decide, by decide⟩ rfl (fun v3 ws3 hq3 => ?_)
    obtain ⟨rfl, rfl⟩ := hq3
    exact aw_iret d_W_period_26 (Nat.le_refl 0) (Nat.le_refl 0) ⟨by rw [if_pos h1, ix_nI (by omega), eL], rfl⟩
  · refine aw_iconst (v := -1) d_W_period_8 (by decide) ?_
    exact aw_iret d_W_period_9 (Nat.le_refl 0) (Nat.le_refl 0) ⟨by rw [if_neg (by simp [h1])], rfl⟩
