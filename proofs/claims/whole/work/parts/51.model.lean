-- laid by wip/whole/m13.py
set_option maxHeartbeats 4000000 in
set_option maxRecDepth 100000 in
theorem m_M_isNode {g : aw_G} (hg : aw_T g) {ws : va_W} {ad : Nat → Nat} {n : Nat} {x : Nat} {y : Nat} {V : Nat → Nat} {J : Nat → Nat} {Rw : Nat → Nat} {Tt : Nat → Nat} {q : Nat} {So : Nat → Int32} {Bo : Nat → Nat} {fo : Int} {tw : Int} {St : Nat → Nat} {Sh : Nat → Int} {ss : Int} {Nw : Nat → Int} {Th : Nat → Int} {a : Int32} (hM : gM g ws ad n x y V J Rw Tt q So Bo fo tw St Sh ss Nw Th) : AMet g y_M_isNode c_M_isNode 2 (some .boolean) 0 [.ref (ad 40), .int a] ws (aw_R (.int (bI (nb n a))) ws) 0 0 := by
  refine amet_of (by decide +kernel) (Nat.le_of_ble_eq_true rfl) ?_
  refine aw_sub (lv' := [(0, .ref (ad 40)), (1, .int a)]) [0, 1] rfl ?_
  refine aw_iload_n d_M_isNode_0 rfl rfl ?_
  refine aw_if_lt (tgt := 16) d_M_isNode_1 (by decide) (fun h => ?_) (fun h => ?_)
  · have e : nb n a = false := by unfold nb; simp [h]
    refine aw_iconst (v := nI 0) d_M_isNode_16 (by decide) ?_
    exact aw_zret d_M_isNode_17 rfl (Nat.le_refl 0) (Nat.le_refl 0) ⟨by rw [e]; rfl, rfl⟩
  · refine aw_iload_n d_M_isNode_4 rfl rfl ?_
    refine aw_aload_n d_M_isNode_5 rfl rfl ?_
    refine aw_get kc_6 0 (by decide) k_404 d_M_isNode_6 hM.1 rfl ?_
    refine aw_icmp_ge (tgt := 16) d_M_isNode_9 (by decide) (fun h2 => ?_) (fun h2 => ?_)
    · have e : nb n a = false := by unfold nb; simp [h2]
      refine aw_iconst (v := nI 0) d_M_isNode_16 (by decide) ?_
      exact aw_zret d_M_isNode_17 rfl (Nat.le_refl 0) (Nat.le_refl 0) ⟨by rw [e]; rfl, rfl⟩
    · have e : nb n a = true := by unfold nb; simp [h, h2]
      refine aw_iconst (v := nI 1) d_M_isNode_12 (by decide) ?_
      refine aw_goto (tgt := 17) d_M_isNode_13 (by decide) ?_
      exact aw_zret d_M_isNode_17 rfl (Nat.le_refl 0) (Nat.le_refl 0) ⟨by rw [e]; rfl, rfl⟩

set_option maxHeartbeats 4000000 in
set_option maxRecDepth 100000 in
theorem m_M_isPart {g : aw_G} (hg : aw_T g) {ws : va_W} {ad : Nat → Nat} {a : Int32} : AMet g y_M_isPart c_M_isPart 1 (some .boolean) 0 [.int a] ws (aw_R (.int (bI (pb a))) ws) 0 0 := by
  refine amet_of (by decide +kernel) (Nat.le_of_ble_eq_true rfl) ?_
  refine aw_sub (lv' := [(0, .int a)]) [0] rfl ?_
  refine aw_iload_n d_M_isPart_0 rfl rfl ?_
  refine aw_if_eq (tgt := 9) d_M_isPart_1 (by decide) (fun h => ?_) (fun h => ?_)
  · have e : pb a = true := by unfold pb; simp [h]
    refine aw_iconst (v := nI 1) d_M_isPart_9 (by decide) ?_
    refine aw_goto (tgt := 14) d_M_isPart_10 (by decide) ?_
    exact aw_zret d_M_isPart_14 rfl (Nat.le_refl 0) (Nat.le_refl 0) ⟨by rw [e]; rfl, rfl⟩
  · refine aw_iload_n d_M_isPart_4 rfl rfl ?_
    refine aw_iconst (v := nI 1) d_M_isPart_5 (by decide) ?_
    refine aw_icmp_ne (tgt := 13) d_M_isPart_6 (by decide) (fun h2 => ?_) (fun h2 => ?_)
    · have e : pb a = false := by unfold pb; simp [h, show ¬ a = 1 from h2]
      refine aw_iconst (v := nI 0) d_M_isPart_13 (by decide) ?_
      exact aw_zret d_M_isPart_14 rfl (Nat.le_refl 0) (Nat.le_refl 0) ⟨by rw [e]; rfl, rfl⟩
    · have e : pb a = true := by unfold pb; simp [show a = 1 from h2]
      refine aw_iconst (v := nI 1) d_M_isPart_9 (by decide) ?_
      refine aw_goto (tgt := 14) d_M_isPart_10 (by decide) ?_
      exact aw_zret d_M_isPart_14 rfl (Nat.le_refl 0) (Nat.le_refl 0) ⟨by rw [e]; rfl, rfl⟩

set_option maxHeartbeats 4000000 in
set_option maxRecDepth 100000 in
theorem m_M_all {g : aw_G} (hg : aw_T g) {ws : va_W} {ad : Nat → Nat} {n : Nat} {x : Nat} {y : Nat} {V : Nat → Nat} {J : Nat → Nat} {Rw : Nat → Nat} {Tt : Nat → Nat} {q : Nat} {So : Nat → Int32} {Bo : Nat → Nat} {fo : Int} {tw : Int} {St : Nat → Nat} {Sh : Nat → Int} {ss : Int} {Nw : Nat → Int} {Th : Nat → Int} (hM : gM g ws ad n x y V J Rw Tt q So Bo fo tw St Sh ss Nw Th) (hn : n ≤ 5) : AMet g y_M_all c_M_all 1 (some .int) 0 [.ref (ad 40)] ws (aw_R (.int (nI (2 ^ n - 1))) ws) 0 0 := by
  have hp : 1 ≤ 2 ^ n := Nat.one_le_two_pow
  refine amet_of (by decide +kernel) (Nat.le_of_ble_eq_true rfl) ?_
  refine aw_sub (lv' := [(0, .ref (ad 40))]) [0] rfl ?_
  refine aw_iconst (v := nI 1) d_M_all_0 (by decide) ?_
  refine aw_aload_n d_M_all_1 rfl rfl ?_
  refine aw_get kc_6 0 (by decide) k_404 d_M_all_2 hM.1 rfl ?_
  refine aw_ishl d_M_all_5 ?_
  refine aw_nmi (z := nI (2 ^ n)) (sl_eq n (by omega)) ?_
  refine aw_iconst (v := nI 1) d_M_all_6 (by decide) ?_
  refine aw_isubN d_M_all_7 (by omega) ?_
  exact aw_iret d_M_all_8 (Nat.le_refl 0) (Nat.le_refl 0) ⟨rfl, rfl⟩

theorem vw_put {V : Nat → Nat} {W : Nat → Nat → Nat} {u v w : Nat} (h : vw V W) (hu : u < 5) (hv : v < 5) : vw (fup V (5 * u + v) w) (fup2 W u v w) := fun i j hi hj => by
  unfold fup fup2
  by_cases e : i = u ∧ j = v
  · rw [if_pos (by omega), if_pos e]
  · rw [if_neg (by omega), if_neg e]; exact h i j hi hj

set_option maxHeartbeats 4000000 in
set_option maxRecDepth 100000 in
theorem m_M_weight {g : aw_G} (hg : aw_T g) {ws : va_W} {ad : Nat → Nat} {n x y : Nat} {W : Nat → Nat → Nat} {J : Nat → Nat} {u v w : Int32} (hO : gMo g ws ad n x y W J) : AMet g y_M_weight c_M_weight 5 (some .int) 1 [.ref (ad 40), .int u, .int v, .int w] ws (qM g ad ws (.int (aWeight n W u v w)) n x y (wWeight n W u v w) J) 0 0 := by
  obtain ⟨V, Rw, Tt, q, So, Bo, fo, tw, St, Sh, ss, Nw, Th, hM, hok, hV⟩ := id hO
  have hn := hok.1
  refine amet_of (by decide +kernel) (Nat.le_of_ble_eq_true rfl) ?_
  refine aw_sub (lv' := [(0, .ref (ad 40)), (1, .int u), (2, .int v), (3, .int w)]) [0, 1, 2, 3] rfl ?_
  refine aw_aload_n d_M_weight_0 rfl rfl ?_
  refine aw_iload_n d_M_weight_1 rfl rfl ?_
  refine aw_callV (av := [.int u]) (rest := []) (m_M_isNode hg hM) kd_M_isNode k_464 k_466 ks_M_isNode rfl hM.1 d_M_weight_2 rfl ⟨by decide, by decide⟩ (Nat.le_of_ble_eq_true rfl) ⟨by decide, by decide⟩ rfl (fun v2 ws2 hq2 => ?_)
  obtain ⟨rfl, rfl⟩ := hq2
  refine aw_if_eqB (tgt := 16) d_M_weight_5 (by decide) (fun h1 => ?_) (fun h1 => ?_)
  · refine aw_iconst (v := -1) d_M_weight_16 (by decide) ?_
    exact aw_iret d_M_weight_17 (Nat.le_refl 0) (Nat.le_refl 0) ⟨by unfold aWeight; rw [if_neg (by simp [h1])], fr.rf, by unfold wWeight; rw [if_neg (by simp [h1])]; exact hO⟩
  · refine aw_aload_n d_M_weight_8 rfl rfl ?_
    refine aw_iload_n d_M_weight_9 rfl rfl ?_
    refine aw_callV (av := [.int v]) (rest := []) (m_M_isNode hg hM) kd_M_isNode k_464 k_466 ks_M_isNode rfl hM.1 d_M_weight_10 rfl ⟨by decide, by decide⟩ (Nat.le_of_ble_eq_true rfl) ⟨by decide, by decide⟩ rfl (fun v2 ws2 hq2 => ?_)
    obtain ⟨rfl, rfl⟩ := hq2
    refine aw_if_neB (tgt := 18) d_M_weight_13 (by decide) (fun h2 => ?_) (fun h2 => ?_)
    · refine aw_iload_n d_M_weight_18 rfl rfl ?_
      refine aw_if_lt (tgt := 27) d_M_weight_19 (by decide) (fun h3 => ?_) (fun h3 => ?_)
      · refine aw_bipush (v := -2) d_M_weight_27 (by decide) ?_
        exact aw_iret d_M_weight_29 (Nat.le_refl 0) (Nat.le_refl 0) ⟨by unfold aWeight; rw [if_pos ⟨h1, h2⟩, if_neg (by rw [ib_lt h3]; decide)], fr.rf, by unfold wWeight; rw [if_neg (by simp [ib_lt h3])]; exact hO⟩
      · refine aw_iload_n d_M_weight_22 rfl rfl ?_
        refine aw_iconst (v := nI 2) d_M_weight_23 (by decide) ?_
        refine aw_icmp_le (tgt := 30) d_M_weight_24 (by decide) (fun h4 => ?_) (fun h4 => ?_)
        · have h5 := ib_in h3 h4
          obtain ⟨w1, hw1, rfl⟩ := ib_true (by decide) h5
          obtain ⟨u1, hu1, rfl⟩ := nb_true hn h1
          obtain ⟨v1, hv1, rfl⟩ := nb_true hn h2
          refine aw_aload_n d_M_weight_30 rfl rfl ?_
          refine aw_get kc_6 1 (by decide) k_405 d_M_weight_31 hM.1 rfl ?_
          refine aw_iconst (v := nI 5) d_M_weight_34 (by decide) ?_
          refine aw_iload_n d_M_weight_35 rfl rfl ?_
          refine aw_imulN d_M_weight_36 ?_
          refine aw_iload_n d_M_weight_37 rfl rfl ?_
          refine aw_iaddN d_M_weight_38 ?_
          refine aw_ialdA d_M_weight_39 hM.2.1 hg (by omega) (by decide) ?_
          refine aw_istore (lv' := [(4, .int (nI (V ((5 * u1) + v1)))), (0, .ref (ad 40)), (1, .int (nI u1)), (2, .int (nI v1)), (3, .int (nI w1))]) d_M_weight_40 (by decide) rfl ?_
          refine aw_aload_n d_M_weight_42 rfl rfl ?_
          refine aw_get kc_6 1 (by decide) k_405 d_M_weight_43 hM.1 rfl ?_
          refine aw_iconst (v := nI 5) d_M_weight_46 (by decide) ?_
          refine aw_iload_n d_M_weight_47 rfl rfl ?_
          refine aw_imulN d_M_weight_48 ?_
          refine aw_iload_n d_M_weight_49 rfl rfl ?_
          refine aw_iaddN d_M_weight_50 ?_
          refine aw_iload_n d_M_weight_51 rfl rfl ?_
          refine aw_iastA d_M_weight_52 hM.2.1 hg (by omega) (by decide) (fun zws1 za2 zb3 zc4 => ?_)
          have hM2 := hM.p41  za2 zb3
          have f2 := (fr.one (lo := 40) (hi := 51) zb3 zc4 (by omega) (by omega))
          refine aw_iload d_M_weight_53 rfl ?_
          exact aw_iret d_M_weight_55 (Nat.le_refl 0) (Nat.le_refl 0) ⟨by unfold aWeight; rw [if_pos ⟨h1, h2⟩, if_pos h5, ix_nI (by omega), ix_nI (by omega), hV u1 v1 (by omega) (by omega)], f2, by unfold wWeight; rw [if_pos ⟨h1, h2, h5⟩, ix_nI (by omega), ix_nI (by omega), ix_nI (by omega)]; exact ⟨_, _, _, _, _, _, _, _, _, _, _, _, _, hM2, okG_weight hok u1 v1 w1 hw1, vw_put hV (by omega) (by omega)⟩⟩
        · refine aw_bipush (v := -2) d_M_weight_27 (by decide) ?_
          exact aw_iret d_M_weight_29 (Nat.le_refl 0) (Nat.le_refl 0) ⟨by unfold aWeight; rw [if_pos ⟨h1, h2⟩, if_neg (by rw [ib_gt h4]; decide)], fr.rf, by unfold wWeight; rw [if_neg (by simp [ib_gt h4])]; exact hO⟩
    · refine aw_iconst (v := -1) d_M_weight_16 (by decide) ?_
      exact aw_iret d_M_weight_17 (Nat.le_refl 0) (Nat.le_refl 0) ⟨by unfold aWeight; rw [if_neg (by simp [h2])], fr.rf, by unfold wWeight; rw [if_neg (by simp [h2])]; exact hO⟩

set_option maxHeartbeats 4000000 in
set_option maxRecDepth 100000 in
theorem m_M_jump {g : aw_G} (hg : aw_T g) {ws : va_W} {ad : Nat → Nat} {n x y : Nat} {W : Nat → Nat → Nat} {J : Nat → Nat} {v w : Int32} (hO : gMo g ws ad n x y W J) : AMet g y_M_jump c_M_jump 4 (some .int) 1 [.ref (ad 40), .int v, .int w] ws (qM g ad ws (.int (aJump n J v w)) n x y W (jJump n J v w)) 0 0 := by
  obtain ⟨V, Rw, Tt, q, So, Bo, fo, tw, St, Sh, ss, Nw, Th, hM, hok, hV⟩ := id hO
  have hn := hok.1
  refine amet_of (by decide +kernel) (Nat.le_of_ble_eq_true rfl) ?_
  refine aw_sub (lv' := [(0, .ref (ad 40)), (1, .int v), (2, .int w)]) [0, 1, 2] rfl ?_
  refine aw_aload_n d_M_jump_0 rfl rfl ?_
  refine aw_iload_n d_M_jump_1 rfl rfl ?_
  refine aw_callV (av := [.int v]) (rest := []) (m_M_isNode hg hM) kd_M_isNode k_464 k_466 ks_M_isNode rfl hM.1 d_M_jump_2 rfl ⟨by decide, by decide⟩ (Nat.le_of_ble_eq_true rfl) ⟨by decide, by decide⟩ rfl (fun v2 ws2 hq2 => ?_)
  obtain ⟨rfl, rfl⟩ := hq2
  refine aw_if_neB (tgt := 10) d_M_jump_5 (by decide) (fun h2 => ?_) (fun h2 => ?_)
  · refine aw_iload_n d_M_jump_10 rfl rfl ?_
    refine aw_if_lt (tgt := 19) d_M_jump_11 (by decide) (fun h3 => ?_) (fun h3 => ?_)
    · refine aw_bipush (v := -2) d_M_jump_19 (by decide) ?_
      exact aw_iret d_M_jump_21 (Nat.le_refl 0) (Nat.le_refl 0) ⟨by unfold aJump; rw [if_pos h2, if_neg (by rw [ib_lt h3]; decide)], fr.rf, by unfold jJump; rw [if_neg (by simp [ib_lt h3])]; exact hO⟩
    · refine aw_iload_n d_M_jump_14 rfl rfl ?_
      refine aw_iconst (v := nI 2) d_M_jump_15 (by decide) ?_
      refine aw_icmp_le (tgt := 22) d_M_jump_16 (by decide) (fun h4 => ?_) (fun h4 => ?_)
      · have h5 := ib_in h3 h4
        obtain ⟨w1, hw1, rfl⟩ := ib_true (by decide) h5
        obtain ⟨v1, hv1, rfl⟩ := nb_true hn h2
        refine aw_aload_n d_M_jump_22 rfl rfl ?_
        refine aw_get kc_6 2 (by decide) k_406 d_M_jump_23 hM.1 rfl ?_
        refine aw_iload_n d_M_jump_26 rfl rfl ?_
        refine aw_ialdA d_M_jump_27 hM.2.2.1 hg (by omega) (by decide) ?_
        refine aw_istore_n (lv' := [(3, .int (nI (J v1))), (0, .ref (ad 40)), (1, .int (nI v1)), (2, .int (nI w1))]) d_M_jump_28 rfl (by decide) rfl ?_
        refine aw_aload_n d_M_jump_29 rfl rfl ?_
        refine aw_get kc_6 2 (by decide) k_406 d_M_jump_30 hM.1 rfl ?_
        refine aw_iload_n d_M_jump_33 rfl rfl ?_
        refine aw_iload_n d_M_jump_34 rfl rfl ?_
        refine aw_iastA d_M_jump_35 hM.2.2.1 hg (by omega) (by decide) (fun zws1 za2 zb3 zc4 => ?_)
        have hM2 := hM.p42  za2 zb3
        have f2 := (fr.one (lo := 40) (hi := 51) zb3 zc4 (by omega) (by omega))
        refine aw_iload_n d_M_jump_36 rfl rfl ?_
        exact aw_iret d_M_jump_37 (Nat.le_refl 0) (Nat.le_refl 0) ⟨by unfold aJump; rw [if_pos h2, if_pos h5, ix_nI (by omega)], f2, by unfold jJump; rw [if_pos ⟨h2, h5⟩, ix_nI (by omega), ix_nI (by omega)]; exact ⟨_, _, _, _, _, _, _, _, _, _, _, _, _, hM2, okG_jump hok v1 w1 hw1, hV⟩⟩
      · refine aw_bipush (v := -2) d_M_jump_19 (by decide) ?_
        exact aw_iret d_M_jump_21 (Nat.le_refl 0) (Nat.le_refl 0) ⟨by unfold aJump; rw [if_pos h2, if_neg (by rw [ib_gt h4]; decide)], fr.rf, by unfold jJump; rw [if_neg (by simp [ib_gt h4])]; exact hO⟩
  · refine aw_iconst (v := -1) d_M_jump_8 (by decide) ?_
    exact aw_iret d_M_jump_9 (Nat.le_refl 0) (Nat.le_refl 0) ⟨by unfold aJump; rw [if_neg (by simp [h2])], fr.rf, by unfold jJump; rw [if_neg (by simp [h2])]; exact hO⟩

def qMkeep (g : aw_G) (ad : Nat → Nat) (ws : va_W) (n x y : Nat) (W : Nat → Nat → Nat) (J : Nat → Nat) (a b : Int32) : Option Value → va_W → Prop := if kb a b = true then qM g ad ws (.int 1) n (ix a) (ix b) W J else qM g ad ws (.int (-2)) n x y W J
def qMnode (g : aw_G) (ad : Nat → Nat) (ws : va_W) (n x y : Nat) (W : Nat → Nat → Nat) (J : Nat → Nat) : Option Value → va_W → Prop := if n < 5 then qM g ad ws (.int (nI n)) (n + 1) x y (nodeW n W) (fup J n 1) else qM g ad ws (.int (-4)) n x y W J

set_option maxHeartbeats 4000000 in
set_option maxRecDepth 100000 in
theorem m_M_keep {g : aw_G} (hg : aw_T g) {ws : va_W} {ad : Nat → Nat} {n x y : Nat} {W : Nat → Nat → Nat} {J : Nat → Nat} {a b : Int32} (hO : gMo g ws ad n x y W J) : AMet g y_M_keep c_M_keep 3 (some .int) 0 [.ref (ad 40), .int a, .int b] ws (qMkeep g ad ws n x y W J a b) 0 0 := by
  obtain ⟨V, Rw, Tt, q, So, Bo, fo, tw, St, Sh, ss, Nw, Th, hM, hok, hV⟩ := id hO
  have hn := hok.1
  refine amet_of (by decide +kernel) (Nat.le_of_ble_eq_true rfl) ?_
  refine aw_sub (lv' := [(0, .ref (ad 40)), (1, .int a), (2, .int b)]) [0, 1, 2] rfl ?_
  unfold qMkeep
  refine aw_iload_n d_M_keep_0 rfl rfl ?_
  refine aw_iconst (v := nI 1) d_M_keep_1 (by decide) ?_
  refine aw_icmp_lt (tgt := 19) d_M_keep_2 (by decide) (fun h1 => ?_) (fun h1 => ?_)
  · have e : kb a b = false := by unfold kb; simp only [decide_eq_false_iff_not]; intro z; exact z.1 h1
    rw [e, if_neg (by decide)]
    refine aw_bipush (v := -2) d_M_keep_19 (by decide) ?_
    exact aw_iret d_M_keep_21 (Nat.le_refl 0) (Nat.le_refl 0) ⟨rfl, fr.rf, hO⟩
  · refine aw_iload_n d_M_keep_5 rfl rfl ?_
    refine aw_iconst (v := nI 4) d_M_keep_6 (by decide) ?_
    refine aw_icmp_gt (tgt := 19) d_M_keep_7 (by decide) (fun h2 => ?_) (fun h2 => ?_)
    · have e : kb a b = false := by unfold kb; simp only [decide_eq_false_iff_not]; intro z; exact z.2.1 h2
      rw [e, if_neg (by decide)]
      refine aw_bipush (v := -2) d_M_keep_19 (by decide) ?_
      exact aw_iret d_M_keep_21 (Nat.le_refl 0) (Nat.le_refl 0) ⟨rfl, fr.rf, hO⟩
    · refine aw_iload_n d_M_keep_10 rfl rfl ?_
      refine aw_if_lt (tgt := 19) d_M_keep_11 (by decide) (fun h3 => ?_) (fun h3 => ?_)
      · have e : kb a b = false := by unfold kb; simp only [decide_eq_false_iff_not]; intro z; exact z.2.2.1 h3
        rw [e, if_neg (by decide)]
        refine aw_bipush (v := -2) d_M_keep_19 (by decide) ?_
        exact aw_iret d_M_keep_21 (Nat.le_refl 0) (Nat.le_refl 0) ⟨rfl, fr.rf, hO⟩
      · refine aw_iload_n d_M_keep_14 rfl rfl ?_
        refine aw_iload_n d_M_keep_15 rfl rfl ?_
        refine aw_icmp_le (tgt := 22) d_M_keep_16 (by decide) (fun h4 => ?_) (fun h4 => ?_)
        · have e : kb a b = true := by unfold kb; simp only [decide_eq_true_eq]; exact ⟨h1, h2, h3, h4⟩
          rw [e, if_pos rfl]
          obtain ⟨a1, b1, k1, k2, k3, rfl, rfl⟩ := kb_true e
          refine aw_aload_n d_M_keep_22 rfl rfl ?_
          refine aw_iload_n d_M_keep_23 rfl rfl ?_
          refine aw_putN kc_6 3 (by decide) k_407 d_M_keep_24 hM.1 rfl rfl rfl (Nat.le_of_ble_eq_true rfl) (fun zws1 za2 zb3 zc4 => ?_)
          have zf5 : zws1[40]? = some (ad 40, .inr (6, [.int (nI n), .ref (ad 41), .ref (ad 42), .int (nI a1), .int (nI y), .ref (ad 43), .ref (ad 44), .int (nI q), .ref (ad 45), .ref (ad 46), .long (lI fo), .long (lI tw), .ref (ad 47), .ref (ad 48), .long (lI ss), .ref (ad 49), .ref (ad 50)])) := za2
          have hM2 := hM.p40 (n' := n) (x' := a1) (y' := y) (q' := q) (fo' := fo) (tw' := tw) (ss' := ss) za2 zb3
          have f2 := (fr.one (lo := 40) (hi := 51) zb3 zc4 (by omega) (by omega))
          refine aw_aload_n d_M_keep_27 rfl rfl ?_
          refine aw_iload_n d_M_keep_28 rfl rfl ?_
          refine aw_putN kc_6 4 (by decide) k_408 d_M_keep_29 zf5 rfl rfl rfl (Nat.le_of_ble_eq_true rfl) (fun zws6 za7 zb8 zc9 => ?_)
          have zf10 : zws6[40]? = some (ad 40, .inr (6, [.int (nI n), .ref (ad 41), .ref (ad 42), .int (nI a1), .int (nI b1), .ref (ad 43), .ref (ad 44), .int (nI q), .ref (ad 45), .ref (ad 46), .long (lI fo), .long (lI tw), .ref (ad 47), .ref (ad 48), .long (lI ss), .ref (ad 49), .ref (ad 50)])) := za7
          have hM3 := hM2.p40 (n' := n) (x' := a1) (y' := b1) (q' := q) (fo' := fo) (tw' := tw) (ss' := ss) za7 zb8
          have f3 := f2.tr (fr.one (lo := 40) (hi := 51) zb8 zc9 (by omega) (by omega))
          refine aw_iconst (v := nI 1) d_M_keep_32 (by decide) ?_
          exact aw_iret d_M_keep_33 (Nat.le_refl 0) (Nat.le_refl 0) ⟨rfl, f3, by rw [ix_nI (by omega), ix_nI (by omega)]; exact ⟨_, _, _, _, _, _, _, _, _, _, _, _, _, hM3, ⟨hok.1, k1, k2, k3, hok.2.2.2.2⟩, hV⟩⟩
        · have e : kb a b = false := by unfold kb; simp only [decide_eq_false_iff_not]; intro z; exact h4 z.2.2.2
          rw [e, if_neg (by decide)]
          refine aw_bipush (v := -2) d_M_keep_19 (by decide) ?_
          exact aw_iret d_M_keep_21 (Nat.le_refl 0) (Nat.le_refl 0) ⟨rfl, fr.rf, hO⟩

set_option maxHeartbeats 4000000 in
set_option maxRecDepth 100000 in
theorem m_M_clear {g : aw_G} (hg : aw_T g) {ws : va_W} {ad : Nat → Nat} {n x y : Nat} {W : Nat → Nat → Nat} {J : Nat → Nat} (hO : gMo g ws ad n x y W J) : AMet g y_M_clear c_M_clear 2 (some .int) 0 [.ref (ad 40)] ws (qM g ad ws (.int (nI n)) 0 x y W J) 0 0 := by
  obtain ⟨V, Rw, Tt, q, So, Bo, fo, tw, St, Sh, ss, Nw, Th, hM, hok, hV⟩ := id hO
  have hn := hok.1
  refine amet_of (by decide +kernel) (Nat.le_of_ble_eq_true rfl) ?_
  refine aw_sub (lv' := [(0, .ref (ad 40))]) [0] rfl ?_
  refine aw_aload_n d_M_clear_0 rfl rfl ?_
  refine aw_get kc_6 0 (by decide) k_404 d_M_clear_1 hM.1 rfl ?_
  refine aw_istore_n (lv' := [(1, .int (nI n)), (0, .ref (ad 40))]) d_M_clear_4 rfl (by decide) rfl ?_
  refine aw_aload_n d_M_clear_5 rfl rfl ?_
  refine aw_iconst (v := nI 0) d_M_clear_6 (by decide) ?_
  refine aw_putN kc_6 0 (by decide) k_404 d_M_clear_7 hM.1 rfl rfl rfl (Nat.le_of_ble_eq_true rfl) (fun zws1 za2 zb3 zc4 => ?_)
  have zf5 : zws1[40]? = some (ad 40, .inr (6, [.int (nI 0), .ref (ad 41), .ref (ad 42), .int (nI x), .int (nI y), .ref (ad 43), .ref (ad 44), .int (nI q), .ref (ad 45), .ref (ad 46), .long (lI fo), .long (lI tw), .ref (ad 47), .ref (ad 48), .long (lI ss), .ref (ad 49), .ref (ad 50)])) := za2
  have hM2 := hM.p40 (n' := 0) (x' := x) (y' := y) (q' := q) (fo' := fo) (tw' := tw) (ss' := ss) za2 zb3
  have f2 := (fr.one (lo := 40) (hi := 51) zb3 zc4 (by omega) (by omega))
  refine aw_iload_n d_M_clear_10 rfl rfl ?_
  exact aw_iret d_M_clear_11 (Nat.le_refl 0) (Nat.le_refl 0) ⟨rfl, f2, ⟨_, _, _, _, _, _, _, _, _, _, _, _, _, hM2, ⟨by omega, hok.2⟩, hV⟩⟩

theorem vw_node {V V1 : Nat → Nat} {W : Nat → Nat → Nat} {n v : Nat} (h : vw V1 (fun i j => if (i = n ∧ j < v) ∨ (j = n ∧ i < v) then 0 else W i j)) (hn : n < 5) (hv : v < 5) : vw (fup (fup V1 (5 * n + v) 0) (5 * v + n) 0) (fun i j => if (i = n ∧ j < v + 1) ∨ (j = n ∧ i < v + 1) then 0 else W i j) := fun i j hi hj => by
  have := h i j hi hj
  unfold fup
  dsimp only at this ⊢
  by_cases e1 : i = v ∧ j = n
  · rw [if_pos (by omega), if_pos (by omega)]
  · rw [if_neg (by omega)]
    by_cases e2 : i = n ∧ j = v
    · rw [if_pos (by omega), if_pos (by omega)]
    · rw [if_neg (by omega), this]
      by_cases e3 : (i = n ∧ j < v) ∨ (j = n ∧ i < v)
      · rw [if_pos e3, if_pos (by omega)]
      · rw [if_neg e3, if_neg (by omega)]

theorem vw_node0 {V : Nat → Nat} {W : Nat → Nat → Nat} {n : Nat} (h : vw V W) : vw V (fun i j => if (i = n ∧ j < 0) ∨ (j = n ∧ i < 0) then 0 else W i j) := fun i j hi hj => by
  rw [h i j hi hj]
  dsimp only
  rw [if_neg (by omega)]
theorem vw_nodeE {V : Nat → Nat} {W : Nat → Nat → Nat} {n : Nat} (h : vw V (fun i j => if (i = n ∧ j < n + 1) ∨ (j = n ∧ i < n + 1) then 0 else W i j)) : vw V (nodeW n W) := fun i j hi hj => by
  rw [h i j hi hj]
  unfold nodeW
  dsimp only
  congr 1
  exact propext (by omega)

set_option maxHeartbeats 4000000 in
set_option maxRecDepth 100000 in
theorem m_M_node {g : aw_G} (hg : aw_T g) {ws : va_W} {ad : Nat → Nat} {n x y : Nat} {W : Nat → Nat → Nat} {J : Nat → Nat} (hO : gMo g ws ad n x y W J) : AMet g y_M_node c_M_node 2 (some .int) 0 [.ref (ad 40)] ws (qMnode g ad ws n x y W J) 0 0 := by
  obtain ⟨V, Rw, Tt, q, So, Bo, fo, tw, St, Sh, ss, Nw, Th, hM, hok, hV⟩ := id hO
  have hn := hok.1
  refine amet_of (by decide +kernel) (Nat.le_of_ble_eq_true rfl) ?_
  refine aw_sub (lv' := [(0, .ref (ad 40))]) [0] rfl ?_
  unfold qMnode
  refine aw_aload_n d_M_node_0 rfl rfl ?_
  refine aw_get kc_6 0 (by decide) k_404 d_M_node_1 hM.1 rfl ?_
  refine aw_iconst (v := nI 5) d_M_node_4 (by decide) ?_
  refine aw_icmp_neN (tgt := 11) d_M_node_5 (by decide) (by omega) (by omega) (fun h => ?_) (fun h => ?_)
  · have hn5 : n < 5 := by omega
    rw [if_pos hn5]
    refine aw_iconst (v := nI 0) d_M_node_11 (by decide) ?_
    refine aw_istore_n (lv' := [(1, .int (nI 0)), (0, .ref (ad 40))]) d_M_node_12 rfl (by decide) rfl ?_
    have lp : ∀ (k : Nat) (ws1 : va_W) (V1 : Nat → Nat) (v : Nat), gM g ws1 ad n x y V1 J Rw Tt q So Bo fo tw St Sh ss Nw Th → fr 40 51 ws ws1 → v ≤ n + 1 → vw V1 (fun i j => if (i = n ∧ j < v) ∨ (j = n ∧ i < v) then 0 else W i j) → n + 1 - v < k → AW g y_M_node c_M_node 2 (some .int) (aw_rm 0 0 0) aw_E0 (aw_F g (qM g ad ws (.int (nI n)) (n + 1) x y (nodeW n W) (fup J n 1)) 0 0) 0 0 13 [(0, .ref (ad 40)), (1, .int (nI v))] [] ws1 := by
      intro k
      induction k with
      | zero => intro ws1 V1 v hM1 f1 hv hw hk; omega
      | succ k ih =>
        intro ws1 V1 v hM1 f1 hv hw hk
        refine aw_iload_n d_M_node_13 rfl rfl ?_
        refine aw_aload_n d_M_node_14 rfl rfl ?_
        refine aw_get kc_6 0 (by decide) k_404 d_M_node_15 hM1.1 rfl ?_
        refine aw_icmp_gtN (tgt := 55) d_M_node_18 (by decide) (by omega) (by omega) (fun h2 => ?_) (fun h2 => ?_)
        · have e : v = n + 1 := by omega
          subst e
          refine aw_aload_n d_M_node_55 rfl rfl ?_
          refine aw_get kc_6 2 (by decide) k_406 d_M_node_56 hM1.1 rfl ?_
          refine aw_aload_n d_M_node_59 rfl rfl ?_
          refine aw_get kc_6 0 (by decide) k_404 d_M_node_60 hM1.1 rfl ?_
          refine aw_iconst (v := nI 1) d_M_node_63 (by decide) ?_
          refine aw_iastA d_M_node_64 hM1.2.2.1 hg (by omega) (by decide) (fun zws1 za2 zb3 zc4 => ?_)
          have hM2 := hM1.p42  za2 zb3
          have f2 := f1.tr (fr.one (lo := 40) (hi := 51) zb3 zc4 (by omega) (by omega))
          refine aw_aload_n d_M_node_65 rfl rfl ?_
          refine aw_dup d_M_node_66 rfl ?_
          refine aw_get kc_6 0 (by decide) k_404 d_M_node_67 ((zb3 40 (by omega)).trans hM1.1) rfl ?_
          refine aw_iconst (v := nI 1) d_M_node_70 (by decide) ?_
          refine aw_iaddN d_M_node_71 ?_
          refine aw_putN kc_6 0 (by decide) k_404 d_M_node_72 ((zb3 40 (by omega)).trans hM1.1) rfl rfl rfl (Nat.le_of_ble_eq_true rfl) (fun zws5 za6 zb7 zc8 => ?_)
          have zf9 : zws5[40]? = some (ad 40, .inr (6, [.int (nI (n + 1)), .ref (ad 41), .ref (ad 42), .int (nI x), .int (nI y), .ref (ad 43), .ref (ad 44), .int (nI q), .ref (ad 45), .ref (ad 46), .long (lI fo), .long (lI tw), .ref (ad 47), .ref (ad 48), .long (lI ss), .ref (ad 49), .ref (ad 50)])) := za6
          have hM3 := hM2.p40 (n' := n + 1) (x' := x) (y' := y) (q' := q) (fo' := fo) (tw' := tw) (ss' := ss) za6 zb7
          have f3 := f2.tr (fr.one (lo := 40) (hi := 51) zb7 zc8 (by omega) (by omega))
          refine aw_aload_n d_M_node_75 rfl rfl ?_
          refine aw_get kc_6 0 (by decide) k_404 d_M_node_76 zf9 rfl ?_
          refine aw_iconst (v := nI 1) d_M_node_79 (by decide) ?_
          refine aw_isubN d_M_node_80 (by omega) ?_
          refine aw_nmi (z := nI n) (by rw [show n + 1 - 1 = n by omega]) ?_
          exact aw_iret d_M_node_81 (Nat.le_refl 0) (Nat.le_refl 0) ⟨rfl, f3, ⟨_, _, _, _, _, _, _, _, _, _, _, _, _, hM3, okG_node hok hn5, (vw_nodeE hw)⟩⟩
        · refine aw_aload_n d_M_node_21 rfl rfl ?_
          refine aw_get kc_6 1 (by decide) k_405 d_M_node_22 hM1.1 rfl ?_
          refine aw_iconst (v := nI 5) d_M_node_25 (by decide) ?_
          refine aw_aload_n d_M_node_26 rfl rfl ?_
          refine aw_get kc_6 0 (by decide) k_404 d_M_node_27 hM1.1 rfl ?_
          refine aw_imulN d_M_node_30 ?_
          refine aw_iload_n d_M_node_31 rfl rfl ?_
          refine aw_iaddN d_M_node_32 ?_
          refine aw_iconst (v := nI 0) d_M_node_33 (by decide) ?_
          refine aw_iastA d_M_node_34 hM1.2.1 hg (by omega) (by decide) (fun zws10 za11 zb12 zc13 => ?_)
          have hM2 := hM1.p41  za11 zb12
          have f2 := f1.tr (fr.one (lo := 40) (hi := 51) zb12 zc13 (by omega) (by omega))
          refine aw_aload_n d_M_node_35 rfl rfl ?_
          refine aw_get kc_6 1 (by decide) k_405 d_M_node_36 ((zb12 40 (by omega)).trans hM1.1) rfl ?_
          refine aw_iconst (v := nI 5) d_M_node_39 (by decide) ?_
          refine aw_iload_n d_M_node_40 rfl rfl ?_
          refine aw_imulN d_M_node_41 ?_
          refine aw_aload_n d_M_node_42 rfl rfl ?_
          refine aw_get kc_6 0 (by decide) k_404 d_M_node_43 ((zb12 40 (by omega)).trans hM1.1) rfl ?_
          refine aw_iaddN d_M_node_46 ?_
          refine aw_iconst (v := nI 0) d_M_node_47 (by decide) ?_
          refine aw_iastA d_M_node_48 za11 hg (by omega) (by decide) (fun zws14 za15 zb16 zc17 => ?_)
          have hM3 := hM2.p41  za15 zb16
          have f3 := f2.tr (fr.one (lo := 40) (hi := 51) zb16 zc17 (by omega) (by omega))
          refine aw_iinc1 (lv' := [(1, .int (nI (v + 1))), (0, .ref (ad 40))]) d_M_node_49 rfl (by decide) rfl ?_
          refine aw_goto (tgt := 13) d_M_node_52 (by decide) ?_
          refine aw_sub (lv' := [(0, .ref (ad 40)), (1, .int (nI (v + 1)))]) [1, 0] rfl ?_
          exact ih _ _ (v + 1) hM3 f3 (by omega) (vw_node (V := V) hw hn5 (by omega)) (by omega)
    refine aw_sub (lv' := [(0, .ref (ad 40)), (1, .int (nI 0))]) [1, 0] rfl ?_
    exact lp (n + 2) ws V 0 hM fr.rf (by omega) (vw_node0 hV) (by omega)
  · rw [if_neg (by omega)]
    refine aw_bipush (v := -4) d_M_node_8 (by decide) ?_
    exact aw_iret d_M_node_10 (Nat.le_refl 0) (Nat.le_refl 0) ⟨rfl, fr.rf, hO⟩
