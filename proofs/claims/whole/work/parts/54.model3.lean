-- laid by wip/whole/m15.py
def Dc (n x y : Nat) (W : Nat → Nat → Nat) (J : Nat → Nat) (u : Nat) : Nat := Dm (Xc n x y W J) n u
theorem Dc_ok {n x y : Nat} {W : Nat → Nat → Nat} {J : Nat → Nat} (hn : n ≤ 5) : okD n (Dc n x y W J) := okD_of (Xc_ok hn) (fun _ _ => rfl)
def q_rcs (ws : va_W) (X : Nat → Nat) (n u : Nat) (but : Int32) : Option Value → va_W → Prop := fun r ws' => ws = ws' ∧ ∃ S, r = some (.int (nI S)) ∧ rcs X n u but S
theorem nr_400 {n x y : Nat} {W : Nat → Nat → Nat} {J : Nat → Nat} (h : okG n x y W J) {a b : Nat} (ha : a < n) (hb : b < n) : nr n x y W J a b ≤ 400 := Nat.le_trans (nr_le hb) (nr_ok h ha).2.1

set_option maxHeartbeats 4000000 in
set_option maxRecDepth 100000 in
theorem m_M_row {g : aw_G} (hg : aw_T g) {ws : va_W} {ad : Nat → Nat} {n x y : Nat} {W : Nat → Nat → Nat} {J : Nat → Nat} {u v : Int32} (hO : gMo g ws ad n x y W J) : AMet g y_M_row c_M_row 3 (some .int) 2 [.ref (ad 40), .int u, .int v] ws (qM g ad ws (.int (aRow n x y W J u v)) n x y W J) 0 0 := by
  obtain ⟨V, Rw, Tt, q, So, Bo, fo, tw, St, Sh, ss, Nw, Th, hM, hok, hV⟩ := id hO
  have hn := hok.1
  refine amet_of (by decide +kernel) (Nat.le_of_ble_eq_true rfl) ?_
  refine aw_sub (lv' := [(0, .ref (ad 40)), (1, .int u), (2, .int v)]) [0, 1, 2] rfl ?_
  refine aw_aload_n d_M_row_0 rfl rfl ?_
  refine aw_iload_n d_M_row_1 rfl rfl ?_
  refine aw_callV (av := [.int u]) (rest := []) (m_M_isNode hg hM) kd_M_isNode k_464 k_466 ks_M_isNode rfl hM.1 d_M_row_2 rfl ⟨by decide, by decide⟩ (Nat.le_of_ble_eq_true rfl) ⟨by decide, by decide⟩ rfl (fun v2 ws2 hq2 => ?_)
  obtain ⟨rfl, rfl⟩ := hq2
  refine aw_if_eqB (tgt := 16) d_M_row_5 (by decide) (fun h1 => ?_) (fun h1 => ?_)
  · refine aw_iconst (v := -1) d_M_row_16 (by decide) ?_
    exact aw_iret d_M_row_17 (Nat.le_refl 0) (Nat.le_refl 0) ⟨by unfold aRow; rw [if_neg (by simp [h1])], fr.rf, hO⟩
  · refine aw_aload_n d_M_row_8 rfl rfl ?_
    refine aw_iload_n d_M_row_9 rfl rfl ?_
    refine aw_callV (av := [.int v]) (rest := []) (m_M_isNode hg hM) kd_M_isNode k_464 k_466 ks_M_isNode rfl hM.1 d_M_row_10 rfl ⟨by decide, by decide⟩ (Nat.le_of_ble_eq_true rfl) ⟨by decide, by decide⟩ rfl (fun v2 ws2 hq2 => ?_)
    obtain ⟨rfl, rfl⟩ := hq2
    refine aw_if_neB (tgt := 18) d_M_row_13 (by decide) (fun h2 => ?_) (fun h2 => ?_)
    · obtain ⟨u1, hu1, rfl⟩ := nb_true hn h1
      obtain ⟨v1, hv1, rfl⟩ := nb_true hn h2
      refine aw_aload_n d_M_row_18 rfl rfl ?_
      refine aw_callV (av := []) (rest := []) (m_M_findRows hg hM hok hV) kd_M_findRows k_484 k_486 ks_M_findRows rfl hM.1 d_M_row_19 rfl ⟨by decide, by decide⟩ (Nat.le_of_ble_eq_true rfl) ⟨by decide, by decide⟩ rfl (fun v5 ws5 hq5 => ?_)
      obtain ⟨rfl, f5, Rw5, Tt5, hM5, hR⟩ := hq5
      refine aw_aload_n d_M_row_22 rfl rfl ?_
      refine aw_get kc_6 5 (by decide) k_409 d_M_row_23 hM5.1 rfl ?_
      refine aw_iconst (v := nI 5) d_M_row_26 (by decide) ?_
      refine aw_iload_n d_M_row_27 rfl rfl ?_
      refine aw_imulN d_M_row_28 ?_
      refine aw_iload_n d_M_row_29 rfl rfl ?_
      refine aw_iaddN d_M_row_30 ?_
      refine aw_ialdA d_M_row_31 hM5.2.2.2.1 hg (by omega) (by decide) ?_
      exact aw_iret d_M_row_32 (Nat.le_refl 0) (Nat.le_refl 0) ⟨by unfold aRow; rw [if_pos ⟨h1, h2⟩, ix_nI (by omega), ix_nI (by omega), (hR u1 hu1).1 v1 hv1], f5, ⟨_, _, _, _, _, _, _, _, _, _, _, _, _, hM5, hok, hV⟩⟩
    · refine aw_iconst (v := -1) d_M_row_16 (by decide) ?_
      exact aw_iret d_M_row_17 (Nat.le_refl 0) (Nat.le_refl 0) ⟨by unfold aRow; rw [if_neg (by simp [h2])], fr.rf, hO⟩

set_option maxHeartbeats 4000000 in
set_option maxRecDepth 100000 in
theorem m_M_total {g : aw_G} (hg : aw_T g) {ws : va_W} {ad : Nat → Nat} {n x y : Nat} {W : Nat → Nat → Nat} {J : Nat → Nat} {u : Int32} (hO : gMo g ws ad n x y W J) : AMet g y_M_total c_M_total 2 (some .int) 2 [.ref (ad 40), .int u] ws (qM g ad ws (.int (aTotal n x y W J u)) n x y W J) 0 0 := by
  obtain ⟨V, Rw, Tt, q, So, Bo, fo, tw, St, Sh, ss, Nw, Th, hM, hok, hV⟩ := id hO
  have hn := hok.1
  refine amet_of (by decide +kernel) (Nat.le_of_ble_eq_true rfl) ?_
  refine aw_sub (lv' := [(0, .ref (ad 40)), (1, .int u)]) [0, 1] rfl ?_
  refine aw_aload_n d_M_total_0 rfl rfl ?_
  refine aw_iload_n d_M_total_1 rfl rfl ?_
  refine aw_callV (av := [.int u]) (rest := []) (m_M_isNode hg hM) kd_M_isNode k_464 k_466 ks_M_isNode rfl hM.1 d_M_total_2 rfl ⟨by decide, by decide⟩ (Nat.le_of_ble_eq_true rfl) ⟨by decide, by decide⟩ rfl (fun v2 ws2 hq2 => ?_)
  obtain ⟨rfl, rfl⟩ := hq2
  refine aw_if_neB (tgt := 10) d_M_total_5 (by decide) (fun h1 => ?_) (fun h1 => ?_)
  · obtain ⟨u1, hu1, rfl⟩ := nb_true hn h1
    refine aw_aload_n d_M_total_10 rfl rfl ?_
    refine aw_callV (av := []) (rest := []) (m_M_findRows hg hM hok hV) kd_M_findRows k_484 k_486 ks_M_findRows rfl hM.1 d_M_total_11 rfl ⟨by decide, by decide⟩ (Nat.le_of_ble_eq_true rfl) ⟨by decide, by decide⟩ rfl (fun v5 ws5 hq5 => ?_)
    obtain ⟨rfl, f5, Rw5, Tt5, hM5, hR⟩ := hq5
    refine aw_aload_n d_M_total_14 rfl rfl ?_
    refine aw_get kc_6 6 (by decide) k_410 d_M_total_15 hM5.1 rfl ?_
    refine aw_iload_n d_M_total_18 rfl rfl ?_
    refine aw_ialdA d_M_total_19 hM5.2.2.2.2.1 hg (by omega) (by decide) ?_
    exact aw_iret d_M_total_20 (Nat.le_refl 0) (Nat.le_refl 0) ⟨by unfold aTotal; rw [if_pos h1, ix_nI (by omega), (hR u1 hu1).2], f5, ⟨_, _, _, _, _, _, _, _, _, _, _, _, _, hM5, hok, hV⟩⟩
  · refine aw_iconst (v := -1) d_M_total_8 (by decide) ?_
    exact aw_iret d_M_total_9 (Nat.le_refl 0) (Nat.le_refl 0) ⟨by unfold aTotal; rw [if_neg (by simp [h1])], fr.rf, hO⟩

set_option maxHeartbeats 4000000 in
set_option maxRecDepth 100000 in
theorem m_M_reached {g : aw_G} (hg : aw_T g) {ws : va_W} {ad : Nat → Nat} {n : Nat} {x : Nat} {y : Nat} {V : Nat → Nat} {J : Nat → Nat} {Rw : Nat → Nat} {Tt : Nat → Nat} {q : Nat} {So : Nat → Int32} {Bo : Nat → Nat} {fo : Int} {tw : Int} {St : Nat → Nat} {Sh : Nat → Int} {ss : Int} {Nw : Nat → Int} {Th : Nat → Int} {W : Nat → Nat → Nat} {u : Nat} {but : Int32} (hM : gM g ws ad n x y V J Rw Tt q So Bo fo tw St Sh ss Nw Th) (hok : okG n x y W J) (hR : rwOk n x y W J Rw Tt) (hu : u < n) : AMet g y_M_reached c_M_reached 7 (some .int) 0 [.ref (ad 40), .int (nI u), .int but] ws (q_rcs ws (Xc n x y W J) n u but) 0 0 := by
  have hn := hok.1
  have hX : okX n (Xc n x y W J) := Xc_ok hn
  refine amet_of (by decide +kernel) (Nat.le_of_ble_eq_true rfl) ?_
  refine aw_sub (lv' := [(0, .ref (ad 40)), (1, .int (nI u)), (2, .int but)]) [0, 1, 2] rfl ?_
  have lT : ∀ (k : Nat) (s t : Nat), t ≤ 5 → rO (Xc n x y W J) n u but t s → 5 - t < k → AW g y_M_reached c_M_reached 7 (some .int) (aw_rm 0 0 0) aw_E0 (aw_F g (q_rcs ws (Xc n x y W J) n u but) 0 0) 0 0 7 [(0, .ref (ad 40)), (1, .int (nI u)), (2, .int but), (3, .int (nI s)), (4, .int (nI t))] [] ws := by
    intro k
    induction k with
    | zero => intro s t ht hO hk; omega
    | succ k ih =>
      intro s t ht hO hk
      refine aw_iload d_M_reached_7 rfl ?_
      refine aw_iconst (v := nI 5) d_M_reached_9 (by decide) ?_
      refine aw_icmp_geN (tgt := 97) d_M_reached_10 (by decide) (by omega) (by omega) (fun h1 => ?_) (fun h1 => ?_)
      · have e : t = 5 := by omega
        subst e
        refine aw_iload_n d_M_reached_97 rfl rfl ?_
        exact aw_iret d_M_reached_98 (Nat.le_refl 0) (Nat.le_refl 0) ⟨rfl, s, rfl, rO_end hO hn⟩
      · have ihT := ih
        have lA : ∀ (k : Nat) (s1 a : Nat), a ≤ n → rI (Xc n x y W J) n u but s a 0 s1 → n - a < k → AW g y_M_reached c_M_reached 7 (some .int) (aw_rm 0 0 0) aw_E0 (aw_F g (q_rcs ws (Xc n x y W J) n u but) 0 0) 0 0 16 [(0, .ref (ad 40)), (1, .int (nI u)), (2, .int but), (3, .int (nI s1)), (4, .int (nI t)), (5, .int (nI a))] [] ws := by
          intro k
          induction k with
          | zero => intro s1 a ha0 hI hk2; omega
          | succ k ih =>
            intro s1 a ha0 hI hk2
            refine aw_iload d_M_reached_16 rfl ?_
            refine aw_aload_n d_M_reached_18 rfl rfl ?_
            refine aw_get kc_6 0 (by decide) k_404 d_M_reached_19 hM.1 rfl ?_
            refine aw_icmp_geN (tgt := 91) d_M_reached_22 (by decide) (by omega) (by omega) (fun ha => ?_) (fun ha => ?_)
            · have e : n = a := by omega
              subst e
              refine aw_iinc1 (lv' := [(4, .int (nI (t + 1))), (0, .ref (ad 40)), (1, .int (nI u)), (2, .int but), (3, .int (nI s1)), (5, .int (nI n))]) d_M_reached_91 rfl (by decide) rfl ?_
              refine aw_goto (tgt := 7) d_M_reached_94 (by decide) ?_
              refine aw_sub (lv' := [(0, .ref (ad 40)), (1, .int (nI u)), (2, .int but), (3, .int (nI s1)), (4, .int (nI (t + 1)))]) [1, 2, 3, 4, 0] rfl ?_
              exact ihT s1 (t + 1) (by omega) (rO_next hO hI) (by omega)
            · have ihA := ih
              have lB : ∀ (k : Nat) (s2 b : Nat), b ≤ n → rI (Xc n x y W J) n u but s a b s2 → n - b < k → AW g y_M_reached c_M_reached 7 (some .int) (aw_rm 0 0 0) aw_E0 (aw_F g (q_rcs ws (Xc n x y W J) n u but) 0 0) 0 0 28 [(0, .ref (ad 40)), (1, .int (nI u)), (2, .int but), (3, .int (nI s2)), (4, .int (nI t)), (5, .int (nI a)), (6, .int (nI b))] [] ws := by
                intro k
                induction k with
                | zero => intro s2 b hb0 hI2 hk3; omega
                | succ k ih =>
                  intro s2 b hb0 hI2 hk3
                  refine aw_iload d_M_reached_28 rfl ?_
                  refine aw_aload_n d_M_reached_30 rfl rfl ?_
                  refine aw_get kc_6 0 (by decide) k_404 d_M_reached_31 hM.1 rfl ?_
                  refine aw_icmp_geN (tgt := 85) d_M_reached_34 (by decide) (by omega) (by omega) (fun hb => ?_) (fun hb => ?_)
                  · have e : n = b := by omega
                    subst e
                    refine aw_iinc1 (lv' := [(5, .int (nI (a + 1))), (0, .ref (ad 40)), (1, .int (nI u)), (2, .int but), (3, .int (nI s2)), (4, .int (nI t)), (6, .int (nI n))]) d_M_reached_85 rfl (by decide) rfl ?_
                    refine aw_goto (tgt := 16) d_M_reached_88 (by decide) ?_
                    refine aw_sub (lv' := [(0, .ref (ad 40)), (1, .int (nI u)), (2, .int but), (3, .int (nI s2)), (4, .int (nI t)), (5, .int (nI (a + 1)))]) [1, 2, 3, 4, 5, 0] rfl ?_
                    exact ihA s2 (a + 1) (by omega) (rI_next hI2 hX ha) (by omega)
                  · have h400 := nr_400 hok ha hb
                    refine aw_iload_n d_M_reached_37 rfl rfl ?_
                    refine aw_iload_n d_M_reached_38 rfl rfl ?_
                    refine aw_iload d_M_reached_39 rfl ?_
                    refine aw_ishr d_M_reached_41 ?_
                    refine aw_iconst (v := nI 1) d_M_reached_42 (by decide) ?_
                    refine aw_iand d_M_reached_43 ?_
                    refine aw_nmi (z := nI (bN (s2.testBit a))) (bt_eq s2 hI2.1 a (by omega)) ?_
                    refine aw_iconst (v := nI 1) d_M_reached_44 (by decide) ?_
                    refine aw_icmp_neN (tgt := 76) d_M_reached_45 (by decide) (bN_le _) (by omega) (fun h4 => ?_) (fun h4 => ?_)
                    · refine aw_iconst (v := nI 0) d_M_reached_76 (by decide) ?_
                      refine aw_iorN d_M_reached_77 ?_
                      refine aw_nmi (z := nI s2) (by rw [Nat.or_zero]) ?_
                      refine aw_istore_n (lv' := [(3, .int (nI s2)), (0, .ref (ad 40)), (1, .int (nI u)), (2, .int but), (4, .int (nI t)), (5, .int (nI a)), (6, .int (nI b))]) d_M_reached_78 rfl (by decide) rfl ?_
                      refine aw_iinc1 (lv' := [(6, .int (nI (b + 1))), (3, .int (nI s2)), (0, .ref (ad 40)), (1, .int (nI u)), (2, .int but), (4, .int (nI t)), (5, .int (nI a))]) d_M_reached_79 rfl (by decide) rfl ?_
                      refine aw_goto (tgt := 28) d_M_reached_82 (by decide) ?_
                      refine aw_sub (lv' := [(0, .ref (ad 40)), (1, .int (nI u)), (2, .int but), (3, .int (nI s2)), (4, .int (nI t)), (5, .int (nI a)), (6, .int (nI (b + 1)))]) [2, 3, 4, 1, 5, 6, 0] rfl ?_
                      exact ih s2 (b + 1) (by omega) (rI_no hI2 (fun z _ _ => h4 (bN_1.mpr z))) (by omega)
                    · refine aw_iload d_M_reached_48 rfl ?_
                      refine aw_iload_n d_M_reached_50 rfl rfl ?_
                      refine aw_icmp_eq (tgt := 76) d_M_reached_51 (by decide) (fun h5 => ?_) (fun h5 => ?_)
                      · refine aw_iconst (v := nI 0) d_M_reached_76 (by decide) ?_
                        refine aw_iorN d_M_reached_77 ?_
                        refine aw_nmi (z := nI s2) (by rw [Nat.or_zero]) ?_
                        refine aw_istore_n (lv' := [(3, .int (nI s2)), (0, .ref (ad 40)), (1, .int (nI u)), (2, .int but), (4, .int (nI t)), (5, .int (nI a)), (6, .int (nI b))]) d_M_reached_78 rfl (by decide) rfl ?_
                        refine aw_iinc1 (lv' := [(6, .int (nI (b + 1))), (3, .int (nI s2)), (0, .ref (ad 40)), (1, .int (nI u)), (2, .int but), (4, .int (nI t)), (5, .int (nI a))]) d_M_reached_79 rfl (by decide) rfl ?_
                        refine aw_goto (tgt := 28) d_M_reached_82 (by decide) ?_
                        refine aw_sub (lv' := [(0, .ref (ad 40)), (1, .int (nI u)), (2, .int but), (3, .int (nI s2)), (4, .int (nI t)), (5, .int (nI a)), (6, .int (nI (b + 1)))]) [2, 3, 4, 1, 5, 6, 0] rfl ?_
                        exact ih s2 (b + 1) (by omega) (rI_no hI2 (fun _ z _ => z h5)) (by omega)
                      · refine aw_aload_n d_M_reached_54 rfl rfl ?_
                        refine aw_get kc_6 5 (by decide) k_409 d_M_reached_55 hM.1 rfl ?_
                        refine aw_iconst (v := nI 5) d_M_reached_58 (by decide) ?_
                        refine aw_iload d_M_reached_59 rfl ?_
                        refine aw_imulN d_M_reached_61 ?_
                        refine aw_iload d_M_reached_62 rfl ?_
                        refine aw_iaddN d_M_reached_64 ?_
                        refine aw_ialdA d_M_reached_65 hM.2.2.2.1 hg (by omega) (by decide) ?_
                        refine aw_nmi (z := nI (nr n x y W J a b)) (by rw [(hR a ha).1 b hb]) ?_
                        refine aw_if_leN (tgt := 76) d_M_reached_66 (by decide) (by omega) (fun h6 => ?_) (fun h6 => ?_)
                        · refine aw_iconst (v := nI 0) d_M_reached_76 (by decide) ?_
                          refine aw_iorN d_M_reached_77 ?_
                          refine aw_nmi (z := nI s2) (by rw [Nat.or_zero]) ?_
                          refine aw_istore_n (lv' := [(3, .int (nI s2)), (0, .ref (ad 40)), (1, .int (nI u)), (2, .int but), (4, .int (nI t)), (5, .int (nI a)), (6, .int (nI b))]) d_M_reached_78 rfl (by decide) rfl ?_
                          refine aw_iinc1 (lv' := [(6, .int (nI (b + 1))), (3, .int (nI s2)), (0, .ref (ad 40)), (1, .int (nI u)), (2, .int but), (4, .int (nI t)), (5, .int (nI a))]) d_M_reached_79 rfl (by decide) rfl ?_
                          refine aw_goto (tgt := 28) d_M_reached_82 (by decide) ?_
                          refine aw_sub (lv' := [(0, .ref (ad 40)), (1, .int (nI u)), (2, .int but), (3, .int (nI s2)), (4, .int (nI t)), (5, .int (nI a)), (6, .int (nI (b + 1)))]) [2, 3, 4, 1, 5, 6, 0] rfl ?_
                          exact ih s2 (b + 1) (by omega) (rI_no hI2 (fun _ _ z => absurd (Xc_bit.mp z).2 (by omega))) (by omega)
                        · refine aw_iconst (v := nI 1) d_M_reached_69 (by decide) ?_
                          refine aw_iload d_M_reached_70 rfl ?_
                          refine aw_ishl d_M_reached_72 ?_
                          refine aw_nmi (z := nI (2 ^ b)) (sl_eq b (by omega)) ?_
                          refine aw_goto (tgt := 77) d_M_reached_73 (by decide) ?_
                          refine aw_iorN d_M_reached_77 ?_
                          refine aw_istore_n (lv' := [(3, .int (nI (s2 ||| (2 ^ b)))), (0, .ref (ad 40)), (1, .int (nI u)), (2, .int but), (4, .int (nI t)), (5, .int (nI a)), (6, .int (nI b))]) d_M_reached_78 rfl (by decide) rfl ?_
                          refine aw_iinc1 (lv' := [(6, .int (nI (b + 1))), (3, .int (nI (s2 ||| (2 ^ b)))), (0, .ref (ad 40)), (1, .int (nI u)), (2, .int but), (4, .int (nI t)), (5, .int (nI a))]) d_M_reached_79 rfl (by decide) rfl ?_
                          refine aw_goto (tgt := 28) d_M_reached_82 (by decide) ?_
                          refine aw_sub (lv' := [(0, .ref (ad 40)), (1, .int (nI u)), (2, .int but), (3, .int (nI (s2 ||| 2 ^ b))), (4, .int (nI t)), (5, .int (nI a)), (6, .int (nI (b + 1)))]) [2, 3, 4, 1, 5, 6, 0] rfl ?_
                          exact ih (s2 ||| 2 ^ b) (b + 1) (by omega) (rI_yes hI2 hn ha hb (bN_1.mp h4) h5 (Xc_bit.mpr ⟨hb, h6⟩)) (by omega)
              refine aw_iconst (v := nI 0) d_M_reached_25 (by decide) ?_
              refine aw_istore (lv' := [(6, .int (nI 0)), (0, .ref (ad 40)), (1, .int (nI u)), (2, .int but), (3, .int (nI s1)), (4, .int (nI t)), (5, .int (nI a))]) d_M_reached_26 (by decide) rfl ?_
              refine aw_sub (lv' := [(0, .ref (ad 40)), (1, .int (nI u)), (2, .int but), (3, .int (nI s1)), (4, .int (nI t)), (5, .int (nI a)), (6, .int (nI 0))]) [1, 2, 3, 4, 5, 6, 0] rfl ?_
              exact lB (n + 1) s1 0 (by omega) hI (by omega)
        refine aw_iconst (v := nI 0) d_M_reached_13 (by decide) ?_
        refine aw_istore (lv' := [(5, .int (nI 0)), (0, .ref (ad 40)), (1, .int (nI u)), (2, .int but), (3, .int (nI s)), (4, .int (nI t))]) d_M_reached_14 (by decide) rfl ?_
        refine aw_sub (lv' := [(0, .ref (ad 40)), (1, .int (nI u)), (2, .int but), (3, .int (nI s)), (4, .int (nI t)), (5, .int (nI 0))]) [1, 2, 3, 4, 5, 0] rfl ?_
        exact lA (n + 1) s 0 (by omega) (rI_start hO) (by omega)
  refine aw_iconst (v := nI 1) d_M_reached_0 (by decide) ?_
  refine aw_iload_n d_M_reached_1 rfl rfl ?_
  refine aw_ishl d_M_reached_2 ?_
  refine aw_nmi (z := nI (2 ^ u)) (sl_eq u (by omega)) ?_
  refine aw_istore_n (lv' := [(3, .int (nI (2 ^ u))), (0, .ref (ad 40)), (1, .int (nI u)), (2, .int but)]) d_M_reached_3 rfl (by decide) rfl ?_
  refine aw_iconst (v := nI 0) d_M_reached_4 (by decide) ?_
  refine aw_istore (lv' := [(4, .int (nI 0)), (3, .int (nI (2 ^ u))), (0, .ref (ad 40)), (1, .int (nI u)), (2, .int but)]) d_M_reached_5 (by decide) rfl ?_
  refine aw_sub (lv' := [(0, .ref (ad 40)), (1, .int (nI u)), (2, .int but), (3, .int (nI (2 ^ u))), (4, .int (nI 0))]) [2, 3, 4, 1, 0] rfl ?_
  exact lT 6 (2 ^ u) 0 (by omega) (rO_0 hn hu) (by omega)

set_option maxHeartbeats 4000000 in
set_option maxRecDepth 100000 in
theorem m_M_leads {g : aw_G} (hg : aw_T g) {ws : va_W} {ad : Nat → Nat} {n : Nat} {x : Nat} {y : Nat} {V : Nat → Nat} {J : Nat → Nat} {Rw : Nat → Nat} {Tt : Nat → Nat} {q : Nat} {So : Nat → Int32} {Bo : Nat → Nat} {fo : Int} {tw : Int} {St : Nat → Nat} {Sh : Nat → Int} {ss : Int} {Nw : Nat → Int} {Th : Nat → Int} {W : Nat → Nat → Nat} {a b : Nat} (hM : gM g ws ad n x y V J Rw Tt q So Bo fo tw St Sh ss Nw Th) (hok : okG n x y W J) (hR : rwOk n x y W J Rw Tt) (ha : a < n) (hb : b < n) : AMet g y_M_leads c_M_leads 3 (some .boolean) 1 [.ref (ad 40), .int (nI a), .int (nI b)] ws (aw_R (.int (bI ((Dc n x y W J a).testBit b))) ws) 0 0 := by
  have hn := hok.1
  have hX : okX n (Xc n x y W J) := Xc_ok hn
  refine amet_of (by decide +kernel) (Nat.le_of_ble_eq_true rfl) ?_
  refine aw_sub (lv' := [(0, .ref (ad 40)), (1, .int (nI a)), (2, .int (nI b))]) [0, 1, 2] rfl ?_
  refine aw_aload_n d_M_leads_0 rfl rfl ?_
  refine aw_iload_n d_M_leads_1 rfl rfl ?_
  refine aw_iconst (v := -1) d_M_leads_2 (by decide) ?_
  refine aw_callV (av := [.int (nI a), .int (-1)]) (rest := []) (m_M_reached hg hM hok hR ha) kd_M_reached k_507 k_509 ks_M_reached rfl hM.1 d_M_leads_3 rfl ⟨by decide, by decide⟩ (Nat.le_of_ble_eq_true rfl) ⟨by decide, by decide⟩ rfl (fun v3 ws3 hq3 => ?_)
  obtain ⟨rfl, S, rfl, hS⟩ := hq3
  have eS : S = Dc n x y W J a := rcs_D hS hX ha
  subst eS
  refine aw_iload_n d_M_leads_6 rfl rfl ?_
  refine aw_ishr d_M_leads_7 ?_
  refine aw_iconst (v := nI 1) d_M_leads_8 (by decide) ?_
  refine aw_iand d_M_leads_9 ?_
  refine aw_nmi (z := nI (bN ((Dc n x y W J a).testBit b))) (bt_eq _ (Dm_lt hX ha) b (by omega)) ?_
  refine aw_iconst (v := nI 1) d_M_leads_10 (by decide) ?_
  refine aw_icmp_neN (tgt := 18) d_M_leads_11 (by decide) (bN_le _) (by omega) (fun h1 => ?_) (fun h1 => ?_)
  · have e := bN_n1 h1
    refine aw_iconst (v := nI 0) d_M_leads_18 (by decide) ?_
    exact aw_zret d_M_leads_19 rfl (Nat.le_refl 0) (Nat.le_refl 0) ⟨by rw [e]; rfl, rfl⟩
  · have e := bN_1.mp h1
    refine aw_iconst (v := nI 1) d_M_leads_14 (by decide) ?_
    refine aw_goto (tgt := 19) d_M_leads_15 (by decide) ?_
    exact aw_zret d_M_leads_19 rfl (Nat.le_refl 0) (Nat.le_refl 0) ⟨by rw [e]; rfl, rfl⟩

theorem cl_end {n : Nat} {D : Nat → Nat} (hD : okD n D) {v u : Nat} (hv : v < n) (hu : n ≤ u) {c : Bool} (hc : c = true ↔ ∀ w, w < u → (D v).testBit w = true → (D w).testBit v = true) : c = clB D n v :=
  Bool.eq_iff_iff.mpr (hc.trans ⟨fun h => (clB_iff hD hv).mpr (fun w hw => h w (by have := hD.in hv hw; omega) hw), fun h w _ hw => (clB_iff hD hv).mp h w hw⟩)
theorem cl_f {D : Nat → Nat} {v u : Nat} {c : Bool} (hc : c = true ↔ ∀ w, w < u → (D v).testBit w = true → (D w).testBit v = true) (h : c = false) : false = true ↔ ∀ w, w < u + 1 → (D v).testBit w = true → (D w).testBit v = true := by
  rw [← h, hc]
  refine ⟨fun z => ?_, fun z w hw => z w (by omega)⟩
  rw [hc.mpr z] at h; cases h
theorem cl_t {D : Nat → Nat} {v u : Nat} {c : Bool} (hc : c = true ↔ ∀ w, w < u → (D v).testBit w = true → (D w).testBit v = true) (h : c = true) (h2 : (D v).testBit u = true → (D u).testBit v = true) : true = true ↔ ∀ w, w < u + 1 → (D v).testBit w = true → (D w).testBit v = true := by
  refine ⟨fun _ w hw q => ?_, fun _ => rfl⟩
  by_cases e : w = u
  · subst e; exact h2 q
  · exact hc.mp h w (by omega) q
theorem cl_n {D : Nat → Nat} {v u : Nat} {c : Bool} (hc : c = true ↔ ∀ w, w < u → (D v).testBit w = true → (D w).testBit v = true) (h1 : (D v).testBit u = true) (h2 : (D u).testBit v = false) : false = true ↔ ∀ w, w < u + 1 → (D v).testBit w = true → (D w).testBit v = true := by
  refine ⟨fun z => (by cases z), fun z => ?_⟩
  have := z u (by omega) h1
  rw [h2] at this; exact this

set_option maxHeartbeats 4000000 in
set_option maxRecDepth 100000 in
theorem m_M_isClosed {g : aw_G} (hg : aw_T g) {ws : va_W} {ad : Nat → Nat} {n : Nat} {x : Nat} {y : Nat} {V : Nat → Nat} {J : Nat → Nat} {Rw : Nat → Nat} {Tt : Nat → Nat} {q : Nat} {So : Nat → Int32} {Bo : Nat → Nat} {fo : Int} {tw : Int} {St : Nat → Nat} {Sh : Nat → Int} {ss : Int} {Nw : Nat → Int} {Th : Nat → Int} {W : Nat → Nat → Nat} {v : Nat} (hM : gM g ws ad n x y V J Rw Tt q So Bo fo tw St Sh ss Nw Th) (hok : okG n x y W J) (hR : rwOk n x y W J Rw Tt) (hv : v < n) : AMet g y_M_isClosed c_M_isClosed 5 (some .boolean) 2 [.ref (ad 40), .int (nI v)] ws (aw_R (.int (bI (clB (Dc n x y W J) n v))) ws) 0 0 := by
  have hn := hok.1
  have hX : okX n (Xc n x y W J) := Xc_ok hn
  have hD : okD n (Dc n x y W J) := Dc_ok hn
  refine amet_of (by decide +kernel) (Nat.le_of_ble_eq_true rfl) ?_
  refine aw_sub (lv' := [(0, .ref (ad 40)), (1, .int (nI v))]) [0, 1] rfl ?_
  have lp : ∀ (k : Nat) (u : Nat) (c : Bool), u ≤ n → (c = true ↔ ∀ w, w < u → (Dc n x y W J v).testBit w = true → (Dc n x y W J w).testBit v = true) → n - u < k → AW g y_M_isClosed c_M_isClosed 5 (some .boolean) (aw_rm 2 0 0) aw_E0 (aw_F g (aw_R (.int (bI (clB (Dc n x y W J) n v))) ws) 0 0) 0 0 12 [(0, .ref (ad 40)), (1, .int (nI v)), (2, .int (nI (Dc n x y W J v))), (3, .int (bI c)), (4, .int (nI u))] [] ws := by
    intro k
    induction k with
    | zero => intro u c hu0 hc hk; omega
    | succ k ih =>
      intro u c hu0 hc hk
      refine aw_iload d_M_isClosed_12 rfl ?_
      refine aw_aload_n d_M_isClosed_14 rfl rfl ?_
      refine aw_get kc_6 0 (by decide) k_404 d_M_isClosed_15 hM.1 rfl ?_
      refine aw_icmp_geN (tgt := 56) d_M_isClosed_18 (by decide) (by omega) (by omega) (fun hu => ?_) (fun hu => ?_)
      · refine aw_iload_n d_M_isClosed_56 rfl rfl ?_
        exact aw_zret d_M_isClosed_57 (by cases c <;> rfl) (Nat.le_refl 0) (Nat.le_refl 0) ⟨by rw [cl_end hD hv (show n ≤ u by omega) hc], rfl⟩
      · refine aw_iload_n d_M_isClosed_21 rfl rfl ?_
        refine aw_if_eqB (tgt := 48) d_M_isClosed_22 (by decide) (fun h2 => ?_) (fun h2 => ?_)
        · refine aw_iconst (v := nI 0) d_M_isClosed_48 (by decide) ?_
          refine aw_nmi (z := bI false) (by decide) ?_
          refine aw_istore_n (lv' := [(3, .int (bI false)), (0, .ref (ad 40)), (1, .int (nI v)), (2, .int (nI (Dc n x y W J v))), (4, .int (nI u))]) d_M_isClosed_49 rfl (by decide) rfl ?_
          refine aw_iinc1 (lv' := [(4, .int (nI (u + 1))), (3, .int (bI false)), (0, .ref (ad 40)), (1, .int (nI v)), (2, .int (nI (Dc n x y W J v)))]) d_M_isClosed_50 rfl (by decide) rfl ?_
          refine aw_goto (tgt := 12) d_M_isClosed_53 (by decide) ?_
          refine aw_sub (lv' := [(0, .ref (ad 40)), (1, .int (nI v)), (2, .int (nI (Dc n x y W J v))), (3, .int (bI false)), (4, .int (nI (u + 1)))]) [2, 3, 4, 1, 0] rfl ?_
          exact ih (u + 1) false (by omega) (cl_f hc h2) (by omega)
        · refine aw_iload_n d_M_isClosed_25 rfl rfl ?_
          refine aw_iload d_M_isClosed_26 rfl ?_
          refine aw_ishr d_M_isClosed_28 ?_
          refine aw_iconst (v := nI 1) d_M_isClosed_29 (by decide) ?_
          refine aw_iand d_M_isClosed_30 ?_
          refine aw_nmi (z := nI (bN ((Dc n x y W J v).testBit u))) (bt_eq _ (Dm_lt hX hv) u (by omega)) ?_
          refine aw_if_eqN (tgt := 44) d_M_isClosed_31 (by decide) (bN_le _) (fun h3 => ?_) (fun h3 => ?_)
          · refine aw_iconst (v := nI 1) d_M_isClosed_44 (by decide) ?_
            refine aw_goto (tgt := 49) d_M_isClosed_45 (by decide) ?_
            refine aw_nmi (z := bI true) (by decide) ?_
            refine aw_istore_n (lv' := [(3, .int (bI true)), (0, .ref (ad 40)), (1, .int (nI v)), (2, .int (nI (Dc n x y W J v))), (4, .int (nI u))]) d_M_isClosed_49 rfl (by decide) rfl ?_
            refine aw_iinc1 (lv' := [(4, .int (nI (u + 1))), (3, .int (bI true)), (0, .ref (ad 40)), (1, .int (nI v)), (2, .int (nI (Dc n x y W J v)))]) d_M_isClosed_50 rfl (by decide) rfl ?_
            refine aw_goto (tgt := 12) d_M_isClosed_53 (by decide) ?_
            refine aw_sub (lv' := [(0, .ref (ad 40)), (1, .int (nI v)), (2, .int (nI (Dc n x y W J v))), (3, .int (bI true)), (4, .int (nI (u + 1)))]) [2, 3, 4, 1, 0] rfl ?_
            exact ih (u + 1) true (by omega) (cl_t hc h2 (fun z => by rw [bN_0 h3] at z; cases z)) (by omega)
          · refine aw_aload_n d_M_isClosed_34 rfl rfl ?_
            refine aw_iload d_M_isClosed_35 rfl ?_
            refine aw_iload_n d_M_isClosed_37 rfl rfl ?_
            refine aw_callV (av := [.int (nI u), .int (nI v)]) (rest := []) (m_M_leads hg hM hok hR hu hv) kd_M_leads k_511 k_513 ks_M_leads rfl hM.1 d_M_isClosed_38 rfl ⟨by decide, by decide⟩ (Nat.le_of_ble_eq_true rfl) ⟨by decide, by decide⟩ rfl (fun v4 ws4 hq4 => ?_)
            obtain ⟨rfl, rfl⟩ := hq4
            refine aw_if_eqB (tgt := 48) d_M_isClosed_41 (by decide) (fun h4 => ?_) (fun h4 => ?_)
            · refine aw_iconst (v := nI 0) d_M_isClosed_48 (by decide) ?_
              refine aw_nmi (z := bI false) (by decide) ?_
              refine aw_istore_n (lv' := [(3, .int (bI false)), (0, .ref (ad 40)), (1, .int (nI v)), (2, .int (nI (Dc n x y W J v))), (4, .int (nI u))]) d_M_isClosed_49 rfl (by decide) rfl ?_
              refine aw_iinc1 (lv' := [(4, .int (nI (u + 1))), (3, .int (bI false)), (0, .ref (ad 40)), (1, .int (nI v)), (2, .int (nI (Dc n x y W J v)))]) d_M_isClosed_50 rfl (by decide) rfl ?_
              refine aw_goto (tgt := 12) d_M_isClosed_53 (by decide) ?_
              refine aw_sub (lv' := [(0, .ref (ad 40)), (1, .int (nI v)), (2, .int (nI (Dc n x y W J v))), (3, .int (bI false)), (4, .int (nI (u + 1)))]) [2, 3, 4, 1, 0] rfl ?_
              exact ih (u + 1) false (by omega) (cl_n hc (bN_n0 h3) h4) (by omega)
            · refine aw_iconst (v := nI 1) d_M_isClosed_44 (by decide) ?_
              refine aw_goto (tgt := 49) d_M_isClosed_45 (by decide) ?_
              refine aw_nmi (z := bI true) (by decide) ?_
              refine aw_istore_n (lv' := [(3, .int (bI true)), (0, .ref (ad 40)), (1, .int (nI v)), (2, .int (nI (Dc n x y W J v))), (4, .int (nI u))]) d_M_isClosed_49 rfl (by decide) rfl ?_
              refine aw_iinc1 (lv' := [(4, .int (nI (u + 1))), (3, .int (bI true)), (0, .ref (ad 40)), (1, .int (nI v)), (2, .int (nI (Dc n x y W J v)))]) d_M_isClosed_50 rfl (by decide) rfl ?_
              refine aw_goto (tgt := 12) d_M_isClosed_53 (by decide) ?_
              refine aw_sub (lv' := [(0, .ref (ad 40)), (1, .int (nI v)), (2, .int (nI (Dc n x y W J v))), (3, .int (bI true)), (4, .int (nI (u + 1)))]) [2, 3, 4, 1, 0] rfl ?_
              exact ih (u + 1) true (by omega) (cl_t hc h2 (fun _ => h4)) (by omega)
  refine aw_aload_n d_M_isClosed_0 rfl rfl ?_
  refine aw_iload_n d_M_isClosed_1 rfl rfl ?_
  refine aw_iconst (v := -1) d_M_isClosed_2 (by decide) ?_
  refine aw_callV (av := [.int (nI v), .int (-1)]) (rest := []) (m_M_reached hg hM hok hR hv) kd_M_reached k_507 k_509 ks_M_reached rfl hM.1 d_M_isClosed_3 rfl ⟨by decide, by decide⟩ (Nat.le_of_ble_eq_true rfl) ⟨by decide, by decide⟩ rfl (fun v3 ws3 hq3 => ?_)
  obtain ⟨rfl, S, rfl, hS⟩ := hq3
  have eS : S = Dc n x y W J v := rcs_D hS hX hv
  subst eS
  refine aw_istore_n (lv' := [(2, .int (nI (Dc n x y W J v))), (0, .ref (ad 40)), (1, .int (nI v))]) d_M_isClosed_6 rfl (by decide) rfl ?_
  refine aw_iconst (v := nI 1) d_M_isClosed_7 (by decide) ?_
  refine aw_nmi (z := bI true) (by decide) ?_
  refine aw_istore_n (lv' := [(3, .int (bI true)), (2, .int (nI (Dc n x y W J v))), (0, .ref (ad 40)), (1, .int (nI v))]) d_M_isClosed_8 rfl (by decide) rfl ?_
  refine aw_iconst (v := nI 0) d_M_isClosed_9 (by decide) ?_
  refine aw_istore (lv' := [(4, .int (nI 0)), (3, .int (bI true)), (2, .int (nI (Dc n x y W J v))), (0, .ref (ad 40)), (1, .int (nI v))]) d_M_isClosed_10 (by decide) rfl ?_
  refine aw_sub (lv' := [(0, .ref (ad 40)), (1, .int (nI v)), (2, .int (nI (Dc n x y W J v))), (3, .int (bI true)), (4, .int (nI 0))]) [3, 4, 2, 1, 0] rfl ?_
  exact lp (n + 1) 0 true (by omega) ⟨fun _ _ z => absurd z (by omega), fun _ => rfl⟩ (by omega)
