-- laid by wip/whole/m21.py
theorem ex_lt {j : Nat} {P : Nat → Prop} : ((∃ i, i < j ∧ P i) ∨ P j) ↔ ∃ i, i < j + 1 ∧ P i := by
  constructor
  · rintro (⟨i, h1, h2⟩ | h)
    · exact ⟨i, by omega, h2⟩
    · exact ⟨j, by omega, h⟩
  · rintro ⟨i, h1, h2⟩
    by_cases e : i = j
    · subst e; exact Or.inr h2
    · exact Or.inl ⟨i, by omega, h2⟩

set_option maxHeartbeats 4000000 in
set_option maxRecDepth 100000 in
theorem m_M_end {g : aw_G} (hg : aw_T g) {ws : va_W} {ad : Nat → Nat} {n x y : Nat} {W : Nat → Nat → Nat} {J : Nat → Nat} {u s p : Int32} {q0 : Nat} {M0 L0 : Nat → Nat} {O0 : Nat → Int32} (hC : IC n (Dc n x y W J) n q0 M0 L0 O0) (hO : gMo g ws ad n x y W J) : AMet g y_M_end c_M_end 6 (some .long) 4 [.ref (ad 40), .int u, .int s, .int p] ws (qM g ad ws (.long (aEnd n x y W J (Dc n x y W J) q0 M0 u s p)) n x y W J) 0 0 := by
  obtain ⟨V, Rw, Tt, q, So, Bo, fo, tw, St, Sh, ss, Nw, Th, hM, hok, hV⟩ := id hO
  have hn := hok.1
  refine amet_of (by decide +kernel) (Nat.le_of_ble_eq_true rfl) ?_
  refine aw_sub (lv' := [(0, .ref (ad 40)), (1, .int u), (2, .int s), (3, .int p)]) [0, 1, 2, 3] rfl ?_
  refine aw_aload_n d_M_end_0 rfl rfl ?_
  refine aw_callV (av := []) (rest := []) (m_M_findSets hg hM hok hV) kd_M_findSets k_499 k_501 ks_M_findSets rfl hM.1 d_M_end_1 rfl ⟨by decide, by decide⟩ (Nat.le_of_ble_eq_true rfl) ⟨by decide, by decide⟩ rfl (fun v5 ws5 hq5 => ?_)
  obtain ⟨rfl, f5, Rw5, Tt5, q5, So5, Bo5, hM5, hR, hF⟩ := hq5
  obtain ⟨rfl, eB, eO⟩ := FI_IC hF (Dc_ok hn) hC
  have hq5 := IC_q hC hn
  refine aw_aload_n d_M_end_4 rfl rfl ?_
  refine aw_iload_n d_M_end_5 rfl rfl ?_
  refine aw_callV (av := [.int u]) (rest := []) (m_M_isNode hg hM5) kd_M_isNode k_464 k_466 ks_M_isNode rfl hM5.1 d_M_end_6 rfl ⟨by decide, by decide⟩ (Nat.le_of_ble_eq_true rfl) ⟨by decide, by decide⟩ rfl (fun v2 ws2 hq2 => ?_)
  obtain ⟨rfl, rfl⟩ := hq2
  refine aw_if_eqB (tgt := 24) d_M_end_9 (by decide) (fun h1 => ?_) (fun h1 => ?_)
  · refine aw_ldc2 (v := (-1 : Int64)) d_M_end_24 k_527 ?_
    exact aw_lret d_M_end_27 (Nat.le_refl 0) (Nat.le_refl 0) ⟨by unfold aEnd; rw [if_neg (by simp [h1])], f5, ⟨_, _, _, _, _, _, _, _, _, _, _, _, _, hM5, hok, hV⟩⟩
  · refine aw_iload_n d_M_end_12 rfl rfl ?_
    refine aw_if_lt (tgt := 24) d_M_end_13 (by decide) (fun h2 => ?_) (fun h2 => ?_)
    · refine aw_ldc2 (v := (-1 : Int64)) d_M_end_24 k_527 ?_
      exact aw_lret d_M_end_27 (Nat.le_refl 0) (Nat.le_refl 0) ⟨by unfold aEnd; rw [if_neg (by rw [nb_neg h2]; simp)], f5, ⟨_, _, _, _, _, _, _, _, _, _, _, _, _, hM5, hok, hV⟩⟩
    · refine aw_iload_n d_M_end_16 rfl rfl ?_
      refine aw_aload_n d_M_end_17 rfl rfl ?_
      refine aw_get kc_6 7 (by decide) k_411 d_M_end_18 hM5.1 rfl ?_
      refine aw_icmp_lt (tgt := 28) d_M_end_21 (by decide) (fun h3 => ?_) (fun h3 => ?_)
      · have h4 : nb q5 s = true := by unfold nb; rw [decide_eq_true_eq]; exact ⟨h2, fun z => Int32.not_lt.mpr z h3⟩
        refine aw_iload_n d_M_end_28 rfl rfl ?_
        refine aw_callS (av := [.int p]) (rest := []) (m_M_isPart (ad := ad) hg) kd_M_isPart k_528 k_529  d_M_end_29 rfl ⟨by decide, by decide⟩ (Nat.le_of_ble_eq_true rfl) ⟨by decide, by decide⟩ rfl (fun v2 ws2 hq2 => ?_)
        obtain ⟨rfl, rfl⟩ := hq2
        refine aw_if_neB (tgt := 39) d_M_end_32 (by decide) (fun h5 => ?_) (fun h5 => ?_)
        · obtain ⟨u1, hu1, rfl⟩ := nb_true hn h1
          obtain ⟨s1, hs1, rfl⟩ := nb_true hq5 h4
          obtain ⟨p1, hp1, rfl⟩ := pb_true h5
          have hM32 : ∀ i, i < q5 → M0 i < 32 := fun i hi => by obtain ⟨l, hl, -, -, eM, -⟩ := IC_set hC hi; rw [eM]; exact (Dc_ok hn).lt hl
          refine aw_iconst (v := nI 0) d_M_end_39 (by decide) ?_
          refine aw_istore (lv' := [(4, .int (nI 0)), (0, .ref (ad 40)), (1, .int (nI u1)), (2, .int (nI s1)), (3, .int (nI p1))]) d_M_end_40 (by decide) rfl ?_
          refine aw_iconst (v := nI 0) d_M_end_42 (by decide) ?_
          refine aw_istore (lv' := [(5, .int (nI 0)), (4, .int (nI 0)), (0, .ref (ad 40)), (1, .int (nI u1)), (2, .int (nI s1)), (3, .int (nI p1))]) d_M_end_43 (by decide) rfl ?_
          have lp : ∀ (k : Nat) (r j : Nat), j ≤ q5 → r < 32 → (∀ k, r.testBit k = true ↔ ∃ i, i < j ∧ (M0 i).testBit k = true) → q5 - j < k → AW g y_M_end c_M_end 6 (some .long) (aw_rm 4 0 0) aw_E0 (aw_F g (qM g ad ws (.long (aEnd n x y W J (Dc n x y W J) q5 M0 (nI u1) (nI s1) (nI p1))) n x y W J) 0 0) 0 0 45 [(0, .ref (ad 40)), (1, .int (nI u1)), (2, .int (nI s1)), (3, .int (nI p1)), (4, .int (nI r)), (5, .int (nI j))] [] ws5 := by
            intro k
            induction k with
            | zero => intro r j hj0 hr hrb hk; omega
            | succ k ih =>
              intro r j hj0 hr hrb hk
              refine aw_iload d_M_end_45 rfl ?_
              refine aw_aload_n d_M_end_47 rfl rfl ?_
              refine aw_get kc_6 7 (by decide) k_411 d_M_end_48 hM5.1 rfl ?_
              refine aw_icmp_geN (tgt := 72) d_M_end_51 (by decide) (by omega) (by omega) (fun hj => ?_) (fun hj => ?_)
              · have e : q5 = j := by omega
                have hrb2 : ∀ k, r.testBit k = true ↔ ∃ i, i < q5 ∧ (M0 i).testBit k = true := fun k => by rw [hrb k, e]
                obtain ⟨ea, eb, hUk⟩ := end_ans (p := p1) hn hC hr hrb2 hs1 hu1
                have h32 := full_32 n hn
                have b1 := Fo_le hok hUk
                have b2 := Fg_le (a := u1) (G := M0 s1) hok hUk
                refine aw_aload_n d_M_end_72 rfl rfl ?_
                refine aw_aload_n d_M_end_73 rfl rfl ?_
                refine aw_callV (av := []) (rest := [.ref (ad 40)]) (m_M_all hg hM5 hn) kd_M_all k_556 k_558 ks_M_all rfl hM5.1 d_M_end_74 rfl ⟨by decide, by decide⟩ (Nat.le_of_ble_eq_true rfl) ⟨by decide, by decide⟩ rfl (fun v6 ws6 hq6 => ?_)
                obtain ⟨rfl, rfl⟩ := hq6
                refine aw_iload d_M_end_77 rfl ?_
                refine aw_iload_n d_M_end_79 rfl rfl ?_
                refine aw_aload_n d_M_end_80 rfl rfl ?_
                refine aw_get kc_6 9 (by decide) k_413 d_M_end_81 hM5.1 rfl ?_
                refine aw_iload_n d_M_end_84 rfl rfl ?_
                refine aw_ialdA d_M_end_85 hM5.2.2.2.2.2.2.1 hg (by omega) (by decide) ?_
                refine aw_nmi (z := nI (M0 s1)) (by rw [eB s1 hs1]) ?_
                refine aw_callV (av := [.int (nI (2 ^ n - 1)), .int (nI r), .int (nI u1), .int (nI (M0 s1))]) (rest := []) (m_M_count hg hM5 hok hR h32 hr hu1 (full_bit n hn u1 hu1) (hM32 s1 hs1)) kd_M_count k_537 k_539 ks_M_count rfl hM5.1 d_M_end_86 rfl ⟨by decide, by decide⟩ (Nat.le_of_ble_eq_true rfl) ⟨by decide, by decide⟩ rfl (fun v7 ws7 hq7 => ?_)
                obtain ⟨rfl, g7, St7, hM7⟩ := hq7
                have f7 := f5.tr g7
                refine aw_aload_n d_M_end_89 rfl rfl ?_
                refine aw_get kc_6 11 (by decide) k_415 d_M_end_90 hM7.1 rfl ?_
                refine aw_nml (z := lI (Fg n x y W J (an (2 ^ n - 1) r) u1 (M0 s1) : Int)) (by rw [fs_full hn]; rfl) ?_
                refine aw_aload_n d_M_end_93 rfl rfl ?_
                refine aw_get kc_6 10 (by decide) k_414 d_M_end_94 hM7.1 rfl ?_
                refine aw_nml (z := lI (Fo n x y W J (an (2 ^ n - 1) r) : Int)) (by rw [fs_full hn]; rfl) ?_
                refine aw_iload_n d_M_end_97 rfl rfl ?_
                refine aw_callS (av := [.long (lI (Fg n x y W J (an (2 ^ n - 1) r) u1 (M0 s1) : Int)), .long (lI (Fo n x y W J (an (2 ^ n - 1) r) : Int)), .int (nI p1)]) (rest := []) (m_M_lowest (ad := ad) hg (by omega) (by omega) eb hp1) kd_M_lowest k_545 k_546  d_M_end_98 rfl ⟨by decide, by decide⟩ (Nat.le_of_ble_eq_true rfl) ⟨by decide, by decide⟩ rfl (fun v8 ws8 hq8 => ?_)
                obtain ⟨rfl, rfl⟩ := hq8
                exact aw_lret d_M_end_101 (Nat.le_refl 0) (Nat.le_refl 0) ⟨by unfold aEnd; rw [if_pos ⟨h1, h4⟩, if_pos h5, ix_nI (by omega), ix_nI (by omega), ix_nI (by omega), ea], f7, ⟨_, _, _, _, _, _, _, _, _, _, _, _, _, hM7, hok, hV⟩⟩
              · refine aw_iload d_M_end_54 rfl ?_
                refine aw_aload_n d_M_end_56 rfl rfl ?_
                refine aw_get kc_6 9 (by decide) k_413 d_M_end_57 hM5.1 rfl ?_
                refine aw_iload d_M_end_60 rfl ?_
                refine aw_ialdA d_M_end_62 hM5.2.2.2.2.2.2.1 hg (by omega) (by decide) ?_
                refine aw_nmi (z := nI (M0 j)) (by rw [eB j hj]) ?_
                refine aw_iorN d_M_end_63 ?_
                refine aw_istore (lv' := [(4, .int (nI (r ||| (M0 j)))), (0, .ref (ad 40)), (1, .int (nI u1)), (2, .int (nI s1)), (3, .int (nI p1)), (5, .int (nI j))]) d_M_end_64 (by decide) rfl ?_
                refine aw_iinc1 (lv' := [(5, .int (nI (j + 1))), (4, .int (nI (r ||| (M0 j)))), (0, .ref (ad 40)), (1, .int (nI u1)), (2, .int (nI s1)), (3, .int (nI p1))]) d_M_end_66 rfl (by decide) rfl ?_
                refine aw_goto (tgt := 45) d_M_end_69 (by decide) ?_
                refine aw_sub (lv' := [(0, .ref (ad 40)), (1, .int (nI u1)), (2, .int (nI s1)), (3, .int (nI p1)), (4, .int (nI (r ||| M0 j))), (5, .int (nI (j + 1)))]) [2, 3, 4, 5, 1, 0] rfl ?_
                exact ih (r ||| M0 j) (j + 1) (by omega) (or_32 hr (hM32 j hj)) (fun k => by rw [or_bits, hrb k]; exact ex_lt) (by omega)
          refine aw_sub (lv' := [(0, .ref (ad 40)), (1, .int (nI u1)), (2, .int (nI s1)), (3, .int (nI p1)), (4, .int (nI 0)), (5, .int (nI 0))]) [2, 3, 4, 5, 1, 0] rfl ?_
          exact lp (q5 + 1) 0 0 (by omega) (by omega) (fun k => by rw [Nat.zero_testBit]; exact ⟨fun z => (by cases z), fun ⟨i, hi, _⟩ => absurd hi (by omega)⟩) (by omega)
        · refine aw_ldc2 (v := (-2 : Int64)) d_M_end_35 k_531 ?_
          exact aw_lret d_M_end_38 (Nat.le_refl 0) (Nat.le_refl 0) ⟨by unfold aEnd; rw [if_pos ⟨h1, h4⟩, if_neg (by rw [h5]; decide)], f5, ⟨_, _, _, _, _, _, _, _, _, _, _, _, _, hM5, hok, hV⟩⟩
      · refine aw_ldc2 (v := (-1 : Int64)) d_M_end_24 k_527 ?_
        exact aw_lret d_M_end_27 (Nat.le_refl 0) (Nat.le_refl 0) ⟨by unfold aEnd; rw [if_neg (fun z => by have := z.2; unfold nb at this; rw [decide_eq_true_eq] at this; exact this.2 (Int32.not_lt.mp h3))], f5, ⟨_, _, _, _, _, _, _, _, _, _, _, _, _, hM5, hok, hV⟩⟩
