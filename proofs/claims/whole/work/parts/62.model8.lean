-- laid by wip/whole/m20.py
theorem rr_add {D : Nat → Nat} {r v j : Nat} (h : ∀ k, r.testBit k = true ↔ k = v ∨ (k < j ∧ (D k).testBit v = false)) (h6 : (D j).testBit v = false) : ∀ k, (r ||| 2 ^ j).testBit k = true ↔ k = v ∨ (k < j + 1 ∧ (D k).testBit v = false) := fun k => by
  rw [or_bits, h k, pow_bit, decide_eq_true_eq]
  constructor
  · rintro ((z | z) | z)
    · exact Or.inl z
    · exact Or.inr ⟨by omega, z.2⟩
    · subst z; exact Or.inr ⟨by omega, h6⟩
  · rintro (z | z)
    · exact Or.inl (Or.inl z)
    · by_cases e : j = k
      · exact Or.inr e
      · exact Or.inl (Or.inr ⟨by omega, z.2⟩)
theorem rr_no {D : Nat → Nat} {r v j : Nat} (h : ∀ k, r.testBit k = true ↔ k = v ∨ (k < j ∧ (D k).testBit v = false)) (h6 : (D j).testBit v = true) : ∀ k, r.testBit k = true ↔ k = v ∨ (k < j + 1 ∧ (D k).testBit v = false) := fun k => by
  rw [h k]
  constructor
  · rintro (z | z)
    · exact Or.inl z
    · exact Or.inr ⟨by omega, z.2⟩
  · rintro (z | z)
    · exact Or.inl z
    · by_cases e : k = j
      · subst e; rw [h6] at z; cases z.2
      · exact Or.inr ⟨by omega, z.2⟩

set_option maxHeartbeats 4000000 in
set_option maxRecDepth 100000 in
theorem m_M_reach {g : aw_G} (hg : aw_T g) {ws : va_W} {ad : Nat → Nat} {n x y : Nat} {W : Nat → Nat → Nat} {J : Nat → Nat} {u v p : Int32} (hO : gMo g ws ad n x y W J) : AMet g y_M_reach c_M_reach 6 (some .long) 3 [.ref (ad 40), .int u, .int v, .int p] ws (qM g ad ws (.long (aReach n x y W J (Dc n x y W J) u v p)) n x y W J) 0 0 := by
  obtain ⟨V, Rw, Tt, q, So, Bo, fo, tw, St, Sh, ss, Nw, Th, hM, hok, hV⟩ := id hO
  have hn := hok.1
  refine amet_of (by decide +kernel) (Nat.le_of_ble_eq_true rfl) ?_
  refine aw_sub (lv' := [(0, .ref (ad 40)), (1, .int u), (2, .int v), (3, .int p)]) [0, 1, 2, 3] rfl ?_
  refine aw_aload_n d_M_reach_0 rfl rfl ?_
  refine aw_iload_n d_M_reach_1 rfl rfl ?_
  refine aw_callV (av := [.int u]) (rest := []) (m_M_isNode hg hM) kd_M_isNode k_464 k_466 ks_M_isNode rfl hM.1 d_M_reach_2 rfl ⟨by decide, by decide⟩ (Nat.le_of_ble_eq_true rfl) ⟨by decide, by decide⟩ rfl (fun v2 ws2 hq2 => ?_)
  obtain ⟨rfl, rfl⟩ := hq2
  refine aw_if_eqB (tgt := 16) d_M_reach_5 (by decide) (fun h1 => ?_) (fun h1 => ?_)
  · refine aw_ldc2 (v := (-1 : Int64)) d_M_reach_16 k_527 ?_
    exact aw_lret d_M_reach_19 (Nat.le_refl 0) (Nat.le_refl 0) ⟨by unfold aReach; rw [if_neg (by simp [h1])], fr.rf, hO⟩
  · refine aw_aload_n d_M_reach_8 rfl rfl ?_
    refine aw_iload_n d_M_reach_9 rfl rfl ?_
    refine aw_callV (av := [.int v]) (rest := []) (m_M_isNode hg hM) kd_M_isNode k_464 k_466 ks_M_isNode rfl hM.1 d_M_reach_10 rfl ⟨by decide, by decide⟩ (Nat.le_of_ble_eq_true rfl) ⟨by decide, by decide⟩ rfl (fun v2 ws2 hq2 => ?_)
    obtain ⟨rfl, rfl⟩ := hq2
    refine aw_if_neB (tgt := 20) d_M_reach_13 (by decide) (fun h2 => ?_) (fun h2 => ?_)
    · refine aw_iload_n d_M_reach_20 rfl rfl ?_
      refine aw_callS (av := [.int p]) (rest := []) (m_M_isPart (ad := ad) hg) kd_M_isPart k_528 k_529  d_M_reach_21 rfl ⟨by decide, by decide⟩ (Nat.le_of_ble_eq_true rfl) ⟨by decide, by decide⟩ rfl (fun v2 ws2 hq2 => ?_)
      obtain ⟨rfl, rfl⟩ := hq2
      refine aw_if_neB (tgt := 31) d_M_reach_24 (by decide) (fun h3 => ?_) (fun h3 => ?_)
      · obtain ⟨u1, hu1, rfl⟩ := nb_true hn h1
        obtain ⟨v1, hv1, rfl⟩ := nb_true hn h2
        obtain ⟨p1, hp1, rfl⟩ := pb_true h3
        refine aw_aload_n d_M_reach_31 rfl rfl ?_
        refine aw_callV (av := []) (rest := []) (m_M_findRows hg hM hok hV) kd_M_findRows k_484 k_486 ks_M_findRows rfl hM.1 d_M_reach_32 rfl ⟨by decide, by decide⟩ (Nat.le_of_ble_eq_true rfl) ⟨by decide, by decide⟩ rfl (fun v5 ws5 hq5 => ?_)
        obtain ⟨rfl, f5, Rw5, Tt5, hM5, hR⟩ := hq5
        refine aw_iconst (v := nI 1) d_M_reach_35 (by decide) ?_
        refine aw_iload_n d_M_reach_36 rfl rfl ?_
        refine aw_ishl d_M_reach_37 ?_
        refine aw_nmi (z := nI (2 ^ v1)) (sl_eq v1 (by omega)) ?_
        refine aw_istore (lv' := [(4, .int (nI (2 ^ v1))), (0, .ref (ad 40)), (1, .int (nI u1)), (2, .int (nI v1)), (3, .int (nI p1))]) d_M_reach_38 (by decide) rfl ?_
        refine aw_iconst (v := nI 0) d_M_reach_40 (by decide) ?_
        refine aw_istore (lv' := [(5, .int (nI 0)), (4, .int (nI (2 ^ v1))), (0, .ref (ad 40)), (1, .int (nI u1)), (2, .int (nI v1)), (3, .int (nI p1))]) d_M_reach_41 (by decide) rfl ?_
        have lp : ∀ (k : Nat) (r j : Nat), j ≤ n → r < 32 → (∀ k, r.testBit k = true ↔ k = v1 ∨ (k < j ∧ (Dc n x y W J k).testBit v1 = false)) → n - j < k → AW g y_M_reach c_M_reach 6 (some .long) (aw_rm 3 0 0) aw_E0 (aw_F g (qM g ad ws (.long (aReach n x y W J (Dc n x y W J) (nI u1) (nI v1) (nI p1))) n x y W J) 0 0) 0 0 43 [(0, .ref (ad 40)), (1, .int (nI u1)), (2, .int (nI v1)), (3, .int (nI p1)), (4, .int (nI r)), (5, .int (nI j))] [] ws5 := by
          intro k
          induction k with
          | zero => intro r j hj0 hr hrb hk; omega
          | succ k ih =>
            intro r j hj0 hr hrb hk
            refine aw_iload d_M_reach_43 rfl ?_
            refine aw_aload_n d_M_reach_45 rfl rfl ?_
            refine aw_get kc_6 0 (by decide) k_404 d_M_reach_46 hM5.1 rfl ?_
            refine aw_icmp_geN (tgt := 81) d_M_reach_49 (by decide) (by omega) (by omega) (fun hj => ?_) (fun hj => ?_)
            · have e : n = j := by omega
              subst e
              have h32 := full_32 n hn
              refine aw_aload_n d_M_reach_81 rfl rfl ?_
              refine aw_aload_n d_M_reach_82 rfl rfl ?_
              refine aw_callV (av := []) (rest := [.ref (ad 40)]) (m_M_all hg hM5 hn) kd_M_all k_556 k_558 ks_M_all rfl hM5.1 d_M_reach_83 rfl ⟨by decide, by decide⟩ (Nat.le_of_ble_eq_true rfl) ⟨by decide, by decide⟩ rfl (fun v6 ws6 hq6 => ?_)
              obtain ⟨rfl, rfl⟩ := hq6
              refine aw_iload d_M_reach_86 rfl ?_
              refine aw_iload_n d_M_reach_88 rfl rfl ?_
              refine aw_iconst (v := nI 1) d_M_reach_89 (by decide) ?_
              refine aw_iload_n d_M_reach_90 rfl rfl ?_
              refine aw_ishl d_M_reach_91 ?_
              refine aw_nmi (z := nI (2 ^ v1)) (sl_eq v1 (by omega)) ?_
              refine aw_callV (av := [.int (nI (2 ^ n - 1)), .int (nI r), .int (nI u1), .int (nI (2 ^ v1))]) (rest := []) (m_M_count hg hM5 hok hR h32 hr hu1 (full_bit n hn u1 hu1) (pow_32 (show v1 < 5 by omega))) kd_M_count k_537 k_539 ks_M_count rfl hM5.1 d_M_reach_92 rfl ⟨by decide, by decide⟩ (Nat.le_of_ble_eq_true rfl) ⟨by decide, by decide⟩ rfl (fun v7 ws7 hq7 => ?_)
              obtain ⟨rfl, g7, St7, hM7⟩ := hq7
              have f7 := f5.tr g7
              have eU : an (2 ^ n - 1) r = uG (Dc n x y W J) n (2 ^ v1) := uG_eq hn hv1 hr hrb
              have hUk : okU n (uG (Dc n x y W J) n (2 ^ v1)) := uG_okv hn hv1
              have b1 := Fo_le hok hUk
              have b2 := Fg_le (a := u1) (G := 2 ^ v1) hok hUk
              have b3 : 0 < Fo n x y W J (uG (Dc n x y W J) n (2 ^ v1)) := uG_pos okSc (Xc_ok hn) (fun _ _ => rfl) (pow_32 (show v1 < 5 by omega))
              refine aw_aload_n d_M_reach_95 rfl rfl ?_
              refine aw_get kc_6 11 (by decide) k_415 d_M_reach_96 hM7.1 rfl ?_
              refine aw_nml (z := lI (Fg n x y W J (uG (Dc n x y W J) n (2 ^ v1)) u1 (2 ^ v1) : Int)) (by rw [eU, fs_full hn]; rfl) ?_
              refine aw_aload_n d_M_reach_99 rfl rfl ?_
              refine aw_get kc_6 10 (by decide) k_414 d_M_reach_100 hM7.1 rfl ?_
              refine aw_nml (z := lI (Fo n x y W J (uG (Dc n x y W J) n (2 ^ v1)) : Int)) (by rw [eU, fs_full hn]; rfl) ?_
              refine aw_iload_n d_M_reach_103 rfl rfl ?_
              refine aw_callS (av := [.long (lI (Fg n x y W J (uG (Dc n x y W J) n (2 ^ v1)) u1 (2 ^ v1) : Int)), .long (lI (Fo n x y W J (uG (Dc n x y W J) n (2 ^ v1)) : Int)), .int (nI p1)]) (rest := []) (m_M_lowest (ad := ad) hg (by omega) (by omega) b3 hp1) kd_M_lowest k_545 k_546  d_M_reach_104 rfl ⟨by decide, by decide⟩ (Nat.le_of_ble_eq_true rfl) ⟨by decide, by decide⟩ rfl (fun v8 ws8 hq8 => ?_)
              obtain ⟨rfl, rfl⟩ := hq8
              exact aw_lret d_M_reach_107 (Nat.le_refl 0) (Nat.le_refl 0) ⟨by unfold aReach; rw [if_pos ⟨h1, h2⟩, if_pos h3, ix_nI (by omega), ix_nI (by omega), ix_nI (by omega), ← ch_ans hn hu1 (pow_32 (by omega))], f7, ⟨_, _, _, _, _, _, _, _, _, _, _, _, _, hM7, hok, hV⟩⟩
            · refine aw_iload d_M_reach_52 rfl ?_
              refine aw_aload_n d_M_reach_54 rfl rfl ?_
              refine aw_iload d_M_reach_55 rfl ?_
              refine aw_iload_n d_M_reach_57 rfl rfl ?_
              refine aw_callV (av := [.int (nI j), .int (nI v1)]) (rest := [.int (nI r)]) (m_M_leads hg hM5 hok hR hj hv1) kd_M_leads k_511 k_513 ks_M_leads rfl hM5.1 d_M_reach_58 rfl ⟨by decide, by decide⟩ (Nat.le_of_ble_eq_true rfl) ⟨by decide, by decide⟩ rfl (fun v6 ws6 hq6 => ?_)
              obtain ⟨rfl, rfl⟩ := hq6
              refine aw_if_eqB (tgt := 68) d_M_reach_61 (by decide) (fun h6 => ?_) (fun h6 => ?_)
              · refine aw_iconst (v := nI 1) d_M_reach_68 (by decide) ?_
                refine aw_iload d_M_reach_69 rfl ?_
                refine aw_ishl d_M_reach_71 ?_
                refine aw_nmi (z := nI (2 ^ j)) (sl_eq j (by omega)) ?_
                refine aw_iorN d_M_reach_72 ?_
                refine aw_istore (lv' := [(4, .int (nI (r ||| (2 ^ j)))), (0, .ref (ad 40)), (1, .int (nI u1)), (2, .int (nI v1)), (3, .int (nI p1)), (5, .int (nI j))]) d_M_reach_73 (by decide) rfl ?_
                refine aw_iinc1 (lv' := [(5, .int (nI (j + 1))), (4, .int (nI (r ||| (2 ^ j)))), (0, .ref (ad 40)), (1, .int (nI u1)), (2, .int (nI v1)), (3, .int (nI p1))]) d_M_reach_75 rfl (by decide) rfl ?_
                refine aw_goto (tgt := 43) d_M_reach_78 (by decide) ?_
                refine aw_sub (lv' := [(0, .ref (ad 40)), (1, .int (nI u1)), (2, .int (nI v1)), (3, .int (nI p1)), (4, .int (nI (r ||| 2 ^ j))), (5, .int (nI (j + 1)))]) [2, 3, 4, 5, 1, 0] rfl ?_
                exact ih (r ||| 2 ^ j) (j + 1) (by omega) (or_32 hr (pow_32 (by omega))) (rr_add hrb h6) (by omega)
              · refine aw_iconst (v := nI 0) d_M_reach_64 (by decide) ?_
                refine aw_goto (tgt := 72) d_M_reach_65 (by decide) ?_
                refine aw_iorN d_M_reach_72 ?_
                refine aw_nmi (z := nI r) (by rw [Nat.or_zero]) ?_
                refine aw_istore (lv' := [(4, .int (nI r)), (0, .ref (ad 40)), (1, .int (nI u1)), (2, .int (nI v1)), (3, .int (nI p1)), (5, .int (nI j))]) d_M_reach_73 (by decide) rfl ?_
                refine aw_iinc1 (lv' := [(5, .int (nI (j + 1))), (4, .int (nI r)), (0, .ref (ad 40)), (1, .int (nI u1)), (2, .int (nI v1)), (3, .int (nI p1))]) d_M_reach_75 rfl (by decide) rfl ?_
                refine aw_goto (tgt := 43) d_M_reach_78 (by decide) ?_
                refine aw_sub (lv' := [(0, .ref (ad 40)), (1, .int (nI u1)), (2, .int (nI v1)), (3, .int (nI p1)), (4, .int (nI r)), (5, .int (nI (j + 1)))]) [2, 3, 4, 5, 1, 0] rfl ?_
                exact ih r (j + 1) (by omega) hr (rr_no hrb h6) (by omega)
        refine aw_sub (lv' := [(0, .ref (ad 40)), (1, .int (nI u1)), (2, .int (nI v1)), (3, .int (nI p1)), (4, .int (nI (2 ^ v1))), (5, .int (nI 0))]) [2, 3, 4, 5, 1, 0] rfl ?_
        exact lp (n + 1) (2 ^ v1) 0 (by omega) (pow_32 (by omega)) (fun k => by rw [pow_bit, decide_eq_true_eq]; exact ⟨fun z => Or.inl z.symm, fun z => by rcases z with z | z; exact z.symm; exact absurd z.1 (by omega)⟩) (by omega)
      · refine aw_ldc2 (v := (-2 : Int64)) d_M_reach_27 k_531 ?_
        exact aw_lret d_M_reach_30 (Nat.le_refl 0) (Nat.le_refl 0) ⟨by unfold aReach; rw [if_pos ⟨h1, h2⟩, if_neg (by rw [h3]; decide)], fr.rf, hO⟩
    · refine aw_ldc2 (v := (-1 : Int64)) d_M_reach_16 k_527 ?_
      exact aw_lret d_M_reach_19 (Nat.le_refl 0) (Nat.le_refl 0) ⟨by unfold aReach; rw [if_neg (by simp [h2])], fr.rf, hO⟩

theorem sH_0 {n x y : Nat} {W : Nat → Nat → Nat} {J : Nat → Nat} {U a w : Nat} (h : U.testBit w = false) : sHit n x y W J U a w = 0 := by unfold sHit; rw [if_neg (by rw [h]; decide)]
theorem sH_1 {n x y : Nat} {W : Nat → Nat → Nat} {J : Nat → Nat} {U a w : Nat} (h : U.testBit w = true) : sHit n x y W J U a w = Fg n x y W J (an U (2 ^ w)) a (2 ^ w) * tt n x y W J w := by unfold sHit; rw [if_pos h]
theorem hu_no {n : Nat} {X : Nat → Nat} {u v S k : Nat} (hX : okX n X) (hu : u < n) (hv : v < n) (hne : u ≠ v) (h : rcs X n u (nI v) S) (hk : S.testBit k = false ∨ k = v) : (hU X n u v).testBit k = false := by
  cases q : (hU X n u v).testBit k with
  | false => rfl
  | true =>
    have := (rcs_hU hX hu hv hne h).mp q
    rcases hk with z | z
    · rw [this.1] at z; cases z
    · exact absurd z this.2
theorem fr_01 {p : Nat} (hp : p < 2) : lI (fracN 0 1 p : Int) = lI (p : Int) := by
  rcases (show p = 0 ∨ p = 1 by omega) with rfl | rfl <;> rfl
theorem su_f {D : Nat → Nat} {S v j : Nat} {c : Bool} (hc : c = true ↔ ∀ k, k < j → S.testBit k = true → (D k).testBit v = true) (h : c = false) : false = true ↔ ∀ k, k < j + 1 → S.testBit k = true → (D k).testBit v = true := by
  rw [← h, hc]
  refine ⟨fun z => ?_, fun z w hw => z w (by omega)⟩
  rw [hc.mpr z] at h; cases h
theorem su_t {D : Nat → Nat} {S v j : Nat} {c : Bool} (hc : c = true ↔ ∀ k, k < j → S.testBit k = true → (D k).testBit v = true) (h : c = true) (h2 : S.testBit j = true → (D j).testBit v = true) : true = true ↔ ∀ k, k < j + 1 → S.testBit k = true → (D k).testBit v = true := by
  refine ⟨fun _ w hw q => ?_, fun _ => rfl⟩
  by_cases e : w = j
  · subst e; exact h2 q
  · exact hc.mp h w (by omega) q
theorem su_n {D : Nat → Nat} {S v j : Nat} (h1 : S.testBit j = true) (h2 : (D j).testBit v = false) : false = true ↔ ∀ k, k < j + 1 → S.testBit k = true → (D k).testBit v = true := by
  refine ⟨fun z => (by cases z), fun z => ?_⟩
  have := z j (by omega) h1
  rw [h2] at this; exact this

set_option maxHeartbeats 4000000 in
set_option maxRecDepth 100000 in
theorem m_M_hit {g : aw_G} (hg : aw_T g) {ws : va_W} {ad : Nat → Nat} {n x y : Nat} {W : Nat → Nat → Nat} {J : Nat → Nat} {u v p : Int32} (hO : gMo g ws ad n x y W J) : AMet g y_M_hit c_M_hit 9 (some .long) 3 [.ref (ad 40), .int u, .int v, .int p] ws (qM g ad ws (.long (aHit n x y W J (Xc n x y W J) (Dc n x y W J) u v p)) n x y W J) 0 0 := by
  obtain ⟨V, Rw, Tt, q, So, Bo, fo, tw, St, Sh, ss, Nw, Th, hM, hok, hV⟩ := id hO
  have hn := hok.1
  have hX : okX n (Xc n x y W J) := Xc_ok hn
  refine amet_of (by decide +kernel) (Nat.le_of_ble_eq_true rfl) ?_
  refine aw_sub (lv' := [(0, .ref (ad 40)), (1, .int u), (2, .int v), (3, .int p)]) [0, 1, 2, 3] rfl ?_
  refine aw_aload_n d_M_hit_0 rfl rfl ?_
  refine aw_iload_n d_M_hit_1 rfl rfl ?_
  refine aw_callV (av := [.int u]) (rest := []) (m_M_isNode hg hM) kd_M_isNode k_464 k_466 ks_M_isNode rfl hM.1 d_M_hit_2 rfl ⟨by decide, by decide⟩ (Nat.le_of_ble_eq_true rfl) ⟨by decide, by decide⟩ rfl (fun v2 ws2 hq2 => ?_)
  obtain ⟨rfl, rfl⟩ := hq2
  refine aw_if_eqB (tgt := 16) d_M_hit_5 (by decide) (fun h1 => ?_) (fun h1 => ?_)
  · refine aw_ldc2 (v := (-1 : Int64)) d_M_hit_16 k_527 ?_
    exact aw_lret d_M_hit_19 (Nat.le_refl 0) (Nat.le_refl 0) ⟨by unfold aHit; rw [if_neg (by simp [h1])], fr.rf, hO⟩
  · refine aw_aload_n d_M_hit_8 rfl rfl ?_
    refine aw_iload_n d_M_hit_9 rfl rfl ?_
    refine aw_callV (av := [.int v]) (rest := []) (m_M_isNode hg hM) kd_M_isNode k_464 k_466 ks_M_isNode rfl hM.1 d_M_hit_10 rfl ⟨by decide, by decide⟩ (Nat.le_of_ble_eq_true rfl) ⟨by decide, by decide⟩ rfl (fun v2 ws2 hq2 => ?_)
    obtain ⟨rfl, rfl⟩ := hq2
    refine aw_if_neB (tgt := 20) d_M_hit_13 (by decide) (fun h2 => ?_) (fun h2 => ?_)
    · refine aw_iload_n d_M_hit_20 rfl rfl ?_
      refine aw_callS (av := [.int p]) (rest := []) (m_M_isPart (ad := ad) hg) kd_M_isPart k_528 k_529  d_M_hit_21 rfl ⟨by decide, by decide⟩ (Nat.le_of_ble_eq_true rfl) ⟨by decide, by decide⟩ rfl (fun v2 ws2 hq2 => ?_)
      obtain ⟨rfl, rfl⟩ := hq2
      refine aw_if_neB (tgt := 31) d_M_hit_24 (by decide) (fun h3 => ?_) (fun h3 => ?_)
      · obtain ⟨u1, hu1, rfl⟩ := nb_true hn h1
        obtain ⟨v1, hv1, rfl⟩ := nb_true hn h2
        obtain ⟨p1, hp1, rfl⟩ := pb_true h3
        refine aw_aload_n d_M_hit_31 rfl rfl ?_
        refine aw_callV (av := []) (rest := []) (m_M_findRows hg hM hok hV) kd_M_findRows k_484 k_486 ks_M_findRows rfl hM.1 d_M_hit_32 rfl ⟨by decide, by decide⟩ (Nat.le_of_ble_eq_true rfl) ⟨by decide, by decide⟩ rfl (fun v5 ws5 hq5 => ?_)
        obtain ⟨rfl, f5, Rw5, Tt5, hM5, hR⟩ := hq5
        refine aw_aload_n d_M_hit_35 rfl rfl ?_
        refine aw_iload_n d_M_hit_36 rfl rfl ?_
        refine aw_iload_n d_M_hit_37 rfl rfl ?_
        refine aw_callV (av := [.int (nI u1), .int (nI v1)]) (rest := []) (m_M_reached hg hM5 hok hR hu1) kd_M_reached k_507 k_509 ks_M_reached rfl hM5.1 d_M_hit_38 rfl ⟨by decide, by decide⟩ (Nat.le_of_ble_eq_true rfl) ⟨by decide, by decide⟩ rfl (fun v6 ws6 hq6 => ?_)
        obtain ⟨rfl, S, rfl, hS⟩ := hq6
        have hS32 := hS.1
        have lS : ∀ (k : Nat) (j : Nat) (c : Bool), j ≤ n → (c = true ↔ ∀ k, k < j → S.testBit k = true → (Dc n x y W J k).testBit v1 = true) → n - j < k → AW g y_M_hit c_M_hit 9 (some .long) (aw_rm 3 0 0) aw_E0 (aw_F g (qM g ad ws (.long (aHit n x y W J (Xc n x y W J) (Dc n x y W J) (nI u1) (nI v1) (nI p1))) n x y W J) 0 0) 0 0 49 [(0, .ref (ad 40)), (1, .int (nI u1)), (2, .int (nI v1)), (3, .int (nI p1)), (4, .int (nI S)), (5, .int (bI c)), (6, .int (nI j))] [] ws5 := by
          intro k
          induction k with
          | zero => intro j c hj0 hc hk; omega
          | succ k ih =>
            intro j c hj0 hc hk
            refine aw_iload d_M_hit_49 rfl ?_
            refine aw_aload_n d_M_hit_51 rfl rfl ?_
            refine aw_get kc_6 0 (by decide) k_404 d_M_hit_52 hM5.1 rfl ?_
            refine aw_icmp_geN (tgt := 96) d_M_hit_55 (by decide) (by omega) (by omega) (fun hj => ?_) (fun hj => ?_)
            · have e : n = j := by omega
              subst e
              refine aw_iload d_M_hit_96 rfl ?_
              refine aw_if_neB (tgt := 105) d_M_hit_98 (by decide) (fun h6 => ?_) (fun h6 => ?_)
              · have hall := hc.mp h6
                refine aw_iload_n d_M_hit_105 rfl rfl ?_
                refine aw_iload_n d_M_hit_106 rfl rfl ?_
                refine aw_icmp_neN (tgt := 113) d_M_hit_107 (by decide) (by omega) (by omega) (fun h7 => ?_) (fun h7 => ?_)
                · have hz := (sure_iff hn hu1 hv1 h7 hS).mp hall
                  have hUk := hU_ok hX hu1 hv1 h7
                  have hUl := hU_lt hX hu1 hv1
                  have b1 := Fo_le hok hUk
                  have b2 := F3_le (a := u1) hok hUk
                  have b3 : 0 < Fo n x y W J (hU (Xc n x y W J) n u1 v1) := hU_pos okSc hX (fun _ _ => rfl) hu1 hv1 h7 hz
                  have hSv := rcs_has hn hu1 hv1 hS (hall u1 hu1 hS.2.2.1)
                  have hpv := pow_32 (show v1 < 5 by omega)
                  have lW : ∀ (k : Nat) (ws1 : va_W) (fo1 tw1 : Int) (St1 : Nat → Nat) (t j : Nat), gM g ws1 ad n x y V J Rw5 Tt5 q So Bo fo1 tw1 St1 Sh ss Nw Th → fr 40 51 ws ws1 → j ≤ n → t = sN (sHit n x y W J (hU (Xc n x y W J) n u1 v1) u1) j → n - j < k → AW g y_M_hit c_M_hit 9 (some .long) (aw_rm 3 0 0) aw_E0 (aw_F g (qM g ad ws (.long (aHit n x y W J (Xc n x y W J) (Dc n x y W J) (nI u1) (nI v1) (nI p1))) n x y W J) 0 0) 0 0 119 [(0, .ref (ad 40)), (1, .int (nI u1)), (2, .int (nI v1)), (3, .int (nI p1)), (4, .int (nI S)), (6, .long (lI (t : Int))), (8, .int (nI j))] [] ws1 := by
                    intro k
                    induction k with
                    | zero => intro ws1 fo1 tw1 St1 t j hM1 f1 hj1 ht hk1; omega
                    | succ k ih =>
                      intro ws1 fo1 tw1 St1 t j hM1 f1 hj1 ht hk1
                      refine aw_iload d_M_hit_119 rfl ?_
                      refine aw_aload_n d_M_hit_121 rfl rfl ?_
                      refine aw_get kc_6 0 (by decide) k_404 d_M_hit_122 hM1.1 rfl ?_
                      refine aw_icmp_geN (tgt := 188) d_M_hit_125 (by decide) (by omega) (by omega) (fun hj2 => ?_) (fun hj2 => ?_)
                      · have e3 : t = F3 n x y W J (hU (Xc n x y W J) n u1 v1) u1 := by rw [ht, show j = n by omega, F3_sum hn hUl hu1]; rfl
                        subst e3
                        refine aw_aload_n d_M_hit_188 rfl rfl ?_
                        refine aw_iload d_M_hit_189 rfl ?_
                        refine aw_iconst (v := nI 1) d_M_hit_191 (by decide) ?_
                        refine aw_iload_n d_M_hit_192 rfl rfl ?_
                        refine aw_ishl d_M_hit_193 ?_
                        refine aw_nmi (z := nI (2 ^ v1)) (sl_eq v1 (by omega)) ?_
                        refine aw_iload_n d_M_hit_194 rfl rfl ?_
                        refine aw_iconst (v := nI 1) d_M_hit_195 (by decide) ?_
                        refine aw_iload_n d_M_hit_196 rfl rfl ?_
                        refine aw_ishl d_M_hit_197 ?_
                        refine aw_nmi (z := nI (2 ^ v1)) (sl_eq v1 (by omega)) ?_
                        refine aw_callV (av := [.int (nI S), .int (nI (2 ^ v1)), .int (nI u1), .int (nI (2 ^ v1))]) (rest := []) (m_M_count hg hM1 hok hR hS32 hpv hu1 hS.2.2.1 hpv) kd_M_count k_537 k_539 ks_M_count rfl hM1.1 d_M_hit_198 rfl ⟨by decide, by decide⟩ (Nat.le_of_ble_eq_true rfl) ⟨by decide, by decide⟩ rfl (fun v7 ws7 hq7 => ?_)
                        obtain ⟨rfl, g7, St7, hM7⟩ := hq7
                        have f7 := f1.tr g7
                        have eU : an S (2 ^ v1) = hU (Xc n x y W J) n u1 v1 := an_1 hX hu1 hv1 h7 hS
                        refine aw_lload d_M_hit_201 rfl ?_
                        refine aw_aload_n d_M_hit_203 rfl rfl ?_
                        refine aw_get kc_6 10 (by decide) k_414 d_M_hit_204 hM7.1 rfl ?_
                        refine aw_nml (z := lI (Fo n x y W J (hU (Xc n x y W J) n u1 v1) : Int)) (by rw [eU, fs_ov (fun i j _ q hj h => rcs_ov hn hv1 hS ((rcs_hU hX hu1 hv1 h7 hS).mp q).1 ((rcs_hU hX hu1 hv1 h7 hS).mp q).2 hj h)]; rfl) ?_
                        refine aw_iload_n d_M_hit_207 rfl rfl ?_
                        refine aw_callS (av := [.long (lI (F3 n x y W J (hU (Xc n x y W J) n u1 v1) u1 : Int)), .long (lI (Fo n x y W J (hU (Xc n x y W J) n u1 v1) : Int)), .int (nI p1)]) (rest := []) (m_M_lowest (ad := ad) hg (by omega) (by omega) b3 hp1) kd_M_lowest k_545 k_546  d_M_hit_208 rfl ⟨by decide, by decide⟩ (Nat.le_of_ble_eq_true rfl) ⟨by decide, by decide⟩ rfl (fun v8 ws8 hq8 => ?_)
                        obtain ⟨rfl, rfl⟩ := hq8
                        exact aw_lret d_M_hit_211 (Nat.le_refl 0) (Nat.le_refl 0) ⟨by unfold aHit; rw [if_pos ⟨h1, h2⟩, if_pos h3, ix_nI (show u1 < 2 ^ 31 by omega), ix_nI (show v1 < 2 ^ 31 by omega), ix_nI (show p1 < 2 ^ 31 by omega), if_neg h7, if_pos hz], f7, ⟨_, _, _, _, _, _, _, _, _, _, _, _, _, hM7, hok, hV⟩⟩
                      · have hpj := pow_32 (show j < 5 by omega)
                        have htt := nr_ok hok hj2
                        refine aw_iload d_M_hit_128 rfl ?_
                        refine aw_iload d_M_hit_130 rfl ?_
                        refine aw_ishr d_M_hit_132 ?_
                        refine aw_iconst (v := nI 1) d_M_hit_133 (by decide) ?_
                        refine aw_iand d_M_hit_134 ?_
                        refine aw_nmi (z := nI (bN (S.testBit j))) (bt_eq S hS32 j (by omega)) ?_
                        refine aw_iconst (v := nI 1) d_M_hit_135 (by decide) ?_
                        refine aw_icmp_neN (tgt := 182) d_M_hit_136 (by decide) (bN_le _) (by omega) (fun h8 => ?_) (fun h8 => ?_)
                        · have z : sHit n x y W J (hU (Xc n x y W J) n u1 v1) u1 j = 0 := sH_0 (hu_no hX hu1 hv1 h7 hS (Or.inl (bN_n1 h8)))
                          refine aw_iinc1 (lv' := [(8, .int (nI (j + 1))), (0, .ref (ad 40)), (1, .int (nI u1)), (2, .int (nI v1)), (3, .int (nI p1)), (4, .int (nI S)), (6, .long (lI (t : Int)))]) d_M_hit_182 rfl (by decide) rfl ?_
                          refine aw_goto (tgt := 119) d_M_hit_185 (by decide) ?_
                          refine aw_sub (lv' := [(0, .ref (ad 40)), (1, .int (nI u1)), (2, .int (nI v1)), (3, .int (nI p1)), (4, .int (nI S)), (6, .long (lI (t : Int))), (8, .int (nI (j + 1)))]) [1, 2, 3, 4, 5, 6, 0] rfl ?_
                          exact ih ws1 fo1 tw1 St1 t (j + 1) hM1 f1 (by omega) (by rw [sN_no z]; exact ht) (by omega)
                        · refine aw_iload d_M_hit_139 rfl ?_
                          refine aw_iload_n d_M_hit_141 rfl rfl ?_
                          refine aw_icmp_eqN (tgt := 182) d_M_hit_142 (by decide) (by omega) (by omega) (fun h9 => ?_) (fun h9 => ?_)
                          · have z : sHit n x y W J (hU (Xc n x y W J) n u1 v1) u1 j = 0 := sH_0 (hu_no hX hu1 hv1 h7 hS (Or.inr h9))
                            refine aw_iinc1 (lv' := [(8, .int (nI (j + 1))), (0, .ref (ad 40)), (1, .int (nI u1)), (2, .int (nI v1)), (3, .int (nI p1)), (4, .int (nI S)), (6, .long (lI (t : Int)))]) d_M_hit_182 rfl (by decide) rfl ?_
                            refine aw_goto (tgt := 119) d_M_hit_185 (by decide) ?_
                            refine aw_sub (lv' := [(0, .ref (ad 40)), (1, .int (nI u1)), (2, .int (nI v1)), (3, .int (nI p1)), (4, .int (nI S)), (6, .long (lI (t : Int))), (8, .int (nI (j + 1)))]) [1, 2, 3, 4, 5, 6, 0] rfl ?_
                            exact ih ws1 fo1 tw1 St1 t (j + 1) hM1 f1 (by omega) (by rw [sN_no z]; exact ht) (by omega)
                          · have hq : (hU (Xc n x y W J) n u1 v1).testBit j = true := (rcs_hU hX hu1 hv1 h7 hS).mpr ⟨bN_1.mp h8, h9⟩
                            refine aw_aload_n d_M_hit_145 rfl rfl ?_
                            refine aw_iload d_M_hit_146 rfl ?_
                            refine aw_iconst (v := nI 1) d_M_hit_148 (by decide) ?_
                            refine aw_iload_n d_M_hit_149 rfl rfl ?_
                            refine aw_ishl d_M_hit_150 ?_
                            refine aw_nmi (z := nI (2 ^ v1)) (sl_eq v1 (by omega)) ?_
                            refine aw_iconst (v := nI 1) d_M_hit_151 (by decide) ?_
                            refine aw_iload d_M_hit_152 rfl ?_
                            refine aw_ishl d_M_hit_154 ?_
                            refine aw_nmi (z := nI (2 ^ j)) (sl_eq j (by omega)) ?_
                            refine aw_iorN d_M_hit_155 ?_
                            refine aw_iload_n d_M_hit_156 rfl rfl ?_
                            refine aw_iconst (v := nI 1) d_M_hit_157 (by decide) ?_
                            refine aw_iload d_M_hit_158 rfl ?_
                            refine aw_ishl d_M_hit_160 ?_
                            refine aw_nmi (z := nI (2 ^ j)) (sl_eq j (by omega)) ?_
                            refine aw_callV (av := [.int (nI S), .int (nI ((2 ^ v1) ||| (2 ^ j))), .int (nI u1), .int (nI (2 ^ j))]) (rest := []) (m_M_count hg hM1 hok hR hS32 (or_32 hpv hpj) hu1 hS.2.2.1 hpj) kd_M_count k_537 k_539 ks_M_count rfl hM1.1 d_M_hit_161 rfl ⟨by decide, by decide⟩ (Nat.le_of_ble_eq_true rfl) ⟨by decide, by decide⟩ rfl (fun v7 ws7 hq7 => ?_)
                            obtain ⟨rfl, g7, St7, hM7⟩ := hq7
                            have f7 := f1.tr g7
                            have eU : an S (2 ^ v1 ||| 2 ^ j) = an (hU (Xc n x y W J) n u1 v1) (2 ^ j) := an_2 hX hu1 hv1 h7 hS hj2
                            refine aw_lload d_M_hit_164 rfl ?_
                            refine aw_aload_n d_M_hit_166 rfl rfl ?_
                            refine aw_get kc_6 11 (by decide) k_415 d_M_hit_167 hM7.1 rfl ?_
                            refine aw_nml (z := lI (Fg n x y W J (an (hU (Xc n x y W J) n u1 v1) (2 ^ j)) u1 (2 ^ j) : Int)) (by rw [eU, fs_ov (fun i k _ q hk h => rcs_ov hn hv1 hS ((rcs_hU hX hu1 hv1 h7 hS).mp ((an_tb hUl hpj).mp q).1).1 ((rcs_hU hX hu1 hv1 h7 hS).mp ((an_tb hUl hpj).mp q).1).2 hk h)]; rfl) ?_
                            refine aw_aload_n d_M_hit_170 rfl rfl ?_
                            refine aw_get kc_6 6 (by decide) k_410 d_M_hit_171 hM7.1 rfl ?_
                            refine aw_iload d_M_hit_174 rfl ?_
                            refine aw_ialdA d_M_hit_176 hM7.2.2.2.2.1 hg (by omega) (by decide) ?_
                            refine aw_nmi (z := nI (tt n x y W J j)) (by rw [(hR j hj2).2]) ?_
                            refine aw_i2lN d_M_hit_177 (by omega) ?_
                            refine aw_lmulI d_M_hit_178 ?_
                            refine aw_laddI d_M_hit_179 ?_
                            refine aw_nml (z := lI ((t + Fg n x y W J (an (hU (Xc n x y W J) n u1 v1) (2 ^ j)) u1 (2 ^ j) * tt n x y W J j : Nat) : Int)) (by rw [Int.natCast_add, Int.natCast_mul]) ?_
                            refine aw_lstore (lv' := [(6, .long (lI ((t + Fg n x y W J (an (hU (Xc n x y W J) n u1 v1) (2 ^ j)) u1 (2 ^ j) * tt n x y W J j : Nat) : Int))), (0, .ref (ad 40)), (1, .int (nI u1)), (2, .int (nI v1)), (3, .int (nI p1)), (4, .int (nI S)), (8, .int (nI j))]) d_M_hit_180 (by decide) rfl ?_
                            refine aw_iinc1 (lv' := [(8, .int (nI (j + 1))), (6, .long (lI ((t + Fg n x y W J (an (hU (Xc n x y W J) n u1 v1) (2 ^ j)) u1 (2 ^ j) * tt n x y W J j : Nat) : Int))), (0, .ref (ad 40)), (1, .int (nI u1)), (2, .int (nI v1)), (3, .int (nI p1)), (4, .int (nI S))]) d_M_hit_182 rfl (by decide) rfl ?_
                            refine aw_goto (tgt := 119) d_M_hit_185 (by decide) ?_
                            refine aw_sub (lv' := [(0, .ref (ad 40)), (1, .int (nI u1)), (2, .int (nI v1)), (3, .int (nI p1)), (4, .int (nI S)), (6, .long (lI ((t + Fg n x y W J (an (hU (Xc n x y W J) n u1 v1) (2 ^ j)) u1 (2 ^ j) * tt n x y W J j : Nat) : Int))), (8, .int (nI (j + 1)))]) [2, 3, 4, 5, 6, 1, 0] rfl ?_
                            exact ih ws7 _ _ St7 (t + Fg n x y W J (an (hU (Xc n x y W J) n u1 v1) (2 ^ j)) u1 (2 ^ j) * tt n x y W J j) (j + 1) hM7 f7 (by omega) (by rw [sN, ← ht, sH_1 hq]) (by omega)
                  refine aw_lconst (v := lI 0) d_M_hit_113 (by decide) ?_
                  refine aw_lstore (lv' := [(6, .long (lI 0)), (0, .ref (ad 40)), (1, .int (nI u1)), (2, .int (nI v1)), (3, .int (nI p1)), (4, .int (nI S)), (5, .int (bI c))]) d_M_hit_114 (by decide) rfl ?_
                  refine aw_iconst (v := nI 0) d_M_hit_116 (by decide) ?_
                  refine aw_istore (lv' := [(8, .int (nI 0)), (6, .long (lI 0)), (0, .ref (ad 40)), (1, .int (nI u1)), (2, .int (nI v1)), (3, .int (nI p1)), (4, .int (nI S)), (5, .int (bI c))]) d_M_hit_117 (by decide) rfl ?_
                  refine aw_sub (lv' := [(0, .ref (ad 40)), (1, .int (nI u1)), (2, .int (nI v1)), (3, .int (nI p1)), (4, .int (nI S)), (6, .long (lI (0 : Int))), (8, .int (nI 0))]) [2, 3, 4, 5, 6, 1, 0] rfl ?_
                  exact lW (n + 1) ws5 fo tw St 0 0 hM5 f5 (by omega) rfl (by omega)
                · refine aw_iload_n d_M_hit_110 rfl rfl ?_
                  refine aw_i2lN d_M_hit_111 (by omega) ?_
                  exact aw_lret d_M_hit_112 (Nat.le_refl 0) (Nat.le_refl 0) ⟨by unfold aHit; rw [if_pos ⟨h1, h2⟩, if_pos h3, ix_nI (show u1 < 2 ^ 31 by omega), ix_nI (show v1 < 2 ^ 31 by omega), ix_nI (show p1 < 2 ^ 31 by omega), if_pos h7, fr_01 hp1], f5, ⟨_, _, _, _, _, _, _, _, _, _, _, _, _, hM5, hok, hV⟩⟩
              · have hnall : ¬ ∀ k, k < n → S.testBit k = true → (Dc n x y W J k).testBit v1 = true := fun z => by rw [hc.mpr z] at h6; cases h6
                have h7 : u1 ≠ v1 := fun z => by subst z; exact hnall (fun k _ hk => by rw [rcs_v hS hk]; exact (Dc_ok hn).rf hv1)
                refine aw_ldc2 (v := (-3 : Int64)) d_M_hit_101 k_532 ?_
                exact aw_lret d_M_hit_104 (Nat.le_refl 0) (Nat.le_refl 0) ⟨by unfold aHit; rw [if_pos ⟨h1, h2⟩, if_pos h3, ix_nI (show u1 < 2 ^ 31 by omega), ix_nI (show v1 < 2 ^ 31 by omega), ix_nI (show p1 < 2 ^ 31 by omega), if_neg h7, if_neg (fun z => hnall ((sure_iff hn hu1 hv1 h7 hS).mpr z))], f5, ⟨_, _, _, _, _, _, _, _, _, _, _, _, _, hM5, hok, hV⟩⟩
            · refine aw_iload d_M_hit_58 rfl ?_
              refine aw_if_eqB (tgt := 87) d_M_hit_60 (by decide) (fun h6 => ?_) (fun h6 => ?_)
              · refine aw_iconst (v := nI 0) d_M_hit_87 (by decide) ?_
                refine aw_nmi (z := bI false) (by decide) ?_
                refine aw_istore (lv' := [(5, .int (bI false)), (0, .ref (ad 40)), (1, .int (nI u1)), (2, .int (nI v1)), (3, .int (nI p1)), (4, .int (nI S)), (6, .int (nI j))]) d_M_hit_88 (by decide) rfl ?_
                refine aw_iinc1 (lv' := [(6, .int (nI (j + 1))), (5, .int (bI false)), (0, .ref (ad 40)), (1, .int (nI u1)), (2, .int (nI v1)), (3, .int (nI p1)), (4, .int (nI S))]) d_M_hit_90 rfl (by decide) rfl ?_
                refine aw_goto (tgt := 49) d_M_hit_93 (by decide) ?_
                refine aw_sub (lv' := [(0, .ref (ad 40)), (1, .int (nI u1)), (2, .int (nI v1)), (3, .int (nI p1)), (4, .int (nI S)), (5, .int (bI false)), (6, .int (nI (j + 1)))]) [2, 3, 4, 5, 6, 1, 0] rfl ?_
                exact ih (j + 1) false (by omega) (su_f hc h6) (by omega)
              · refine aw_iload d_M_hit_63 rfl ?_
                refine aw_iload d_M_hit_65 rfl ?_
                refine aw_ishr d_M_hit_67 ?_
                refine aw_iconst (v := nI 1) d_M_hit_68 (by decide) ?_
                refine aw_iand d_M_hit_69 ?_
                refine aw_nmi (z := nI (bN (S.testBit j))) (bt_eq S hS32 j (by omega)) ?_
                refine aw_if_eqN (tgt := 83) d_M_hit_70 (by decide) (bN_le _) (fun h7 => ?_) (fun h7 => ?_)
                · refine aw_iconst (v := nI 1) d_M_hit_83 (by decide) ?_
                  refine aw_goto (tgt := 88) d_M_hit_84 (by decide) ?_
                  refine aw_nmi (z := bI true) (by decide) ?_
                  refine aw_istore (lv' := [(5, .int (bI true)), (0, .ref (ad 40)), (1, .int (nI u1)), (2, .int (nI v1)), (3, .int (nI p1)), (4, .int (nI S)), (6, .int (nI j))]) d_M_hit_88 (by decide) rfl ?_
                  refine aw_iinc1 (lv' := [(6, .int (nI (j + 1))), (5, .int (bI true)), (0, .ref (ad 40)), (1, .int (nI u1)), (2, .int (nI v1)), (3, .int (nI p1)), (4, .int (nI S))]) d_M_hit_90 rfl (by decide) rfl ?_
                  refine aw_goto (tgt := 49) d_M_hit_93 (by decide) ?_
                  refine aw_sub (lv' := [(0, .ref (ad 40)), (1, .int (nI u1)), (2, .int (nI v1)), (3, .int (nI p1)), (4, .int (nI S)), (5, .int (bI true)), (6, .int (nI (j + 1)))]) [2, 3, 4, 5, 6, 1, 0] rfl ?_
                  exact ih (j + 1) true (by omega) (su_t hc h6 (fun z => by rw [bN_0 h7] at z; cases z)) (by omega)
                · refine aw_aload_n d_M_hit_73 rfl rfl ?_
                  refine aw_iload d_M_hit_74 rfl ?_
                  refine aw_iload_n d_M_hit_76 rfl rfl ?_
                  refine aw_callV (av := [.int (nI j), .int (nI v1)]) (rest := []) (m_M_leads hg hM5 hok hR hj hv1) kd_M_leads k_511 k_513 ks_M_leads rfl hM5.1 d_M_hit_77 rfl ⟨by decide, by decide⟩ (Nat.le_of_ble_eq_true rfl) ⟨by decide, by decide⟩ rfl (fun v7 ws7 hq7 => ?_)
                  obtain ⟨rfl, rfl⟩ := hq7
                  refine aw_if_eqB (tgt := 87) d_M_hit_80 (by decide) (fun h8 => ?_) (fun h8 => ?_)
                  · refine aw_iconst (v := nI 0) d_M_hit_87 (by decide) ?_
                    refine aw_nmi (z := bI false) (by decide) ?_
                    refine aw_istore (lv' := [(5, .int (bI false)), (0, .ref (ad 40)), (1, .int (nI u1)), (2, .int (nI v1)), (3, .int (nI p1)), (4, .int (nI S)), (6, .int (nI j))]) d_M_hit_88 (by decide) rfl ?_
                    refine aw_iinc1 (lv' := [(6, .int (nI (j + 1))), (5, .int (bI false)), (0, .ref (ad 40)), (1, .int (nI u1)), (2, .int (nI v1)), (3, .int (nI p1)), (4, .int (nI S))]) d_M_hit_90 rfl (by decide) rfl ?_
                    refine aw_goto (tgt := 49) d_M_hit_93 (by decide) ?_
                    refine aw_sub (lv' := [(0, .ref (ad 40)), (1, .int (nI u1)), (2, .int (nI v1)), (3, .int (nI p1)), (4, .int (nI S)), (5, .int (bI false)), (6, .int (nI (j + 1)))]) [2, 3, 4, 5, 6, 1, 0] rfl ?_
                    exact ih (j + 1) false (by omega) (su_n (bN_n0 h7) h8) (by omega)
                  · refine aw_iconst (v := nI 1) d_M_hit_83 (by decide) ?_
                    refine aw_goto (tgt := 88) d_M_hit_84 (by decide) ?_
                    refine aw_nmi (z := bI true) (by decide) ?_
                    refine aw_istore (lv' := [(5, .int (bI true)), (0, .ref (ad 40)), (1, .int (nI u1)), (2, .int (nI v1)), (3, .int (nI p1)), (4, .int (nI S)), (6, .int (nI j))]) d_M_hit_88 (by decide) rfl ?_
                    refine aw_iinc1 (lv' := [(6, .int (nI (j + 1))), (5, .int (bI true)), (0, .ref (ad 40)), (1, .int (nI u1)), (2, .int (nI v1)), (3, .int (nI p1)), (4, .int (nI S))]) d_M_hit_90 rfl (by decide) rfl ?_
                    refine aw_goto (tgt := 49) d_M_hit_93 (by decide) ?_
                    refine aw_sub (lv' := [(0, .ref (ad 40)), (1, .int (nI u1)), (2, .int (nI v1)), (3, .int (nI p1)), (4, .int (nI S)), (5, .int (bI true)), (6, .int (nI (j + 1)))]) [2, 3, 4, 5, 6, 1, 0] rfl ?_
                    exact ih (j + 1) true (by omega) (su_t hc h6 (fun _ => h8)) (by omega)
        refine aw_istore (lv' := [(4, .int (nI S)), (0, .ref (ad 40)), (1, .int (nI u1)), (2, .int (nI v1)), (3, .int (nI p1))]) d_M_hit_41 (by decide) rfl ?_
        refine aw_iconst (v := nI 1) d_M_hit_43 (by decide) ?_
        refine aw_nmi (z := bI true) (by decide) ?_
        refine aw_istore (lv' := [(5, .int (bI true)), (4, .int (nI S)), (0, .ref (ad 40)), (1, .int (nI u1)), (2, .int (nI v1)), (3, .int (nI p1))]) d_M_hit_44 (by decide) rfl ?_
        refine aw_iconst (v := nI 0) d_M_hit_46 (by decide) ?_
        refine aw_istore (lv' := [(6, .int (nI 0)), (5, .int (bI true)), (4, .int (nI S)), (0, .ref (ad 40)), (1, .int (nI u1)), (2, .int (nI v1)), (3, .int (nI p1))]) d_M_hit_47 (by decide) rfl ?_
        refine aw_sub (lv' := [(0, .ref (ad 40)), (1, .int (nI u1)), (2, .int (nI v1)), (3, .int (nI p1)), (4, .int (nI S)), (5, .int (bI true)), (6, .int (nI 0))]) [3, 4, 5, 6, 2, 1, 0] rfl ?_
        exact lS (n + 1) 0 true (by omega) ⟨fun _ _ z => absurd z (by omega), fun _ => rfl⟩ (by omega)
      · refine aw_ldc2 (v := (-2 : Int64)) d_M_hit_27 k_531 ?_
        exact aw_lret d_M_hit_30 (Nat.le_refl 0) (Nat.le_refl 0) ⟨by unfold aHit; rw [if_pos ⟨h1, h2⟩, if_neg (by rw [h3]; decide)], fr.rf, hO⟩
    · refine aw_ldc2 (v := (-1 : Int64)) d_M_hit_16 k_527 ?_
      exact aw_lret d_M_hit_19 (Nat.le_refl 0) (Nat.le_refl 0) ⟨by unfold aHit; rw [if_neg (by simp [h2])], fr.rf, hO⟩
