-- laid by wip/whole/m3.py
def q_addNode (g : aw_G) (ad : Nat → Nat) (ws : va_W) (n x y : Nat) (W : Nat → Nat → Nat) (J : Nat → Nat) : Option Value → va_W → Prop := fun v ws' => v = some (.int (nI n)) ∧ fr 1 9 ws ws' ∧ ∃ W' : Nat → Nat → Nat, gG g ws' ad (n + 1) x y W' (fup J n 1) ∧ ∀ i j, W' i j = if (i = n ∧ j ≤ n) ∨ (j = n ∧ i ≤ n) then 0 else W i j

set_option maxHeartbeats 4000000 in
set_option maxRecDepth 100000 in
theorem m_G_addNode {g : aw_G} (hg : aw_T g) {ws : va_W} {ad : Nat → Nat} {n x y : Nat} {W : Nat → Nat → Nat} {J : Nat → Nat} (hG : gG g ws ad n x y W J) (hn : n < 5) : AMet g y_G_addNode c_G_addNode 3 (some .int) 0 [.ref (ad 1)] ws (q_addNode g ad ws n x y W J) 0 0 := by
  refine amet_of (by decide +kernel) (Nat.le_of_ble_eq_true rfl) ?_
  refine aw_sub (lv' := [(0, .ref (ad 1))]) [0] rfl ?_
  refine aw_aload_n d_G_addNode_0 rfl rfl ?_
  refine aw_get kc_1 0 (by decide) k_24 d_G_addNode_1 hG.1 rfl ?_
  refine aw_istore_n (lv' := [(1, .int (nI n)), (0, .ref (ad 1))]) d_G_addNode_4 rfl (by decide) rfl ?_
  refine aw_iconst (v := nI 0) d_G_addNode_5 (by decide) ?_
  refine aw_istore_n (lv' := [(2, .int (nI 0)), (1, .int (nI n)), (0, .ref (ad 1))]) d_G_addNode_6 rfl (by decide) rfl ?_
  have lp : ∀ (k : Nat) (ws1 : va_W) (W1 : Nat → Nat → Nat) (v : Nat), gG g ws1 ad n x y W1 J → fr 1 9 ws ws1 → v ≤ n + 1 → (∀ i j, W1 i j = if (i = n ∧ j < v) ∨ (j = n ∧ i < v) then 0 else W i j) → n + 1 - v < k → AW g y_G_addNode c_G_addNode 3 (some .int) (aw_rm 0 0 0) aw_E0 (aw_F g (q_addNode g ad ws n x y W J) 0 0) 0 0 7 [(0, .ref (ad 1)), (1, .int (nI n)), (2, .int (nI v))] [] ws1 := by
    intro k
    induction k with
    | zero => intro ws1 W1 v hG1 hf hv hW hk; omega
    | succ k ih =>
      intro ws1 W1 v hG1 hf hv hW hk
      refine aw_iload_n d_G_addNode_7 rfl rfl ?_
      refine aw_iload_n d_G_addNode_8 rfl rfl ?_
      refine aw_icmp_gtN (tgt := 36) d_G_addNode_9 (by decide) (by omega) (by omega) (fun h => ?_) (fun h => ?_)
      · have e : v = n + 1 := by omega
        subst e
        refine aw_aload_n d_G_addNode_36 rfl rfl ?_
        refine aw_get kc_1 4 (by decide) k_38 d_G_addNode_37 hG1.1 rfl ?_
        refine aw_iload_n d_G_addNode_40 rfl rfl ?_
        refine aw_iconst (v := nI 1) d_G_addNode_41 (by decide) ?_
        refine aw_iastA d_G_addNode_42 hG1.2.2.2 hg (by omega) (by decide) (fun ws1 a2 b3 c4 => ?_)
        have hG2 := hG1.putJ a2 b3
        have hf2 := hf.tr (fr.one (lo := 1) (hi := 9) b3 c4 (by omega) (by omega))
        refine aw_aload_n d_G_addNode_43 rfl rfl ?_
        refine aw_dup d_G_addNode_44 rfl ?_
        refine aw_get kc_1 0 (by decide) k_24 d_G_addNode_45 ((b3 1 (by omega)).trans hG1.1) rfl ?_
        refine aw_iconst (v := nI 1) d_G_addNode_48 (by decide) ?_
        refine aw_iaddN d_G_addNode_49 ?_
        refine aw_putN kc_1 0 (by decide) k_24 d_G_addNode_50 ((b3 1 (by omega)).trans hG1.1) rfl rfl rfl (Nat.le_of_ble_eq_true rfl) (fun ws5 a6 b7 c8 => ?_)
        have f9 : ws5[1]? = some (ad 1, .inr (1, [.int (nI (n + 1)), .int (nI x), .int (nI y), .ref (ad 2), .ref (ad 8)])) := a6
        have hG3 := hG2.putO (n' := n + 1) (x' := x) (y' := y) a6 b7
        have hf3 := hf2.tr (fr.one (lo := 1) (hi := 9) b7 c8 (by omega) (by omega))
        refine aw_iload_n d_G_addNode_53 rfl rfl ?_
        exact aw_iret d_G_addNode_54 (Nat.le_refl 0) (Nat.le_refl 0) ⟨rfl, hf3, W1, hG3, fun i j => by rw [hW i j]; congr 1; exact propext (by omega)⟩
      · refine aw_aload_n d_G_addNode_12 rfl rfl ?_
        refine aw_get kc_1 3 (by decide) k_34 d_G_addNode_13 hG1.1 rfl ?_
        refine aw_iload_n d_G_addNode_16 rfl rfl ?_
        refine aw_aaldI d_G_addNode_17 hG1.2.1 hg (by omega) ?_
        refine aw_iload_n d_G_addNode_18 rfl rfl ?_
        refine aw_iconst (v := nI 0) d_G_addNode_19 (by decide) ?_
        refine aw_iastA d_G_addNode_20 (hG1.2.2.1 n (by omega)) hg (by omega) (by decide) (fun ws10 a11 b12 c13 => ?_)
        have F14 := fam_putI (lo := 3) hG1.2.2.1 a11 b12
        have hG2 := hG1.putW (by omega) a11 b12
        have hf2 := hf.tr (fr.one (lo := 1) (hi := 9) b12 c13 (by omega) (by omega))
        refine aw_aload_n d_G_addNode_21 rfl rfl ?_
        refine aw_get kc_1 3 (by decide) k_34 d_G_addNode_22 ((b12 1 (by omega)).trans hG1.1) rfl ?_
        refine aw_iload_n d_G_addNode_25 rfl rfl ?_
        refine aw_aaldI d_G_addNode_26 ((b12 2 (by omega)).trans hG1.2.1) hg (by omega) ?_
        refine aw_iload_n d_G_addNode_27 rfl rfl ?_
        refine aw_iconst (v := nI 0) d_G_addNode_28 (by decide) ?_
        refine aw_iastA d_G_addNode_29 (F14 v (by omega)) hg (by omega) (by decide) (fun ws15 a16 b17 c18 => ?_)
        have F19 := fam_putI (lo := 3) F14 a16 b17
        have hG3 := hG2.putW (by omega) a16 b17
        have hf3 := hf2.tr (fr.one (lo := 1) (hi := 9) b17 c18 (by omega) (by omega))
        refine aw_iinc1 (lv' := [(2, .int (nI (v + 1))), (0, .ref (ad 1)), (1, .int (nI n))]) d_G_addNode_30 rfl (by decide) rfl ?_
        refine aw_goto (tgt := 7) d_G_addNode_33 (by decide) ?_
        refine aw_sub (lv' := [(0, .ref (ad 1)), (1, .int (nI n)), (2, .int (nI (v + 1)))]) [1, 2, 0] rfl ?_
        exact ih _ _ (v + 1) hG3 hf3 (by omega) (fun i j => by unfold fup2; rw [hW i j]; (repeat' split) <;> first | rfl | omega) (by omega)
  refine aw_sub (lv' := [(0, .ref (ad 1)), (1, .int (nI n)), (2, .int (nI 0))]) [2, 1, 0] rfl ?_
  exact lp (n + 2) ws W 0 hG fr.rf (by omega) (fun i j => by rw [if_neg (by omega)]) (by omega)

def q_row (g : aw_G) (ad : Nat → Nat) (ws : va_W) (n : Nat) (P : Nat → Nat → Nat) (T X : Nat → Nat) (u : Nat) (f : Nat → Nat) : Option Value → va_W → Prop := fun v ws' => v = none ∧ fr 9 18 ws ws' ∧ ∃ P' : Nat → Nat → Nat, gS g ws' ad n P' T X ∧ (∀ v, v < n → P' u v = f v) ∧ ∀ i, i ≠ u → ∀ j, P' i j = P i j
theorem raw_1 {n x y : Nat} {W : Nat → Nat → Nat} {J : Nat → Nat} {u v bw bj : Nat} (h : (0 < sN (W u) n ∧ 0 < sN J n ∧ bw = x * sN J n ∧ bj = (y - x) * sN (W u) n) ∨ (0 < sN (W u) n ∧ sN J n = 0 ∧ bw = 1 ∧ bj = 0) ∨ (sN (W u) n = 0 ∧ bw = 0 ∧ bj = 1)) (hz : ¬ (sN (W u) n = 0 ∧ sN J n = 0)) : bw * W u v + bj * J v = raw n x y W J u v := by
  unfold raw
  rcases h with ⟨h1, h2, rfl, rfl⟩ | ⟨h1, h2, rfl, rfl⟩ | ⟨h1, rfl, rfl⟩
  · rw [if_pos h1, if_pos h2]
  · rw [if_pos h1, if_neg (by omega)]; omega
  · rw [if_neg (by omega), if_pos (by omega)]; omega
theorem raw_0 {n x y : Nat} {W : Nat → Nat → Nat} {J : Nat → Nat} {u v : Nat} (hz : sN (W u) n = 0 ∧ sN J n = 0) : raw n x y W J u v = if u = v then 1 else 0 := by
  unfold raw
  rw [if_neg (by omega), if_neg (by omega)]

set_option maxHeartbeats 4000000 in
set_option maxRecDepth 100000 in
theorem m_S_fillParts {g : aw_G} (hg : aw_T g) {ws : va_W} {ad : Nat → Nat} {n x y u : Nat} {W P : Nat → Nat → Nat} {J T X : Nat → Nat} (hG : gG g ws ad n x y W J) (hS : gS g ws ad n P T X) (hok : okG n x y W J) (hu : u < n) : AMet g y_S_fillParts c_S_fillParts 8 none 1 [.ref (ad 9), .ref (ad 1), .int (nI u), .int (nI (sN J n))] ws (q_row g ad ws n P T X u (raw n x y W J u)) 0 0 := by
  have hn := hok.1
  have hxy := hok.2.1
  have ho := sN_le (f := W u) (b := 2) (n := n) (fun i hi => hok.2.2.2.2.1 u i (by omega) (by omega))
  have ha := sN_le (f := J) (b := 2) (n := n) (fun i hi => hok.2.2.2.2.2 i (by omega))
  refine amet_of (by decide +kernel) (Nat.le_of_ble_eq_true rfl) ?_
  refine aw_sub (lv' := [(0, .ref (ad 9)), (1, .ref (ad 1)), (2, .int (nI u)), (3, .int (nI (sN J n)))]) [0, 1, 2, 3] rfl ?_
  have lp : ∀ (k : Nat) (ws1 : va_W) (P1 : Nat → Nat → Nat) (bw bj v : Nat), gG g ws1 ad n x y W J → gS g ws1 ad n P1 T X → fr 9 18 ws ws1 → v ≤ n → ((0 < sN (W u) n ∧ 0 < sN J n ∧ bw = x * sN J n ∧ bj = (y - x) * sN (W u) n) ∨ (0 < sN (W u) n ∧ sN J n = 0 ∧ bw = 1 ∧ bj = 0) ∨ (sN (W u) n = 0 ∧ bw = 0 ∧ bj = 1)) → (∀ i, i < v → P1 u i = bw * W u i + bj * J i) → (∀ i, i ≠ u → ∀ j, P1 i j = P i j) → n - v < k → AW g y_S_fillParts c_S_fillParts 8 none (aw_rm 1 0 0) aw_E0 (aw_F g (q_row g ad ws n P T X u (raw n x y W J u)) 0 0) 0 0 65 [(0, .ref (ad 9)), (1, .ref (ad 1)), (2, .int (nI u)), (3, .int (nI (sN J n))), (4, .int (nI (sN (W u) n))), (5, .int (nI bw)), (6, .int (nI bj)), (7, .int (nI v))] [] ws1 := by
    intro k
    induction k with
    | zero => intro ws1 P1 bw bj v hG1 hS1 hf hv hb hr ht hk; omega
    | succ k ih =>
      intro ws1 P1 bw bj v hG1 hS1 hf hv hb hr ht hk
      refine aw_iload d_S_fillParts_65 rfl ?_
      refine aw_aload_n d_S_fillParts_67 rfl rfl ?_
      refine aw_get kc_2 0 (by decide) k_60 d_S_fillParts_68 hS1.1 rfl ?_
      refine aw_icmp_geN (tgt := 112) d_S_fillParts_71 (by decide) (by omega) (by omega) (fun h => ?_) (fun h => ?_)
      · have e : v = n := by omega
        subst e
        refine aw_iload d_S_fillParts_112 rfl ?_
        refine aw_if_neN (tgt := 130) d_S_fillParts_114 (by decide) (by omega) (fun h2 => ?_) (fun h2 => ?_)
        · exact aw_vret d_S_fillParts_130 (Nat.le_refl 0) (Nat.le_refl 0) ⟨rfl, hf, P1, hS1, fun i hi => (hr i hi).trans (raw_1 hb (by omega)), ht⟩
        · refine aw_iload_n d_S_fillParts_117 rfl rfl ?_
          refine aw_if_neN (tgt := 130) d_S_fillParts_118 (by decide) (by omega) (fun h3 => ?_) (fun h3 => ?_)
          · exact aw_vret d_S_fillParts_130 (Nat.le_refl 0) (Nat.le_refl 0) ⟨rfl, hf, P1, hS1, fun i hi => (hr i hi).trans (raw_1 hb (by omega)), ht⟩
          · refine aw_aload_n d_S_fillParts_121 rfl rfl ?_
            refine aw_get kc_2 1 (by decide) k_64 d_S_fillParts_122 hS1.1 rfl ?_
            refine aw_iload_n d_S_fillParts_125 rfl rfl ?_
            refine aw_aaldI d_S_fillParts_126 hS1.2.1 hg (by omega) ?_
            refine aw_iload_n d_S_fillParts_127 rfl rfl ?_
            refine aw_iconst (v := nI 1) d_S_fillParts_128 (by decide) ?_
            refine aw_iastA d_S_fillParts_129 (hS1.2.2.1 u (by omega)) hg (by omega) (by decide) (fun ws1 a2 b3 c4 => ?_)
            have F5 := fam_putI (lo := 11) hS1.2.2.1 a2 b3
            have hS2 := hS1.putP (by omega) a2 b3
            have hf2 := hf.tr (fr.one (lo := 9) (hi := 18) b3 c4 (by omega) (by omega))
            have hz := sN_zero h3
            exact aw_vret d_S_fillParts_130 (Nat.le_refl 0) (Nat.le_refl 0) ⟨rfl, hf2, _, hS2, fun i hi => by
            rw [raw_0 ⟨h2, h3⟩]
            unfold fup2
            by_cases e : i = u
            · rw [if_pos ⟨rfl, e⟩, if_pos e.symm]
            · rw [if_neg (fun q => e q.2), if_neg (fun q => e q.symm), hr i hi, hz i hi]
              rcases hb with hb | hb | hb
              · omega
              · omega
              · rw [hb.2.1, hb.2.2]; omega, fun i hi j => by rw [fup2_ne _ _ hi]; exact ht i hi j⟩
      · refine aw_aload_n d_S_fillParts_74 rfl rfl ?_
        refine aw_get kc_2 1 (by decide) k_64 d_S_fillParts_75 hS1.1 rfl ?_
        refine aw_iload_n d_S_fillParts_78 rfl rfl ?_
        refine aw_aaldI d_S_fillParts_79 hS1.2.1 hg (by omega) ?_
        refine aw_iload d_S_fillParts_80 rfl ?_
        refine aw_iload d_S_fillParts_82 rfl ?_
        refine aw_aload_n d_S_fillParts_84 rfl rfl ?_
        refine aw_get kc_1 3 (by decide) k_37 d_S_fillParts_85 hG1.1 rfl ?_
        refine aw_iload_n d_S_fillParts_88 rfl rfl ?_
        refine aw_aaldI d_S_fillParts_89 hG1.2.1 hg (by omega) ?_
        refine aw_iload d_S_fillParts_90 rfl ?_
        refine aw_ialdA d_S_fillParts_92 (hG1.2.2.1 u (by omega)) hg (by omega) (by decide) ?_
        refine aw_imulN d_S_fillParts_93 ?_
        refine aw_iload d_S_fillParts_94 rfl ?_
        refine aw_aload_n d_S_fillParts_96 rfl rfl ?_
        refine aw_get kc_1 4 (by decide) k_39 d_S_fillParts_97 hG1.1 rfl ?_
        refine aw_iload d_S_fillParts_100 rfl ?_
        refine aw_ialdA d_S_fillParts_102 hG1.2.2.2 hg (by omega) (by decide) ?_
        refine aw_imulN d_S_fillParts_103 ?_
        refine aw_iaddN d_S_fillParts_104 ?_
        refine aw_iastA d_S_fillParts_105 (hS1.2.2.1 u (by omega)) hg (by omega) (by decide) (fun ws6 a7 b8 c9 => ?_)
        have F10 := fam_putI (lo := 11) hS1.2.2.1 a7 b8
        have hS2 := hS1.putP (by omega) a7 b8
        have f2 := fr.one (lo := 9) (hi := 18) b8 c9 (by omega) (by omega)
        have hG2 := hG1.kept f2 (by omega)
        refine aw_iinc1 (lv' := [(7, .int (nI (v + 1))), (0, .ref (ad 9)), (1, .ref (ad 1)), (2, .int (nI u)), (3, .int (nI (sN J n))), (4, .int (nI (sN (W u) n))), (5, .int (nI bw)), (6, .int (nI bj))]) d_S_fillParts_106 rfl (by decide) rfl ?_
        refine aw_goto (tgt := 65) d_S_fillParts_109 (by decide) ?_
        refine aw_sub (lv' := [(0, .ref (ad 9)), (1, .ref (ad 1)), (2, .int (nI u)), (3, .int (nI (sN J n))), (4, .int (nI (sN (W u) n))), (5, .int (nI bw)), (6, .int (nI bj)), (7, .int (nI (v + 1)))]) [1, 2, 3, 4, 5, 6, 7, 0] rfl ?_
        exact ih _ _ bw bj (v + 1) hG2 hS2 (hf.tr f2) (by omega) hb (fun i hi => by
          unfold fup2
          by_cases e : i = v
          · rw [if_pos ⟨rfl, e⟩, e]
          · rw [if_neg (fun q => e q.2)]; exact hr i (by omega)) (fun i hi j => by rw [fup2_ne _ _ hi]; exact ht i hi j) (by omega)
  refine aw_aload_n d_S_fillParts_0 rfl rfl ?_
  refine aw_iload_n d_S_fillParts_1 rfl rfl ?_
  refine aw_callV (av := [.int (nI u)]) (rest := []) (m_G_outOf hg hG hn (by omega)) kd_G_outOf k_190 k_191 ks_G_outOf rfl hG.1 d_S_fillParts_2 rfl ⟨by decide, by decide⟩ (Nat.le_of_ble_eq_true rfl) ⟨by decide, by decide⟩ rfl (fun v ws2 hq => ?_)
  obtain ⟨rfl, rfl⟩ := hq
  refine aw_istore (lv' := [(4, .int (nI (sN (W u) n))), (0, .ref (ad 9)), (1, .ref (ad 1)), (2, .int (nI u)), (3, .int (nI (sN J n)))]) d_S_fillParts_5 (by decide) rfl ?_
  refine aw_iload d_S_fillParts_7 rfl ?_
  refine aw_if_leN (tgt := 16) d_S_fillParts_9 (by decide) (by omega) (fun h => ?_) (fun h => ?_)
  · refine aw_iconst (v := nI 0) d_S_fillParts_16 (by decide) ?_
    refine aw_istore (lv' := [(5, .int (nI 0)), (4, .int (nI (sN (W u) n))), (0, .ref (ad 9)), (1, .ref (ad 1)), (2, .int (nI u)), (3, .int (nI (sN J n)))]) d_S_fillParts_17 (by decide) rfl ?_
    refine aw_iload d_S_fillParts_19 rfl ?_
    refine aw_if_leN (tgt := 28) d_S_fillParts_21 (by decide) (by omega) (fun h2 => ?_) (fun h2 => absurd h2 (by omega))
    refine aw_iconst (v := nI 1) d_S_fillParts_28 (by decide) ?_
    refine aw_istore (lv' := [(6, .int (nI 1)), (5, .int (nI 0)), (4, .int (nI (sN (W u) n))), (0, .ref (ad 9)), (1, .ref (ad 1)), (2, .int (nI u)), (3, .int (nI (sN J n)))]) d_S_fillParts_29 (by decide) rfl ?_
    refine aw_iload d_S_fillParts_31 rfl ?_
    refine aw_if_leN (tgt := 62) d_S_fillParts_33 (by decide) (by omega) (fun h2 => ?_) (fun h2 => absurd h2 (by omega))
    refine aw_iconst (v := nI 0) d_S_fillParts_62 (by decide) ?_
    refine aw_istore (lv' := [(7, .int (nI 0)), (6, .int (nI 1)), (5, .int (nI 0)), (4, .int (nI (sN (W u) n))), (0, .ref (ad 9)), (1, .ref (ad 1)), (2, .int (nI u)), (3, .int (nI (sN J n)))]) d_S_fillParts_63 (by decide) rfl ?_
    refine aw_sub (lv' := [(0, .ref (ad 9)), (1, .ref (ad 1)), (2, .int (nI u)), (3, .int (nI (sN J n))), (4, .int (nI (sN (W u) n))), (5, .int (nI 0)), (6, .int (nI 1)), (7, .int (nI 0))]) [4, 5, 6, 7, 3, 2, 1, 0] rfl ?_
    exact lp (n + 1) ws P 0 1 0 hG hS fr.rf (by omega) (Or.inr (Or.inr ⟨h, rfl, rfl⟩)) (fun i hi => absurd hi (by omega)) (fun _ _ _ => rfl) (by omega)
  · refine aw_iconst (v := nI 1) d_S_fillParts_12 (by decide) ?_
    refine aw_goto (tgt := 17) d_S_fillParts_13 (by decide) ?_
    refine aw_istore (lv' := [(5, .int (nI 1)), (4, .int (nI (sN (W u) n))), (0, .ref (ad 9)), (1, .ref (ad 1)), (2, .int (nI u)), (3, .int (nI (sN J n)))]) d_S_fillParts_17 (by decide) rfl ?_
    refine aw_iload d_S_fillParts_19 rfl ?_
    refine aw_if_leN (tgt := 28) d_S_fillParts_21 (by decide) (by omega) (fun h2 => absurd h2 (by omega)) (fun h2 => ?_)
    refine aw_iconst (v := nI 0) d_S_fillParts_24 (by decide) ?_
    refine aw_goto (tgt := 29) d_S_fillParts_25 (by decide) ?_
    refine aw_istore (lv' := [(6, .int (nI 0)), (5, .int (nI 1)), (4, .int (nI (sN (W u) n))), (0, .ref (ad 9)), (1, .ref (ad 1)), (2, .int (nI u)), (3, .int (nI (sN J n)))]) d_S_fillParts_29 (by decide) rfl ?_
    refine aw_iload d_S_fillParts_31 rfl ?_
    refine aw_if_leN (tgt := 62) d_S_fillParts_33 (by decide) (by omega) (fun h2 => absurd h2 (by omega)) (fun h2 => ?_)
    refine aw_iload_n d_S_fillParts_36 rfl rfl ?_
    refine aw_if_leN (tgt := 62) d_S_fillParts_37 (by decide) (by omega) (fun h2 => ?_) (fun h2 => ?_)
    · refine aw_iconst (v := nI 0) d_S_fillParts_62 (by decide) ?_
      refine aw_istore (lv' := [(7, .int (nI 0)), (6, .int (nI 0)), (5, .int (nI 1)), (4, .int (nI (sN (W u) n))), (0, .ref (ad 9)), (1, .ref (ad 1)), (2, .int (nI u)), (3, .int (nI (sN J n)))]) d_S_fillParts_63 (by decide) rfl ?_
      refine aw_sub (lv' := [(0, .ref (ad 9)), (1, .ref (ad 1)), (2, .int (nI u)), (3, .int (nI (sN J n))), (4, .int (nI (sN (W u) n))), (5, .int (nI 1)), (6, .int (nI 0)), (7, .int (nI 0))]) [4, 5, 6, 7, 3, 2, 1, 0] rfl ?_
      exact lp (n + 1) ws P 1 0 0 hG hS fr.rf (by omega) (Or.inr (Or.inl ⟨h, h2, rfl, rfl⟩)) (fun i hi => absurd hi (by omega)) (fun _ _ _ => rfl) (by omega)
    · refine aw_aload_n d_S_fillParts_40 rfl rfl ?_
      refine aw_get kc_1 1 (by decide) k_29 d_S_fillParts_41 hG.1 rfl ?_
      refine aw_iload_n d_S_fillParts_44 rfl rfl ?_
      refine aw_imulN d_S_fillParts_45 ?_
      refine aw_istore (lv' := [(5, .int (nI (x * (sN J n)))), (6, .int (nI 0)), (4, .int (nI (sN (W u) n))), (0, .ref (ad 9)), (1, .ref (ad 1)), (2, .int (nI u)), (3, .int (nI (sN J n)))]) d_S_fillParts_46 (by decide) rfl ?_
      refine aw_aload_n d_S_fillParts_48 rfl rfl ?_
      refine aw_get kc_1 2 (by decide) k_32 d_S_fillParts_49 hG.1 rfl ?_
      refine aw_aload_n d_S_fillParts_52 rfl rfl ?_
      refine aw_get kc_1 1 (by decide) k_29 d_S_fillParts_53 hG.1 rfl ?_
      refine aw_isubN d_S_fillParts_56 (by omega) ?_
      refine aw_iload d_S_fillParts_57 rfl ?_
      refine aw_imulN d_S_fillParts_59 ?_
      refine aw_istore (lv' := [(6, .int (nI ((y - x) * (sN (W u) n)))), (5, .int (nI (x * (sN J n)))), (4, .int (nI (sN (W u) n))), (0, .ref (ad 9)), (1, .ref (ad 1)), (2, .int (nI u)), (3, .int (nI (sN J n)))]) d_S_fillParts_60 (by decide) rfl ?_
      refine aw_iconst (v := nI 0) d_S_fillParts_62 (by decide) ?_
      refine aw_istore (lv' := [(7, .int (nI 0)), (6, .int (nI ((y - x) * (sN (W u) n)))), (5, .int (nI (x * (sN J n)))), (4, .int (nI (sN (W u) n))), (0, .ref (ad 9)), (1, .ref (ad 1)), (2, .int (nI u)), (3, .int (nI (sN J n)))]) d_S_fillParts_63 (by decide) rfl ?_
      refine aw_sub (lv' := [(0, .ref (ad 9)), (1, .ref (ad 1)), (2, .int (nI u)), (3, .int (nI (sN J n))), (4, .int (nI (sN (W u) n))), (5, .int (nI (x * sN J n))), (6, .int (nI ((y - x) * (sN (W u) n)))), (7, .int (nI 0))]) [4, 5, 6, 7, 3, 2, 1, 0] rfl ?_
      exact lp (n + 1) ws P (x * sN J n) ((y - x) * (sN (W u) n)) 0 hG hS fr.rf (by omega) (Or.inl ⟨h, h2, rfl, rfl⟩) (fun i hi => absurd hi (by omega)) (fun _ _ _ => rfl) (by omega)
