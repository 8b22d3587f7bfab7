-- laid by wip/whole/m6.py
def q_eq (g : aw_G) (ad : Nat → Nat) (ws : va_W) (n : Nat) (f : Nat → Nat → Int) : Option Value → va_W → Prop := fun r ws' => r = none ∧ fr 23 30 ws ws' ∧ ∃ Z : Nat → Nat → Int, gE g ws' ad n Z ∧ ∀ i j, i < n → j < n → Z i j = f i j

set_option maxHeartbeats 4000000 in
set_option maxRecDepth 100000 in
theorem m_E_fill {g : aw_G} (hg : aw_T g) {ws : va_W} {ad : Nat → Nat} {n n0 U : Nat} {P : Nat → Nat → Nat} {T X : Nat → Nat} {Z0 : Nat → Nat → Int} (hE : gE g ws ad n0 Z0) (hS : gS g ws ad n P T X) (hn : n ≤ 5) (hU : U < 32) (hb : ∀ i j, i < n → j < n → P i j ≤ 400 ∧ T i ≤ 400) : AMet g y_E_fill c_E_fill 10 none 2 [.ref (ad 23), .ref (ad 9), .int (nI U)] ws (q_eq g ad ws n (eqZ P T U)) 0 0 := by
  refine amet_of (by decide +kernel) (Nat.le_of_ble_eq_true rfl) ?_
  refine aw_sub (lv' := [(0, .ref (ad 23)), (1, .ref (ad 9)), (2, .int (nI U))]) [0, 1, 2] rfl ?_
  have lp : ∀ (k : Nat) (ws1 : va_W) (Z : Nat → Nat → Int) (u : Nat), gE g ws1 ad n Z → gS g ws1 ad n P T X → fr 23 30 ws ws1 → u ≤ n → (∀ i j, i < u → j < n → Z i j = eqZ P T U i j) → n - u < k → AW g y_E_fill c_E_fill 10 none (aw_rm 2 0 0) aw_E0 (aw_F g (q_eq g ad ws n (eqZ P T U)) 0 0) 0 0 10 [(0, .ref (ad 23)), (1, .ref (ad 9)), (2, .int (nI U)), (3, .int (nI u))] [] ws1 := by
    intro k
    induction k with
    | zero => intro ws1 Z u hE1 hS1 hf hu hr hk; omega
    | succ k ih =>
      intro ws1 Z u hE1 hS1 hf hu hr hk
      have ihu := ih
      refine aw_iload_n d_E_fill_10 rfl rfl ?_
      refine aw_aload_n d_E_fill_11 rfl rfl ?_
      refine aw_get kc_4 0 (by decide) k_119 d_E_fill_12 hE1.1 rfl ?_
      refine aw_icmp_geN (tgt := 129) d_E_fill_15 (by decide) (by omega) (by omega) (fun h => ?_) (fun h => ?_)
      · have e : n = u := by omega
        subst e
        exact aw_vret d_E_fill_129 (Nat.le_refl 0) (Nat.le_refl 0) ⟨rfl, hf, Z, hE1, hr⟩
      · refine aw_iconst (v := nI 0) d_E_fill_18 (by decide) ?_
        refine aw_istore (lv' := [(4, .int (nI 0)), (0, .ref (ad 23)), (1, .ref (ad 9)), (2, .int (nI U)), (3, .int (nI u))]) d_E_fill_19 (by decide) rfl ?_
        have lq : ∀ (k : Nat) (ws2 : va_W) (Y : Nat → Nat → Int) (v : Nat), gE g ws2 ad n Y → gS g ws2 ad n P T X → fr 23 30 ws ws2 → v ≤ n → (∀ i j, (i < u ∧ j < n) ∨ (i = u ∧ j < v) → Y i j = eqZ P T U i j) → n - v < k → AW g y_E_fill c_E_fill 10 none (aw_rm 2 0 0) aw_E0 (aw_F g (q_eq g ad ws n (eqZ P T U)) 0 0) 0 0 21 [(0, .ref (ad 23)), (1, .ref (ad 9)), (2, .int (nI U)), (3, .int (nI u)), (4, .int (nI v))] [] ws2 := by
          intro k
          induction k with
          | zero => intro ws2 Y v hE2 hS2 hf2 hv hr2 hk2; omega
          | succ k ih =>
            intro ws2 Y v hE2 hS2 hf2 hv hr2 hk2
            refine aw_iload d_E_fill_21 rfl ?_
            refine aw_aload_n d_E_fill_23 rfl rfl ?_
            refine aw_get kc_4 0 (by decide) k_119 d_E_fill_24 hE2.1 rfl ?_
            refine aw_icmp_geN (tgt := 123) d_E_fill_27 (by decide) (by omega) (by omega) (fun h1 => ?_) (fun h1 => ?_)
            · refine aw_iinc1 (lv' := [(3, .int (nI (u + 1))), (0, .ref (ad 23)), (1, .ref (ad 9)), (2, .int (nI U)), (4, .int (nI v))]) d_E_fill_123 rfl (by decide) rfl ?_
              refine aw_goto (tgt := 10) d_E_fill_126 (by decide) ?_
              refine aw_sub (lv' := [(0, .ref (ad 23)), (1, .ref (ad 9)), (2, .int (nI U)), (3, .int (nI (u + 1)))]) [1, 2, 3, 0] rfl ?_
              exact ihu ws2 Y (u + 1) hE2 hS2 hf2 (by omega) (fun i j hi hj => hr2 i j (by omega)) (by omega)
            · have hb1 := hb u v h h1
              refine aw_iload_n d_E_fill_30 rfl rfl ?_
              refine aw_iload_n d_E_fill_31 rfl rfl ?_
              refine aw_callSN (av := [.int (nI U), .int (nI u)]) (rest := []) (m_W_has (ad := ad) hg hU (by omega)) kd_W_has k_305 k_221  d_E_fill_32 rfl ⟨by decide, by decide⟩ (Nat.le_of_ble_eq_true rfl) ⟨by decide, by decide⟩ rfl (fun v3 ws3 hq3 => ?_)
              obtain ⟨rfl, rfl⟩ := hq3
              refine aw_if_eqB (tgt := 51) d_E_fill_35 (by decide) (fun h2 => ?_) (fun h2 => ?_)
              · refine aw_iconst (v := nI 0) d_E_fill_51 (by decide) ?_
                refine aw_istore (lv' := [(5, .int (nI 0)), (0, .ref (ad 23)), (1, .ref (ad 9)), (2, .int (nI U)), (3, .int (nI u)), (4, .int (nI v))]) d_E_fill_52 (by decide) rfl ?_
                refine aw_iload d_E_fill_54 rfl ?_
                refine aw_if_eqN (tgt := 69) d_E_fill_56 (by decide) (by omega) (fun hx => ?_) (fun hx => absurd hx (by omega))
                refine aw_lconst (v := lI 1) d_E_fill_69 (by decide) ?_
                refine aw_lstore (lv' := [(6, .long (lI 1)), (5, .int (nI 0)), (0, .ref (ad 23)), (1, .ref (ad 9)), (2, .int (nI U)), (3, .int (nI u)), (4, .int (nI v))]) d_E_fill_70 (by decide) rfl ?_
                refine aw_iload d_E_fill_72 rfl ?_
                refine aw_if_eqN (tgt := 90) d_E_fill_74 (by decide) (by omega) (fun hx => ?_) (fun hx => absurd hx (by omega))
                refine aw_lconst (v := lI 0) d_E_fill_90 (by decide) ?_
                refine aw_lstore (lv' := [(8, .long (lI 0)), (6, .long (lI 1)), (5, .int (nI 0)), (0, .ref (ad 23)), (1, .ref (ad 9)), (2, .int (nI U)), (3, .int (nI u)), (4, .int (nI v))]) d_E_fill_91 (by decide) rfl ?_
                refine aw_aload_n d_E_fill_93 rfl rfl ?_
                refine aw_get kc_4 1 (by decide) k_120 d_E_fill_94 hE2.1 rfl ?_
                refine aw_iload_n d_E_fill_97 rfl rfl ?_
                refine aw_aaldL d_E_fill_98 hE2.2.1 hg (by omega) ?_
                refine aw_iload d_E_fill_99 rfl ?_
                refine aw_iload_n d_E_fill_101 rfl rfl ?_
                refine aw_iload d_E_fill_102 rfl ?_
                refine aw_icmp_neN (tgt := 112) d_E_fill_104 (by decide) (by omega) (by omega) (fun h4 => ?_) (fun h4 => ?_)
                · refine aw_lconst (v := lI 0) d_E_fill_112 (by decide) ?_
                  refine aw_lload d_E_fill_113 rfl ?_
                  refine aw_lsubI d_E_fill_115 ?_
                  refine aw_lastA d_E_fill_116 (hE2.2.2 u (by omega)) hg (by omega) (by decide) (fun zws1 za2 zb3 zc4 => ?_)
                  have zF5 := fam_putL (lo := 25) hE2.2.2 za2 zb3
                  have hE3 := hE2.putZ (by omega) za2 zb3
                  have f3 := fr.one (lo := 23) (hi := 30) zb3 zc4 (by omega) (by omega)
                  have hS3 := hS2.kept f3 (by omega)
                  refine aw_iinc1 (lv' := [(4, .int (nI (v + 1))), (8, .long (lI 0)), (6, .long (lI 1)), (5, .int (nI 0)), (0, .ref (ad 23)), (1, .ref (ad 9)), (2, .int (nI U)), (3, .int (nI u))]) d_E_fill_117 rfl (by decide) rfl ?_
                  refine aw_goto (tgt := 21) d_E_fill_120 (by decide) ?_
                  refine aw_sub (lv' := [(0, .ref (ad 23)), (1, .ref (ad 9)), (2, .int (nI U)), (3, .int (nI u)), (4, .int (nI (v + 1)))]) [4, 5, 6, 7, 0] rfl ?_
                  exact ih _ _ (v + 1) hE3 hS3 (hf2.tr f3) (by omega) (fun i j hij => by
              unfold fup2
              by_cases e : i = u ∧ j = v
              · rw [if_pos e, e.1, e.2]; simp [eqZ, h4, h2]
              · rw [if_neg e]; exact hr2 i j (by omega)) (by omega)
                · refine aw_lload d_E_fill_107 rfl ?_
                  refine aw_goto (tgt := 113) d_E_fill_109 (by decide) ?_
                  refine aw_lload d_E_fill_113 rfl ?_
                  refine aw_lsubI d_E_fill_115 ?_
                  refine aw_lastA d_E_fill_116 (hE2.2.2 u (by omega)) hg (by omega) (by decide) (fun zws6 za7 zb8 zc9 => ?_)
                  have zF10 := fam_putL (lo := 25) hE2.2.2 za7 zb8
                  have hE3 := hE2.putZ (by omega) za7 zb8
                  have f3 := fr.one (lo := 23) (hi := 30) zb8 zc9 (by omega) (by omega)
                  have hS3 := hS2.kept f3 (by omega)
                  refine aw_iinc1 (lv' := [(4, .int (nI (v + 1))), (8, .long (lI 0)), (6, .long (lI 1)), (5, .int (nI 0)), (0, .ref (ad 23)), (1, .ref (ad 9)), (2, .int (nI U)), (3, .int (nI u))]) d_E_fill_117 rfl (by decide) rfl ?_
                  refine aw_goto (tgt := 21) d_E_fill_120 (by decide) ?_
                  refine aw_sub (lv' := [(0, .ref (ad 23)), (1, .ref (ad 9)), (2, .int (nI U)), (3, .int (nI u)), (4, .int (nI (v + 1)))]) [4, 5, 6, 7, 0] rfl ?_
                  exact ih _ _ (v + 1) hE3 hS3 (hf2.tr f3) (by omega) (fun i j hij => by
              unfold fup2
              by_cases e : i = u ∧ j = v
              · rw [if_pos e, e.1, e.2]; subst h4; simp [eqZ, h2]
              · rw [if_neg e]; exact hr2 i j (by omega)) (by omega)
              · refine aw_iload_n d_E_fill_38 rfl rfl ?_
                refine aw_iload d_E_fill_39 rfl ?_
                refine aw_callSN (av := [.int (nI U), .int (nI v)]) (rest := []) (m_W_has (ad := ad) hg hU (by omega)) kd_W_has k_305 k_221  d_E_fill_41 rfl ⟨by decide, by decide⟩ (Nat.le_of_ble_eq_true rfl) ⟨by decide, by decide⟩ rfl (fun v3 ws3 hq3 => ?_)
                obtain ⟨rfl, rfl⟩ := hq3
                refine aw_if_eqB (tgt := 51) d_E_fill_44 (by decide) (fun h3 => ?_) (fun h3 => ?_)
                · refine aw_iconst (v := nI 0) d_E_fill_51 (by decide) ?_
                  refine aw_istore (lv' := [(5, .int (nI 0)), (0, .ref (ad 23)), (1, .ref (ad 9)), (2, .int (nI U)), (3, .int (nI u)), (4, .int (nI v))]) d_E_fill_52 (by decide) rfl ?_
                  refine aw_iload d_E_fill_54 rfl ?_
                  refine aw_if_eqN (tgt := 69) d_E_fill_56 (by decide) (by omega) (fun hx => ?_) (fun hx => absurd hx (by omega))
                  refine aw_lconst (v := lI 1) d_E_fill_69 (by decide) ?_
                  refine aw_lstore (lv' := [(6, .long (lI 1)), (5, .int (nI 0)), (0, .ref (ad 23)), (1, .ref (ad 9)), (2, .int (nI U)), (3, .int (nI u)), (4, .int (nI v))]) d_E_fill_70 (by decide) rfl ?_
                  refine aw_iload d_E_fill_72 rfl ?_
                  refine aw_if_eqN (tgt := 90) d_E_fill_74 (by decide) (by omega) (fun hx => ?_) (fun hx => absurd hx (by omega))
                  refine aw_lconst (v := lI 0) d_E_fill_90 (by decide) ?_
                  refine aw_lstore (lv' := [(8, .long (lI 0)), (6, .long (lI 1)), (5, .int (nI 0)), (0, .ref (ad 23)), (1, .ref (ad 9)), (2, .int (nI U)), (3, .int (nI u)), (4, .int (nI v))]) d_E_fill_91 (by decide) rfl ?_
                  refine aw_aload_n d_E_fill_93 rfl rfl ?_
                  refine aw_get kc_4 1 (by decide) k_120 d_E_fill_94 hE2.1 rfl ?_
                  refine aw_iload_n d_E_fill_97 rfl rfl ?_
                  refine aw_aaldL d_E_fill_98 hE2.2.1 hg (by omega) ?_
                  refine aw_iload d_E_fill_99 rfl ?_
                  refine aw_iload_n d_E_fill_101 rfl rfl ?_
                  refine aw_iload d_E_fill_102 rfl ?_
                  refine aw_icmp_neN (tgt := 112) d_E_fill_104 (by decide) (by omega) (by omega) (fun h4 => ?_) (fun h4 => ?_)
                  · refine aw_lconst (v := lI 0) d_E_fill_112 (by decide) ?_
                    refine aw_lload d_E_fill_113 rfl ?_
                    refine aw_lsubI d_E_fill_115 ?_
                    refine aw_lastA d_E_fill_116 (hE2.2.2 u (by omega)) hg (by omega) (by decide) (fun zws11 za12 zb13 zc14 => ?_)
                    have zF15 := fam_putL (lo := 25) hE2.2.2 za12 zb13
                    have hE3 := hE2.putZ (by omega) za12 zb13
                    have f3 := fr.one (lo := 23) (hi := 30) zb13 zc14 (by omega) (by omega)
                    have hS3 := hS2.kept f3 (by omega)
                    refine aw_iinc1 (lv' := [(4, .int (nI (v + 1))), (8, .long (lI 0)), (6, .long (lI 1)), (5, .int (nI 0)), (0, .ref (ad 23)), (1, .ref (ad 9)), (2, .int (nI U)), (3, .int (nI u))]) d_E_fill_117 rfl (by decide) rfl ?_
                    refine aw_goto (tgt := 21) d_E_fill_120 (by decide) ?_
                    refine aw_sub (lv' := [(0, .ref (ad 23)), (1, .ref (ad 9)), (2, .int (nI U)), (3, .int (nI u)), (4, .int (nI (v + 1)))]) [4, 5, 6, 7, 0] rfl ?_
                    exact ih _ _ (v + 1) hE3 hS3 (hf2.tr f3) (by omega) (fun i j hij => by
              unfold fup2
              by_cases e : i = u ∧ j = v
              · rw [if_pos e, e.1, e.2]; simp [eqZ, h4, h2, h3]
              · rw [if_neg e]; exact hr2 i j (by omega)) (by omega)
                  · refine aw_lload d_E_fill_107 rfl ?_
                    refine aw_goto (tgt := 113) d_E_fill_109 (by decide) ?_
                    refine aw_lload d_E_fill_113 rfl ?_
                    refine aw_lsubI d_E_fill_115 ?_
                    refine aw_lastA d_E_fill_116 (hE2.2.2 u (by omega)) hg (by omega) (by decide) (fun zws16 za17 zb18 zc19 => ?_)
                    have zF20 := fam_putL (lo := 25) hE2.2.2 za17 zb18
                    have hE3 := hE2.putZ (by omega) za17 zb18
                    have f3 := fr.one (lo := 23) (hi := 30) zb18 zc19 (by omega) (by omega)
                    have hS3 := hS2.kept f3 (by omega)
                    refine aw_iinc1 (lv' := [(4, .int (nI (v + 1))), (8, .long (lI 0)), (6, .long (lI 1)), (5, .int (nI 0)), (0, .ref (ad 23)), (1, .ref (ad 9)), (2, .int (nI U)), (3, .int (nI u))]) d_E_fill_117 rfl (by decide) rfl ?_
                    refine aw_goto (tgt := 21) d_E_fill_120 (by decide) ?_
                    refine aw_sub (lv' := [(0, .ref (ad 23)), (1, .ref (ad 9)), (2, .int (nI U)), (3, .int (nI u)), (4, .int (nI (v + 1)))]) [4, 5, 6, 7, 0] rfl ?_
                    exact ih _ _ (v + 1) hE3 hS3 (hf2.tr f3) (by omega) (fun i j hij => by
              unfold fup2
              by_cases e : i = u ∧ j = v
              · rw [if_pos e, e.1, e.2]; subst h4; rw [h2] at h3; cases h3
              · rw [if_neg e]; exact hr2 i j (by omega)) (by omega)
                · refine aw_iconst (v := nI 1) d_E_fill_47 (by decide) ?_
                  refine aw_goto (tgt := 52) d_E_fill_48 (by decide) ?_
                  refine aw_istore (lv' := [(5, .int (nI 1)), (0, .ref (ad 23)), (1, .ref (ad 9)), (2, .int (nI U)), (3, .int (nI u)), (4, .int (nI v))]) d_E_fill_52 (by decide) rfl ?_
                  refine aw_iload d_E_fill_54 rfl ?_
                  refine aw_if_eqN (tgt := 69) d_E_fill_56 (by decide) (by omega) (fun hx => absurd hx (by omega)) (fun hx => ?_)
                  refine aw_aload_n d_E_fill_59 rfl rfl ?_
                  refine aw_get kc_2 2 (by decide) k_69 d_E_fill_60 hS2.1 rfl ?_
                  refine aw_iload_n d_E_fill_63 rfl rfl ?_
                  refine aw_ialdA d_E_fill_64 hS2.2.2.2.1 hg (by omega) (by decide) ?_
                  refine aw_i2lN d_E_fill_65 (by omega) ?_
                  refine aw_goto (tgt := 70) d_E_fill_66 (by decide) ?_
                  refine aw_lstore (lv' := [(6, .long (lI (T u : Nat))), (5, .int (nI 1)), (0, .ref (ad 23)), (1, .ref (ad 9)), (2, .int (nI U)), (3, .int (nI u)), (4, .int (nI v))]) d_E_fill_70 (by decide) rfl ?_
                  refine aw_iload d_E_fill_72 rfl ?_
                  refine aw_if_eqN (tgt := 90) d_E_fill_74 (by decide) (by omega) (fun hx => absurd hx (by omega)) (fun hx => ?_)
                  refine aw_aload_n d_E_fill_77 rfl rfl ?_
                  refine aw_get kc_2 1 (by decide) k_65 d_E_fill_78 hS2.1 rfl ?_
                  refine aw_iload_n d_E_fill_81 rfl rfl ?_
                  refine aw_aaldI d_E_fill_82 hS2.2.1 hg (by omega) ?_
                  refine aw_iload d_E_fill_83 rfl ?_
                  refine aw_ialdA d_E_fill_85 (hS2.2.2.1 u (by omega)) hg (by omega) (by decide) ?_
                  refine aw_i2lN d_E_fill_86 (by omega) ?_
                  refine aw_goto (tgt := 91) d_E_fill_87 (by decide) ?_
                  refine aw_lstore (lv' := [(8, .long (lI (P u v : Nat))), (6, .long (lI (T u : Nat))), (5, .int (nI 1)), (0, .ref (ad 23)), (1, .ref (ad 9)), (2, .int (nI U)), (3, .int (nI u)), (4, .int (nI v))]) d_E_fill_91 (by decide) rfl ?_
                  refine aw_aload_n d_E_fill_93 rfl rfl ?_
                  refine aw_get kc_4 1 (by decide) k_120 d_E_fill_94 hE2.1 rfl ?_
                  refine aw_iload_n d_E_fill_97 rfl rfl ?_
                  refine aw_aaldL d_E_fill_98 hE2.2.1 hg (by omega) ?_
                  refine aw_iload d_E_fill_99 rfl ?_
                  refine aw_iload_n d_E_fill_101 rfl rfl ?_
                  refine aw_iload d_E_fill_102 rfl ?_
                  refine aw_icmp_neN (tgt := 112) d_E_fill_104 (by decide) (by omega) (by omega) (fun h4 => ?_) (fun h4 => ?_)
                  · refine aw_lconst (v := lI 0) d_E_fill_112 (by decide) ?_
                    refine aw_lload d_E_fill_113 rfl ?_
                    refine aw_lsubI d_E_fill_115 ?_
                    refine aw_lastA d_E_fill_116 (hE2.2.2 u (by omega)) hg (by omega) (by decide) (fun zws21 za22 zb23 zc24 => ?_)
                    have zF25 := fam_putL (lo := 25) hE2.2.2 za22 zb23
                    have hE3 := hE2.putZ (by omega) za22 zb23
                    have f3 := fr.one (lo := 23) (hi := 30) zb23 zc24 (by omega) (by omega)
                    have hS3 := hS2.kept f3 (by omega)
                    refine aw_iinc1 (lv' := [(4, .int (nI (v + 1))), (8, .long (lI (P u v : Nat))), (6, .long (lI (T u : Nat))), (5, .int (nI 1)), (0, .ref (ad 23)), (1, .ref (ad 9)), (2, .int (nI U)), (3, .int (nI u))]) d_E_fill_117 rfl (by decide) rfl ?_
                    refine aw_goto (tgt := 21) d_E_fill_120 (by decide) ?_
                    refine aw_sub (lv' := [(0, .ref (ad 23)), (1, .ref (ad 9)), (2, .int (nI U)), (3, .int (nI u)), (4, .int (nI (v + 1)))]) [4, 5, 6, 7, 0] rfl ?_
                    exact ih _ _ (v + 1) hE3 hS3 (hf2.tr f3) (by omega) (fun i j hij => by
              unfold fup2
              by_cases e : i = u ∧ j = v
              · rw [if_pos e, e.1, e.2]; simp [eqZ, h4, h2, h3]
              · rw [if_neg e]; exact hr2 i j (by omega)) (by omega)
                  · refine aw_lload d_E_fill_107 rfl ?_
                    refine aw_goto (tgt := 113) d_E_fill_109 (by decide) ?_
                    refine aw_lload d_E_fill_113 rfl ?_
                    refine aw_lsubI d_E_fill_115 ?_
                    refine aw_lastA d_E_fill_116 (hE2.2.2 u (by omega)) hg (by omega) (by decide) (fun zws26 za27 zb28 zc29 => ?_)
                    have zF30 := fam_putL (lo := 25) hE2.2.2 za27 zb28
                    have hE3 := hE2.putZ (by omega) za27 zb28
                    have f3 := fr.one (lo := 23) (hi := 30) zb28 zc29 (by omega) (by omega)
                    have hS3 := hS2.kept f3 (by omega)
                    refine aw_iinc1 (lv' := [(4, .int (nI (v + 1))), (8, .long (lI (P u v : Nat))), (6, .long (lI (T u : Nat))), (5, .int (nI 1)), (0, .ref (ad 23)), (1, .ref (ad 9)), (2, .int (nI U)), (3, .int (nI u))]) d_E_fill_117 rfl (by decide) rfl ?_
                    refine aw_goto (tgt := 21) d_E_fill_120 (by decide) ?_
                    refine aw_sub (lv' := [(0, .ref (ad 23)), (1, .ref (ad 9)), (2, .int (nI U)), (3, .int (nI u)), (4, .int (nI (v + 1)))]) [4, 5, 6, 7, 0] rfl ?_
                    exact ih _ _ (v + 1) hE3 hS3 (hf2.tr f3) (by omega) (fun i j hij => by
              unfold fup2
              by_cases e : i = u ∧ j = v
              · rw [if_pos e, e.1, e.2]; subst h4; simp [eqZ, h2, h3]
              · rw [if_neg e]; exact hr2 i j (by omega)) (by omega)
        refine aw_sub (lv' := [(0, .ref (ad 23)), (1, .ref (ad 9)), (2, .int (nI U)), (3, .int (nI u)), (4, .int (nI 0))]) [1, 2, 3, 4, 0] rfl ?_
        exact lq (n + 1) ws1 Z 0 hE1 hS1 hf (by omega) (fun i j hij => hr i j (by omega) (by omega)) (by omega)
  refine aw_aload_n d_E_fill_0 rfl rfl ?_
  refine aw_aload_n d_E_fill_1 rfl rfl ?_
  refine aw_get kc_2 0 (by decide) k_62 d_E_fill_2 hS.1 rfl ?_
  refine aw_putN kc_4 0 (by decide) k_119 d_E_fill_5 hE.1 rfl rfl rfl (Nat.le_of_ble_eq_true rfl) (fun zws31 za32 zb33 zc34 => ?_)
  have zf35 : zws31[23]? = some (ad 23, .inr (4, [.int (nI n), .ref (ad 24)])) := za32
  have hE2 := hE.putO (n' := n) za32 zb33
  have f2 := fr.one (lo := 23) (hi := 30) zb33 zc34 (by omega) (by omega)
  have hS2 := hS.kept f2 (by omega)
  refine aw_iconst (v := nI 0) d_E_fill_8 (by decide) ?_
  refine aw_istore_n (lv' := [(3, .int (nI 0)), (0, .ref (ad 23)), (1, .ref (ad 9)), (2, .int (nI U))]) d_E_fill_9 rfl (by decide) rfl ?_
  refine aw_sub (lv' := [(0, .ref (ad 23)), (1, .ref (ad 9)), (2, .int (nI U)), (3, .int (nI 0))]) [1, 2, 3, 0] rfl ?_
  exact lp (n + 1) _ Z0 0 hE2 hS2 f2 (by omega) (fun i j hi _ => absurd hi (by omega)) (by omega)

set_option maxHeartbeats 4000000 in
set_option maxRecDepth 100000 in
theorem m_E_putChances {g : aw_G} (hg : aw_T g) {ws : va_W} {ad : Nat → Nat} {n U G a : Nat} {P : Nat → Nat → Nat} {T X : Nat → Nat} {Z0 : Nat → Nat → Int} (hE : gE g ws ad n Z0) (hS : gS g ws ad n P T X) (hn : n ≤ 5) (hU : U < 32) (hG : G < 32) (ha : a < 5) (hb : ∀ i j, i < n → j < n → P i j ≤ 400) : AMet g y_E_putChances c_E_putChances 7 none 2 [.ref (ad 23), .ref (ad 9), .int (nI U), .int (nI G), .int (nI a)] ws (q_eq g ad ws n (fun i j => if j = a then (if U.testBit i = true then (gsum P G i n : Int) else 0) else Z0 i j)) 0 0 := by
  refine amet_of (by decide +kernel) (Nat.le_of_ble_eq_true rfl) ?_
  refine aw_sub (lv' := [(0, .ref (ad 23)), (1, .ref (ad 9)), (2, .int (nI U)), (3, .int (nI G)), (4, .int (nI a))]) [0, 1, 2, 3, 4] rfl ?_
  refine aw_iconst (v := nI 0) d_E_putChances_0 (by decide) ?_
  refine aw_istore (lv' := [(5, .int (nI 0)), (0, .ref (ad 23)), (1, .ref (ad 9)), (2, .int (nI U)), (3, .int (nI G)), (4, .int (nI a))]) d_E_putChances_1 (by decide) rfl ?_
  have lp : ∀ (k : Nat) (ws1 : va_W) (Z : Nat → Nat → Int) (u : Nat), gE g ws1 ad n Z → gS g ws1 ad n P T X → fr 23 30 ws ws1 → u ≤ n → (∀ i j, i < u → j < n → Z i j = (if j = a then (if U.testBit i = true then (gsum P G i n : Int) else 0) else Z0 i j)) → (∀ i j, u ≤ i → Z i j = Z0 i j) → n - u < k → AW g y_E_putChances c_E_putChances 7 none (aw_rm 2 0 0) aw_E0 (aw_F g (q_eq g ad ws n (fun i j => if j = a then (if U.testBit i = true then (gsum P G i n : Int) else 0) else Z0 i j)) 0 0) 0 0 3 [(0, .ref (ad 23)), (1, .ref (ad 9)), (2, .int (nI U)), (3, .int (nI G)), (4, .int (nI a)), (5, .int (nI u))] [] ws1 := by
    intro k
    induction k with
    | zero => intro ws1 Z u hE1 hS1 hf hu hr hr0 hk; omega
    | succ k ih =>
      intro ws1 Z u hE1 hS1 hf hu hr hr0 hk
      have ihu := ih
      refine aw_iload d_E_putChances_3 rfl ?_
      refine aw_aload_n d_E_putChances_5 rfl rfl ?_
      refine aw_get kc_4 0 (by decide) k_119 d_E_putChances_6 hE1.1 rfl ?_
      refine aw_icmp_geN (tgt := 89) d_E_putChances_9 (by decide) (by omega) (by omega) (fun h => ?_) (fun h => ?_)
      · have e : n = u := by omega
        subst e
        exact aw_vret d_E_putChances_89 (Nat.le_refl 0) (Nat.le_refl 0) ⟨rfl, hf, Z, hE1, hr⟩
      · refine aw_aload_n d_E_putChances_12 rfl rfl ?_
        refine aw_get kc_4 1 (by decide) k_120 d_E_putChances_13 hE1.1 rfl ?_
        refine aw_iload d_E_putChances_16 rfl ?_
        refine aw_aaldL d_E_putChances_18 hE1.2.1 hg (by omega) ?_
        refine aw_iload d_E_putChances_19 rfl ?_
        refine aw_lconst (v := lI 0) d_E_putChances_21 (by decide) ?_
        refine aw_lastA d_E_putChances_22 (hE1.2.2 u (by omega)) hg (by omega) (by decide) (fun zws1 za2 zb3 zc4 => ?_)
        have zF5 := fam_putL (lo := 25) hE1.2.2 za2 zb3
        have hE2 := hE1.putZ (by omega) za2 zb3
        have f2 := fr.one (lo := 23) (hi := 30) zb3 zc4 (by omega) (by omega)
        have hS2 := hS1.kept f2 (by omega)
        refine aw_iconst (v := nI 0) d_E_putChances_23 (by decide) ?_
        refine aw_istore (lv' := [(6, .int (nI 0)), (0, .ref (ad 23)), (1, .ref (ad 9)), (2, .int (nI U)), (3, .int (nI G)), (4, .int (nI a)), (5, .int (nI u))]) d_E_putChances_24 (by decide) rfl ?_
        have lq : ∀ (k : Nat) (ws3 : va_W) (Y : Nat → Nat → Int) (v : Nat), gE g ws3 ad n Y → gS g ws3 ad n P T X → fr 23 30 ws ws3 → v ≤ n → (∀ i j, i ≠ u ∨ j ≠ a → Y i j = Z i j) → Y u a = (if U.testBit u = true then (sN (fun v => if G.testBit v = true then P u v else 0) v : Int) else 0) → n - v < k → AW g y_E_putChances c_E_putChances 7 none (aw_rm 2 0 0) aw_E0 (aw_F g (q_eq g ad ws n (fun i j => if j = a then (if U.testBit i = true then (gsum P G i n : Int) else 0) else Z0 i j)) 0 0) 0 0 26 [(0, .ref (ad 23)), (1, .ref (ad 9)), (2, .int (nI U)), (3, .int (nI G)), (4, .int (nI a)), (5, .int (nI u)), (6, .int (nI v))] [] ws3 := by
          intro k
          induction k with
          | zero => intro ws3 Y v hE3 hS3 hf3 hv hY hYu hk3; omega
          | succ k ih =>
            intro ws3 Y v hE3 hS3 hf3 hv hY hYu hk3
            refine aw_iload d_E_putChances_26 rfl ?_
            refine aw_aload_n d_E_putChances_28 rfl rfl ?_
            refine aw_get kc_4 0 (by decide) k_119 d_E_putChances_29 hE3.1 rfl ?_
            refine aw_icmp_geN (tgt := 83) d_E_putChances_32 (by decide) (by omega) (by omega) (fun h1 => ?_) (fun h1 => ?_)
            · have e : v = n := by omega
              rw [e] at hYu
              refine aw_iinc1 (lv' := [(5, .int (nI (u + 1))), (0, .ref (ad 23)), (1, .ref (ad 9)), (2, .int (nI U)), (3, .int (nI G)), (4, .int (nI a)), (6, .int (nI v))]) d_E_putChances_83 rfl (by decide) rfl ?_
              refine aw_goto (tgt := 3) d_E_putChances_86 (by decide) ?_
              refine aw_sub (lv' := [(0, .ref (ad 23)), (1, .ref (ad 9)), (2, .int (nI U)), (3, .int (nI G)), (4, .int (nI a)), (5, .int (nI (u + 1)))]) [1, 2, 3, 4, 5, 0] rfl ?_
              exact ihu ws3 Y (u + 1) hE3 hS3 hf3 (by omega) (fun i j hi hj => by
          by_cases e : i = u ∧ j = a
          · rw [e.1, e.2, hYu, if_pos rfl]; rfl
          · rw [hY i j (by omega)]
            by_cases e2 : i = u
            · rw [hr0 i j (by omega), if_neg (fun z => e ⟨e2, z⟩)]
            · exact hr i j (by omega) hj) (fun i j hi => by rw [hY i j (Or.inl (by omega))]; exact hr0 i j (by omega)) (by omega)
            · have hb1 := hb u v h h1
              refine aw_iload_n d_E_putChances_35 rfl rfl ?_
              refine aw_iload d_E_putChances_36 rfl ?_
              refine aw_callSN (av := [.int (nI U), .int (nI u)]) (rest := []) (m_W_has (ad := ad) hg hU (by omega)) kd_W_has k_305 k_221  d_E_putChances_38 rfl ⟨by decide, by decide⟩ (Nat.le_of_ble_eq_true rfl) ⟨by decide, by decide⟩ rfl (fun v3 ws4 hq3 => ?_)
              obtain ⟨rfl, rfl⟩ := hq3
              refine aw_if_eqB (tgt := 77) d_E_putChances_41 (by decide) (fun h2 => ?_) (fun h2 => ?_)
              · refine aw_iinc1 (lv' := [(6, .int (nI (v + 1))), (0, .ref (ad 23)), (1, .ref (ad 9)), (2, .int (nI U)), (3, .int (nI G)), (4, .int (nI a)), (5, .int (nI u))]) d_E_putChances_77 rfl (by decide) rfl ?_
                refine aw_goto (tgt := 26) d_E_putChances_80 (by decide) ?_
                refine aw_sub (lv' := [(0, .ref (ad 23)), (1, .ref (ad 9)), (2, .int (nI U)), (3, .int (nI G)), (4, .int (nI a)), (5, .int (nI u)), (6, .int (nI (v + 1)))]) [1, 2, 3, 4, 5, 6, 0] rfl ?_
                exact ih ws3 Y (v + 1) hE3 hS3 hf3 (by omega) hY (by rw [hYu, if_neg (by rw [h2]; decide), if_neg (by rw [h2]; decide)]) (by omega)
              · refine aw_iload_n d_E_putChances_44 rfl rfl ?_
                refine aw_iload d_E_putChances_45 rfl ?_
                refine aw_callSN (av := [.int (nI G), .int (nI v)]) (rest := []) (m_W_has (ad := ad) hg hG (by omega)) kd_W_has k_305 k_221  d_E_putChances_47 rfl ⟨by decide, by decide⟩ (Nat.le_of_ble_eq_true rfl) ⟨by decide, by decide⟩ rfl (fun v3 ws4 hq3 => ?_)
                obtain ⟨rfl, rfl⟩ := hq3
                refine aw_if_eqB (tgt := 77) d_E_putChances_50 (by decide) (fun h3 => ?_) (fun h3 => ?_)
                · refine aw_iinc1 (lv' := [(6, .int (nI (v + 1))), (0, .ref (ad 23)), (1, .ref (ad 9)), (2, .int (nI U)), (3, .int (nI G)), (4, .int (nI a)), (5, .int (nI u))]) d_E_putChances_77 rfl (by decide) rfl ?_
                  refine aw_goto (tgt := 26) d_E_putChances_80 (by decide) ?_
                  refine aw_sub (lv' := [(0, .ref (ad 23)), (1, .ref (ad 9)), (2, .int (nI U)), (3, .int (nI G)), (4, .int (nI a)), (5, .int (nI u)), (6, .int (nI (v + 1)))]) [1, 2, 3, 4, 5, 6, 0] rfl ?_
                  exact ih ws3 Y (v + 1) hE3 hS3 hf3 (by omega) hY (by rw [hYu, if_pos h2, if_pos h2, sN, if_neg (by rw [h3]; decide)]; rfl) (by omega)
                · refine aw_aload_n d_E_putChances_53 rfl rfl ?_
                  refine aw_get kc_4 1 (by decide) k_120 d_E_putChances_54 hE3.1 rfl ?_
                  refine aw_iload d_E_putChances_57 rfl ?_
                  refine aw_aaldL d_E_putChances_59 hE3.2.1 hg (by omega) ?_
                  refine aw_iload d_E_putChances_60 rfl ?_
                  refine aw_dup2_11 d_E_putChances_62 rfl rfl ?_
                  refine aw_laldA d_E_putChances_63 (hE3.2.2 u (by omega)) hg (by omega) (by decide) ?_
                  refine aw_aload_n d_E_putChances_64 rfl rfl ?_
                  refine aw_get kc_2 1 (by decide) k_65 d_E_putChances_65 hS3.1 rfl ?_
                  refine aw_iload d_E_putChances_68 rfl ?_
                  refine aw_aaldI d_E_putChances_70 hS3.2.1 hg (by omega) ?_
                  refine aw_iload d_E_putChances_71 rfl ?_
                  refine aw_ialdA d_E_putChances_73 (hS3.2.2.1 u (by omega)) hg (by omega) (by decide) ?_
                  refine aw_i2lN d_E_putChances_74 (by omega) ?_
                  refine aw_laddI d_E_putChances_75 ?_
                  refine aw_lastA d_E_putChances_76 (hE3.2.2 u (by omega)) hg (by omega) (by decide) (fun zws6 za7 zb8 zc9 => ?_)
                  have zF10 := fam_putL (lo := 25) hE3.2.2 za7 zb8
                  have hE4 := hE3.putZ (by omega) za7 zb8
                  have f4 := fr.one (lo := 23) (hi := 30) zb8 zc9 (by omega) (by omega)
                  have hS4 := hS3.kept f4 (by omega)
                  refine aw_iinc1 (lv' := [(6, .int (nI (v + 1))), (0, .ref (ad 23)), (1, .ref (ad 9)), (2, .int (nI U)), (3, .int (nI G)), (4, .int (nI a)), (5, .int (nI u))]) d_E_putChances_77 rfl (by decide) rfl ?_
                  refine aw_goto (tgt := 26) d_E_putChances_80 (by decide) ?_
                  refine aw_sub (lv' := [(0, .ref (ad 23)), (1, .ref (ad 9)), (2, .int (nI U)), (3, .int (nI G)), (4, .int (nI a)), (5, .int (nI u)), (6, .int (nI (v + 1)))]) [1, 2, 3, 4, 5, 6, 0] rfl ?_
                  exact ih _ _ (v + 1) hE4 hS4 (hf3.tr f4) (by omega) (fun i j hij => by
              unfold fup2
              rw [if_neg (by omega)]; exact hY i j hij) (by
              unfold fup2
              rw [if_pos ⟨rfl, rfl⟩, hYu, if_pos h2, if_pos h2, sN, if_pos h3, Int.natCast_add]) (by omega)
        refine aw_sub (lv' := [(0, .ref (ad 23)), (1, .ref (ad 9)), (2, .int (nI U)), (3, .int (nI G)), (4, .int (nI a)), (5, .int (nI u)), (6, .int (nI 0))]) [1, 2, 3, 4, 5, 6, 0] rfl ?_
        exact lq (n + 1) _ _ 0 hE2 hS2 (hf.tr f2) (by omega) (fun i j hij => by unfold fup2; rw [if_neg (by omega)]) (by unfold fup2; rw [if_pos ⟨rfl, rfl⟩]; split <;> rfl) (by omega)
  refine aw_sub (lv' := [(0, .ref (ad 23)), (1, .ref (ad 9)), (2, .int (nI U)), (3, .int (nI G)), (4, .int (nI a)), (5, .int (nI 0))]) [1, 2, 3, 4, 5, 0] rfl ?_
  exact lp (n + 1) ws Z0 0 hE hS fr.rf (by omega) (fun i j hi _ => absurd hi (by omega)) (fun _ _ _ => rfl) (by omega)

set_option maxHeartbeats 4000000 in
set_option maxRecDepth 100000 in
theorem m_E_putStepCounts {g : aw_G} (hg : aw_T g) {ws : va_W} {ad : Nat → Nat} {n U a : Nat} {P : Nat → Nat → Nat} {T X : Nat → Nat} {Z0 : Nat → Nat → Int} (hE : gE g ws ad n Z0) (hS : gS g ws ad n P T X) (hn : n ≤ 5) (hU : U < 32) (ha : a < 5) (hb : ∀ i, i < n → T i ≤ 400) : AMet g y_E_putStepCounts c_E_putStepCounts 5 none 2 [.ref (ad 23), .ref (ad 9), .int (nI U), .int (nI a)] ws (q_eq g ad ws n (fun i j => if j = a then (if U.testBit i = true then (T i : Int) else 0) else Z0 i j)) 0 0 := by
  refine amet_of (by decide +kernel) (Nat.le_of_ble_eq_true rfl) ?_
  refine aw_sub (lv' := [(0, .ref (ad 23)), (1, .ref (ad 9)), (2, .int (nI U)), (3, .int (nI a))]) [0, 1, 2, 3] rfl ?_
  refine aw_iconst (v := nI 0) d_E_putStepCounts_0 (by decide) ?_
  refine aw_istore (lv' := [(4, .int (nI 0)), (0, .ref (ad 23)), (1, .ref (ad 9)), (2, .int (nI U)), (3, .int (nI a))]) d_E_putStepCounts_1 (by decide) rfl ?_
  have lp : ∀ (k : Nat) (ws1 : va_W) (Z : Nat → Nat → Int) (u : Nat), gE g ws1 ad n Z → gS g ws1 ad n P T X → fr 23 30 ws ws1 → u ≤ n → (∀ i j, i < u → j < n → Z i j = (if j = a then (if U.testBit i = true then (T i : Int) else 0) else Z0 i j)) → (∀ i j, u ≤ i → Z i j = Z0 i j) → n - u < k → AW g y_E_putStepCounts c_E_putStepCounts 5 none (aw_rm 2 0 0) aw_E0 (aw_F g (q_eq g ad ws n (fun i j => if j = a then (if U.testBit i = true then (T i : Int) else 0) else Z0 i j)) 0 0) 0 0 3 [(0, .ref (ad 23)), (1, .ref (ad 9)), (2, .int (nI U)), (3, .int (nI a)), (4, .int (nI u))] [] ws1 := by
    intro k
    induction k with
    | zero => intro ws1 Z u hE1 hS1 hf hu hr hr0 hk; omega
    | succ k ih =>
      intro ws1 Z u hE1 hS1 hf hu hr hr0 hk
      refine aw_iload d_E_putStepCounts_3 rfl ?_
      refine aw_aload_n d_E_putStepCounts_5 rfl rfl ?_
      refine aw_get kc_4 0 (by decide) k_119 d_E_putStepCounts_6 hE1.1 rfl ?_
      refine aw_icmp_geN (tgt := 48) d_E_putStepCounts_9 (by decide) (by omega) (by omega) (fun h => ?_) (fun h => ?_)
      · have e : n = u := by omega
        subst e
        exact aw_vret d_E_putStepCounts_48 (Nat.le_refl 0) (Nat.le_refl 0) ⟨rfl, hf, Z, hE1, hr⟩
      · have hb1 := hb u h
        refine aw_aload_n d_E_putStepCounts_12 rfl rfl ?_
        refine aw_get kc_4 1 (by decide) k_120 d_E_putStepCounts_13 hE1.1 rfl ?_
        refine aw_iload d_E_putStepCounts_16 rfl ?_
        refine aw_aaldL d_E_putStepCounts_18 hE1.2.1 hg (by omega) ?_
        refine aw_iload_n d_E_putStepCounts_19 rfl rfl ?_
        refine aw_iload_n d_E_putStepCounts_20 rfl rfl ?_
        refine aw_iload d_E_putStepCounts_21 rfl ?_
        refine aw_callSN (av := [.int (nI U), .int (nI u)]) (rest := [.int (nI a), .ref (ad (25 + u))]) (m_W_has (ad := ad) hg hU (by omega)) kd_W_has k_305 k_221  d_E_putStepCounts_23 rfl ⟨by decide, by decide⟩ (Nat.le_of_ble_eq_true rfl) ⟨by decide, by decide⟩ rfl (fun v3 ws4 hq3 => ?_)
        obtain ⟨rfl, rfl⟩ := hq3
        refine aw_if_eqB (tgt := 40) d_E_putStepCounts_26 (by decide) (fun h2 => ?_) (fun h2 => ?_)
        · refine aw_lconst (v := lI 0) d_E_putStepCounts_40 (by decide) ?_
          refine aw_lastA d_E_putStepCounts_41 (hE1.2.2 u (by omega)) hg (by omega) (by decide) (fun zws1 za2 zb3 zc4 => ?_)
          have zF5 := fam_putL (lo := 25) hE1.2.2 za2 zb3
          have hE2 := hE1.putZ (by omega) za2 zb3
          have f2 := fr.one (lo := 23) (hi := 30) zb3 zc4 (by omega) (by omega)
          have hS2 := hS1.kept f2 (by omega)
          refine aw_iinc1 (lv' := [(4, .int (nI (u + 1))), (0, .ref (ad 23)), (1, .ref (ad 9)), (2, .int (nI U)), (3, .int (nI a))]) d_E_putStepCounts_42 rfl (by decide) rfl ?_
          refine aw_goto (tgt := 3) d_E_putStepCounts_45 (by decide) ?_
          refine aw_sub (lv' := [(0, .ref (ad 23)), (1, .ref (ad 9)), (2, .int (nI U)), (3, .int (nI a)), (4, .int (nI (u + 1)))]) [1, 2, 3, 4, 0] rfl ?_
          exact ih _ _ (u + 1) hE2 hS2 (hf.tr f2) (by omega) (fun i j hi hj => by
            unfold fup2
            by_cases e : i = u ∧ j = a
            · rw [if_pos e, e.1, e.2, if_pos rfl, if_neg (by rw [h2]; decide)]
            · rw [if_neg e]
              by_cases e2 : i = u
              · rw [hr0 i j (by omega), if_neg (fun z => e ⟨e2, z⟩)]
              · exact hr i j (by omega) hj) (fun i j hi => by unfold fup2; rw [if_neg (by omega)]; exact hr0 i j (by omega)) (by omega)
        · refine aw_aload_n d_E_putStepCounts_29 rfl rfl ?_
          refine aw_get kc_2 2 (by decide) k_69 d_E_putStepCounts_30 hS1.1 rfl ?_
          refine aw_iload d_E_putStepCounts_33 rfl ?_
          refine aw_ialdA d_E_putStepCounts_35 hS1.2.2.2.1 hg (by omega) (by decide) ?_
          refine aw_i2lN d_E_putStepCounts_36 (by omega) ?_
          refine aw_goto (tgt := 41) d_E_putStepCounts_37 (by decide) ?_
          refine aw_lastA d_E_putStepCounts_41 (hE1.2.2 u (by omega)) hg (by omega) (by decide) (fun zws6 za7 zb8 zc9 => ?_)
          have zF10 := fam_putL (lo := 25) hE1.2.2 za7 zb8
          have hE2 := hE1.putZ (by omega) za7 zb8
          have f2 := fr.one (lo := 23) (hi := 30) zb8 zc9 (by omega) (by omega)
          have hS2 := hS1.kept f2 (by omega)
          refine aw_iinc1 (lv' := [(4, .int (nI (u + 1))), (0, .ref (ad 23)), (1, .ref (ad 9)), (2, .int (nI U)), (3, .int (nI a))]) d_E_putStepCounts_42 rfl (by decide) rfl ?_
          refine aw_goto (tgt := 3) d_E_putStepCounts_45 (by decide) ?_
          refine aw_sub (lv' := [(0, .ref (ad 23)), (1, .ref (ad 9)), (2, .int (nI U)), (3, .int (nI a)), (4, .int (nI (u + 1)))]) [1, 2, 3, 4, 0] rfl ?_
          exact ih _ _ (u + 1) hE2 hS2 (hf.tr f2) (by omega) (fun i j hi hj => by
            unfold fup2
            by_cases e : i = u ∧ j = a
            · rw [if_pos e, e.1, e.2, if_pos rfl, if_pos h2]
            · rw [if_neg e]
              by_cases e2 : i = u
              · rw [hr0 i j (by omega), if_neg (fun z => e ⟨e2, z⟩)]
              · exact hr i j (by omega) hj) (fun i j hi => by unfold fup2; rw [if_neg (by omega)]; exact hr0 i j (by omega)) (by omega)
  refine aw_sub (lv' := [(0, .ref (ad 23)), (1, .ref (ad 9)), (2, .int (nI U)), (3, .int (nI a)), (4, .int (nI 0))]) [1, 2, 3, 4, 0] rfl ?_
  exact lp (n + 1) ws Z0 0 hE hS fr.rf (by omega) (fun i j hi _ => absurd hi (by omega)) (fun _ _ _ => rfl) (by omega)

set_option maxHeartbeats 4000000 in
set_option maxRecDepth 100000 in
theorem m_E_expand {g : aw_G} (hg : aw_T g) {ws : va_W} {ad : Nat → Nat} {n : Nat} {Z : Nat → Nat → Int} (hE : gE g ws ad n Z) (hn : n ≤ 5) (hb : ∀ i j, i < n → j < n → -2 ^ 62 ≤ Z i j ∧ Z i j ≤ 2 ^ 62) : ∀ (k line used : Nat), line + k = n → used < 32 → AMet g y_E_expand c_E_expand 11 (some .long) (k + 2) [.ref (ad 24), .int (nI n), .int (nI line), .int (nI used)] ws (aw_R (.long (lI (exD Z n k line used))) ws) 0 0 := by
  intro k
  induction k with
  | zero =>
    intro line used hl hu
    refine amet_of (by decide +kernel) (Nat.le_of_ble_eq_true rfl) ?_
    refine aw_sub (lv' := [(0, .ref (ad 24)), (1, .int (nI n)), (2, .int (nI line)), (3, .int (nI used))]) [0, 1, 2, 3] rfl ?_
    refine aw_iload_n d_E_expand_0 rfl rfl ?_
    refine aw_iload_n d_E_expand_1 rfl rfl ?_
    refine aw_icmp_ltN (tgt := 7) d_E_expand_2 (by decide) (by omega) (by omega) (fun h => absurd h (by omega)) (fun h => ?_)
    refine aw_lconst (v := lI 1) d_E_expand_5 (by decide) ?_
    exact aw_lret d_E_expand_6 (Nat.le_refl 0) (Nat.le_refl 0) ⟨rfl, rfl⟩
  | succ k ihk =>
    intro line used hl hu
    refine amet_of (by decide +kernel) (Nat.le_of_ble_eq_true rfl) ?_
    refine aw_sub (lv' := [(0, .ref (ad 24)), (1, .int (nI n)), (2, .int (nI line)), (3, .int (nI used))]) [0, 1, 2, 3] rfl ?_
    refine aw_iload_n d_E_expand_0 rfl rfl ?_
    refine aw_iload_n d_E_expand_1 rfl rfl ?_
    refine aw_icmp_ltN (tgt := 7) d_E_expand_2 (by decide) (by omega) (by omega) (fun h => ?_) (fun h => absurd h (by omega))
    refine aw_lconst (v := lI 0) d_E_expand_7 (by decide) ?_
    refine aw_lstore (lv' := [(4, .long (lI 0)), (0, .ref (ad 24)), (1, .int (nI n)), (2, .int (nI line)), (3, .int (nI used))]) d_E_expand_8 (by decide) rfl ?_
    refine aw_lconst (v := lI 1) d_E_expand_10 (by decide) ?_
    refine aw_lstore (lv' := [(6, .long (lI 1)), (4, .long (lI 0)), (0, .ref (ad 24)), (1, .int (nI n)), (2, .int (nI line)), (3, .int (nI used))]) d_E_expand_11 (by decide) rfl ?_
    refine aw_iconst (v := nI 0) d_E_expand_13 (by decide) ?_
    refine aw_istore (lv' := [(8, .int (nI 0)), (6, .long (lI 1)), (4, .long (lI 0)), (0, .ref (ad 24)), (1, .int (nI n)), (2, .int (nI line)), (3, .int (nI used))]) d_E_expand_14 (by decide) rfl ?_
    have lp : ∀ (k2 : Nat) (c : Nat), c ≤ n → n - c < k2 → AW g y_E_expand c_E_expand 11 (some .long) (aw_rm (k + 1 + 2) 0 0) aw_E0 (aw_F g (aw_R (.long (lI (exD Z n (k + 1) line used))) ws) 0 0) 0 0 16 [(0, .ref (ad 24)), (1, .int (nI n)), (2, .int (nI line)), (3, .int (nI used)), (4, .long (lI (sZ (fun c => if used.testBit c = true then 0 else sg used c * Z line c * exD Z n k (line + 1) (used ||| 2 ^ c)) c))), (6, .long (lI (sg used c))), (8, .int (nI c))] [] ws := by
      intro k2
      induction k2 with
      | zero => intro c hc hk; omega
      | succ k2 ih =>
        intro c hc hk
        refine aw_iload d_E_expand_16 rfl ?_
        refine aw_iload_n d_E_expand_18 rfl rfl ?_
        refine aw_icmp_geN (tgt := 86) d_E_expand_19 (by decide) (by omega) (by omega) (fun h => ?_) (fun h => ?_)
        · have e : n = c := by omega
          subst e
          refine aw_lload d_E_expand_86 rfl ?_
          exact aw_lret d_E_expand_88 (Nat.le_refl 0) (Nat.le_refl 0) ⟨rfl, rfl⟩
        · refine aw_iload_n d_E_expand_22 rfl rfl ?_
          refine aw_iload d_E_expand_23 rfl ?_
          refine aw_callSN (av := [.int (nI used), .int (nI c)]) (rest := []) (m_W_has (ad := ad) hg hu (by omega)) kd_W_has k_305 k_221  d_E_expand_25 rfl ⟨by simp only [aw_rm]; omega, by simp only [aw_rm]; omega⟩ (Nat.le_of_ble_eq_true rfl) ⟨by simp only [aw_rm]; omega, by simp only [aw_rm]; omega⟩ rfl (fun v3 ws4 hq3 => ?_)
          obtain ⟨rfl, rfl⟩ := hq3
          refine aw_if_eqB (tgt := 34) d_E_expand_28 (by decide) (fun h2 => ?_) (fun h2 => ?_)
          · have hz := hb line c (by omega) h
            have eg : sg used (c + 1) = - sg used c := by rw [sg, if_neg (by rw [h2]; decide)]
            have es : sZ (fun c => if used.testBit c = true then 0 else sg used c * Z line c * exD Z n k (line + 1) (used ||| 2 ^ c)) (c + 1) = sZ (fun c => if used.testBit c = true then 0 else sg used c * Z line c * exD Z n k (line + 1) (used ||| 2 ^ c)) c + sg used c * Z line c * exD Z n k (line + 1) (used ||| 2 ^ c) := by rw [sZ, if_neg (by rw [h2]; decide)]
            refine aw_aload_n d_E_expand_34 rfl rfl ?_
            refine aw_iload_n d_E_expand_35 rfl rfl ?_
            refine aw_aaldL d_E_expand_36 hE.2.1 hg (by omega) ?_
            refine aw_iload d_E_expand_37 rfl ?_
            refine aw_laldA d_E_expand_39 (hE.2.2 line (by omega)) hg (by omega) (by decide) ?_
            refine aw_lstore (lv' := [(9, .long (lI (Z line c))), (0, .ref (ad 24)), (1, .int (nI n)), (2, .int (nI line)), (3, .int (nI used)), (4, .long (lI (sZ (fun c => if used.testBit c = true then 0 else sg used c * Z line c * exD Z n k (line + 1) (used ||| 2 ^ c)) c))), (6, .long (lI (sg used c))), (8, .int (nI c))]) d_E_expand_40 (by decide) rfl ?_
            refine aw_lload d_E_expand_42 rfl ?_
            refine aw_lconst (v := lI 0) d_E_expand_44 (by decide) ?_
            refine aw_lcmpI d_E_expand_45 (by omega) (by omega) (by omega) (by omega) ?_
            refine aw_if_eqC (tgt := 75) d_E_expand_46 (by decide) (fun h3 => ?_) (fun h3 => ?_)
            · have e0 : sZ (fun c => if used.testBit c = true then 0 else sg used c * Z line c * exD Z n k (line + 1) (used ||| 2 ^ c)) c = sZ (fun c => if used.testBit c = true then 0 else sg used c * Z line c * exD Z n k (line + 1) (used ||| 2 ^ c)) (c + 1) := by rw [es, h3, Int.mul_zero, Int.zero_mul, Int.add_zero]
              rw [e0]
              refine aw_lload d_E_expand_75 rfl ?_
              refine aw_lnegI d_E_expand_77 ?_
              refine aw_nml (z := lI (sg used (c + 1))) (by rw [eg]) ?_
              refine aw_lstore (lv' := [(6, .long (lI (sg used (c + 1)))), (9, .long (lI (Z line c))), (0, .ref (ad 24)), (1, .int (nI n)), (2, .int (nI line)), (3, .int (nI used)), (4, .long (lI (sZ (fun c => if used.testBit c = true then 0 else sg used c * Z line c * exD Z n k (line + 1) (used ||| 2 ^ c)) (c + 1)))), (8, .int (nI c))]) d_E_expand_78 (by decide) rfl ?_
              refine aw_iinc1 (lv' := [(8, .int (nI (c + 1))), (6, .long (lI (sg used (c + 1)))), (9, .long (lI (Z line c))), (0, .ref (ad 24)), (1, .int (nI n)), (2, .int (nI line)), (3, .int (nI used)), (4, .long (lI (sZ (fun c => if used.testBit c = true then 0 else sg used c * Z line c * exD Z n k (line + 1) (used ||| 2 ^ c)) (c + 1))))]) d_E_expand_80 rfl (by decide) rfl ?_
              refine aw_goto (tgt := 16) d_E_expand_83 (by decide) ?_
              refine aw_sub (lv' := [(0, .ref (ad 24)), (1, .int (nI n)), (2, .int (nI line)), (3, .int (nI used)), (4, .long (lI (sZ (fun c => if used.testBit c = true then 0 else sg used c * Z line c * exD Z n k (line + 1) (used ||| 2 ^ c)) (c + 1)))), (6, .long (lI (sg used (c + 1)))), (8, .int (nI (c + 1)))]) [3, 4, 5, 6, 7, 1, 0] rfl ?_
              exact ih (c + 1) (by omega) (by omega)
            · refine aw_lload d_E_expand_49 rfl ?_
              refine aw_lload d_E_expand_51 rfl ?_
              refine aw_lload d_E_expand_53 rfl ?_
              refine aw_lmulI d_E_expand_55 ?_
              refine aw_aload_n d_E_expand_56 rfl rfl ?_
              refine aw_iload_n d_E_expand_57 rfl rfl ?_
              refine aw_iload_n d_E_expand_58 rfl rfl ?_
              refine aw_iconst (v := nI 1) d_E_expand_59 (by decide) ?_
              refine aw_iaddN d_E_expand_60 ?_
              refine aw_iload_n d_E_expand_61 rfl rfl ?_
              refine aw_iload d_E_expand_62 rfl ?_
              refine aw_callSN (av := [.int (nI c)]) (rest := [.int (nI used), .int (nI (line + 1)), .int (nI n), .ref (ad 24), .long (lI ((sg used c) * (Z line c))), .long (lI (sZ (fun c => if used.testBit c = true then 0 else sg used c * Z line c * exD Z n k (line + 1) (used ||| 2 ^ c)) c))]) (m_W_only (ad := ad) hg (by omega)) kd_W_only k_313 k_206  d_E_expand_64 rfl ⟨by simp only [aw_rm]; omega, by simp only [aw_rm]; omega⟩ (Nat.le_of_ble_eq_true rfl) ⟨by simp only [aw_rm]; omega, by simp only [aw_rm]; omega⟩ rfl (fun v5 ws5 hq5 => ?_)
              obtain ⟨rfl, rfl⟩ := hq5
              refine aw_iorN d_E_expand_67 ?_
              refine aw_callS (av := [.ref (ad 24), .int (nI n), .int (nI (line + 1)), .int (nI (used ||| (2 ^ c)))]) (rest := [.long (lI ((sg used c) * (Z line c))), .long (lI (sZ (fun c => if used.testBit c = true then 0 else sg used c * Z line c * exD Z n k (line + 1) (used ||| 2 ^ c)) c))]) (ihk (line + 1) (used ||| 2 ^ c) (by omega) (or_32 hu (pow_32 (by omega)))) kd_E_expand k_310 k_311  d_E_expand_68 rfl ⟨by simp only [aw_rm]; omega, by simp only [aw_rm]; omega⟩ (Nat.le_of_ble_eq_true rfl) ⟨by simp only [aw_rm]; omega, by simp only [aw_rm]; omega⟩ rfl (fun v6 ws6 hq6 => ?_)
              obtain ⟨rfl, rfl⟩ := hq6
              refine aw_lmulI d_E_expand_71 ?_
              refine aw_laddI d_E_expand_72 ?_
              refine aw_nml (z := lI (sZ (fun c => if used.testBit c = true then 0 else sg used c * Z line c * exD Z n k (line + 1) (used ||| 2 ^ c)) (c + 1))) (by rw [es]) ?_
              refine aw_lstore (lv' := [(4, .long (lI (sZ (fun c => if used.testBit c = true then 0 else sg used c * Z line c * exD Z n k (line + 1) (used ||| 2 ^ c)) (c + 1)))), (9, .long (lI (Z line c))), (0, .ref (ad 24)), (1, .int (nI n)), (2, .int (nI line)), (3, .int (nI used)), (6, .long (lI (sg used c))), (8, .int (nI c))]) d_E_expand_73 (by decide) rfl ?_
              refine aw_lload d_E_expand_75 rfl ?_
              refine aw_lnegI d_E_expand_77 ?_
              refine aw_nml (z := lI (sg used (c + 1))) (by rw [eg]) ?_
              refine aw_lstore (lv' := [(6, .long (lI (sg used (c + 1)))), (4, .long (lI (sZ (fun c => if used.testBit c = true then 0 else sg used c * Z line c * exD Z n k (line + 1) (used ||| 2 ^ c)) (c + 1)))), (9, .long (lI (Z line c))), (0, .ref (ad 24)), (1, .int (nI n)), (2, .int (nI line)), (3, .int (nI used)), (8, .int (nI c))]) d_E_expand_78 (by decide) rfl ?_
              refine aw_iinc1 (lv' := [(8, .int (nI (c + 1))), (6, .long (lI (sg used (c + 1)))), (4, .long (lI (sZ (fun c => if used.testBit c = true then 0 else sg used c * Z line c * exD Z n k (line + 1) (used ||| 2 ^ c)) (c + 1)))), (9, .long (lI (Z line c))), (0, .ref (ad 24)), (1, .int (nI n)), (2, .int (nI line)), (3, .int (nI used))]) d_E_expand_80 rfl (by decide) rfl ?_
              refine aw_goto (tgt := 16) d_E_expand_83 (by decide) ?_
              refine aw_sub (lv' := [(0, .ref (ad 24)), (1, .int (nI n)), (2, .int (nI line)), (3, .int (nI used)), (4, .long (lI (sZ (fun c => if used.testBit c = true then 0 else sg used c * Z line c * exD Z n k (line + 1) (used ||| 2 ^ c)) (c + 1)))), (6, .long (lI (sg used (c + 1)))), (8, .int (nI (c + 1)))]) [4, 5, 6, 7, 2, 1, 0] rfl ?_
              exact ih (c + 1) (by omega) (by omega)
          · have eg : sg used c = sg used (c + 1) := by rw [sg, if_pos h2]
            have e0 : sZ (fun c => if used.testBit c = true then 0 else sg used c * Z line c * exD Z n k (line + 1) (used ||| 2 ^ c)) c = sZ (fun c => if used.testBit c = true then 0 else sg used c * Z line c * exD Z n k (line + 1) (used ||| 2 ^ c)) (c + 1) := by rw [sZ, if_pos h2, Int.add_zero]
            rw [e0, eg]
            refine aw_goto (tgt := 80) d_E_expand_31 (by decide) ?_
            refine aw_iinc1 (lv' := [(8, .int (nI (c + 1))), (0, .ref (ad 24)), (1, .int (nI n)), (2, .int (nI line)), (3, .int (nI used)), (4, .long (lI (sZ (fun c => if used.testBit c = true then 0 else sg used c * Z line c * exD Z n k (line + 1) (used ||| 2 ^ c)) (c + 1)))), (6, .long (lI (sg used (c + 1))))]) d_E_expand_80 rfl (by decide) rfl ?_
            refine aw_goto (tgt := 16) d_E_expand_83 (by decide) ?_
            refine aw_sub (lv' := [(0, .ref (ad 24)), (1, .int (nI n)), (2, .int (nI line)), (3, .int (nI used)), (4, .long (lI (sZ (fun c => if used.testBit c = true then 0 else sg used c * Z line c * exD Z n k (line + 1) (used ||| 2 ^ c)) (c + 1)))), (6, .long (lI (sg used (c + 1)))), (8, .int (nI (c + 1)))]) [1, 2, 3, 4, 5, 6, 0] rfl ?_
            exact ih (c + 1) (by omega) (by omega)
    refine aw_sub (lv' := [(0, .ref (ad 24)), (1, .int (nI n)), (2, .int (nI line)), (3, .int (nI used)), (4, .long (lI (sZ (fun c => if used.testBit c = true then 0 else sg used c * Z line c * exD Z n k (line + 1) (used ||| 2 ^ c)) 0))), (6, .long (lI (sg used 0))), (8, .int (nI 0))]) [3, 4, 5, 6, 2, 1, 0] rfl ?_
    exact lp (n + 1) 0 (by omega) (by omega)

set_option maxHeartbeats 4000000 in
set_option maxRecDepth 100000 in
theorem m_E_determinant {g : aw_G} (hg : aw_T g) {ws : va_W} {ad : Nat → Nat} {n : Nat} {Z : Nat → Nat → Int} (hE : gE g ws ad n Z) (hn : n ≤ 5) (hb : ∀ i j, i < n → j < n → -2 ^ 62 ≤ Z i j ∧ Z i j ≤ 2 ^ 62) : AMet g y_E_determinant c_E_determinant 1 (some .long) 8 [.ref (ad 23)] ws (aw_R (.long (lI (exD Z n n 0 0))) ws) 0 0 := by
  refine amet_of (by decide +kernel) (Nat.le_of_ble_eq_true rfl) ?_
  refine aw_sub (lv' := [(0, .ref (ad 23))]) [0] rfl ?_
  refine aw_aload_n d_E_determinant_0 rfl rfl ?_
  refine aw_get kc_4 1 (by decide) k_120 d_E_determinant_1 hE.1 rfl ?_
  refine aw_aload_n d_E_determinant_4 rfl rfl ?_
  refine aw_get kc_4 0 (by decide) k_119 d_E_determinant_5 hE.1 rfl ?_
  refine aw_iconst (v := nI 0) d_E_determinant_8 (by decide) ?_
  refine aw_iconst (v := nI 0) d_E_determinant_9 (by decide) ?_
  refine aw_callS (av := [.ref (ad 24), .int (nI n), .int (nI 0), .int (nI 0)]) (rest := []) (m_E_expand hg hE hn hb n 0 0 (by omega) (by decide)) kd_E_expand k_310 k_311  d_E_determinant_10 rfl ⟨by simp only [aw_rm]; omega, by simp only [aw_rm]; omega⟩ (Nat.le_of_ble_eq_true rfl) ⟨by simp only [aw_rm]; omega, by simp only [aw_rm]; omega⟩ rfl (fun v3 ws3 hq3 => ?_)
  obtain ⟨rfl, rfl⟩ := hq3
  exact aw_lret d_E_determinant_13 (Nat.le_refl 0) (Nat.le_refl 0) ⟨rfl, rfl⟩
