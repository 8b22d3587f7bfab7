-- laid by wip/whole/m17.py
theorem sn_step {f : Nat → Nat} {a x w : Nat} (h : f a = x * w) : (sN f a : Int) + (x : Int) * (w : Int) = (sN f (a + 1) : Int) := by
  rw [sN, h, Int.natCast_add, Int.natCast_mul]
theorem sn_step3 {f : Nat → Nat} {a x d w : Nat} (h : f a = x * (d * w)) : (sN f a : Int) + (x : Int) * (d : Int) * (w : Int) = (sN f (a + 1) : Int) := by
  rw [sN, h, Int.natCast_add, Int.natCast_mul, Int.natCast_mul, Int.mul_assoc]
theorem lc_step {a b : Nat} : ((a / Nat.gcd a b : Nat) : Int) * (b : Int) = ((a / Nat.gcd a b * b : Nat) : Int) := by
  rw [← Int.natCast_mul]
theorem dr_next {f : Nat → Nat} {n v t : Nat} (h1 : t < sN f n) (h2 : sN f (v + 1) ≤ t) (hv : v < n) : v + 1 < n := by
  rcases Nat.lt_or_ge (v + 1) n with z | z
  · exact z
  · have e : n = v + 1 := by omega
    rw [e] at h1
    omega
theorem fup_up {f : Nat → Int} {h : Nat → Int} {c : Nat} {z : Int} (hf : ∀ j, j < c → f j = h j) (hz : z = h c) : ∀ j, j < c + 1 → fup f c z j = h j := fun j hj => by
  by_cases e : j = c
  · rw [e, fup_at, hz]
  · rw [fup_ne e]; exact hf j (by omega)

set_option maxHeartbeats 4000000 in
set_option maxRecDepth 100000 in
theorem m_M_walks {g : aw_G} (hg : aw_T g) {ws : va_W} {ad : Nat → Nat} {n x y : Nat} {W : Nat → Nat → Nat} {J : Nat → Nat} {u v k : Int32} (hO : gMo g ws ad n x y W J) : AMet g y_M_walks c_M_walks 7 (some .long) 1 [.ref (ad 40), .int u, .int v, .int k] ws (qM g ad ws (.long (aWalks n W u v k)) n x y W J) 0 0 := by
  obtain ⟨V, Rw, Tt, q, So, Bo, fo, tw, St, Sh, ss, Nw, Th, hM, hok, hV⟩ := id hO
  have hn := hok.1
  refine amet_of (by decide +kernel) (Nat.le_of_ble_eq_true rfl) ?_
  refine aw_sub (lv' := [(0, .ref (ad 40)), (1, .int u), (2, .int v), (3, .int k)]) [0, 1, 2, 3] rfl ?_
  refine aw_aload_n d_M_walks_0 rfl rfl ?_
  refine aw_iload_n d_M_walks_1 rfl rfl ?_
  refine aw_callV (av := [.int u]) (rest := []) (m_M_isNode hg hM) kd_M_isNode k_464 k_466 ks_M_isNode rfl hM.1 d_M_walks_2 rfl ⟨by decide, by decide⟩ (Nat.le_of_ble_eq_true rfl) ⟨by decide, by decide⟩ rfl (fun v2 ws2 hq2 => ?_)
  obtain ⟨rfl, rfl⟩ := hq2
  refine aw_if_eqB (tgt := 16) d_M_walks_5 (by decide) (fun h1 => ?_) (fun h1 => ?_)
  · refine aw_ldc2 (v := (-1 : Int64)) d_M_walks_16 k_527 ?_
    exact aw_lret d_M_walks_19 (Nat.le_refl 0) (Nat.le_refl 0) ⟨by unfold aWalks; rw [if_neg (by simp [h1])], fr.rf, hO⟩
  · refine aw_aload_n d_M_walks_8 rfl rfl ?_
    refine aw_iload_n d_M_walks_9 rfl rfl ?_
    refine aw_callV (av := [.int v]) (rest := []) (m_M_isNode hg hM) kd_M_isNode k_464 k_466 ks_M_isNode rfl hM.1 d_M_walks_10 rfl ⟨by decide, by decide⟩ (Nat.le_of_ble_eq_true rfl) ⟨by decide, by decide⟩ rfl (fun v2 ws2 hq2 => ?_)
    obtain ⟨rfl, rfl⟩ := hq2
    refine aw_if_neB (tgt := 20) d_M_walks_13 (by decide) (fun h2 => ?_) (fun h2 => ?_)
    · refine aw_iload_n d_M_walks_20 rfl rfl ?_
      refine aw_if_lt (tgt := 30) d_M_walks_21 (by decide) (fun h3 => ?_) (fun h3 => ?_)
      · refine aw_ldc2 (v := (-2 : Int64)) d_M_walks_30 k_531 ?_
        exact aw_lret d_M_walks_33 (Nat.le_refl 0) (Nat.le_refl 0) ⟨by unfold aWalks; rw [if_pos ⟨h1, h2⟩, if_neg (by rw [ib_lt h3]; decide)], fr.rf, hO⟩
      · refine aw_iload_n d_M_walks_24 rfl rfl ?_
        refine aw_bipush (v := nI 12) d_M_walks_25 (by decide) ?_
        refine aw_icmp_le (tgt := 34) d_M_walks_27 (by decide) (fun h4 => ?_) (fun h4 => ?_)
        · have h5 := ib_in h3 h4
          obtain ⟨k1, hk1, rfl⟩ := ib_true (by decide) h5
          obtain ⟨u1, hu1, rfl⟩ := nb_true hn h1
          obtain ⟨v1, hv1, rfl⟩ := nb_true hn h2
          have lI_ : ∀ (k : Nat) (ws1 : va_W) (Nw1 Th1 : Nat → Int) (i : Nat), gM g ws1 ad n x y V J Rw Tt q So Bo fo tw St Sh ss Nw1 Th1 → fr 40 51 ws ws1 → i ≤ k1 → (∀ j, j < n → Nw1 j = (itN (W) n (dlN u1) i j : Int)) → k1 - i < k → AW g y_M_walks c_M_walks 7 (some .long) (aw_rm 1 0 0) aw_E0 (aw_F g (qM g ad ws (.long (aWalks n W (nI u1) (nI v1) (nI k1))) n x y W J) 0 0) 0 0 73 [(0, .ref (ad 40)), (1, .int (nI u1)), (2, .int (nI v1)), (3, .int (nI k1)), (4, .int (nI i))] [] ws1 := by
            intro k
            induction k with
            | zero => intro ws1 Nw1 Th1 i hM1 f1 hi0 hA hk; omega
            | succ k ih =>
              intro ws1 Nw1 Th1 i hM1 f1 hi0 hA hk
              refine aw_iload d_M_walks_73 rfl ?_
              refine aw_iload_n d_M_walks_75 rfl rfl ?_
              refine aw_icmp_geN (tgt := 192) d_M_walks_76 (by decide) (by omega) (by omega) (fun hi => ?_) (fun hi => ?_)
              · have e : k1 = i := by omega
                subst e
                refine aw_aload_n d_M_walks_192 rfl rfl ?_
                refine aw_get kc_6 15 (by decide) k_419 d_M_walks_193 hM1.1 rfl ?_
                refine aw_iload_n d_M_walks_196 rfl rfl ?_
                refine aw_laldA d_M_walks_197 hM1.2.2.2.2.2.2.2.2.2.1 hg (by omega) (by decide) ?_
                exact aw_lret d_M_walks_198 (Nat.le_refl 0) (Nat.le_refl 0) ⟨by unfold aWalks; rw [if_pos ⟨h1, h2⟩, if_pos h5, ix_nI (by omega), ix_nI (by omega), ix_nI (by omega), hA v1 hv1], f1, ⟨_, _, _, _, _, _, _, _, _, _, _, _, _, hM1, hok, hV⟩⟩
              · have ihI := ih
                have lC : ∀ (k : Nat) (ws2 : va_W) (Nw2 Th2 : Nat → Int) (c : Nat), gM g ws2 ad n x y V J Rw Tt q So Bo fo tw St Sh ss Nw2 Th2 → fr 40 51 ws ws2 → c ≤ n → (∀ j, j < c → Nw2 j = (itN (W) n (dlN u1) (i + 1) j : Int)) → (∀ j, j < n → Th2 j = (itN (W) n (dlN u1) (i + 1) j : Int)) → n - c < k → AW g y_M_walks c_M_walks 7 (some .long) (aw_rm 1 0 0) aw_E0 (aw_F g (qM g ad ws (.long (aWalks n W (nI u1) (nI v1) (nI k1))) n x y W J) 0 0) 0 0 157 [(0, .ref (ad 40)), (1, .int (nI u1)), (2, .int (nI v1)), (3, .int (nI k1)), (4, .int (nI i)), (5, .int (nI c))] [] ws2 := by
                  intro k
                  induction k with
                  | zero => intro ws2 Nw2 Th2 c hM2 f2 hc0 hN hT2 hk2; omega
                  | succ k ih =>
                    intro ws2 Nw2 Th2 c hM2 f2 hc0 hN hT2 hk2
                    refine aw_iload d_M_walks_157 rfl ?_
                    refine aw_aload_n d_M_walks_159 rfl rfl ?_
                    refine aw_get kc_6 0 (by decide) k_404 d_M_walks_160 hM2.1 rfl ?_
                    refine aw_icmp_geN (tgt := 186) d_M_walks_163 (by decide) (by omega) (by omega) (fun hc => ?_) (fun hc => ?_)
                    · refine aw_iinc1 (lv' := [(4, .int (nI (i + 1))), (0, .ref (ad 40)), (1, .int (nI u1)), (2, .int (nI v1)), (3, .int (nI k1)), (5, .int (nI c))]) d_M_walks_186 rfl (by decide) rfl ?_
                      refine aw_goto (tgt := 73) d_M_walks_189 (by decide) ?_
                      refine aw_sub (lv' := [(0, .ref (ad 40)), (1, .int (nI u1)), (2, .int (nI v1)), (3, .int (nI k1)), (4, .int (nI (i + 1)))]) [1, 2, 3, 4, 0] rfl ?_
                      exact ihI ws2 Nw2 Th2 (i + 1) hM2 f2 (by omega) (fun j hj => hN j (by omega)) (by omega)
                    · refine aw_aload_n d_M_walks_166 rfl rfl ?_
                      refine aw_get kc_6 15 (by decide) k_419 d_M_walks_167 hM2.1 rfl ?_
                      refine aw_iload d_M_walks_170 rfl ?_
                      refine aw_aload_n d_M_walks_172 rfl rfl ?_
                      refine aw_get kc_6 16 (by decide) k_420 d_M_walks_173 hM2.1 rfl ?_
                      refine aw_iload d_M_walks_176 rfl ?_
                      refine aw_laldA d_M_walks_178 hM2.2.2.2.2.2.2.2.2.2.2 hg (by omega) (by decide) ?_
                      refine aw_lastA d_M_walks_179 hM2.2.2.2.2.2.2.2.2.2.1 hg (by omega) (by decide) (fun zws1 za2 zb3 zc4 => ?_)
                      have hM3 := hM2.p49  za2 zb3
                      have f3 := f2.tr (fr.one (lo := 40) (hi := 51) zb3 zc4 (by omega) (by omega))
                      refine aw_iinc1 (lv' := [(5, .int (nI (c + 1))), (0, .ref (ad 40)), (1, .int (nI u1)), (2, .int (nI v1)), (3, .int (nI k1)), (4, .int (nI i))]) d_M_walks_180 rfl (by decide) rfl ?_
                      refine aw_goto (tgt := 157) d_M_walks_183 (by decide) ?_
                      refine aw_sub (lv' := [(0, .ref (ad 40)), (1, .int (nI u1)), (2, .int (nI v1)), (3, .int (nI k1)), (4, .int (nI i)), (5, .int (nI (c + 1)))]) [1, 2, 3, 4, 5, 0] rfl ?_
                      exact ih _ _ Th2 (c + 1) hM3 f3 (by omega) (fup_up hN (hT2 c hc)) hT2 (by omega)
                have lB : ∀ (k : Nat) (ws2 : va_W) (Th2 : Nat → Int) (b : Nat), gM g ws2 ad n x y V J Rw Tt q So Bo fo tw St Sh ss Nw1 Th2 → fr 40 51 ws ws2 → b ≤ n → (∀ j, j < b → Th2 j = (itN (W) n (dlN u1) (i + 1) j : Int)) → n - b < k → AW g y_M_walks c_M_walks 7 (some .long) (aw_rm 1 0 0) aw_E0 (aw_F g (qM g ad ws (.long (aWalks n W (nI u1) (nI v1) (nI k1))) n x y W J) 0 0) 0 0 82 [(0, .ref (ad 40)), (1, .int (nI u1)), (2, .int (nI v1)), (3, .int (nI k1)), (4, .int (nI i)), (5, .int (nI b))] [] ws2 := by
                  intro k
                  induction k with
                  | zero => intro ws2 Th2 b hM2 f2 hb0 hT2 hk2; omega
                  | succ k ih =>
                    intro ws2 Th2 b hM2 f2 hb0 hT2 hk2
                    refine aw_iload d_M_walks_82 rfl ?_
                    refine aw_aload_n d_M_walks_84 rfl rfl ?_
                    refine aw_get kc_6 0 (by decide) k_404 d_M_walks_85 hM2.1 rfl ?_
                    refine aw_icmp_geN (tgt := 154) d_M_walks_88 (by decide) (by omega) (by omega) (fun hb => ?_) (fun hb => ?_)
                    · refine aw_iconst (v := nI 0) d_M_walks_154 (by decide) ?_
                      refine aw_istore (lv' := [(5, .int (nI 0)), (0, .ref (ad 40)), (1, .int (nI u1)), (2, .int (nI v1)), (3, .int (nI k1)), (4, .int (nI i))]) d_M_walks_155 (by decide) rfl ?_
                      refine aw_sub (lv' := [(0, .ref (ad 40)), (1, .int (nI u1)), (2, .int (nI v1)), (3, .int (nI k1)), (4, .int (nI i)), (5, .int (nI 0))]) [1, 2, 3, 4, 5, 0] rfl ?_
                      exact lC (n + 1) ws2 Nw1 Th2 0 hM2 f2 (by omega) (fun j hj => absurd hj (by omega)) (fun j hj => hT2 j (by omega)) (by omega)
                    · have ihB := ih
                      have lA : ∀ (k : Nat) (ws3 : va_W) (Th3 : Nat → Int) (a : Nat), gM g ws3 ad n x y V J Rw Tt q So Bo fo tw St Sh ss Nw1 Th3 → fr 40 51 ws ws3 → a ≤ n → (∀ j, j < b → Th3 j = (itN (W) n (dlN u1) (i + 1) j : Int)) → Th3 b = (sN (fun c => itN (W) n (dlN u1) i c * (W) c b) a : Int) → n - a < k → AW g y_M_walks c_M_walks 7 (some .long) (aw_rm 1 0 0) aw_E0 (aw_F g (qM g ad ws (.long (aWalks n W (nI u1) (nI v1) (nI k1))) n x y W J) 0 0) 0 0 102 [(0, .ref (ad 40)), (1, .int (nI u1)), (2, .int (nI v1)), (3, .int (nI k1)), (4, .int (nI i)), (5, .int (nI b)), (6, .int (nI a))] [] ws3 := by
                        intro k
                        induction k with
                        | zero => intro ws3 Th3 a hM3 f3 ha0 hT3 hTb hk3; omega
                        | succ k ih =>
                          intro ws3 Th3 a hM3 f3 ha0 hT3 hTb hk3
                          refine aw_iload d_M_walks_102 rfl ?_
                          refine aw_aload_n d_M_walks_104 rfl rfl ?_
                          refine aw_get kc_6 0 (by decide) k_404 d_M_walks_105 hM3.1 rfl ?_
                          refine aw_icmp_geN (tgt := 148) d_M_walks_108 (by decide) (by omega) (by omega) (fun ha => ?_) (fun ha => ?_)
                          · have e : n = a := by omega
                            subst e
                            refine aw_iinc1 (lv' := [(5, .int (nI (b + 1))), (0, .ref (ad 40)), (1, .int (nI u1)), (2, .int (nI v1)), (3, .int (nI k1)), (4, .int (nI i)), (6, .int (nI n))]) d_M_walks_148 rfl (by decide) rfl ?_
                            refine aw_goto (tgt := 82) d_M_walks_151 (by decide) ?_
                            refine aw_sub (lv' := [(0, .ref (ad 40)), (1, .int (nI u1)), (2, .int (nI v1)), (3, .int (nI k1)), (4, .int (nI i)), (5, .int (nI (b + 1)))]) [1, 2, 3, 4, 5, 0] rfl ?_
                            exact ihB ws3 Th3 (b + 1) hM3 f3 (by omega) (fun j hj => by by_cases e : j = b; rw [e, hTb]; rfl; exact hT3 j (by omega)) (by omega)
                          · have hw := hok.2.2.2.2.1 a b (by omega) (by omega)
                            refine aw_aload_n d_M_walks_111 rfl rfl ?_
                            refine aw_get kc_6 16 (by decide) k_420 d_M_walks_112 hM3.1 rfl ?_
                            refine aw_iload d_M_walks_115 rfl ?_
                            refine aw_dup2_11 d_M_walks_117 rfl rfl ?_
                            refine aw_laldA d_M_walks_118 hM3.2.2.2.2.2.2.2.2.2.2 hg (by omega) (by decide) ?_
                            refine aw_nml (z := lI (sN (fun c => itN (W) n (dlN u1) i c * (W) c b) a : Int)) (by rw [hTb]) ?_
                            refine aw_aload_n d_M_walks_119 rfl rfl ?_
                            refine aw_get kc_6 15 (by decide) k_419 d_M_walks_120 hM3.1 rfl ?_
                            refine aw_iload d_M_walks_123 rfl ?_
                            refine aw_laldA d_M_walks_125 hM3.2.2.2.2.2.2.2.2.2.1 hg (by omega) (by decide) ?_
                            refine aw_nml (z := lI (itN (W) n (dlN u1) i a : Int)) (by rw [hA a ha]) ?_
                            refine aw_aload_n d_M_walks_126 rfl rfl ?_
                            refine aw_get kc_6 1 (by decide) k_405 d_M_walks_127 hM3.1 rfl ?_
                            refine aw_iconst (v := nI 5) d_M_walks_130 (by decide) ?_
                            refine aw_iload d_M_walks_131 rfl ?_
                            refine aw_imulN d_M_walks_133 ?_
                            refine aw_iload d_M_walks_134 rfl ?_
                            refine aw_iaddN d_M_walks_136 ?_
                            refine aw_ialdA d_M_walks_137 hM3.2.1 hg (by omega) (by decide) ?_
                            refine aw_nmi (z := nI (W a b)) (by rw [hV a b (by omega) (by omega)]) ?_
                            refine aw_i2lN d_M_walks_138 (by omega) ?_
                            refine aw_lmulI d_M_walks_139 ?_
                            refine aw_laddI d_M_walks_140 ?_
                            refine aw_nml (z := lI (sN (fun c => itN (W) n (dlN u1) i c * (W) c b) (a + 1) : Int)) (congrArg lI (sn_step rfl)) ?_
                            refine aw_lastA d_M_walks_141 hM3.2.2.2.2.2.2.2.2.2.2 hg (by omega) (by decide) (fun zws5 za6 zb7 zc8 => ?_)
                            have hM4 := hM3.p50  za6 zb7
                            have f4 := f3.tr (fr.one (lo := 40) (hi := 51) zb7 zc8 (by omega) (by omega))
                            refine aw_iinc1 (lv' := [(6, .int (nI (a + 1))), (0, .ref (ad 40)), (1, .int (nI u1)), (2, .int (nI v1)), (3, .int (nI k1)), (4, .int (nI i)), (5, .int (nI b))]) d_M_walks_142 rfl (by decide) rfl ?_
                            refine aw_goto (tgt := 102) d_M_walks_145 (by decide) ?_
                            refine aw_sub (lv' := [(0, .ref (ad 40)), (1, .int (nI u1)), (2, .int (nI v1)), (3, .int (nI k1)), (4, .int (nI i)), (5, .int (nI b)), (6, .int (nI (a + 1)))]) [1, 2, 3, 4, 5, 6, 0] rfl ?_
                            exact ih _ _ (a + 1) hM4 f4 (by omega) (fun j hj => by rw [fup_ne (by omega)]; exact hT3 j hj) fup_at (by omega)
                      refine aw_aload_n d_M_walks_91 rfl rfl ?_
                      refine aw_get kc_6 16 (by decide) k_420 d_M_walks_92 hM2.1 rfl ?_
                      refine aw_iload d_M_walks_95 rfl ?_
                      refine aw_lconst (v := lI 0) d_M_walks_97 (by decide) ?_
                      refine aw_nml (z := lI (sN (fun c => itN (W) n (dlN u1) i c * (W) c b) 0 : Int)) rfl ?_
                      refine aw_lastA d_M_walks_98 hM2.2.2.2.2.2.2.2.2.2.2 hg (by omega) (by decide) (fun zws9 za10 zb11 zc12 => ?_)
                      have hM3 := hM2.p50  za10 zb11
                      have f3 := f2.tr (fr.one (lo := 40) (hi := 51) zb11 zc12 (by omega) (by omega))
                      refine aw_iconst (v := nI 0) d_M_walks_99 (by decide) ?_
                      refine aw_istore (lv' := [(6, .int (nI 0)), (0, .ref (ad 40)), (1, .int (nI u1)), (2, .int (nI v1)), (3, .int (nI k1)), (4, .int (nI i)), (5, .int (nI b))]) d_M_walks_100 (by decide) rfl ?_
                      refine aw_sub (lv' := [(0, .ref (ad 40)), (1, .int (nI u1)), (2, .int (nI v1)), (3, .int (nI k1)), (4, .int (nI i)), (5, .int (nI b)), (6, .int (nI 0))]) [1, 2, 3, 4, 5, 6, 0] rfl ?_
                      exact lA (n + 1) _ _ 0 hM3 f3 (by omega) (fun j hj => by rw [fup_ne (by omega)]; exact hT2 j hj) fup_at (by omega)
                refine aw_iconst (v := nI 0) d_M_walks_79 (by decide) ?_
                refine aw_istore (lv' := [(5, .int (nI 0)), (0, .ref (ad 40)), (1, .int (nI u1)), (2, .int (nI v1)), (3, .int (nI k1)), (4, .int (nI i))]) d_M_walks_80 (by decide) rfl ?_
                refine aw_sub (lv' := [(0, .ref (ad 40)), (1, .int (nI u1)), (2, .int (nI v1)), (3, .int (nI k1)), (4, .int (nI i)), (5, .int (nI 0))]) [1, 2, 3, 4, 5, 0] rfl ?_
                exact lB (n + 1) ws1 Th1 0 hM1 f1 (by omega) (fun j hj => absurd hj (by omega)) (by omega)
          have l1 : ∀ (k : Nat) (ws1 : va_W) (Nw1 : Nat → Int) (j : Nat), gM g ws1 ad n x y V J Rw Tt q So Bo fo tw St Sh ss Nw1 Th → fr 40 51 ws ws1 → j ≤ n → (∀ c, c < j → Nw1 c = (dlN u1 c : Int)) → n - j < k → AW g y_M_walks c_M_walks 7 (some .long) (aw_rm 1 0 0) aw_E0 (aw_F g (qM g ad ws (.long (aWalks n W (nI u1) (nI v1) (nI k1))) n x y W J) 0 0) 0 0 37 [(0, .ref (ad 40)), (1, .int (nI u1)), (2, .int (nI v1)), (3, .int (nI k1)), (4, .int (nI j))] [] ws1 := by
            intro k
            induction k with
            | zero => intro ws1 Nw1 j hM1 f1 hj0 hA hk; omega
            | succ k ih =>
              intro ws1 Nw1 j hM1 f1 hj0 hA hk
              refine aw_iload d_M_walks_37 rfl ?_
              refine aw_aload_n d_M_walks_39 rfl rfl ?_
              refine aw_get kc_6 0 (by decide) k_404 d_M_walks_40 hM1.1 rfl ?_
              refine aw_icmp_geN (tgt := 70) d_M_walks_43 (by decide) (by omega) (by omega) (fun hj => ?_) (fun hj => ?_)
              · refine aw_iconst (v := nI 0) d_M_walks_70 (by decide) ?_
                refine aw_istore (lv' := [(4, .int (nI 0)), (0, .ref (ad 40)), (1, .int (nI u1)), (2, .int (nI v1)), (3, .int (nI k1))]) d_M_walks_71 (by decide) rfl ?_
                refine aw_sub (lv' := [(0, .ref (ad 40)), (1, .int (nI u1)), (2, .int (nI v1)), (3, .int (nI k1)), (4, .int (nI 0))]) [1, 2, 3, 4, 0] rfl ?_
                exact lI_ (k1 + 1) ws1 Nw1 Th 0 hM1 f1 (by omega) (fun c hc => hA c (by omega)) (by omega)
              · refine aw_aload_n d_M_walks_46 rfl rfl ?_
                refine aw_get kc_6 15 (by decide) k_419 d_M_walks_47 hM1.1 rfl ?_
                refine aw_iload d_M_walks_50 rfl ?_
                refine aw_iload d_M_walks_52 rfl ?_
                refine aw_iload_n d_M_walks_54 rfl rfl ?_
                refine aw_icmp_neN (tgt := 62) d_M_walks_55 (by decide) (by omega) (by omega) (fun h6 => ?_) (fun h6 => ?_)
                · refine aw_lconst (v := lI 0) d_M_walks_62 (by decide) ?_
                  refine aw_nml (z := lI (dlN u1 j : Int)) (by unfold dlN; rw [if_neg h6]; rfl) ?_
                  refine aw_lastA d_M_walks_63 hM1.2.2.2.2.2.2.2.2.2.1 hg (by omega) (by decide) (fun zws13 za14 zb15 zc16 => ?_)
                  have hM2 := hM1.p49  za14 zb15
                  have f2 := f1.tr (fr.one (lo := 40) (hi := 51) zb15 zc16 (by omega) (by omega))
                  refine aw_iinc1 (lv' := [(4, .int (nI (j + 1))), (0, .ref (ad 40)), (1, .int (nI u1)), (2, .int (nI v1)), (3, .int (nI k1))]) d_M_walks_64 rfl (by decide) rfl ?_
                  refine aw_goto (tgt := 37) d_M_walks_67 (by decide) ?_
                  refine aw_sub (lv' := [(0, .ref (ad 40)), (1, .int (nI u1)), (2, .int (nI v1)), (3, .int (nI k1)), (4, .int (nI (j + 1)))]) [1, 2, 3, 4, 0] rfl ?_
                  exact ih _ _ (j + 1) hM2 f2 (by omega) (fup_up hA rfl) (by omega)
                · refine aw_lconst (v := lI 1) d_M_walks_58 (by decide) ?_
                  refine aw_goto (tgt := 63) d_M_walks_59 (by decide) ?_
                  refine aw_nml (z := lI (dlN u1 j : Int)) (by unfold dlN; rw [if_pos h6]; rfl) ?_
                  refine aw_lastA d_M_walks_63 hM1.2.2.2.2.2.2.2.2.2.1 hg (by omega) (by decide) (fun zws17 za18 zb19 zc20 => ?_)
                  have hM2 := hM1.p49  za18 zb19
                  have f2 := f1.tr (fr.one (lo := 40) (hi := 51) zb19 zc20 (by omega) (by omega))
                  refine aw_iinc1 (lv' := [(4, .int (nI (j + 1))), (0, .ref (ad 40)), (1, .int (nI u1)), (2, .int (nI v1)), (3, .int (nI k1))]) d_M_walks_64 rfl (by decide) rfl ?_
                  refine aw_goto (tgt := 37) d_M_walks_67 (by decide) ?_
                  refine aw_sub (lv' := [(0, .ref (ad 40)), (1, .int (nI u1)), (2, .int (nI v1)), (3, .int (nI k1)), (4, .int (nI (j + 1)))]) [1, 2, 3, 4, 0] rfl ?_
                  exact ih _ _ (j + 1) hM2 f2 (by omega) (fup_up hA rfl) (by omega)
          refine aw_iconst (v := nI 0) d_M_walks_34 (by decide) ?_
          refine aw_istore (lv' := [(4, .int (nI 0)), (0, .ref (ad 40)), (1, .int (nI u1)), (2, .int (nI v1)), (3, .int (nI k1))]) d_M_walks_35 (by decide) rfl ?_
          refine aw_sub (lv' := [(0, .ref (ad 40)), (1, .int (nI u1)), (2, .int (nI v1)), (3, .int (nI k1)), (4, .int (nI 0))]) [1, 2, 3, 4, 0] rfl ?_
          exact l1 (n + 1) ws Nw 0 hM fr.rf (by omega) (fun c hc => absurd hc (by omega)) (by omega)
        · refine aw_ldc2 (v := (-2 : Int64)) d_M_walks_30 k_531 ?_
          exact aw_lret d_M_walks_33 (Nat.le_refl 0) (Nat.le_refl 0) ⟨by unfold aWalks; rw [if_pos ⟨h1, h2⟩, if_neg (by rw [ib_gt h4]; decide)], fr.rf, hO⟩
    · refine aw_ldc2 (v := (-1 : Int64)) d_M_walks_16 k_527 ?_
      exact aw_lret d_M_walks_19 (Nat.le_refl 0) (Nat.le_refl 0) ⟨by unfold aWalks; rw [if_neg (by simp [h2])], fr.rf, hO⟩

set_option maxHeartbeats 4000000 in
set_option maxRecDepth 100000 in
theorem m_M_after {g : aw_G} (hg : aw_T g) {ws : va_W} {ad : Nat → Nat} {n x y : Nat} {W : Nat → Nat → Nat} {J : Nat → Nat} {u v k p : Int32} (hO : gMo g ws ad n x y W J) : AMet g y_M_after c_M_after 12 (some .long) 2 [.ref (ad 40), .int u, .int v, .int k, .int p] ws (qM g ad ws (.long (aAfter n x y W J u v k p)) n x y W J) 0 0 := by
  obtain ⟨V, Rw, Tt, q, So, Bo, fo, tw, St, Sh, ss, Nw, Th, hM, hok, hV⟩ := id hO
  have hn := hok.1
  have hU := unit_ok hok (Nat.le_refl n)
  have hU0 : 0 < uN n x y W J := hU.1
  have hU1 : uN n x y W J ≤ 10080 := hU.2
  refine amet_of (by decide +kernel) (Nat.le_of_ble_eq_true rfl) ?_
  refine aw_sub (lv' := [(0, .ref (ad 40)), (1, .int u), (2, .int v), (3, .int k), (4, .int p)]) [0, 1, 2, 3, 4] rfl ?_
  refine aw_aload_n d_M_after_0 rfl rfl ?_
  refine aw_iload_n d_M_after_1 rfl rfl ?_
  refine aw_callV (av := [.int u]) (rest := []) (m_M_isNode hg hM) kd_M_isNode k_464 k_466 ks_M_isNode rfl hM.1 d_M_after_2 rfl ⟨by decide, by decide⟩ (Nat.le_of_ble_eq_true rfl) ⟨by decide, by decide⟩ rfl (fun v2 ws2 hq2 => ?_)
  obtain ⟨rfl, rfl⟩ := hq2
  refine aw_if_eqB (tgt := 16) d_M_after_5 (by decide) (fun h1 => ?_) (fun h1 => ?_)
  · refine aw_ldc2 (v := (-1 : Int64)) d_M_after_16 k_527 ?_
    exact aw_lret d_M_after_19 (Nat.le_refl 0) (Nat.le_refl 0) ⟨by unfold aAfter; rw [if_neg (by simp [h1])], fr.rf, hO⟩
  · refine aw_aload_n d_M_after_8 rfl rfl ?_
    refine aw_iload_n d_M_after_9 rfl rfl ?_
    refine aw_callV (av := [.int v]) (rest := []) (m_M_isNode hg hM) kd_M_isNode k_464 k_466 ks_M_isNode rfl hM.1 d_M_after_10 rfl ⟨by decide, by decide⟩ (Nat.le_of_ble_eq_true rfl) ⟨by decide, by decide⟩ rfl (fun v2 ws2 hq2 => ?_)
    obtain ⟨rfl, rfl⟩ := hq2
    refine aw_if_neB (tgt := 20) d_M_after_13 (by decide) (fun h2 => ?_) (fun h2 => ?_)
    · refine aw_iload_n d_M_after_20 rfl rfl ?_
      refine aw_if_lt (tgt := 37) d_M_after_21 (by decide) (fun h3 => ?_) (fun h3 => ?_)
      · refine aw_ldc2 (v := (-2 : Int64)) d_M_after_37 k_531 ?_
        exact aw_lret d_M_after_40 (Nat.le_refl 0) (Nat.le_refl 0) ⟨by unfold aAfter; rw [if_pos ⟨h1, h2⟩, if_neg (by simp [ib_lt h3])], fr.rf, hO⟩
      · refine aw_iload_n d_M_after_24 rfl rfl ?_
        refine aw_iconst (v := nI 3) d_M_after_25 (by decide) ?_
        refine aw_icmp_gt (tgt := 37) d_M_after_26 (by decide) (fun h4 => ?_) (fun h4 => ?_)
        · refine aw_ldc2 (v := (-2 : Int64)) d_M_after_37 k_531 ?_
          exact aw_lret d_M_after_40 (Nat.le_refl 0) (Nat.le_refl 0) ⟨by unfold aAfter; rw [if_pos ⟨h1, h2⟩, if_neg (by simp [ib_gt (m := 3) (x := k) (Int32.not_le.mpr h4)])], fr.rf, hO⟩
        · refine aw_iload d_M_after_29 rfl ?_
          refine aw_callS (av := [.int p]) (rest := []) (m_M_isPart (ad := ad) hg) kd_M_isPart k_528 k_529  d_M_after_31 rfl ⟨by decide, by decide⟩ (Nat.le_of_ble_eq_true rfl) ⟨by decide, by decide⟩ rfl (fun v2 ws2 hq2 => ?_)
          obtain ⟨rfl, rfl⟩ := hq2
          refine aw_if_neB (tgt := 41) d_M_after_34 (by decide) (fun h6 => ?_) (fun h6 => ?_)
          · have h5 := ib_in (m := 3) h3 (Int32.not_lt.mp h4)
            obtain ⟨k1, hk1, rfl⟩ := ib_true (by decide) h5
            obtain ⟨u1, hu1, rfl⟩ := nb_true hn h1
            obtain ⟨v1, hv1, rfl⟩ := nb_true hn h2
            obtain ⟨p1, hp1, rfl⟩ := pb_true h6
            refine aw_aload_n d_M_after_41 rfl rfl ?_
            refine aw_callV (av := []) (rest := []) (m_M_findRows hg hM hok hV) kd_M_findRows k_484 k_486 ks_M_findRows rfl hM.1 d_M_after_42 rfl ⟨by decide, by decide⟩ (Nat.le_of_ble_eq_true rfl) ⟨by decide, by decide⟩ rfl (fun v5 ws5 hq5 => ?_)
            obtain ⟨rfl, f5, Rw5, Tt5, hM5, hR⟩ := hq5
            have lI_ : ∀ (k : Nat) (ws1 : va_W) (Nw1 Th1 : Nat → Int) (i : Nat), gM g ws1 ad n x y V J Rw5 Tt5 q So Bo fo tw St Sh ss Nw1 Th1 → fr 40 51 ws ws1 → i ≤ k1 → (∀ j, j < n → Nw1 j = (itN (fN n x y W J) n (dlN u1) i j : Int)) → k1 - i < k → AW g y_M_after c_M_after 12 (some .long) (aw_rm 2 0 0) aw_E0 (aw_F g (qM g ad ws (.long (aAfter n x y W J (nI u1) (nI v1) (nI k1) (nI p1))) n x y W J) 0 0) 0 0 117 [(0, .ref (ad 40)), (1, .int (nI u1)), (2, .int (nI v1)), (3, .int (nI k1)), (4, .int (nI p1)), (5, .long (lI (uN n x y W J : Int))), (7, .long (lI (uN n x y W J ^ i : Nat))), (9, .int (nI i))] [] ws1 := by
              intro k
              induction k with
              | zero => intro ws1 Nw1 Th1 i hM1 f1 hi0 hA hk; omega
              | succ k ih =>
                intro ws1 Nw1 Th1 i hM1 f1 hi0 hA hk
                refine aw_iload d_M_after_117 rfl ?_
                refine aw_iload_n d_M_after_119 rfl rfl ?_
                refine aw_icmp_geN (tgt := 255) d_M_after_120 (by decide) (by omega) (by omega) (fun hi => ?_) (fun hi => ?_)
                · have e : k1 = i := by omega
                  subst e
                  have b1 := itN_le (Z := fN n x y W J) (u := u1) hn (fun i j hi hj => fN_le hok hi hj) (k := k1) hv1
                  have b2 : (5 * 10080) ^ k1 ≤ (5 * 10080) ^ 3 := Nat.pow_le_pow_right (by decide) hk1
                  have b3 : uN n x y W J ^ k1 ≤ 10080 ^ k1 := Nat.pow_le_pow_left hU1 k1
                  have b4 : 10080 ^ k1 ≤ 10080 ^ 3 := Nat.pow_le_pow_right (by decide) hk1
                  have b5 : 0 < uN n x y W J ^ k1 := Nat.pow_pos hU0
                  refine aw_aload_n d_M_after_255 rfl rfl ?_
                  refine aw_get kc_6 15 (by decide) k_419 d_M_after_256 hM1.1 rfl ?_
                  refine aw_iload_n d_M_after_259 rfl rfl ?_
                  refine aw_laldA d_M_after_260 hM1.2.2.2.2.2.2.2.2.2.1 hg (by omega) (by decide) ?_
                  refine aw_nml (z := lI (itN (fN n x y W J) n (dlN u1) k1 v1 : Int)) (by rw [hA v1 hv1]) ?_
                  refine aw_lload d_M_after_261 rfl ?_
                  refine aw_iload d_M_after_263 rfl ?_
                  refine aw_callS (av := [.long (lI (itN (fN n x y W J) n (dlN u1) k1 v1 : Int)), .long (lI (uN n x y W J ^ k1 : Nat)), .int (nI p1)]) (rest := []) (m_M_lowest (ad := ad) hg (by omega) (by omega) b5 hp1) kd_M_lowest k_545 k_546  d_M_after_265 rfl ⟨by decide, by decide⟩ (Nat.le_of_ble_eq_true rfl) ⟨by decide, by decide⟩ rfl (fun v8 ws8 hq8 => ?_)
                  obtain ⟨rfl, rfl⟩ := hq8
                  exact aw_lret d_M_after_268 (Nat.le_refl 0) (Nat.le_refl 0) ⟨by unfold aAfter; rw [if_pos ⟨h1, h2⟩, if_pos ⟨h5, h6⟩, ix_nI (by omega), ix_nI (by omega), ix_nI (by omega), ix_nI (by omega)], f1, ⟨_, _, _, _, _, _, _, _, _, _, _, _, _, hM1, hok, hV⟩⟩
                · have ihI := ih
                  have lC : ∀ (k : Nat) (ws2 : va_W) (Nw2 Th2 : Nat → Int) (c : Nat), gM g ws2 ad n x y V J Rw5 Tt5 q So Bo fo tw St Sh ss Nw2 Th2 → fr 40 51 ws ws2 → c ≤ n → (∀ j, j < c → Nw2 j = (itN (fN n x y W J) n (dlN u1) (i + 1) j : Int)) → (∀ j, j < n → Th2 j = (itN (fN n x y W J) n (dlN u1) (i + 1) j : Int)) → n - c < k → AW g y_M_after c_M_after 12 (some .long) (aw_rm 2 0 0) aw_E0 (aw_F g (qM g ad ws (.long (aAfter n x y W J (nI u1) (nI v1) (nI k1) (nI p1))) n x y W J) 0 0) 0 0 220 [(0, .ref (ad 40)), (1, .int (nI u1)), (2, .int (nI v1)), (3, .int (nI k1)), (4, .int (nI p1)), (5, .long (lI (uN n x y W J : Int))), (7, .long (lI (uN n x y W J ^ (i + 1) : Nat))), (9, .int (nI i)), (10, .int (nI c))] [] ws2 := by
                    intro k
                    induction k with
                    | zero => intro ws2 Nw2 Th2 c hM2 f2 hc0 hN hT2 hk2; omega
                    | succ k ih =>
                      intro ws2 Nw2 Th2 c hM2 f2 hc0 hN hT2 hk2
                      refine aw_iload d_M_after_220 rfl ?_
                      refine aw_aload_n d_M_after_222 rfl rfl ?_
                      refine aw_get kc_6 0 (by decide) k_404 d_M_after_223 hM2.1 rfl ?_
                      refine aw_icmp_geN (tgt := 249) d_M_after_226 (by decide) (by omega) (by omega) (fun hc => ?_) (fun hc => ?_)
                      · refine aw_iinc1 (lv' := [(9, .int (nI (i + 1))), (0, .ref (ad 40)), (1, .int (nI u1)), (2, .int (nI v1)), (3, .int (nI k1)), (4, .int (nI p1)), (5, .long (lI (uN n x y W J : Int))), (7, .long (lI (uN n x y W J ^ (i + 1) : Nat))), (10, .int (nI c))]) d_M_after_249 rfl (by decide) rfl ?_
                        refine aw_goto (tgt := 117) d_M_after_252 (by decide) ?_
                        refine aw_sub (lv' := [(0, .ref (ad 40)), (1, .int (nI u1)), (2, .int (nI v1)), (3, .int (nI k1)), (4, .int (nI p1)), (5, .long (lI (uN n x y W J : Int))), (7, .long (lI (uN n x y W J ^ (i + 1) : Nat))), (9, .int (nI (i + 1)))]) [1, 2, 3, 4, 5, 6, 7, 0] rfl ?_
                        exact ihI ws2 Nw2 Th2 (i + 1) hM2 f2 (by omega) (fun j hj => hN j (by omega)) (by omega)
                      · refine aw_aload_n d_M_after_229 rfl rfl ?_
                        refine aw_get kc_6 15 (by decide) k_419 d_M_after_230 hM2.1 rfl ?_
                        refine aw_iload d_M_after_233 rfl ?_
                        refine aw_aload_n d_M_after_235 rfl rfl ?_
                        refine aw_get kc_6 16 (by decide) k_420 d_M_after_236 hM2.1 rfl ?_
                        refine aw_iload d_M_after_239 rfl ?_
                        refine aw_laldA d_M_after_241 hM2.2.2.2.2.2.2.2.2.2.2 hg (by omega) (by decide) ?_
                        refine aw_lastA d_M_after_242 hM2.2.2.2.2.2.2.2.2.2.1 hg (by omega) (by decide) (fun zws1 za2 zb3 zc4 => ?_)
                        have hM3 := hM2.p49  za2 zb3
                        have f3 := f2.tr (fr.one (lo := 40) (hi := 51) zb3 zc4 (by omega) (by omega))
                        refine aw_iinc1 (lv' := [(10, .int (nI (c + 1))), (0, .ref (ad 40)), (1, .int (nI u1)), (2, .int (nI v1)), (3, .int (nI k1)), (4, .int (nI p1)), (5, .long (lI (uN n x y W J : Int))), (7, .long (lI (uN n x y W J ^ (i + 1) : Nat))), (9, .int (nI i))]) d_M_after_243 rfl (by decide) rfl ?_
                        refine aw_goto (tgt := 220) d_M_after_246 (by decide) ?_
                        refine aw_sub (lv' := [(0, .ref (ad 40)), (1, .int (nI u1)), (2, .int (nI v1)), (3, .int (nI k1)), (4, .int (nI p1)), (5, .long (lI (uN n x y W J : Int))), (7, .long (lI (uN n x y W J ^ (i + 1) : Nat))), (9, .int (nI i)), (10, .int (nI (c + 1)))]) [1, 2, 3, 4, 5, 6, 7, 8, 0] rfl ?_
                        exact ih _ _ Th2 (c + 1) hM3 f3 (by omega) (fup_up hN (hT2 c hc)) hT2 (by omega)
                  have lB : ∀ (k : Nat) (ws2 : va_W) (Th2 : Nat → Int) (b : Nat), gM g ws2 ad n x y V J Rw5 Tt5 q So Bo fo tw St Sh ss Nw1 Th2 → fr 40 51 ws ws2 → b ≤ n → (∀ j, j < b → Th2 j = (itN (fN n x y W J) n (dlN u1) (i + 1) j : Int)) → n - b < k → AW g y_M_after c_M_after 12 (some .long) (aw_rm 2 0 0) aw_E0 (aw_F g (qM g ad ws (.long (aAfter n x y W J (nI u1) (nI v1) (nI k1) (nI p1))) n x y W J) 0 0) 0 0 133 [(0, .ref (ad 40)), (1, .int (nI u1)), (2, .int (nI v1)), (3, .int (nI k1)), (4, .int (nI p1)), (5, .long (lI (uN n x y W J : Int))), (7, .long (lI (uN n x y W J ^ (i + 1) : Nat))), (9, .int (nI i)), (10, .int (nI b))] [] ws2 := by
                    intro k
                    induction k with
                    | zero => intro ws2 Th2 b hM2 f2 hb0 hT2 hk2; omega
                    | succ k ih =>
                      intro ws2 Th2 b hM2 f2 hb0 hT2 hk2
                      refine aw_iload d_M_after_133 rfl ?_
                      refine aw_aload_n d_M_after_135 rfl rfl ?_
                      refine aw_get kc_6 0 (by decide) k_404 d_M_after_136 hM2.1 rfl ?_
                      refine aw_icmp_geN (tgt := 217) d_M_after_139 (by decide) (by omega) (by omega) (fun hb => ?_) (fun hb => ?_)
                      · refine aw_iconst (v := nI 0) d_M_after_217 (by decide) ?_
                        refine aw_istore (lv' := [(10, .int (nI 0)), (0, .ref (ad 40)), (1, .int (nI u1)), (2, .int (nI v1)), (3, .int (nI k1)), (4, .int (nI p1)), (5, .long (lI (uN n x y W J : Int))), (7, .long (lI (uN n x y W J ^ (i + 1) : Nat))), (9, .int (nI i))]) d_M_after_218 (by decide) rfl ?_
                        refine aw_sub (lv' := [(0, .ref (ad 40)), (1, .int (nI u1)), (2, .int (nI v1)), (3, .int (nI k1)), (4, .int (nI p1)), (5, .long (lI (uN n x y W J : Int))), (7, .long (lI (uN n x y W J ^ (i + 1) : Nat))), (9, .int (nI i)), (10, .int (nI 0))]) [1, 2, 3, 4, 5, 6, 7, 8, 0] rfl ?_
                        exact lC (n + 1) ws2 Nw1 Th2 0 hM2 f2 (by omega) (fun j hj => absurd hj (by omega)) (fun j hj => hT2 j (by omega)) (by omega)
                      · have ihB := ih
                        have lA : ∀ (k : Nat) (ws3 : va_W) (Th3 : Nat → Int) (a : Nat), gM g ws3 ad n x y V J Rw5 Tt5 q So Bo fo tw St Sh ss Nw1 Th3 → fr 40 51 ws ws3 → a ≤ n → (∀ j, j < b → Th3 j = (itN (fN n x y W J) n (dlN u1) (i + 1) j : Int)) → Th3 b = (sN (fun c => itN (fN n x y W J) n (dlN u1) i c * (fN n x y W J) c b) a : Int) → n - a < k → AW g y_M_after c_M_after 12 (some .long) (aw_rm 2 0 0) aw_E0 (aw_F g (qM g ad ws (.long (aAfter n x y W J (nI u1) (nI v1) (nI k1) (nI p1))) n x y W J) 0 0) 0 0 153 [(0, .ref (ad 40)), (1, .int (nI u1)), (2, .int (nI v1)), (3, .int (nI k1)), (4, .int (nI p1)), (5, .long (lI (uN n x y W J : Int))), (7, .long (lI (uN n x y W J ^ (i + 1) : Nat))), (9, .int (nI i)), (10, .int (nI b)), (11, .int (nI a))] [] ws3 := by
                          intro k
                          induction k with
                          | zero => intro ws3 Th3 a hM3 f3 ha0 hT3 hTb hk3; omega
                          | succ k ih =>
                            intro ws3 Th3 a hM3 f3 ha0 hT3 hTb hk3
                            refine aw_iload d_M_after_153 rfl ?_
                            refine aw_aload_n d_M_after_155 rfl rfl ?_
                            refine aw_get kc_6 0 (by decide) k_404 d_M_after_156 hM3.1 rfl ?_
                            refine aw_icmp_geN (tgt := 211) d_M_after_159 (by decide) (by omega) (by omega) (fun ha => ?_) (fun ha => ?_)
                            · have e : n = a := by omega
                              subst e
                              refine aw_iinc1 (lv' := [(10, .int (nI (b + 1))), (0, .ref (ad 40)), (1, .int (nI u1)), (2, .int (nI v1)), (3, .int (nI k1)), (4, .int (nI p1)), (5, .long (lI (uN n x y W J : Int))), (7, .long (lI (uN n x y W J ^ (i + 1) : Nat))), (9, .int (nI i)), (11, .int (nI n))]) d_M_after_211 rfl (by decide) rfl ?_
                              refine aw_goto (tgt := 133) d_M_after_214 (by decide) ?_
                              refine aw_sub (lv' := [(0, .ref (ad 40)), (1, .int (nI u1)), (2, .int (nI v1)), (3, .int (nI k1)), (4, .int (nI p1)), (5, .long (lI (uN n x y W J : Int))), (7, .long (lI (uN n x y W J ^ (i + 1) : Nat))), (9, .int (nI i)), (10, .int (nI (b + 1)))]) [1, 2, 3, 4, 5, 6, 7, 8, 0] rfl ?_
                              exact ihB ws3 Th3 (b + 1) hM3 f3 (by omega) (fun j hj => by by_cases e : j = b; rw [e, hTb]; rfl; exact hT3 j (by omega)) (by omega)
                            · have ht := nr_ok hok ha
                              have h400 := nr_400 hok ha hb
                              refine aw_aload_n d_M_after_162 rfl rfl ?_
                              refine aw_get kc_6 16 (by decide) k_420 d_M_after_163 hM3.1 rfl ?_
                              refine aw_iload d_M_after_166 rfl ?_
                              refine aw_dup2_11 d_M_after_168 rfl rfl ?_
                              refine aw_laldA d_M_after_169 hM3.2.2.2.2.2.2.2.2.2.2 hg (by omega) (by decide) ?_
                              refine aw_nml (z := lI (sN (fun c => itN (fN n x y W J) n (dlN u1) i c * (fN n x y W J) c b) a : Int)) (by rw [hTb]) ?_
                              refine aw_aload_n d_M_after_170 rfl rfl ?_
                              refine aw_get kc_6 15 (by decide) k_419 d_M_after_171 hM3.1 rfl ?_
                              refine aw_iload d_M_after_174 rfl ?_
                              refine aw_laldA d_M_after_176 hM3.2.2.2.2.2.2.2.2.2.1 hg (by omega) (by decide) ?_
                              refine aw_nml (z := lI (itN (fN n x y W J) n (dlN u1) i a : Int)) (by rw [hA a ha]) ?_
                              refine aw_lload d_M_after_177 rfl ?_
                              refine aw_aload_n d_M_after_179 rfl rfl ?_
                              refine aw_get kc_6 6 (by decide) k_410 d_M_after_180 hM3.1 rfl ?_
                              refine aw_iload d_M_after_183 rfl ?_
                              refine aw_ialdA d_M_after_185 hM3.2.2.2.2.1 hg (by omega) (by decide) ?_
                              refine aw_nmi (z := nI (tt n x y W J a)) (by rw [(hR a ha).2]) ?_
                              refine aw_i2lN d_M_after_186 (by omega) ?_
                              refine aw_ldivI (a := (uN n x y W J)) (b := (tt n x y W J a)) d_M_after_187 (by omega) (by omega) (by omega) ?_
                              refine aw_lmulI d_M_after_188 ?_
                              refine aw_aload_n d_M_after_189 rfl rfl ?_
                              refine aw_get kc_6 5 (by decide) k_409 d_M_after_190 hM3.1 rfl ?_
                              refine aw_iconst (v := nI 5) d_M_after_193 (by decide) ?_
                              refine aw_iload d_M_after_194 rfl ?_
                              refine aw_imulN d_M_after_196 ?_
                              refine aw_iload d_M_after_197 rfl ?_
                              refine aw_iaddN d_M_after_199 ?_
                              refine aw_ialdA d_M_after_200 hM3.2.2.2.1 hg (by omega) (by decide) ?_
                              refine aw_nmi (z := nI (nr n x y W J a b)) (by rw [(hR a ha).1 b hb]) ?_
                              refine aw_i2lN d_M_after_201 (by omega) ?_
                              refine aw_lmulI d_M_after_202 ?_
                              refine aw_laddI d_M_after_203 ?_
                              refine aw_nml (z := lI (sN (fun c => itN (fN n x y W J) n (dlN u1) i c * (fN n x y W J) c b) (a + 1) : Int)) (congrArg lI (sn_step3 rfl)) ?_
                              refine aw_lastA d_M_after_204 hM3.2.2.2.2.2.2.2.2.2.2 hg (by omega) (by decide) (fun zws5 za6 zb7 zc8 => ?_)
                              have hM4 := hM3.p50  za6 zb7
                              have f4 := f3.tr (fr.one (lo := 40) (hi := 51) zb7 zc8 (by omega) (by omega))
                              refine aw_iinc1 (lv' := [(11, .int (nI (a + 1))), (0, .ref (ad 40)), (1, .int (nI u1)), (2, .int (nI v1)), (3, .int (nI k1)), (4, .int (nI p1)), (5, .long (lI (uN n x y W J : Int))), (7, .long (lI (uN n x y W J ^ (i + 1) : Nat))), (9, .int (nI i)), (10, .int (nI b))]) d_M_after_205 rfl (by decide) rfl ?_
                              refine aw_goto (tgt := 153) d_M_after_208 (by decide) ?_
                              refine aw_sub (lv' := [(0, .ref (ad 40)), (1, .int (nI u1)), (2, .int (nI v1)), (3, .int (nI k1)), (4, .int (nI p1)), (5, .long (lI (uN n x y W J : Int))), (7, .long (lI (uN n x y W J ^ (i + 1) : Nat))), (9, .int (nI i)), (10, .int (nI b)), (11, .int (nI (a + 1)))]) [1, 2, 3, 4, 5, 6, 7, 8, 9, 0] rfl ?_
                              exact ih _ _ (a + 1) hM4 f4 (by omega) (fun j hj => by rw [fup_ne (by omega)]; exact hT3 j hj) fup_at (by omega)
                        refine aw_aload_n d_M_after_142 rfl rfl ?_
                        refine aw_get kc_6 16 (by decide) k_420 d_M_after_143 hM2.1 rfl ?_
                        refine aw_iload d_M_after_146 rfl ?_
                        refine aw_lconst (v := lI 0) d_M_after_148 (by decide) ?_
                        refine aw_nml (z := lI (sN (fun c => itN (fN n x y W J) n (dlN u1) i c * (fN n x y W J) c b) 0 : Int)) rfl ?_
                        refine aw_lastA d_M_after_149 hM2.2.2.2.2.2.2.2.2.2.2 hg (by omega) (by decide) (fun zws9 za10 zb11 zc12 => ?_)
                        have hM3 := hM2.p50  za10 zb11
                        have f3 := f2.tr (fr.one (lo := 40) (hi := 51) zb11 zc12 (by omega) (by omega))
                        refine aw_iconst (v := nI 0) d_M_after_150 (by decide) ?_
                        refine aw_istore (lv' := [(11, .int (nI 0)), (0, .ref (ad 40)), (1, .int (nI u1)), (2, .int (nI v1)), (3, .int (nI k1)), (4, .int (nI p1)), (5, .long (lI (uN n x y W J : Int))), (7, .long (lI (uN n x y W J ^ (i + 1) : Nat))), (9, .int (nI i)), (10, .int (nI b))]) d_M_after_151 (by decide) rfl ?_
                        refine aw_sub (lv' := [(0, .ref (ad 40)), (1, .int (nI u1)), (2, .int (nI v1)), (3, .int (nI k1)), (4, .int (nI p1)), (5, .long (lI (uN n x y W J : Int))), (7, .long (lI (uN n x y W J ^ (i + 1) : Nat))), (9, .int (nI i)), (10, .int (nI b)), (11, .int (nI 0))]) [1, 2, 3, 4, 5, 6, 7, 8, 9, 0] rfl ?_
                        exact lA (n + 1) _ _ 0 hM3 f3 (by omega) (fun j hj => by rw [fup_ne (by omega)]; exact hT2 j hj) fup_at (by omega)
                  refine aw_lload d_M_after_123 rfl ?_
                  refine aw_lload d_M_after_125 rfl ?_
                  refine aw_lmulI d_M_after_127 ?_
                  refine aw_nml (z := lI (uN n x y W J ^ (i + 1) : Nat)) (by rw [Nat.pow_succ, Int.natCast_mul]) ?_
                  refine aw_lstore (lv' := [(7, .long (lI (uN n x y W J ^ (i + 1) : Nat))), (0, .ref (ad 40)), (1, .int (nI u1)), (2, .int (nI v1)), (3, .int (nI k1)), (4, .int (nI p1)), (5, .long (lI (uN n x y W J : Int))), (9, .int (nI i))]) d_M_after_128 (by decide) rfl ?_
                  refine aw_iconst (v := nI 0) d_M_after_130 (by decide) ?_
                  refine aw_istore (lv' := [(10, .int (nI 0)), (7, .long (lI (uN n x y W J ^ (i + 1) : Nat))), (0, .ref (ad 40)), (1, .int (nI u1)), (2, .int (nI v1)), (3, .int (nI k1)), (4, .int (nI p1)), (5, .long (lI (uN n x y W J : Int))), (9, .int (nI i))]) d_M_after_131 (by decide) rfl ?_
                  refine aw_sub (lv' := [(0, .ref (ad 40)), (1, .int (nI u1)), (2, .int (nI v1)), (3, .int (nI k1)), (4, .int (nI p1)), (5, .long (lI (uN n x y W J : Int))), (7, .long (lI (uN n x y W J ^ (i + 1) : Nat))), (9, .int (nI i)), (10, .int (nI 0))]) [2, 3, 4, 5, 6, 7, 1, 8, 0] rfl ?_
                  exact lB (n + 1) ws1 Th1 0 hM1 f1 (by omega) (fun j hj => absurd hj (by omega)) (by omega)
            have l1 : ∀ (k : Nat) (ws1 : va_W) (Nw1 : Nat → Int) (j : Nat), gM g ws1 ad n x y V J Rw5 Tt5 q So Bo fo tw St Sh ss Nw1 Th → fr 40 51 ws ws1 → j ≤ n → (∀ c, c < j → Nw1 c = (dlN u1 c : Int)) → n - j < k → AW g y_M_after c_M_after 12 (some .long) (aw_rm 2 0 0) aw_E0 (aw_F g (qM g ad ws (.long (aAfter n x y W J (nI u1) (nI v1) (nI k1) (nI p1))) n x y W J) 0 0) 0 0 51 [(0, .ref (ad 40)), (1, .int (nI u1)), (2, .int (nI v1)), (3, .int (nI k1)), (4, .int (nI p1)), (5, .long (lI (lcmT (tt n x y W J) j : Int))), (7, .int (nI j))] [] ws1 := by
              intro k
              induction k with
              | zero => intro ws1 Nw1 j hM1 f1 hj0 hA hk; omega
              | succ k ih =>
                intro ws1 Nw1 j hM1 f1 hj0 hA hk
                refine aw_iload d_M_after_51 rfl ?_
                refine aw_aload_n d_M_after_53 rfl rfl ?_
                refine aw_get kc_6 0 (by decide) k_404 d_M_after_54 hM1.1 rfl ?_
                refine aw_icmp_geN (tgt := 111) d_M_after_57 (by decide) (by omega) (by omega) (fun hj => ?_) (fun hj => ?_)
                · have e : n = j := by omega
                  subst e
                  refine aw_lconst (v := lI 1) d_M_after_111 (by decide) ?_
                  refine aw_nml (z := lI (uN n x y W J ^ 0 : Nat)) rfl ?_
                  refine aw_lstore (lv' := [(7, .long (lI (uN n x y W J ^ 0 : Nat))), (0, .ref (ad 40)), (1, .int (nI u1)), (2, .int (nI v1)), (3, .int (nI k1)), (4, .int (nI p1)), (5, .long (lI (lcmT (tt n x y W J) n : Int)))]) d_M_after_112 (by decide) rfl ?_
                  refine aw_iconst (v := nI 0) d_M_after_114 (by decide) ?_
                  refine aw_istore (lv' := [(9, .int (nI 0)), (7, .long (lI (uN n x y W J ^ 0 : Nat))), (0, .ref (ad 40)), (1, .int (nI u1)), (2, .int (nI v1)), (3, .int (nI k1)), (4, .int (nI p1)), (5, .long (lI (lcmT (tt n x y W J) n : Int)))]) d_M_after_115 (by decide) rfl ?_
                  refine aw_sub (lv' := [(0, .ref (ad 40)), (1, .int (nI u1)), (2, .int (nI v1)), (3, .int (nI k1)), (4, .int (nI p1)), (5, .long (lI (uN n x y W J : Int))), (7, .long (lI (uN n x y W J ^ 0 : Nat))), (9, .int (nI 0))]) [2, 3, 4, 5, 6, 7, 1, 0] rfl ?_
                  exact lI_ (k1 + 1) ws1 Nw1 Th 0 hM1 f1 (by omega) (fun c hc => hA c (by omega)) (by omega)
                · have ht := nr_ok hok hj
                  have ul := unit_ok hok hj0
                  have g0 := Nat.gcd_pos_of_pos_right (lcmT (tt n x y W J) j) ht.1
                  have g1 := Nat.le_of_dvd ul.1 (Nat.gcd_dvd_left (lcmT (tt n x y W J) j) (tt n x y W J j))
                  refine aw_lload d_M_after_60 rfl ?_
                  refine aw_lload d_M_after_62 rfl ?_
                  refine aw_aload_n d_M_after_64 rfl rfl ?_
                  refine aw_get kc_6 6 (by decide) k_410 d_M_after_65 hM1.1 rfl ?_
                  refine aw_iload d_M_after_68 rfl ?_
                  refine aw_ialdA d_M_after_70 hM1.2.2.2.2.1 hg (by omega) (by decide) ?_
                  refine aw_nmi (z := nI (tt n x y W J j)) (by rw [(hR j hj).2]) ?_
                  refine aw_i2lN d_M_after_71 (by omega) ?_
                  refine aw_callS (av := [.long (lI (lcmT (tt n x y W J) j : Int)), .long (lI (tt n x y W J j : Nat))]) (rest := [.long (lI (lcmT (tt n x y W J) j : Int))]) (m_M_common (ad := ad) hg (by omega) (by omega)) kd_M_common k_488 k_489  d_M_after_72 rfl ⟨by decide, by decide⟩ (Nat.le_of_ble_eq_true rfl) ⟨by decide, by decide⟩ rfl (fun v8 ws8 hq8 => ?_)
                  obtain ⟨rfl, rfl⟩ := hq8
                  refine aw_ldivI (a := (lcmT (tt n x y W J) j)) (b := (Nat.gcd (lcmT (tt n x y W J) j) (tt n x y W J j))) d_M_after_75 (by omega) (by omega) (by omega) ?_
                  refine aw_aload_n d_M_after_76 rfl rfl ?_
                  refine aw_get kc_6 6 (by decide) k_410 d_M_after_77 hM1.1 rfl ?_
                  refine aw_iload d_M_after_80 rfl ?_
                  refine aw_ialdA d_M_after_82 hM1.2.2.2.2.1 hg (by omega) (by decide) ?_
                  refine aw_nmi (z := nI (tt n x y W J j)) (by rw [(hR j hj).2]) ?_
                  refine aw_i2lN d_M_after_83 (by omega) ?_
                  refine aw_lmulI d_M_after_84 ?_
                  refine aw_nml (z := lI (lcmT (tt n x y W J) (j + 1) : Int)) (congrArg lI lc_step) ?_
                  refine aw_lstore (lv' := [(5, .long (lI (lcmT (tt n x y W J) (j + 1) : Int))), (0, .ref (ad 40)), (1, .int (nI u1)), (2, .int (nI v1)), (3, .int (nI k1)), (4, .int (nI p1)), (7, .int (nI j))]) d_M_after_85 (by decide) rfl ?_
                  refine aw_aload_n d_M_after_87 rfl rfl ?_
                  refine aw_get kc_6 15 (by decide) k_419 d_M_after_88 hM1.1 rfl ?_
                  refine aw_iload d_M_after_91 rfl ?_
                  refine aw_iload d_M_after_93 rfl ?_
                  refine aw_iload_n d_M_after_95 rfl rfl ?_
                  refine aw_icmp_neN (tgt := 103) d_M_after_96 (by decide) (by omega) (by omega) (fun h7 => ?_) (fun h7 => ?_)
                  · refine aw_lconst (v := lI 0) d_M_after_103 (by decide) ?_
                    refine aw_nml (z := lI (dlN u1 j : Int)) (by unfold dlN; rw [if_neg h7]; rfl) ?_
                    refine aw_lastA d_M_after_104 hM1.2.2.2.2.2.2.2.2.2.1 hg (by omega) (by decide) (fun zws13 za14 zb15 zc16 => ?_)
                    have hM2 := hM1.p49  za14 zb15
                    have f2 := f1.tr (fr.one (lo := 40) (hi := 51) zb15 zc16 (by omega) (by omega))
                    refine aw_iinc1 (lv' := [(7, .int (nI (j + 1))), (5, .long (lI (lcmT (tt n x y W J) (j + 1) : Int))), (0, .ref (ad 40)), (1, .int (nI u1)), (2, .int (nI v1)), (3, .int (nI k1)), (4, .int (nI p1))]) d_M_after_105 rfl (by decide) rfl ?_
                    refine aw_goto (tgt := 51) d_M_after_108 (by decide) ?_
                    refine aw_sub (lv' := [(0, .ref (ad 40)), (1, .int (nI u1)), (2, .int (nI v1)), (3, .int (nI k1)), (4, .int (nI p1)), (5, .long (lI (lcmT (tt n x y W J) (j + 1) : Int))), (7, .int (nI (j + 1)))]) [2, 3, 4, 5, 6, 1, 0] rfl ?_
                    exact ih _ _ (j + 1) hM2 f2 (by omega) (fup_up hA rfl) (by omega)
                  · refine aw_lconst (v := lI 1) d_M_after_99 (by decide) ?_
                    refine aw_goto (tgt := 104) d_M_after_100 (by decide) ?_
                    refine aw_nml (z := lI (dlN u1 j : Int)) (by unfold dlN; rw [if_pos h7]; rfl) ?_
                    refine aw_lastA d_M_after_104 hM1.2.2.2.2.2.2.2.2.2.1 hg (by omega) (by decide) (fun zws17 za18 zb19 zc20 => ?_)
                    have hM2 := hM1.p49  za18 zb19
                    have f2 := f1.tr (fr.one (lo := 40) (hi := 51) zb19 zc20 (by omega) (by omega))
                    refine aw_iinc1 (lv' := [(7, .int (nI (j + 1))), (5, .long (lI (lcmT (tt n x y W J) (j + 1) : Int))), (0, .ref (ad 40)), (1, .int (nI u1)), (2, .int (nI v1)), (3, .int (nI k1)), (4, .int (nI p1))]) d_M_after_105 rfl (by decide) rfl ?_
                    refine aw_goto (tgt := 51) d_M_after_108 (by decide) ?_
                    refine aw_sub (lv' := [(0, .ref (ad 40)), (1, .int (nI u1)), (2, .int (nI v1)), (3, .int (nI k1)), (4, .int (nI p1)), (5, .long (lI (lcmT (tt n x y W J) (j + 1) : Int))), (7, .int (nI (j + 1)))]) [2, 3, 4, 5, 6, 1, 0] rfl ?_
                    exact ih _ _ (j + 1) hM2 f2 (by omega) (fup_up hA rfl) (by omega)
            refine aw_lconst (v := lI 1) d_M_after_45 (by decide) ?_
            refine aw_nml (z := lI (lcmT (tt n x y W J) 0 : Int)) rfl ?_
            refine aw_lstore (lv' := [(5, .long (lI (lcmT (tt n x y W J) 0 : Int))), (0, .ref (ad 40)), (1, .int (nI u1)), (2, .int (nI v1)), (3, .int (nI k1)), (4, .int (nI p1))]) d_M_after_46 (by decide) rfl ?_
            refine aw_iconst (v := nI 0) d_M_after_48 (by decide) ?_
            refine aw_istore (lv' := [(7, .int (nI 0)), (5, .long (lI (lcmT (tt n x y W J) 0 : Int))), (0, .ref (ad 40)), (1, .int (nI u1)), (2, .int (nI v1)), (3, .int (nI k1)), (4, .int (nI p1))]) d_M_after_49 (by decide) rfl ?_
            refine aw_sub (lv' := [(0, .ref (ad 40)), (1, .int (nI u1)), (2, .int (nI v1)), (3, .int (nI k1)), (4, .int (nI p1)), (5, .long (lI (lcmT (tt n x y W J) 0 : Int))), (7, .int (nI 0))]) [2, 3, 4, 5, 6, 1, 0] rfl ?_
            exact l1 (n + 1) ws5 Nw 0 hM5 f5 (by omega) (fun c hc => absurd hc (by omega)) (by omega)
          · refine aw_ldc2 (v := (-2 : Int64)) d_M_after_37 k_531 ?_
            exact aw_lret d_M_after_40 (Nat.le_refl 0) (Nat.le_refl 0) ⟨by unfold aAfter; rw [if_pos ⟨h1, h2⟩, if_neg (by simp [h6])], fr.rf, hO⟩
    · refine aw_ldc2 (v := (-1 : Int64)) d_M_after_16 k_527 ?_
      exact aw_lret d_M_after_19 (Nat.le_refl 0) (Nat.le_refl 0) ⟨by unfold aAfter; rw [if_neg (by simp [h2])], fr.rf, hO⟩

set_option maxHeartbeats 4000000 in
set_option maxRecDepth 100000 in
theorem m_M_drawn {g : aw_G} (hg : aw_T g) {ws : va_W} {ad : Nat → Nat} {n x y : Nat} {W : Nat → Nat → Nat} {J : Nat → Nat} {u z k : Int32} (hO : gMo g ws ad n x y W J) : AMet g y_M_drawn c_M_drawn 9 (some .int) 2 [.ref (ad 40), .int u, .int z, .int k] ws (qM g ad ws (.int (aDrawn n x y W J u z k)) n x y W J) 0 0 := by
  obtain ⟨V, Rw, Tt, q, So, Bo, fo, tw, St, Sh, ss, Nw, Th, hM, hok, hV⟩ := id hO
  have hn := hok.1
  refine amet_of (by decide +kernel) (Nat.le_of_ble_eq_true rfl) ?_
  refine aw_sub (lv' := [(0, .ref (ad 40)), (1, .int u), (2, .int z), (3, .int k)]) [0, 1, 2, 3] rfl ?_
  refine aw_aload_n d_M_drawn_0 rfl rfl ?_
  refine aw_iload_n d_M_drawn_1 rfl rfl ?_
  refine aw_callV (av := [.int u]) (rest := []) (m_M_isNode hg hM) kd_M_isNode k_464 k_466 ks_M_isNode rfl hM.1 d_M_drawn_2 rfl ⟨by decide, by decide⟩ (Nat.le_of_ble_eq_true rfl) ⟨by decide, by decide⟩ rfl (fun v2 ws2 hq2 => ?_)
  obtain ⟨rfl, rfl⟩ := hq2
  refine aw_if_neB (tgt := 10) d_M_drawn_5 (by decide) (fun h1 => ?_) (fun h1 => ?_)
  · refine aw_iload_n d_M_drawn_10 rfl rfl ?_
    refine aw_if_lt (tgt := 21) d_M_drawn_11 (by decide) (fun h3 => ?_) (fun h3 => ?_)
    · refine aw_bipush (v := -2) d_M_drawn_21 (by decide) ?_
      exact aw_iret d_M_drawn_23 (Nat.le_refl 0) (Nat.le_refl 0) ⟨by unfold aDrawn; rw [if_pos h1, if_neg (by rw [ib_lt h3]; decide)], fr.rf, hO⟩
    · refine aw_iload_n d_M_drawn_14 rfl rfl ?_
      refine aw_sipush (v := nI 200) d_M_drawn_15 (by decide) ?_
      refine aw_icmp_le (tgt := 24) d_M_drawn_18 (by decide) (fun h4 => ?_) (fun h4 => ?_)
      · have h5 := ib_in h3 h4
        obtain ⟨k1, hk1, rfl⟩ := ib_true (by decide) h5
        obtain ⟨u1, hu1, rfl⟩ := nb_true hn h1
        refine aw_aload_n d_M_drawn_24 rfl rfl ?_
        refine aw_callV (av := []) (rest := []) (m_M_findRows hg hM hok hV) kd_M_findRows k_484 k_486 ks_M_findRows rfl hM.1 d_M_drawn_25 rfl ⟨by decide, by decide⟩ (Nat.le_of_ble_eq_true rfl) ⟨by decide, by decide⟩ rfl (fun v5 ws5 hq5 => ?_)
        obtain ⟨rfl, f5, Rw5, Tt5, hM5, hR⟩ := hq5
        have lp : ∀ (k : Nat) (a : Nat) (s : Int32) (i : Nat), a < n → i ≤ k1 → dwS (nr n x y W J) (tt n x y W J) n (k1 - i) a s = dwS (nr n x y W J) (tt n x y W J) n k1 u1 z → k1 - i < k → AW g y_M_drawn c_M_drawn 9 (some .int) (aw_rm 2 0 0) aw_E0 (aw_F g (qM g ad ws (.int (aDrawn n x y W J (nI u1) z (nI k1))) n x y W J) 0 0) 0 0 37 [(0, .ref (ad 40)), (3, .int (nI k1)), (4, .int s), (5, .int (nI a)), (6, .int (nI i))] [] ws5 := by
          intro k
          induction k with
          | zero => intro a s i ha hi hd hk; omega
          | succ k ih =>
            intro a s i ha hi hd hk
            refine aw_iload d_M_drawn_37 rfl ?_
            refine aw_iload_n d_M_drawn_39 rfl rfl ?_
            refine aw_icmp_geN (tgt := 120) d_M_drawn_40 (by decide) (by omega) (by omega) (fun h => ?_) (fun h => ?_)
            · have e : k1 = i := by omega
              subst e
              rw [Nat.sub_self] at hd
              refine aw_iload d_M_drawn_120 rfl ?_
              exact aw_iret d_M_drawn_122 (Nat.le_refl 0) (Nat.le_refl 0) ⟨by unfold aDrawn; rw [if_pos h1, if_pos h5, ix_nI (by omega), ix_nI (by omega), ← hd]; rfl, f5, ⟨_, _, _, _, _, _, _, _, _, _, _, _, _, hM5, hok, hV⟩⟩
            · have ihI := ih
              have hT := nr_ok hok ha
              have hml := Nat.mod_lt (hz (nz s)) hT.1
              have hsn : sN (nr n x y W J a) n = tt n x y W J a := rfl
              have lv_ : ∀ (k : Nat) (v : Nat), v < n → sN (nr n x y W J a) v ≤ (hz (nz s) % tt n x y W J a) → n - v < k → AW g y_M_drawn c_M_drawn 9 (some .int) (aw_rm 2 0 0) aw_E0 (aw_F g (qM g ad ws (.int (aDrawn n x y W J (nI u1) z (nI k1))) n x y W J) 0 0) 0 0 70 [(0, .ref (ad 40)), (3, .int (nI k1)), (4, .int (nz s)), (5, .int (nI a)), (6, .int (nI i)), (7, .int (nI ((hz (nz s) % tt n x y W J a) - sN (nr n x y W J a) v))), (8, .int (nI v))] [] ws5 := by
                intro k
                induction k with
                | zero => intro v hv hs hk2; omega
                | succ k ih =>
                  intro v hv hs hk2
                  have h400 := nr_400 hok ha hv
                  have esn : sN (nr n x y W J a) (v + 1) = sN (nr n x y W J a) v + nr n x y W J a v := rfl
                  refine aw_iload d_M_drawn_70 rfl ?_
                  refine aw_aload_n d_M_drawn_72 rfl rfl ?_
                  refine aw_get kc_6 5 (by decide) k_409 d_M_drawn_73 hM5.1 rfl ?_
                  refine aw_iconst (v := nI 5) d_M_drawn_76 (by decide) ?_
                  refine aw_iload d_M_drawn_77 rfl ?_
                  refine aw_imulN d_M_drawn_79 ?_
                  refine aw_iload d_M_drawn_80 rfl ?_
                  refine aw_iaddN d_M_drawn_82 ?_
                  refine aw_ialdA d_M_drawn_83 hM5.2.2.2.1 hg (by omega) (by decide) ?_
                  refine aw_nmi (z := nI (nr n x y W J a v)) (by rw [(hR a ha).1 v hv]) ?_
                  refine aw_icmp_ltN (tgt := 110) d_M_drawn_84 (by decide) (by omega) (by omega) (fun h7 => ?_) (fun h7 => ?_)
                  · refine aw_iload d_M_drawn_110 rfl ?_
                    refine aw_istore (lv' := [(5, .int (nI v)), (0, .ref (ad 40)), (3, .int (nI k1)), (4, .int (nz s)), (6, .int (nI i)), (7, .int (nI ((hz (nz s) % tt n x y W J a) - sN (nr n x y W J a) v))), (8, .int (nI v))]) d_M_drawn_112 (by decide) rfl ?_
                    refine aw_iinc1 (lv' := [(6, .int (nI (i + 1))), (5, .int (nI v)), (0, .ref (ad 40)), (3, .int (nI k1)), (4, .int (nz s)), (7, .int (nI ((hz (nz s) % tt n x y W J a) - sN (nr n x y W J a) v))), (8, .int (nI v))]) d_M_drawn_114 rfl (by decide) rfl ?_
                    refine aw_goto (tgt := 37) d_M_drawn_117 (by decide) ?_
                    refine aw_sub (lv' := [(0, .ref (ad 40)), (3, .int (nI k1)), (4, .int (nz s)), (5, .int (nI v)), (6, .int (nI (i + 1)))]) [2, 3, 4, 1, 0] rfl ?_
                    exact ihI v (nz s) (i + 1) hv (by omega) (by rw [← hd, show k1 - i = (k1 - (i + 1)) + 1 by omega, dwS_succ]; unfold drF; rw [pkF_eq hv hs (by omega)]) (by omega)
                  · have hv1 : v + 1 < n := dr_next hml (by rw [esn]; omega) hv
                    refine aw_iload d_M_drawn_87 rfl ?_
                    refine aw_aload_n d_M_drawn_89 rfl rfl ?_
                    refine aw_get kc_6 5 (by decide) k_409 d_M_drawn_90 hM5.1 rfl ?_
                    refine aw_iconst (v := nI 5) d_M_drawn_93 (by decide) ?_
                    refine aw_iload d_M_drawn_94 rfl ?_
                    refine aw_imulN d_M_drawn_96 ?_
                    refine aw_iload d_M_drawn_97 rfl ?_
                    refine aw_iaddN d_M_drawn_99 ?_
                    refine aw_ialdA d_M_drawn_100 hM5.2.2.2.1 hg (by omega) (by decide) ?_
                    refine aw_nmi (z := nI (nr n x y W J a v)) (by rw [(hR a ha).1 v hv]) ?_
                    refine aw_isubN d_M_drawn_101 (by omega) ?_
                    refine aw_nmi (z := nI ((hz (nz s) % tt n x y W J a) - sN (nr n x y W J a) (v + 1))) (congrArg nI (by rw [esn]; omega)) ?_
                    refine aw_istore (lv' := [(7, .int (nI ((hz (nz s) % tt n x y W J a) - sN (nr n x y W J a) (v + 1)))), (0, .ref (ad 40)), (3, .int (nI k1)), (4, .int (nz s)), (5, .int (nI a)), (6, .int (nI i)), (8, .int (nI v))]) d_M_drawn_102 (by decide) rfl ?_
                    refine aw_iinc1 (lv' := [(8, .int (nI (v + 1))), (7, .int (nI ((hz (nz s) % tt n x y W J a) - sN (nr n x y W J a) (v + 1)))), (0, .ref (ad 40)), (3, .int (nI k1)), (4, .int (nz s)), (5, .int (nI a)), (6, .int (nI i))]) d_M_drawn_104 rfl (by decide) rfl ?_
                    refine aw_goto (tgt := 70) d_M_drawn_107 (by decide) ?_
                    refine aw_sub (lv' := [(0, .ref (ad 40)), (3, .int (nI k1)), (4, .int (nz s)), (5, .int (nI a)), (6, .int (nI i)), (7, .int (nI ((hz (nz s) % tt n x y W J a) - sN (nr n x y W J a) (v + 1)))), (8, .int (nI (v + 1)))]) [2, 3, 4, 5, 6, 1, 0] rfl ?_
                    exact ih (v + 1) hv1 (by omega) (by omega)
              refine aw_iload d_M_drawn_43 rfl ?_
              refine aw_ldc (v := (1664525 : Int32)) d_M_drawn_45 k_584 ?_
              refine aw_imul d_M_drawn_47 ?_
              refine aw_ldc (v := (1013904223 : Int32)) d_M_drawn_48 k_585 ?_
              refine aw_iadd d_M_drawn_50 ?_
              refine aw_nmi (z := nz s) rfl ?_
              refine aw_istore (lv' := [(4, .int (nz s)), (0, .ref (ad 40)), (3, .int (nI k1)), (5, .int (nI a)), (6, .int (nI i))]) d_M_drawn_51 (by decide) rfl ?_
              refine aw_iload d_M_drawn_53 rfl ?_
              refine aw_iconst (v := nI 1) d_M_drawn_55 (by decide) ?_
              refine aw_iushr d_M_drawn_56 ?_
              refine aw_nmi (z := nI (hz (nz s))) (hz_eq _) ?_
              refine aw_aload_n d_M_drawn_57 rfl rfl ?_
              refine aw_get kc_6 6 (by decide) k_410 d_M_drawn_58 hM5.1 rfl ?_
              refine aw_iload d_M_drawn_61 rfl ?_
              refine aw_ialdA d_M_drawn_63 hM5.2.2.2.2.1 hg (by omega) (by decide) ?_
              refine aw_nmi (z := nI (tt n x y W J a)) (by rw [(hR a ha).2]) ?_
              refine aw_iremN d_M_drawn_64 hT.1 (hz_lt _) (by omega) ?_
              refine aw_nmi (z := nI ((hz (nz s) % tt n x y W J a) - sN (nr n x y W J a) 0)) (congrArg nI (Nat.sub_zero _).symm) ?_
              refine aw_istore (lv' := [(7, .int (nI ((hz (nz s) % tt n x y W J a) - sN (nr n x y W J a) 0))), (4, .int (nz s)), (0, .ref (ad 40)), (3, .int (nI k1)), (5, .int (nI a)), (6, .int (nI i))]) d_M_drawn_65 (by decide) rfl ?_
              refine aw_iconst (v := nI 0) d_M_drawn_67 (by decide) ?_
              refine aw_istore (lv' := [(8, .int (nI 0)), (7, .int (nI ((hz (nz s) % tt n x y W J a) - sN (nr n x y W J a) 0))), (4, .int (nz s)), (0, .ref (ad 40)), (3, .int (nI k1)), (5, .int (nI a)), (6, .int (nI i))]) d_M_drawn_68 (by decide) rfl ?_
              refine aw_sub (lv' := [(0, .ref (ad 40)), (3, .int (nI k1)), (4, .int (nz s)), (5, .int (nI a)), (6, .int (nI i)), (7, .int (nI ((hz (nz s) % tt n x y W J a) - sN (nr n x y W J a) 0))), (8, .int (nI 0))]) [3, 4, 2, 5, 6, 1, 0] rfl ?_
              exact lv_ (n + 1) 0 (by omega) (Nat.zero_le _) (by omega)
        refine aw_iload_n d_M_drawn_28 rfl rfl ?_
        refine aw_istore (lv' := [(4, .int z), (0, .ref (ad 40)), (1, .int (nI u1)), (2, .int z), (3, .int (nI k1))]) d_M_drawn_29 (by decide) rfl ?_
        refine aw_iload_n d_M_drawn_31 rfl rfl ?_
        refine aw_istore (lv' := [(5, .int (nI u1)), (4, .int z), (0, .ref (ad 40)), (1, .int (nI u1)), (2, .int z), (3, .int (nI k1))]) d_M_drawn_32 (by decide) rfl ?_
        refine aw_iconst (v := nI 0) d_M_drawn_34 (by decide) ?_
        refine aw_istore (lv' := [(6, .int (nI 0)), (5, .int (nI u1)), (4, .int z), (0, .ref (ad 40)), (1, .int (nI u1)), (2, .int z), (3, .int (nI k1))]) d_M_drawn_35 (by decide) rfl ?_
        refine aw_sub (lv' := [(0, .ref (ad 40)), (3, .int (nI k1)), (4, .int z), (5, .int (nI u1)), (6, .int (nI 0))]) [3, 6, 2, 1, 0] rfl ?_
        exact lp (k1 + 1) u1 z 0 hu1 (by omega) rfl (by omega)
      · refine aw_bipush (v := -2) d_M_drawn_21 (by decide) ?_
        exact aw_iret d_M_drawn_23 (Nat.le_refl 0) (Nat.le_refl 0) ⟨by unfold aDrawn; rw [if_pos h1, if_neg (by rw [ib_gt h4]; decide)], fr.rf, hO⟩
  · refine aw_iconst (v := -1) d_M_drawn_8 (by decide) ?_
    exact aw_iret d_M_drawn_9 (Nat.le_refl 0) (Nat.le_refl 0) ⟨by unfold aDrawn; rw [if_neg (by simp [h1])], fr.rf, hO⟩
