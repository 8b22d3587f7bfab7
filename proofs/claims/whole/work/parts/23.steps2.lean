-- laid by wip/whole/m4.py
set_option maxHeartbeats 4000000 in
set_option maxRecDepth 100000 in
theorem m_S_lowerParts {g : aw_G} (hg : aw_T g) {ws : va_W} {ad : Nat → Nat} {n u : Nat} {P : Nat → Nat → Nat} {T X : Nat → Nat} (hS : gS g ws ad n P T X) (hn : n ≤ 5) (hu : u < n) (hs : 0 < sN (P u) n ∧ sN (P u) n ≤ 400) : AMet g y_S_lowerParts c_S_lowerParts 4 none 1 [.ref (ad 9), .int (nI u)] ws (q_row g ad ws n P T X u (fun v => P u v / gcdN (P u) n)) 0 0 := by
  have g0 := gcdN_pos hs.1
  have g1 := gcdN_le hs.1
  have hi400 : ∀ i, i < n → P u i ≤ 400 := fun i hi => Nat.le_trans (sN_mem hi) hs.2
  have hg400 : ∀ i, i ≤ n → gcdN (P u) i ≤ 400 := fun i hi => Nat.le_trans (gcdN_le' _ i) (Nat.le_trans (sN_mono _ hi) hs.2)
  refine amet_of (by decide +kernel) (Nat.le_of_ble_eq_true rfl) ?_
  refine aw_sub (lv' := [(0, .ref (ad 9)), (1, .int (nI u))]) [0, 1] rfl ?_
  have lq : ∀ (k : Nat) (ws1 : va_W) (P1 : Nat → Nat → Nat) (v : Nat), gS g ws1 ad n P1 T X → fr 9 18 ws ws1 → v ≤ n → (∀ i, i < v → P1 u i = P u i / gcdN (P u) n) → (∀ i, v ≤ i → P1 u i = P u i) → (∀ i, i ≠ u → ∀ j, P1 i j = P i j) → n - v < k → AW g y_S_lowerParts c_S_lowerParts 4 none (aw_rm 1 0 0) aw_E0 (aw_F g (q_row g ad ws n P T X u (fun v => P u v / gcdN (P u) n)) 0 0) 0 0 41 [(0, .ref (ad 9)), (1, .int (nI u)), (2, .int (nI (gcdN (P u) n))), (3, .int (nI v))] [] ws1 := by
    intro k
    induction k with
    | zero => intro ws1 P1 v hS1 hf hv hr hr2 ht hk; omega
    | succ k ih =>
      intro ws1 P1 v hS1 hf hv hr hr2 ht hk
      refine aw_iload_n d_S_lowerParts_41 rfl rfl ?_
      refine aw_aload_n d_S_lowerParts_42 rfl rfl ?_
      refine aw_get kc_2 0 (by decide) k_60 d_S_lowerParts_43 hS1.1 rfl ?_
      refine aw_icmp_geN (tgt := 67) d_S_lowerParts_46 (by decide) (by omega) (by omega) (fun h => ?_) (fun h => ?_)
      · have e : v = n := by omega
        subst e
        exact aw_vret d_S_lowerParts_67 (Nat.le_refl 0) (Nat.le_refl 0) ⟨rfl, hf, P1, hS1, hr, ht⟩
      · have ev := hr2 v (Nat.le_refl v)
        have ev4 := hi400 v (by omega)
        refine aw_aload_n d_S_lowerParts_49 rfl rfl ?_
        refine aw_get kc_2 1 (by decide) k_64 d_S_lowerParts_50 hS1.1 rfl ?_
        refine aw_iload_n d_S_lowerParts_53 rfl rfl ?_
        refine aw_aaldI d_S_lowerParts_54 hS1.2.1 hg (by omega) ?_
        refine aw_iload_n d_S_lowerParts_55 rfl rfl ?_
        refine aw_dup2_11 d_S_lowerParts_56 rfl rfl ?_
        refine aw_ialdA d_S_lowerParts_57 (hS1.2.2.1 u (by omega)) hg (by omega) (by decide) ?_
        refine aw_iload_n d_S_lowerParts_58 rfl rfl ?_
        refine aw_idivN d_S_lowerParts_59 (by omega) (by omega) (by omega) ?_
        refine aw_iastA d_S_lowerParts_60 (hS1.2.2.1 u (by omega)) hg (by omega) (by decide) (fun ws1 a2 b3 c4 => ?_)
        have F5 := fam_putI (lo := 11) hS1.2.2.1 a2 b3
        have hS2 := hS1.putP (by omega) a2 b3
        have f2 := fr.one (lo := 9) (hi := 18) b3 c4 (by omega) (by omega)
        refine aw_iinc1 (lv' := [(3, .int (nI (v + 1))), (0, .ref (ad 9)), (1, .int (nI u)), (2, .int (nI (gcdN (P u) n)))]) d_S_lowerParts_61 rfl (by decide) rfl ?_
        refine aw_goto (tgt := 41) d_S_lowerParts_64 (by decide) ?_
        refine aw_sub (lv' := [(0, .ref (ad 9)), (1, .int (nI u)), (2, .int (nI (gcdN (P u) n))), (3, .int (nI (v + 1)))]) [1, 2, 3, 0] rfl ?_
        exact ih _ _ (v + 1) hS2 (hf.tr f2) (by omega) (fun i hi => by
          unfold fup2
          by_cases e : i = v
          · rw [if_pos ⟨rfl, e⟩, e, ev]
          · rw [if_neg (fun q => e q.2)]; exact hr i (by omega)) (fun i hi => by
          unfold fup2
          rw [if_neg (fun q => by omega)]; exact hr2 i (by omega)) (fun i hi j => by rw [fup2_ne _ _ hi]; exact ht i hi j) (by omega)
  refine aw_iconst (v := nI 0) d_S_lowerParts_0 (by decide) ?_
  refine aw_istore_n (lv' := [(2, .int (nI 0)), (0, .ref (ad 9)), (1, .int (nI u))]) d_S_lowerParts_1 rfl (by decide) rfl ?_
  refine aw_iconst (v := nI 0) d_S_lowerParts_2 (by decide) ?_
  refine aw_istore_n (lv' := [(3, .int (nI 0)), (2, .int (nI 0)), (0, .ref (ad 9)), (1, .int (nI u))]) d_S_lowerParts_3 rfl (by decide) rfl ?_
  have lp : ∀ (k : Nat) (i : Nat), i ≤ n → n - i < k → AW g y_S_lowerParts c_S_lowerParts 4 none (aw_rm 1 0 0) aw_E0 (aw_F g (q_row g ad ws n P T X u (fun v => P u v / gcdN (P u) n)) 0 0) 0 0 4 [(0, .ref (ad 9)), (1, .int (nI u)), (2, .int (nI (gcdN (P u) i))), (3, .int (nI i))] [] ws := by
    intro k
    induction k with
    | zero => intro i hi hk; omega
    | succ k ih =>
      intro i hi hk
      refine aw_iload_n d_S_lowerParts_4 rfl rfl ?_
      refine aw_aload_n d_S_lowerParts_5 rfl rfl ?_
      refine aw_get kc_2 0 (by decide) k_60 d_S_lowerParts_6 hS.1 rfl ?_
      refine aw_icmp_geN (tgt := 34) d_S_lowerParts_9 (by decide) (by omega) (by omega) (fun h => ?_) (fun h => ?_)
      · have e : i = n := by omega
        subst e
        refine aw_iload_n d_S_lowerParts_34 rfl rfl ?_
        refine aw_if_neN (tgt := 39) d_S_lowerParts_35 (by decide) (Nat.lt_of_le_of_lt (hg400 i hi) (by decide)) (fun h2 => ?_) (fun h2 => absurd h2 (by omega))
        refine aw_iconst (v := nI 0) d_S_lowerParts_39 (by decide) ?_
        refine aw_istore_n (lv' := [(3, .int (nI 0)), (0, .ref (ad 9)), (1, .int (nI u)), (2, .int (nI (gcdN (P u) i)))]) d_S_lowerParts_40 rfl (by decide) rfl ?_
        refine aw_sub (lv' := [(0, .ref (ad 9)), (1, .int (nI u)), (2, .int (nI (gcdN (P u) i))), (3, .int (nI 0))]) [1, 2, 3, 0] rfl ?_
        exact lq (i + 1) ws P 0 hS fr.rf (by omega) (fun j hj => absurd hj (by omega)) (fun _ _ => rfl) (fun _ _ _ => rfl) (by omega)
      · have b1 := hg400 i hi
        have b2 := hi400 i h
        refine aw_iload_n d_S_lowerParts_12 rfl rfl ?_
        refine aw_i2lN d_S_lowerParts_13 (by omega) ?_
        refine aw_aload_n d_S_lowerParts_14 rfl rfl ?_
        refine aw_get kc_2 1 (by decide) k_64 d_S_lowerParts_15 hS.1 rfl ?_
        refine aw_iload_n d_S_lowerParts_18 rfl rfl ?_
        refine aw_aaldI d_S_lowerParts_19 hS.2.1 hg (by omega) ?_
        refine aw_iload_n d_S_lowerParts_20 rfl rfl ?_
        refine aw_ialdA d_S_lowerParts_21 (hS.2.2.1 u (by omega)) hg (by omega) (by decide) ?_
        refine aw_i2lN d_S_lowerParts_22 (by omega) ?_
        refine aw_callSN (av := [.long (lI (gcdN (P u) i : Nat)), .long (lI (P u i : Nat))]) (rest := []) (m_W_greatestDivisor (ad := ad) hg (by omega) (by omega) (mul99 (by omega) (by omega))) kd_W_greatestDivisor k_198 k_199  d_S_lowerParts_23 rfl ⟨by decide, by decide⟩ (Nat.le_of_ble_eq_true rfl) ⟨by decide, by decide⟩ rfl (fun v ws2 hq => ?_)
        obtain ⟨rfl, rfl⟩ := hq
        refine aw_l2iN (a := (Nat.gcd (gcdN (P u) i) (P u i))) d_S_lowerParts_26 ?_
        refine aw_istore_n (lv' := [(2, .int (nI (Nat.gcd (gcdN (P u) i) (P u i)))), (0, .ref (ad 9)), (1, .int (nI u)), (3, .int (nI i))]) d_S_lowerParts_27 rfl (by decide) rfl ?_
        refine aw_iinc1 (lv' := [(3, .int (nI (i + 1))), (2, .int (nI (Nat.gcd (gcdN (P u) i) (P u i)))), (0, .ref (ad 9)), (1, .int (nI u))]) d_S_lowerParts_28 rfl (by decide) rfl ?_
        refine aw_goto (tgt := 4) d_S_lowerParts_31 (by decide) ?_
        refine aw_sub (lv' := [(0, .ref (ad 9)), (1, .int (nI u)), (2, .int (nI (gcdN (P u) (i + 1)))), (3, .int (nI (i + 1)))]) [2, 3, 1, 0] rfl ?_
        exact ih (i + 1) (by omega) (by omega)
  refine aw_sub (lv' := [(0, .ref (ad 9)), (1, .int (nI u)), (2, .int (nI (gcdN (P u) 0))), (3, .int (nI 0))]) [2, 3, 1, 0] rfl ?_
  exact lp (n + 1) 0 (by omega) (by omega)

def q_sum (g : aw_G) (ad : Nat → Nat) (ws : va_W) (n : Nat) (P : Nat → Nat → Nat) (T X : Nat → Nat) (u : Nat) : Option Value → va_W → Prop := fun v ws' => v = none ∧ fr 9 18 ws ws' ∧ ∃ T' X' : Nat → Nat, gS g ws' ad n P T' X' ∧ T' u = sN (P u) n ∧ X' u = mk (fun v => decide (0 < P u v)) n ∧ ∀ i, i ≠ u → T' i = T i ∧ X' i = X i

set_option maxHeartbeats 4000000 in
set_option maxRecDepth 100000 in
theorem m_S_sumUp {g : aw_G} (hg : aw_T g) {ws : va_W} {ad : Nat → Nat} {n u : Nat} {P : Nat → Nat → Nat} {T X : Nat → Nat} (hS : gS g ws ad n P T X) (hn : n ≤ 5) (hu : u < n) (hs : ∀ v, v < n → P u v ≤ 400) : AMet g y_S_sumUp c_S_sumUp 3 none 1 [.ref (ad 9), .int (nI u)] ws (q_sum g ad ws n P T X u) 0 0 := by
  refine amet_of (by decide +kernel) (Nat.le_of_ble_eq_true rfl) ?_
  refine aw_sub (lv' := [(0, .ref (ad 9)), (1, .int (nI u))]) [0, 1] rfl ?_
  have lp : ∀ (k : Nat) (ws1 : va_W) (T1 X1 : Nat → Nat) (v : Nat), gS g ws1 ad n P T1 X1 → fr 9 18 ws ws1 → v ≤ n → T1 u = sN (P u) v → X1 u = mk (fun v => decide (0 < P u v)) v → (∀ i, i ≠ u → T1 i = T i ∧ X1 i = X i) → n - v < k → AW g y_S_sumUp c_S_sumUp 3 none (aw_rm 1 0 0) aw_E0 (aw_F g (q_sum g ad ws n P T X u) 0 0) 0 0 16 [(0, .ref (ad 9)), (1, .int (nI u)), (2, .int (nI v))] [] ws1 := by
    intro k
    induction k with
    | zero => intro ws1 T1 X1 v hS1 hf hv hT hX ht hk; omega
    | succ k ih =>
      intro ws1 T1 X1 v hS1 hf hv hT hX ht hk
      refine aw_iload_n d_S_sumUp_16 rfl rfl ?_
      refine aw_aload_n d_S_sumUp_17 rfl rfl ?_
      refine aw_get kc_2 0 (by decide) k_60 d_S_sumUp_18 hS1.1 rfl ?_
      refine aw_icmp_geN (tgt := 71) d_S_sumUp_21 (by decide) (by omega) (by omega) (fun h => ?_) (fun h => ?_)
      · have e : v = n := by omega
        subst e
        exact aw_vret d_S_sumUp_71 (Nat.le_refl 0) (Nat.le_refl 0) ⟨rfl, hf, T1, X1, hS1, hT, hX, ht⟩
      · have b4 := hs v h
        refine aw_aload_n d_S_sumUp_24 rfl rfl ?_
        refine aw_get kc_2 2 (by decide) k_68 d_S_sumUp_25 hS1.1 rfl ?_
        refine aw_iload_n d_S_sumUp_28 rfl rfl ?_
        refine aw_dup2_11 d_S_sumUp_29 rfl rfl ?_
        refine aw_ialdA d_S_sumUp_30 hS1.2.2.2.1 hg (by omega) (by decide) ?_
        refine aw_aload_n d_S_sumUp_31 rfl rfl ?_
        refine aw_get kc_2 1 (by decide) k_64 d_S_sumUp_32 hS1.1 rfl ?_
        refine aw_iload_n d_S_sumUp_35 rfl rfl ?_
        refine aw_aaldI d_S_sumUp_36 hS1.2.1 hg (by omega) ?_
        refine aw_iload_n d_S_sumUp_37 rfl rfl ?_
        refine aw_ialdA d_S_sumUp_38 (hS1.2.2.1 u (by omega)) hg (by omega) (by decide) ?_
        refine aw_iaddN d_S_sumUp_39 ?_
        refine aw_iastA d_S_sumUp_40 hS1.2.2.2.1 hg (by omega) (by decide) (fun ws1 a2 b3 c4 => ?_)
        have hS2 := hS1.putT a2 b3
        have f2 := fr.one (lo := 9) (hi := 18) b3 c4 (by omega) (by omega)
        refine aw_aload_n d_S_sumUp_41 rfl rfl ?_
        refine aw_get kc_2 1 (by decide) k_64 d_S_sumUp_42 ((b3 9 (by omega)).trans hS1.1) rfl ?_
        refine aw_iload_n d_S_sumUp_45 rfl rfl ?_
        refine aw_aaldI d_S_sumUp_46 ((b3 10 (by omega)).trans hS1.2.1) hg (by omega) ?_
        refine aw_iload_n d_S_sumUp_47 rfl rfl ?_
        have F5 := fam_kept hS1.2.2.1 (fun i hi => b3 (11 + i) (by omega))
        refine aw_ialdA d_S_sumUp_48 (F5 u (by omega)) hg (by omega) (by decide) ?_
        refine aw_if_leN (tgt := 65) d_S_sumUp_49 (by decide) (by omega) (fun h2 => ?_) (fun h2 => ?_)
        · refine aw_iinc1 (lv' := [(2, .int (nI (v + 1))), (0, .ref (ad 9)), (1, .int (nI u))]) d_S_sumUp_65 rfl (by decide) rfl ?_
          refine aw_goto (tgt := 16) d_S_sumUp_68 (by decide) ?_
          refine aw_sub (lv' := [(0, .ref (ad 9)), (1, .int (nI u)), (2, .int (nI (v + 1)))]) [1, 2, 0] rfl ?_
          exact ih _ _ X1 (v + 1) hS2 (hf.tr f2) (by omega) (by rw [fup_s, hT]; rfl) (by rw [hX, mk, if_neg (by simp [h2])]) (fun i hi => ⟨by rw [fup_n hi]; exact (ht i hi).1, (ht i hi).2⟩) (by omega)
        · refine aw_aload_n d_S_sumUp_52 rfl rfl ?_
          refine aw_get kc_2 3 (by decide) k_72 d_S_sumUp_53 ((b3 9 (by omega)).trans hS1.1) rfl ?_
          refine aw_iload_n d_S_sumUp_56 rfl rfl ?_
          refine aw_dup2_11 d_S_sumUp_57 rfl rfl ?_
          refine aw_ialdA d_S_sumUp_58 ((b3 17 (by omega)).trans hS1.2.2.2.2) hg (by omega) (by decide) ?_
          refine aw_iload_n d_S_sumUp_59 rfl rfl ?_
          refine aw_callSN (av := [.int (nI v)]) (rest := [.int (nI (X1 u)), .int (nI u), .ref (ad 17)]) (m_W_only (ad := ad) hg (by omega)) kd_W_only k_205 k_206  d_S_sumUp_60 rfl ⟨by decide, by decide⟩ (Nat.le_of_ble_eq_true rfl) ⟨by decide, by decide⟩ rfl (fun v3 ws3 hq => ?_)
          obtain ⟨rfl, rfl⟩ := hq
          refine aw_iorN d_S_sumUp_63 ?_
          refine aw_iastA d_S_sumUp_64 ((b3 17 (by omega)).trans hS1.2.2.2.2) hg (by omega) (by decide) (fun ws6 a7 b8 c9 => ?_)
          have hS3 := hS2.putX a7 b8
          have f3 := fr.one (lo := 9) (hi := 18) b8 c9 (by omega) (by omega)
          refine aw_iinc1 (lv' := [(2, .int (nI (v + 1))), (0, .ref (ad 9)), (1, .int (nI u))]) d_S_sumUp_65 rfl (by decide) rfl ?_
          refine aw_goto (tgt := 16) d_S_sumUp_68 (by decide) ?_
          refine aw_sub (lv' := [(0, .ref (ad 9)), (1, .int (nI u)), (2, .int (nI (v + 1)))]) [1, 2, 0] rfl ?_
          exact ih _ _ _ (v + 1) hS3 ((hf.tr f2).tr f3) (by omega) (by rw [fup_s, hT]; rfl) (by rw [fup_s, hX, mk, if_pos (by simp [h2])]) (fun i hi => ⟨by rw [fup_n hi]; exact (ht i hi).1, by rw [fup_n hi]; exact (ht i hi).2⟩) (by omega)
  refine aw_aload_n d_S_sumUp_0 rfl rfl ?_
  refine aw_get kc_2 2 (by decide) k_68 d_S_sumUp_1 hS.1 rfl ?_
  refine aw_iload_n d_S_sumUp_4 rfl rfl ?_
  refine aw_iconst (v := nI 0) d_S_sumUp_5 (by decide) ?_
  refine aw_iastA d_S_sumUp_6 hS.2.2.2.1 hg (by omega) (by decide) (fun ws10 a11 b12 c13 => ?_)
  have hS2 := hS.putT a11 b12
  have f2 := fr.one (lo := 9) (hi := 18) b12 c13 (by omega) (by omega)
  refine aw_aload_n d_S_sumUp_7 rfl rfl ?_
  refine aw_get kc_2 3 (by decide) k_72 d_S_sumUp_8 ((b12 9 (by omega)).trans hS.1) rfl ?_
  refine aw_iload_n d_S_sumUp_11 rfl rfl ?_
  refine aw_iconst (v := nI 0) d_S_sumUp_12 (by decide) ?_
  refine aw_iastA d_S_sumUp_13 ((b12 17 (by omega)).trans hS.2.2.2.2) hg (by omega) (by decide) (fun ws14 a15 b16 c17 => ?_)
  have hS3 := hS2.putX a15 b16
  have f3 := fr.one (lo := 9) (hi := 18) b16 c17 (by omega) (by omega)
  refine aw_iconst (v := nI 0) d_S_sumUp_14 (by decide) ?_
  refine aw_istore_n (lv' := [(2, .int (nI 0)), (0, .ref (ad 9)), (1, .int (nI u))]) d_S_sumUp_15 rfl (by decide) rfl ?_
  refine aw_sub (lv' := [(0, .ref (ad 9)), (1, .int (nI u)), (2, .int (nI 0))]) [1, 2, 0] rfl ?_
  exact lp (n + 1) _ _ _ 0 hS3 (f2.tr f3) (by omega) (by rw [fup_s]; rfl) (by rw [fup_s]; rfl) (fun i hi => ⟨fup_n hi, fup_n hi⟩) (by omega)

def q_renewS (g : aw_G) (ad : Nat → Nat) (ws : va_W) (n x y : Nat) (W : Nat → Nat → Nat) (J : Nat → Nat) : Option Value → va_W → Prop := fun v ws' => v = none ∧ fr 9 18 ws ws' ∧ ∃ (P : Nat → Nat → Nat) (T X : Nat → Nat), gS g ws' ad n P T X ∧ okS n x y W J P T X

set_option maxHeartbeats 4000000 in
set_option maxRecDepth 100000 in
theorem m_S_renew {g : aw_G} (hg : aw_T g) {ws : va_W} {ad : Nat → Nat} {n m x y : Nat} {W P : Nat → Nat → Nat} {J T X : Nat → Nat} (hG : gG g ws ad n x y W J) (hS : gS g ws ad m P T X) (hok : okG n x y W J) : AMet g y_S_renew c_S_renew 4 none 2 [.ref (ad 9), .ref (ad 1)] ws (q_renewS g ad ws n x y W J) 0 0 := by
  have hn := hok.1
  have ha := sN_le (f := J) (b := 2) (n := n) (fun i hi => hok.2.2.2.2.2 i (by omega))
  refine amet_of (by decide +kernel) (Nat.le_of_ble_eq_true rfl) ?_
  refine aw_sub (lv' := [(0, .ref (ad 9)), (1, .ref (ad 1))]) [0, 1] rfl ?_
  have lp : ∀ (k : Nat) (ws1 : va_W) (P1 : Nat → Nat → Nat) (T1 X1 : Nat → Nat) (u : Nat), gG g ws1 ad n x y W J → gS g ws1 ad n P1 T1 X1 → fr 9 18 ws ws1 → u ≤ n → (∀ a, a < u → (∀ v, v < n → P1 a v = nr n x y W J a v) ∧ T1 a = tt n x y W J a ∧ X1 a = mk (fun v => decide (0 < nr n x y W J a v)) n) → n - u < k → AW g y_S_renew c_S_renew 4 none (aw_rm 2 0 0) aw_E0 (aw_F g (q_renewS g ad ws n x y W J) 0 0) 0 0 15 [(0, .ref (ad 9)), (1, .ref (ad 1)), (2, .int (nI (sN J n))), (3, .int (nI u))] [] ws1 := by
    intro k
    induction k with
    | zero => intro ws1 P1 T1 X1 u hG1 hS1 hf hu hr hk; omega
    | succ k ih =>
      intro ws1 P1 T1 X1 u hG1 hS1 hf hu hr hk
      refine aw_iload_n d_S_renew_15 rfl rfl ?_
      refine aw_aload_n d_S_renew_16 rfl rfl ?_
      refine aw_get kc_2 0 (by decide) k_60 d_S_renew_17 hS1.1 rfl ?_
      refine aw_icmp_geN (tgt := 46) d_S_renew_20 (by decide) (by omega) (by omega) (fun h => ?_) (fun h => ?_)
      · have e : u = n := by omega
        subst e
        exact aw_vret d_S_renew_46 (Nat.le_refl 0) (Nat.le_refl 0) ⟨rfl, hf, P1, T1, X1, hS1, hr⟩
      · refine aw_aload_n d_S_renew_23 rfl rfl ?_
        refine aw_aload_n d_S_renew_24 rfl rfl ?_
        refine aw_iload_n d_S_renew_25 rfl rfl ?_
        refine aw_iload_n d_S_renew_26 rfl rfl ?_
        refine aw_callV (av := [.ref (ad 1), .int (nI u), .int (nI (sN J n))]) (rest := []) (m_S_fillParts hg hG1 hS1 hok h) kd_S_fillParts k_186 k_188 ks_S_fillParts rfl hS1.1 d_S_renew_27 rfl ⟨by decide, by decide⟩ (Nat.le_of_ble_eq_true rfl) ⟨by decide, by decide⟩ rfl (fun v2 ws2 hq2 => ?_)
        obtain ⟨rfl, f2, P2, hS2, e2, t2⟩ := hq2
        have hG2 := hG1.kept f2 (by omega)
        obtain ⟨rs1, rs2⟩ := raw_sum hok h
        have es : sN (P2 u) n = sN (raw n x y W J u) n := sN_congr e2
        have eg : gcdN (P2 u) n = gcdN (raw n x y W J u) n := gcdN_congr e2
        refine aw_aload_n d_S_renew_30 rfl rfl ?_
        refine aw_iload_n d_S_renew_31 rfl rfl ?_
        refine aw_callV (av := [.int (nI u)]) (rest := []) (m_S_lowerParts hg hS2 hn h (by rw [es]; exact ⟨rs1, rs2⟩)) kd_S_lowerParts k_194 k_196 ks_S_lowerParts rfl hS2.1 d_S_renew_32 rfl ⟨by decide, by decide⟩ (Nat.le_of_ble_eq_true rfl) ⟨by decide, by decide⟩ rfl (fun v3 ws3 hq3 => ?_)
        obtain ⟨rfl, f3, P3, hS3, e3, t3⟩ := hq3
        have hG3 := hG2.kept f3 (by omega)
        have e3n : ∀ v, v < n → P3 u v = nr n x y W J u v := fun v hv => (e3 v hv).trans (by show P2 u v / gcdN (P2 u) n = _; rw [eg, e2 v hv]; rfl)
        obtain ⟨n0, n4, -⟩ := nr_ok hok h
        refine aw_aload_n d_S_renew_35 rfl rfl ?_
        refine aw_iload_n d_S_renew_36 rfl rfl ?_
        refine aw_callV (av := [.int (nI u)]) (rest := []) (m_S_sumUp hg hS3 hn h (fun v hv => by rw [e3n v hv]; exact Nat.le_trans (nr_le hv) n4)) kd_S_sumUp k_201 k_203 ks_S_sumUp rfl hS3.1 d_S_renew_37 rfl ⟨by decide, by decide⟩ (Nat.le_of_ble_eq_true rfl) ⟨by decide, by decide⟩ rfl (fun v4 ws4 hq4 => ?_)
        obtain ⟨rfl, f4, T4, X4, hS4, eT, eX, t4⟩ := hq4
        have hG4 := hG3.kept f4 (by omega)
        refine aw_iinc1 (lv' := [(3, .int (nI (u + 1))), (0, .ref (ad 9)), (1, .ref (ad 1)), (2, .int (nI (sN J n)))]) d_S_renew_40 rfl (by decide) rfl ?_
        refine aw_goto (tgt := 15) d_S_renew_43 (by decide) ?_
        refine aw_sub (lv' := [(0, .ref (ad 9)), (1, .ref (ad 1)), (2, .int (nI (sN J n))), (3, .int (nI (u + 1)))]) [1, 2, 3, 0] rfl ?_
        exact ih _ _ _ _ (u + 1) hG4 hS4 (((hf.tr f2).tr f3).tr f4) (by omega) (fun a ha => by
          by_cases e : a = u
          · subst e
            exact ⟨e3n, by rw [eT]; exact sN_congr e3n, by rw [eX]; exact mk_congr (fun i hi => by rw [e3n i hi])⟩
          · obtain ⟨q1, q2, q3⟩ := hr a (by omega)
            exact ⟨fun v hv => by rw [t3 a e v, t2 a e v]; exact q1 v hv, by rw [(t4 a e).1]; exact q2, by rw [(t4 a e).2]; exact q3⟩) (by omega)
  refine aw_aload_n d_S_renew_0 rfl rfl ?_
  refine aw_aload_n d_S_renew_1 rfl rfl ?_
  refine aw_get kc_1 0 (by decide) k_25 d_S_renew_2 hG.1 rfl ?_
  refine aw_putN kc_2 0 (by decide) k_60 d_S_renew_5 hS.1 rfl rfl rfl (Nat.le_of_ble_eq_true rfl) (fun ws1 a2 b3 c4 => ?_)
  have f5 : ws1[9]? = some (ad 9, .inr (2, [.int (nI n), .ref (ad 10), .ref (ad 16), .ref (ad 17)])) := a2
  have hS2 := hS.putO (n' := n) a2 b3
  have f2 := fr.one (lo := 9) (hi := 18) b3 c4 (by omega) (by omega)
  have hG2 := hG.kept f2 (by omega)
  refine aw_aload_n d_S_renew_8 rfl rfl ?_
  refine aw_callV (av := []) (rest := []) (m_G_allJumps hg hG2 hn) kd_G_allJumps k_182 k_183 ks_G_allJumps rfl hG2.1 d_S_renew_9 rfl ⟨by decide, by decide⟩ (Nat.le_of_ble_eq_true rfl) ⟨by decide, by decide⟩ rfl (fun v3 ws3 hq => ?_)
  obtain ⟨rfl, rfl⟩ := hq
  refine aw_istore_n (lv' := [(2, .int (nI (sN J n))), (0, .ref (ad 9)), (1, .ref (ad 1))]) d_S_renew_12 rfl (by decide) rfl ?_
  refine aw_iconst (v := nI 0) d_S_renew_13 (by decide) ?_
  refine aw_istore_n (lv' := [(3, .int (nI 0)), (2, .int (nI (sN J n))), (0, .ref (ad 9)), (1, .ref (ad 1))]) d_S_renew_14 rfl (by decide) rfl ?_
  refine aw_sub (lv' := [(0, .ref (ad 9)), (1, .ref (ad 1)), (2, .int (nI (sN J n))), (3, .int (nI 0))]) [2, 3, 1, 0] rfl ?_
  exact lp (n + 1) _ _ _ _ 0 hG2 hS2 f2 (by omega) (fun a ha => absurd ha (by omega)) (by omega)

set_option maxHeartbeats 4000000 in
set_option maxRecDepth 100000 in
theorem m_S_nextOf {g : aw_G} (hg : aw_T g) {ws : va_W} {ad : Nat → Nat} {n m : Nat} {P : Nat → Nat → Nat} {T X : Nat → Nat} (hS : gS g ws ad n P T X) (hn : n ≤ 5) (hm : m < 32) : AMet g y_S_nextOf c_S_nextOf 4 (some .int) 2 [.ref (ad 9), .int (nI m)] ws (aw_R (.int (nI (nxO X m n))) ws) 0 0 := by
  refine amet_of (by decide +kernel) (Nat.le_of_ble_eq_true rfl) ?_
  refine aw_sub (lv' := [(0, .ref (ad 9)), (1, .int (nI m))]) [0, 1] rfl ?_
  refine aw_iconst (v := nI 0) d_S_nextOf_0 (by decide) ?_
  refine aw_istore_n (lv' := [(2, .int (nI 0)), (0, .ref (ad 9)), (1, .int (nI m))]) d_S_nextOf_1 rfl (by decide) rfl ?_
  refine aw_iconst (v := nI 0) d_S_nextOf_2 (by decide) ?_
  refine aw_istore_n (lv' := [(3, .int (nI 0)), (2, .int (nI 0)), (0, .ref (ad 9)), (1, .int (nI m))]) d_S_nextOf_3 rfl (by decide) rfl ?_
  have lp : ∀ (k : Nat) (i : Nat), i ≤ n → n - i < k → AW g y_S_nextOf c_S_nextOf 4 (some .int) (aw_rm 2 0 0) aw_E0 (aw_F g (aw_R (.int (nI (nxO X m n))) ws) 0 0) 0 0 4 [(0, .ref (ad 9)), (1, .int (nI m)), (2, .int (nI (nxO X m i))), (3, .int (nI i))] [] ws := by
    intro k
    induction k with
    | zero => intro i hi hk; omega
    | succ k ih =>
      intro i hi hk
      refine aw_iload_n d_S_nextOf_4 rfl rfl ?_
      refine aw_aload_n d_S_nextOf_5 rfl rfl ?_
      refine aw_get kc_2 0 (by decide) k_60 d_S_nextOf_6 hS.1 rfl ?_
      refine aw_icmp_geN (tgt := 35) d_S_nextOf_9 (by decide) (by omega) (by omega) (fun h => ?_) (fun h => ?_)
      · have e : i = n := by omega
        subst e
        refine aw_iload_n d_S_nextOf_35 rfl rfl ?_
        exact aw_iret d_S_nextOf_36 (Nat.le_refl 0) (Nat.le_refl 0) ⟨rfl, rfl⟩
      · refine aw_iload_n d_S_nextOf_12 rfl rfl ?_
        refine aw_iload_n d_S_nextOf_13 rfl rfl ?_
        refine aw_callSN (av := [.int (nI m), .int (nI i)]) (rest := []) (m_W_has (ad := ad) hg hm (by omega)) kd_W_has k_220 k_221  d_S_nextOf_14 rfl ⟨by decide, by decide⟩ (Nat.le_of_ble_eq_true rfl) ⟨by decide, by decide⟩ rfl (fun v2 ws2 hq => ?_)
        obtain ⟨rfl, rfl⟩ := hq
        refine aw_if_eqB (tgt := 29) d_S_nextOf_17 (by decide) (fun h2 => ?_) (fun h2 => ?_)
        · have ex : nxO X m i = nxO X m (i + 1) := by rw [nxO, if_neg (by rw [h2]; decide)]
          rw [ex]
          refine aw_iinc1 (lv' := [(3, .int (nI (i + 1))), (0, .ref (ad 9)), (1, .int (nI m)), (2, .int (nI (nxO X m (i + 1))))]) d_S_nextOf_29 rfl (by decide) rfl ?_
          refine aw_goto (tgt := 4) d_S_nextOf_32 (by decide) ?_
          refine aw_sub (lv' := [(0, .ref (ad 9)), (1, .int (nI m)), (2, .int (nI (nxO X m (i + 1)))), (3, .int (nI (i + 1)))]) [1, 2, 3, 0] rfl ?_
          exact ih (i + 1) (by omega) (by omega)
        · have ex : nxO X m (i + 1) = nxO X m i ||| X i := by rw [nxO, if_pos h2]
          refine aw_iload_n d_S_nextOf_20 rfl rfl ?_
          refine aw_aload_n d_S_nextOf_21 rfl rfl ?_
          refine aw_get kc_2 3 (by decide) k_72 d_S_nextOf_22 hS.1 rfl ?_
          refine aw_iload_n d_S_nextOf_25 rfl rfl ?_
          refine aw_ialdA d_S_nextOf_26 hS.2.2.2.2 hg (by omega) (by decide) ?_
          refine aw_iorN d_S_nextOf_27 ?_
          refine aw_nmi (z := nI (nxO X m (i + 1))) (by rw [ex]) ?_
          refine aw_istore_n (lv' := [(2, .int (nI (nxO X m (i + 1)))), (0, .ref (ad 9)), (1, .int (nI m)), (3, .int (nI i))]) d_S_nextOf_28 rfl (by decide) rfl ?_
          refine aw_iinc1 (lv' := [(3, .int (nI (i + 1))), (2, .int (nI (nxO X m (i + 1)))), (0, .ref (ad 9)), (1, .int (nI m))]) d_S_nextOf_29 rfl (by decide) rfl ?_
          refine aw_goto (tgt := 4) d_S_nextOf_32 (by decide) ?_
          refine aw_sub (lv' := [(0, .ref (ad 9)), (1, .int (nI m)), (2, .int (nI (nxO X m (i + 1)))), (3, .int (nI (i + 1)))]) [2, 3, 1, 0] rfl ?_
          exact ih (i + 1) (by omega) (by omega)
  refine aw_sub (lv' := [(0, .ref (ad 9)), (1, .int (nI m)), (2, .int (nI (nxO X m 0))), (3, .int (nI 0))]) [2, 3, 1, 0] rfl ?_
  exact lp (n + 1) 0 (by omega) (by omega)

set_option maxHeartbeats 4000000 in
set_option maxRecDepth 100000 in
theorem m_S_nodesBehind {g : aw_G} (hg : aw_T g) {ws : va_W} {ad : Nat → Nat} {n u av : Nat} {P : Nat → Nat → Nat} {T X : Nat → Nat} (hS : gS g ws ad n P T X) (hn : n ≤ 5) (hu : u < 5) (hX : ∀ u, u < n → X u < 32) (ha : av < 32) : AMet g y_S_nodesBehind c_S_nodesBehind 5 (some .int) 3 [.ref (ad 9), .int (nI u), .int (nI av)] ws (aw_R (.int (nI (bh X n av (2 ^ u) n))) ws) 0 0 := by
  have hb := bh_lt hX ha (pow_32 hu)
  refine amet_of (by decide +kernel) (Nat.le_of_ble_eq_true rfl) ?_
  refine aw_sub (lv' := [(0, .ref (ad 9)), (1, .int (nI u)), (2, .int (nI av))]) [0, 1, 2] rfl ?_
  refine aw_iload_n d_S_nodesBehind_0 rfl rfl ?_
  refine aw_callSN (av := [.int (nI u)]) (rest := []) (m_W_only (ad := ad) hg hu) kd_W_only k_205 k_206  d_S_nodesBehind_1 rfl ⟨by decide, by decide⟩ (Nat.le_of_ble_eq_true rfl) ⟨by decide, by decide⟩ rfl (fun v2 ws2 hq => ?_)
  obtain ⟨rfl, rfl⟩ := hq
  refine aw_istore_n (lv' := [(3, .int (nI (2 ^ u))), (0, .ref (ad 9)), (1, .int (nI u)), (2, .int (nI av))]) d_S_nodesBehind_4 rfl (by decide) rfl ?_
  refine aw_iconst (v := nI 0) d_S_nodesBehind_5 (by decide) ?_
  refine aw_istore (lv' := [(4, .int (nI 0)), (3, .int (nI (2 ^ u))), (0, .ref (ad 9)), (1, .int (nI u)), (2, .int (nI av))]) d_S_nodesBehind_6 (by decide) rfl ?_
  have lp : ∀ (k : Nat) (i : Nat), i ≤ n → n - i < k → AW g y_S_nodesBehind c_S_nodesBehind 5 (some .int) (aw_rm 3 0 0) aw_E0 (aw_F g (aw_R (.int (nI (bh X n av (2 ^ u) n))) ws) 0 0) 0 0 8 [(0, .ref (ad 9)), (1, .int (nI u)), (2, .int (nI av)), (3, .int (nI (bh X n av (2 ^ u) i))), (4, .int (nI i))] [] ws := by
    intro k
    induction k with
    | zero => intro i hi hk; omega
    | succ k ih =>
      intro i hi hk
      refine aw_iload d_S_nodesBehind_8 rfl ?_
      refine aw_aload_n d_S_nodesBehind_10 rfl rfl ?_
      refine aw_get kc_2 0 (by decide) k_60 d_S_nodesBehind_11 hS.1 rfl ?_
      refine aw_icmp_geN (tgt := 35) d_S_nodesBehind_14 (by decide) (by omega) (by omega) (fun h => ?_) (fun h => ?_)
      · have e : i = n := by omega
        subst e
        refine aw_iload_n d_S_nodesBehind_35 rfl rfl ?_
        exact aw_iret d_S_nodesBehind_36 (Nat.le_refl 0) (Nat.le_refl 0) ⟨rfl, rfl⟩
      · refine aw_iload_n d_S_nodesBehind_17 rfl rfl ?_
        refine aw_aload_n d_S_nodesBehind_18 rfl rfl ?_
        refine aw_iload_n d_S_nodesBehind_19 rfl rfl ?_
        refine aw_callV (av := [.int (nI (bh X n av (2 ^ u) i))]) (rest := [.int (nI (bh X n av (2 ^ u) i))]) (m_S_nextOf hg hS hn (hb i)) kd_S_nextOf k_216 k_218 ks_S_nextOf rfl hS.1 d_S_nodesBehind_20 rfl ⟨by decide, by decide⟩ (Nat.le_of_ble_eq_true rfl) ⟨by decide, by decide⟩ rfl (fun v2 ws2 hq => ?_)
        obtain ⟨rfl, rfl⟩ := hq
        refine aw_iload_n d_S_nodesBehind_23 rfl rfl ?_
        refine aw_iconst (v := -1) d_S_nodesBehind_24 (by decide) ?_
        refine aw_ixor d_S_nodesBehind_25 ?_
        refine aw_iand d_S_nodesBehind_26 ?_
        refine aw_nmi (z := nI (an (nxO X (bh X n av (2 ^ u) i) n) av)) (an_eq _ (nxO_lt hX) _ ha) ?_
        refine aw_iorN d_S_nodesBehind_27 ?_
        refine aw_istore_n (lv' := [(3, .int (nI ((bh X n av (2 ^ u) i) ||| (an (nxO X (bh X n av (2 ^ u) i) n) av)))), (0, .ref (ad 9)), (1, .int (nI u)), (2, .int (nI av)), (4, .int (nI i))]) d_S_nodesBehind_28 rfl (by decide) rfl ?_
        refine aw_iinc1 (lv' := [(4, .int (nI (i + 1))), (3, .int (nI ((bh X n av (2 ^ u) i) ||| (an (nxO X (bh X n av (2 ^ u) i) n) av)))), (0, .ref (ad 9)), (1, .int (nI u)), (2, .int (nI av))]) d_S_nodesBehind_29 rfl (by decide) rfl ?_
        refine aw_goto (tgt := 8) d_S_nodesBehind_32 (by decide) ?_
        refine aw_sub (lv' := [(0, .ref (ad 9)), (1, .int (nI u)), (2, .int (nI av)), (3, .int (nI (bh X n av (2 ^ u) (i + 1)))), (4, .int (nI (i + 1)))]) [2, 3, 4, 1, 0] rfl ?_
        exact ih (i + 1) (by omega) (by omega)
  refine aw_sub (lv' := [(0, .ref (ad 9)), (1, .int (nI u)), (2, .int (nI av)), (3, .int (nI (bh X n av (2 ^ u) 0))), (4, .int (nI 0))]) [2, 3, 4, 1, 0] rfl ?_
  exact lp (n + 1) 0 (by omega) (by omega)
