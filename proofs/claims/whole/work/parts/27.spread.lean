-- laid by wip/whole/m7.py
def q_fac (g : aw_G) (ad : Nat → Nat) (ws : va_W) (n p q : Nat) (A B : Nat → Int) (f : Nat → Nat → Int) : Option Value → va_W → Prop := fun r ws' => r = none ∧ fr 30 39 ws ws' ∧ ∃ Z : Nat → Nat → Int, gP g ws' ad p q A B n Z ∧ ∀ i j, i < n → j < n → Z i j = f i j

set_option maxHeartbeats 4000000 in
set_option maxRecDepth 100000 in
theorem m_P_fillByWeights {g : aw_G} (hg : aw_T g) {ws : va_W} {ad : Nat → Nat} {n n0 p q x y : Nat} {W : Nat → Nat → Nat} {J : Nat → Nat} {A B : Nat → Int} {Z0 : Nat → Nat → Int} (hP : gP g ws ad p q A B n0 Z0) (hG : gG g ws ad n x y W J) (hn : n ≤ 5) (hb : ∀ i j, i < n → j < n → W i j ≤ 2) : AMet g y_P_fillByWeights c_P_fillByWeights 4 none 0 [.ref (ad 30), .ref (ad 1)] ws (q_fac g ad ws n p q A B (fun i j => (W i j : Int))) 0 0 := by
  refine amet_of (by decide +kernel) (Nat.le_of_ble_eq_true rfl) ?_
  refine aw_sub (lv' := [(0, .ref (ad 30)), (1, .ref (ad 1))]) [0, 1] rfl ?_
  have lp : ∀ (k : Nat) (ws1 : va_W) (Z : Nat → Nat → Int) (u : Nat), gP g ws1 ad p q A B n Z → gG g ws1 ad n x y W J → fr 30 39 ws ws1 → u ≤ n → (∀ i j, i < u → j < n → Z i j = (W i j : Int)) → n - u < k → AW g y_P_fillByWeights c_P_fillByWeights 4 none (aw_rm 0 0 0) aw_E0 (aw_F g (q_fac g ad ws n p q A B (fun i j => (W i j : Int))) 0 0) 0 0 10 [(0, .ref (ad 30)), (1, .ref (ad 1)), (2, .int (nI u))] [] ws1 := by
    intro k
    induction k with
    | zero => intro ws1 Z u hP1 hG1 hf hu hr hk; omega
    | succ k ih =>
      intro ws1 Z u hP1 hG1 hf hu hr hk
      have ihu := ih
      refine aw_iload_n d_P_fillByWeights_10 rfl rfl ?_
      refine aw_aload_n d_P_fillByWeights_11 rfl rfl ?_
      refine aw_get kc_5 2 (by decide) k_136 d_P_fillByWeights_12 hP1.2.1 rfl ?_
      refine aw_icmp_geN (tgt := 57) d_P_fillByWeights_15 (by decide) (by omega) (by omega) (fun h => ?_) (fun h => ?_)
      · have e : n = u := by omega
        subst e
        exact aw_vret d_P_fillByWeights_57 (Nat.le_refl 0) (Nat.le_refl 0) ⟨rfl, hf, Z, hP1, hr⟩
      · refine aw_iconst (v := nI 0) d_P_fillByWeights_18 (by decide) ?_
        refine aw_istore_n (lv' := [(3, .int (nI 0)), (0, .ref (ad 30)), (1, .ref (ad 1)), (2, .int (nI u))]) d_P_fillByWeights_19 rfl (by decide) rfl ?_
        have lq : ∀ (k : Nat) (ws2 : va_W) (Y : Nat → Nat → Int) (v : Nat), gP g ws2 ad p q A B n Y → gG g ws2 ad n x y W J → fr 30 39 ws ws2 → v ≤ n → (∀ i j, (i < u ∧ j < n) ∨ (i = u ∧ j < v) → Y i j = (W i j : Int)) → n - v < k → AW g y_P_fillByWeights c_P_fillByWeights 4 none (aw_rm 0 0 0) aw_E0 (aw_F g (q_fac g ad ws n p q A B (fun i j => (W i j : Int))) 0 0) 0 0 20 [(0, .ref (ad 30)), (1, .ref (ad 1)), (2, .int (nI u)), (3, .int (nI v))] [] ws2 := by
          intro k
          induction k with
          | zero => intro ws2 Y v hP2 hG2 hf2 hv hr2 hk2; omega
          | succ k ih =>
            intro ws2 Y v hP2 hG2 hf2 hv hr2 hk2
            refine aw_iload_n d_P_fillByWeights_20 rfl rfl ?_
            refine aw_aload_n d_P_fillByWeights_21 rfl rfl ?_
            refine aw_get kc_5 2 (by decide) k_136 d_P_fillByWeights_22 hP2.2.1 rfl ?_
            refine aw_icmp_geN (tgt := 51) d_P_fillByWeights_25 (by decide) (by omega) (by omega) (fun h1 => ?_) (fun h1 => ?_)
            · refine aw_iinc1 (lv' := [(2, .int (nI (u + 1))), (0, .ref (ad 30)), (1, .ref (ad 1)), (3, .int (nI v))]) d_P_fillByWeights_51 rfl (by decide) rfl ?_
              refine aw_goto (tgt := 10) d_P_fillByWeights_54 (by decide) ?_
              refine aw_sub (lv' := [(0, .ref (ad 30)), (1, .ref (ad 1)), (2, .int (nI (u + 1)))]) [1, 2, 0] rfl ?_
              exact ihu ws2 Y (u + 1) hP2 hG2 hf2 (by omega) (fun i j hi hj => hr2 i j (by omega)) (by omega)
            · have hb1 := hb u v h h1
              refine aw_aload_n d_P_fillByWeights_28 rfl rfl ?_
              refine aw_get kc_5 3 (by decide) k_137 d_P_fillByWeights_29 hP2.2.1 rfl ?_
              refine aw_iload_n d_P_fillByWeights_32 rfl rfl ?_
              refine aw_aaldL d_P_fillByWeights_33 hP2.2.2.2.2.1 hg (by omega) ?_
              refine aw_iload_n d_P_fillByWeights_34 rfl rfl ?_
              refine aw_aload_n d_P_fillByWeights_35 rfl rfl ?_
              refine aw_get kc_1 3 (by decide) k_35 d_P_fillByWeights_36 hG2.1 rfl ?_
              refine aw_iload_n d_P_fillByWeights_39 rfl rfl ?_
              refine aw_aaldI d_P_fillByWeights_40 hG2.2.1 hg (by omega) ?_
              refine aw_iload_n d_P_fillByWeights_41 rfl rfl ?_
              refine aw_ialdA d_P_fillByWeights_42 (hG2.2.2.1 u (by omega)) hg (by omega) (by decide) ?_
              refine aw_i2lN d_P_fillByWeights_43 (by omega) ?_
              refine aw_lastA d_P_fillByWeights_44 (hP2.2.2.2.2.2 u (by omega)) hg (by omega) (by decide) (fun zws1 za2 zb3 zc4 => ?_)
              have zF5 := fam_putL (lo := 34) hP2.2.2.2.2.2 za2 zb3
              have hP3 := hP2.putZ (by omega) za2 zb3
              have f3 := fr.one (lo := 30) (hi := 39) zb3 zc4 (by omega) (by omega)
              have hG3 := hG2.kept f3 (by omega)
              refine aw_iinc1 (lv' := [(3, .int (nI (v + 1))), (0, .ref (ad 30)), (1, .ref (ad 1)), (2, .int (nI u))]) d_P_fillByWeights_45 rfl (by decide) rfl ?_
              refine aw_goto (tgt := 20) d_P_fillByWeights_48 (by decide) ?_
              refine aw_sub (lv' := [(0, .ref (ad 30)), (1, .ref (ad 1)), (2, .int (nI u)), (3, .int (nI (v + 1)))]) [1, 2, 3, 0] rfl ?_
              exact ih _ _ (v + 1) hP3 hG3 (hf2.tr f3) (by omega) (fun i j hij => by
            unfold fup2
            by_cases e : i = u ∧ j = v
            · rw [if_pos e, e.1, e.2]
            · rw [if_neg e]; exact hr2 i j (by omega)) (by omega)
        refine aw_sub (lv' := [(0, .ref (ad 30)), (1, .ref (ad 1)), (2, .int (nI u)), (3, .int (nI 0))]) [1, 2, 3, 0] rfl ?_
        exact lq (n + 1) ws1 Z 0 hP1 hG1 hf (by omega) (fun i j hij => hr i j (by omega) (by omega)) (by omega)
  refine aw_aload_n d_P_fillByWeights_0 rfl rfl ?_
  refine aw_aload_n d_P_fillByWeights_1 rfl rfl ?_
  refine aw_get kc_1 0 (by decide) k_26 d_P_fillByWeights_2 hG.1 rfl ?_
  refine aw_putN kc_5 2 (by decide) k_136 d_P_fillByWeights_5 hP.2.1 rfl rfl rfl (Nat.le_of_ble_eq_true rfl) (fun zws6 za7 zb8 zc9 => ?_)
  have zf10 : zws6[30]? = some (ad 30, .inr (5, [.ref (ad p), .ref (ad q), .int (nI n), .ref (ad 33)])) := za7
  have hP2 := hP.putO (n' := n) za7 zb8
  have f2 := fr.one (lo := 30) (hi := 39) zb8 zc9 (by omega) (by omega)
  have hG2 := hG.kept f2 (by omega)
  refine aw_iconst (v := nI 0) d_P_fillByWeights_8 (by decide) ?_
  refine aw_istore_n (lv' := [(2, .int (nI 0)), (0, .ref (ad 30)), (1, .ref (ad 1))]) d_P_fillByWeights_9 rfl (by decide) rfl ?_
  refine aw_sub (lv' := [(0, .ref (ad 30)), (1, .ref (ad 1)), (2, .int (nI 0))]) [1, 2, 0] rfl ?_
  exact lp (n + 1) _ Z0 0 hP2 hG2 f2 (by omega) (fun i j hi _ => absurd hi (by omega)) (by omega)

set_option maxHeartbeats 4000000 in
set_option maxRecDepth 100000 in
theorem m_P_fillBySteps {g : aw_G} (hg : aw_T g) {ws : va_W} {ad : Nat → Nat} {n n0 p q m : Nat} {P : Nat → Nat → Nat} {T X : Nat → Nat} {A B : Nat → Int} {Z0 : Nat → Nat → Int} (hP : gP g ws ad p q A B n0 Z0) (hS : gS g ws ad n P T X) (hn : n ≤ 5) (hm : m < 2 ^ 62) (hb : ∀ i j, i < n → j < n → P i j ≤ 400) (hT : ∀ i, i < n → 0 < T i ∧ T i ≤ 400) : AMet g y_P_fillBySteps c_P_fillBySteps 8 none 0 [.ref (ad 30), .ref (ad 9), .long (lI (m : Int))] ws (q_fac g ad ws n p q A B (fun i j => ((m / T i : Nat) : Int) * (P i j : Int))) 0 0 := by
  refine amet_of (by decide +kernel) (Nat.le_of_ble_eq_true rfl) ?_
  refine aw_sub (lv' := [(0, .ref (ad 30)), (1, .ref (ad 9)), (2, .long (lI (m : Int)))]) [0, 1, 2] rfl ?_
  have lp : ∀ (k : Nat) (ws1 : va_W) (Z : Nat → Nat → Int) (u : Nat), gP g ws1 ad p q A B n Z → gS g ws1 ad n P T X → fr 30 39 ws ws1 → u ≤ n → (∀ i j, i < u → j < n → Z i j = ((m / T i : Nat) : Int) * (P i j : Int)) → n - u < k → AW g y_P_fillBySteps c_P_fillBySteps 8 none (aw_rm 0 0 0) aw_E0 (aw_F g (q_fac g ad ws n p q A B (fun i j => ((m / T i : Nat) : Int) * (P i j : Int))) 0 0) 0 0 11 [(0, .ref (ad 30)), (1, .ref (ad 9)), (2, .long (lI (m : Int))), (4, .int (nI u))] [] ws1 := by
    intro k
    induction k with
    | zero => intro ws1 Z u hP1 hS1 hf hu hr hk; omega
    | succ k ih =>
      intro ws1 Z u hP1 hS1 hf hu hr hk
      have ihu := ih
      refine aw_iload d_P_fillBySteps_11 rfl ?_
      refine aw_aload_n d_P_fillBySteps_13 rfl rfl ?_
      refine aw_get kc_5 2 (by decide) k_136 d_P_fillBySteps_14 hP1.2.1 rfl ?_
      refine aw_icmp_geN (tgt := 94) d_P_fillBySteps_17 (by decide) (by omega) (by omega) (fun h => ?_) (fun h => ?_)
      · have e : n = u := by omega
        subst e
        exact aw_vret d_P_fillBySteps_94 (Nat.le_refl 0) (Nat.le_refl 0) ⟨rfl, hf, Z, hP1, hr⟩
      · have hT1 := hT u h
        refine aw_aload_n d_P_fillBySteps_20 rfl rfl ?_
        refine aw_get kc_2 2 (by decide) k_70 d_P_fillBySteps_21 hS1.1 rfl ?_
        refine aw_iload d_P_fillBySteps_24 rfl ?_
        refine aw_ialdA d_P_fillBySteps_26 hS1.2.2.2.1 hg (by omega) (by decide) ?_
        refine aw_if_leN (tgt := 43) d_P_fillBySteps_27 (by decide) (by omega) (fun h0 => absurd h0 (by omega)) (fun h0 => ?_)
        refine aw_lload_n d_P_fillBySteps_30 rfl rfl ?_
        refine aw_aload_n d_P_fillBySteps_31 rfl rfl ?_
        refine aw_get kc_2 2 (by decide) k_70 d_P_fillBySteps_32 hS1.1 rfl ?_
        refine aw_iload d_P_fillBySteps_35 rfl ?_
        refine aw_ialdA d_P_fillBySteps_37 hS1.2.2.2.1 hg (by omega) (by decide) ?_
        refine aw_i2lN d_P_fillBySteps_38 (by omega) ?_
        refine aw_ldivI (a := m) (b := (T u)) d_P_fillBySteps_39 (by omega) (by omega) (by omega) ?_
        refine aw_goto (tgt := 44) d_P_fillBySteps_40 (by decide) ?_
        refine aw_lstore (lv' := [(5, .long (lI ((m / (T u) : Nat) : Int))), (0, .ref (ad 30)), (1, .ref (ad 9)), (2, .long (lI (m : Int))), (4, .int (nI u))]) d_P_fillBySteps_44 (by decide) rfl ?_
        refine aw_iconst (v := nI 0) d_P_fillBySteps_46 (by decide) ?_
        refine aw_istore (lv' := [(7, .int (nI 0)), (5, .long (lI ((m / (T u) : Nat) : Int))), (0, .ref (ad 30)), (1, .ref (ad 9)), (2, .long (lI (m : Int))), (4, .int (nI u))]) d_P_fillBySteps_47 (by decide) rfl ?_
        have lq : ∀ (k : Nat) (ws2 : va_W) (Y : Nat → Nat → Int) (v : Nat), gP g ws2 ad p q A B n Y → gS g ws2 ad n P T X → fr 30 39 ws ws2 → v ≤ n → (∀ i j, (i < u ∧ j < n) ∨ (i = u ∧ j < v) → Y i j = ((m / T i : Nat) : Int) * (P i j : Int)) → n - v < k → AW g y_P_fillBySteps c_P_fillBySteps 8 none (aw_rm 0 0 0) aw_E0 (aw_F g (q_fac g ad ws n p q A B (fun i j => ((m / T i : Nat) : Int) * (P i j : Int))) 0 0) 0 0 49 [(0, .ref (ad 30)), (1, .ref (ad 9)), (2, .long (lI (m : Int))), (4, .int (nI u)), (5, .long (lI ((m / (T u) : Nat) : Int))), (7, .int (nI v))] [] ws2 := by
          intro k
          induction k with
          | zero => intro ws2 Y v hP2 hS2 hf2 hv hr2 hk2; omega
          | succ k ih =>
            intro ws2 Y v hP2 hS2 hf2 hv hr2 hk2
            refine aw_iload d_P_fillBySteps_49 rfl ?_
            refine aw_aload_n d_P_fillBySteps_51 rfl rfl ?_
            refine aw_get kc_5 2 (by decide) k_136 d_P_fillBySteps_52 hP2.2.1 rfl ?_
            refine aw_icmp_geN (tgt := 88) d_P_fillBySteps_55 (by decide) (by omega) (by omega) (fun h1 => ?_) (fun h1 => ?_)
            · refine aw_iinc1 (lv' := [(4, .int (nI (u + 1))), (0, .ref (ad 30)), (1, .ref (ad 9)), (2, .long (lI (m : Int))), (5, .long (lI ((m / (T u) : Nat) : Int))), (7, .int (nI v))]) d_P_fillBySteps_88 rfl (by decide) rfl ?_
              refine aw_goto (tgt := 11) d_P_fillBySteps_91 (by decide) ?_
              refine aw_sub (lv' := [(0, .ref (ad 30)), (1, .ref (ad 9)), (2, .long (lI (m : Int))), (4, .int (nI (u + 1)))]) [1, 2, 3, 0] rfl ?_
              exact ihu ws2 Y (u + 1) hP2 hS2 hf2 (by omega) (fun i j hi hj => hr2 i j (by omega)) (by omega)
            · have hb1 := hb u v h h1
              refine aw_aload_n d_P_fillBySteps_58 rfl rfl ?_
              refine aw_get kc_5 3 (by decide) k_137 d_P_fillBySteps_59 hP2.2.1 rfl ?_
              refine aw_iload d_P_fillBySteps_62 rfl ?_
              refine aw_aaldL d_P_fillBySteps_64 hP2.2.2.2.2.1 hg (by omega) ?_
              refine aw_iload d_P_fillBySteps_65 rfl ?_
              refine aw_lload d_P_fillBySteps_67 rfl ?_
              refine aw_aload_n d_P_fillBySteps_69 rfl rfl ?_
              refine aw_get kc_2 1 (by decide) k_66 d_P_fillBySteps_70 hS2.1 rfl ?_
              refine aw_iload d_P_fillBySteps_73 rfl ?_
              refine aw_aaldI d_P_fillBySteps_75 hS2.2.1 hg (by omega) ?_
              refine aw_iload d_P_fillBySteps_76 rfl ?_
              refine aw_ialdA d_P_fillBySteps_78 (hS2.2.2.1 u (by omega)) hg (by omega) (by decide) ?_
              refine aw_i2lN d_P_fillBySteps_79 (by omega) ?_
              refine aw_lmulI d_P_fillBySteps_80 ?_
              refine aw_lastA d_P_fillBySteps_81 (hP2.2.2.2.2.2 u (by omega)) hg (by omega) (by decide) (fun zws1 za2 zb3 zc4 => ?_)
              have zF5 := fam_putL (lo := 34) hP2.2.2.2.2.2 za2 zb3
              have hP3 := hP2.putZ (by omega) za2 zb3
              have f3 := fr.one (lo := 30) (hi := 39) zb3 zc4 (by omega) (by omega)
              have hS3 := hS2.kept f3 (by omega)
              refine aw_iinc1 (lv' := [(7, .int (nI (v + 1))), (0, .ref (ad 30)), (1, .ref (ad 9)), (2, .long (lI (m : Int))), (4, .int (nI u)), (5, .long (lI ((m / (T u) : Nat) : Int)))]) d_P_fillBySteps_82 rfl (by decide) rfl ?_
              refine aw_goto (tgt := 49) d_P_fillBySteps_85 (by decide) ?_
              refine aw_sub (lv' := [(0, .ref (ad 30)), (1, .ref (ad 9)), (2, .long (lI (m : Int))), (4, .int (nI u)), (5, .long (lI ((m / (T u) : Nat) : Int))), (7, .int (nI (v + 1)))]) [1, 2, 3, 4, 5, 0] rfl ?_
              exact ih _ _ (v + 1) hP3 hS3 (hf2.tr f3) (by omega) (fun i j hij => by
            unfold fup2
            by_cases e : i = u ∧ j = v
            · rw [if_pos e, e.1, e.2]
            · rw [if_neg e]; exact hr2 i j (by omega)) (by omega)
        refine aw_sub (lv' := [(0, .ref (ad 30)), (1, .ref (ad 9)), (2, .long (lI (m : Int))), (4, .int (nI u)), (5, .long (lI ((m / (T u) : Nat) : Int))), (7, .int (nI 0))]) [2, 3, 4, 5, 1, 0] rfl ?_
        exact lq (n + 1) ws1 Z 0 hP1 hS1 hf (by omega) (fun i j hij => hr i j (by omega) (by omega)) (by omega)
  refine aw_aload_n d_P_fillBySteps_0 rfl rfl ?_
  refine aw_aload_n d_P_fillBySteps_1 rfl rfl ?_
  refine aw_get kc_2 0 (by decide) k_63 d_P_fillBySteps_2 hS.1 rfl ?_
  refine aw_putN kc_5 2 (by decide) k_136 d_P_fillBySteps_5 hP.2.1 rfl rfl rfl (Nat.le_of_ble_eq_true rfl) (fun zws6 za7 zb8 zc9 => ?_)
  have zf10 : zws6[30]? = some (ad 30, .inr (5, [.ref (ad p), .ref (ad q), .int (nI n), .ref (ad 33)])) := za7
  have hP2 := hP.putO (n' := n) za7 zb8
  have f2 := fr.one (lo := 30) (hi := 39) zb8 zc9 (by omega) (by omega)
  have hS2 := hS.kept f2 (by omega)
  refine aw_iconst (v := nI 0) d_P_fillBySteps_8 (by decide) ?_
  refine aw_istore (lv' := [(4, .int (nI 0)), (0, .ref (ad 30)), (1, .ref (ad 9)), (2, .long (lI (m : Int)))]) d_P_fillBySteps_9 (by decide) rfl ?_
  refine aw_sub (lv' := [(0, .ref (ad 30)), (1, .ref (ad 9)), (2, .long (lI (m : Int))), (4, .int (nI 0))]) [1, 2, 3, 0] rfl ?_
  exact lp (n + 1) _ Z0 0 hP2 hS2 f2 (by omega) (fun i j hi _ => absurd hi (by omega)) (by omega)

set_option maxHeartbeats 4000000 in
set_option maxRecDepth 100000 in
theorem m_P_numberAt {g : aw_G} (hg : aw_T g) {ws : va_W} {ad : Nat → Nat} {n p q v : Nat} {A B : Nat → Int} {Z : Nat → Nat → Int} (hP : gP g ws ad p q A B n Z) (hv : v < 5) : AMet g y_P_numberAt c_P_numberAt 2 (some .long) 0 [.ref (ad 30), .int (nI v)] ws (aw_R (.long (lI (A v))) ws) 0 0 := by
  refine amet_of (by decide +kernel) (Nat.le_of_ble_eq_true rfl) ?_
  refine aw_sub (lv' := [(0, .ref (ad 30)), (1, .int (nI v))]) [0, 1] rfl ?_
  refine aw_aload_n d_P_numberAt_0 rfl rfl ?_
  refine aw_get kc_5 0 (by decide) k_134 d_P_numberAt_1 hP.2.1 rfl ?_
  refine aw_iload_n d_P_numberAt_4 rfl rfl ?_
  refine aw_laldA d_P_numberAt_5 hP.2.2.1 hg (by omega) (by decide) ?_
  exact aw_lret d_P_numberAt_6 (Nat.le_refl 0) (Nat.le_refl 0) ⟨rfl, rfl⟩

def q_move (g : aw_G) (ad : Nat → Nat) (ws : va_W) (n p q : Nat) (A : Nat → Int) (Z : Nat → Nat → Int) : Option Value → va_W → Prop := fun r ws' => r = none ∧ fr 30 39 ws ws' ∧ ∃ B : Nat → Int, gP g ws' ad q p B A n Z ∧ ∀ v, v < n → B v = mv Z n A v

set_option maxHeartbeats 4000000 in
set_option maxRecDepth 100000 in
theorem m_P_move {g : aw_G} (hg : aw_T g) {ws : va_W} {ad : Nat → Nat} {n p q : Nat} {A B : Nat → Int} {Z : Nat → Nat → Int} (hP : gP g ws ad p q A B n Z) (hn : n ≤ 5) : AMet g y_P_move c_P_move 3 none 0 [.ref (ad 30)] ws (q_move g ad ws n p q A Z) 0 0 := by
  have hpq := hP.1
  refine amet_of (by decide +kernel) (Nat.le_of_ble_eq_true rfl) ?_
  refine aw_sub (lv' := [(0, .ref (ad 30))]) [0] rfl ?_
  refine aw_iconst (v := nI 0) d_P_move_0 (by decide) ?_
  refine aw_istore_n (lv' := [(1, .int (nI 0)), (0, .ref (ad 30))]) d_P_move_1 rfl (by decide) rfl ?_
  have lp : ∀ (k : Nat) (ws1 : va_W) (B1 : Nat → Int) (v : Nat), gP g ws1 ad p q A B1 n Z → fr 30 39 ws ws1 → v ≤ n → (∀ i, i < v → B1 i = mv Z n A i) → n - v < k → AW g y_P_move c_P_move 3 none (aw_rm 0 0 0) aw_E0 (aw_F g (q_move g ad ws n p q A Z) 0 0) 0 0 2 [(0, .ref (ad 30)), (1, .int (nI v))] [] ws1 := by
    intro k
    induction k with
    | zero => intro ws1 B1 v hP1 hf hv hr hk; omega
    | succ k ih =>
      intro ws1 B1 v hP1 hf hv hr hk
      have ihu := ih
      refine aw_iload_n d_P_move_2 rfl rfl ?_
      refine aw_aload_n d_P_move_3 rfl rfl ?_
      refine aw_get kc_5 2 (by decide) k_136 d_P_move_4 hP1.2.1 rfl ?_
      refine aw_icmp_geN (tgt := 63) d_P_move_7 (by decide) (by omega) (by omega) (fun h => ?_) (fun h => ?_)
      · have e : n = v := by omega
        subst e
        refine aw_aload_n d_P_move_63 rfl rfl ?_
        refine aw_get kc_5 0 (by decide) k_134 d_P_move_64 hP1.2.1 rfl ?_
        refine aw_astore_n (lv' := [(1, .ref (ad p)), (0, .ref (ad 30))]) d_P_move_67 rfl (by decide) rfl ?_
        refine aw_aload_n d_P_move_68 rfl rfl ?_
        refine aw_aload_n d_P_move_69 rfl rfl ?_
        refine aw_get kc_5 1 (by decide) k_135 d_P_move_70 hP1.2.1 rfl ?_
        refine aw_putN kc_5 0 (by decide) k_134 d_P_move_73 hP1.2.1 rfl rfl rfl (Nat.le_of_ble_eq_true rfl) (fun zws1 za2 zb3 zc4 => ?_)
        have zf5 : zws1[30]? = some (ad 30, .inr (5, [.ref (ad q), .ref (ad q), .int (nI n), .ref (ad 33)])) := za2
        refine aw_aload_n d_P_move_76 rfl rfl ?_
        refine aw_aload_n d_P_move_77 rfl rfl ?_
        refine aw_putN kc_5 1 (by decide) k_135 d_P_move_78 zf5 rfl rfl rfl (Nat.le_of_ble_eq_true rfl) (fun zws6 za7 zb8 zc9 => ?_)
        have zf10 : zws6[30]? = some (ad 30, .inr (5, [.ref (ad q), .ref (ad p), .int (nI n), .ref (ad 33)])) := za7
        have f3 := (hf.tr (fr.one (lo := 30) (hi := 39) zb3 zc4 (by have := hP.1; omega) (by have := hP.1; omega))).tr (fr.one (lo := 30) (hi := 39) zb8 zc9 (by have := hP.1; omega) (by have := hP.1; omega))
        exact aw_vret d_P_move_81 (Nat.le_refl 0) (Nat.le_refl 0) ⟨rfl, f3, B1, ⟨by omega, za7, (zb8 q (by omega)).trans ((zb3 q (by omega)).trans hP1.2.2.2.1), (zb8 p (by omega)).trans ((zb3 p (by omega)).trans hP1.2.2.1), (zb8 33 (by omega)).trans ((zb3 33 (by omega)).trans hP1.2.2.2.2.1), fun i hi => (zb8 _ (by omega)).trans ((zb3 _ (by omega)).trans (hP1.2.2.2.2.2 i hi))⟩, hr⟩
      · refine aw_aload_n d_P_move_10 rfl rfl ?_
        refine aw_get kc_5 1 (by decide) k_135 d_P_move_11 hP1.2.1 rfl ?_
        refine aw_iload_n d_P_move_14 rfl rfl ?_
        refine aw_lconst (v := lI 0) d_P_move_15 (by decide) ?_
        refine aw_lastA d_P_move_16 hP1.2.2.2.1 hg (by omega) (by decide) (fun zws11 za12 zb13 zc14 => ?_)
        have hP2 := hP1.putB za12 zb13
        have f2 := fr.one (lo := 30) (hi := 39) zb13 zc14 (by have := hP.1; omega) (by have := hP.1; omega)
        refine aw_iconst (v := nI 0) d_P_move_17 (by decide) ?_
        refine aw_istore_n (lv' := [(2, .int (nI 0)), (0, .ref (ad 30)), (1, .int (nI v))]) d_P_move_18 rfl (by decide) rfl ?_
        have lq : ∀ (k : Nat) (ws2 : va_W) (B2 : Nat → Int) (u : Nat), gP g ws2 ad p q A B2 n Z → fr 30 39 ws ws2 → u ≤ n → (∀ i, i ≠ v → B2 i = B1 i) → B2 v = sZ (fun u => A u * Z u v) u → n - u < k → AW g y_P_move c_P_move 3 none (aw_rm 0 0 0) aw_E0 (aw_F g (q_move g ad ws n p q A Z) 0 0) 0 0 19 [(0, .ref (ad 30)), (1, .int (nI v)), (2, .int (nI u))] [] ws2 := by
          intro k
          induction k with
          | zero => intro ws2 B2 u hP3 hf2 hu hr2 hu2 hk2; omega
          | succ k ih =>
            intro ws2 B2 u hP3 hf2 hu hr2 hu2 hk2
            refine aw_iload_n d_P_move_19 rfl rfl ?_
            refine aw_aload_n d_P_move_20 rfl rfl ?_
            refine aw_get kc_5 2 (by decide) k_136 d_P_move_21 hP3.2.1 rfl ?_
            refine aw_icmp_geN (tgt := 57) d_P_move_24 (by decide) (by omega) (by omega) (fun h1 => ?_) (fun h1 => ?_)
            · have e : u = n := by omega
              rw [e] at hu2
              refine aw_iinc1 (lv' := [(1, .int (nI (v + 1))), (0, .ref (ad 30)), (2, .int (nI u))]) d_P_move_57 rfl (by decide) rfl ?_
              refine aw_goto (tgt := 2) d_P_move_60 (by decide) ?_
              refine aw_sub (lv' := [(0, .ref (ad 30)), (1, .int (nI (v + 1)))]) [1, 0] rfl ?_
              exact ihu ws2 B2 (v + 1) hP3 hf2 (by omega) (fun i hi => by
            by_cases e : i = v
            · rw [e, hu2]; rfl
            · rw [hr2 i e]; exact hr i (by omega)) (by omega)
            · refine aw_aload_n d_P_move_27 rfl rfl ?_
              refine aw_get kc_5 1 (by decide) k_135 d_P_move_28 hP3.2.1 rfl ?_
              refine aw_iload_n d_P_move_31 rfl rfl ?_
              refine aw_dup2_11 d_P_move_32 rfl rfl ?_
              refine aw_laldA d_P_move_33 hP3.2.2.2.1 hg (by omega) (by decide) ?_
              refine aw_aload_n d_P_move_34 rfl rfl ?_
              refine aw_get kc_5 0 (by decide) k_134 d_P_move_35 hP3.2.1 rfl ?_
              refine aw_iload_n d_P_move_38 rfl rfl ?_
              refine aw_laldA d_P_move_39 hP3.2.2.1 hg (by omega) (by decide) ?_
              refine aw_aload_n d_P_move_40 rfl rfl ?_
              refine aw_get kc_5 3 (by decide) k_137 d_P_move_41 hP3.2.1 rfl ?_
              refine aw_iload_n d_P_move_44 rfl rfl ?_
              refine aw_aaldL d_P_move_45 hP3.2.2.2.2.1 hg (by omega) ?_
              refine aw_iload_n d_P_move_46 rfl rfl ?_
              refine aw_laldA d_P_move_47 (hP3.2.2.2.2.2 u (by omega)) hg (by omega) (by decide) ?_
              refine aw_lmulI d_P_move_48 ?_
              refine aw_laddI d_P_move_49 ?_
              refine aw_lastA d_P_move_50 hP3.2.2.2.1 hg (by omega) (by decide) (fun zws15 za16 zb17 zc18 => ?_)
              have hP4 := hP3.putB za16 zb17
              have f4 := fr.one (lo := 30) (hi := 39) zb17 zc18 (by have := hP.1; omega) (by have := hP.1; omega)
              refine aw_iinc1 (lv' := [(2, .int (nI (u + 1))), (0, .ref (ad 30)), (1, .int (nI v))]) d_P_move_51 rfl (by decide) rfl ?_
              refine aw_goto (tgt := 19) d_P_move_54 (by decide) ?_
              refine aw_sub (lv' := [(0, .ref (ad 30)), (1, .int (nI v)), (2, .int (nI (u + 1)))]) [1, 2, 0] rfl ?_
              exact ih _ _ (u + 1) hP4 (hf2.tr f4) (by omega) (fun i hi => by rw [fup_n hi]; exact hr2 i hi) (by rw [fup_s, hu2]; rfl) (by omega)
        refine aw_sub (lv' := [(0, .ref (ad 30)), (1, .int (nI v)), (2, .int (nI 0))]) [1, 2, 0] rfl ?_
        exact lq (n + 1) _ _ 0 hP2 (hf.tr f2) (by omega) (fun i hi => fup_n hi) (by rw [fup_s]; rfl) (by omega)
  refine aw_sub (lv' := [(0, .ref (ad 30)), (1, .int (nI 0))]) [1, 0] rfl ?_
  exact lp (n + 1) ws B 0 hP fr.rf (by omega) (fun i hi => absurd hi (by omega)) (by omega)

def q_run (g : aw_G) (ad : Nat → Nat) (ws : va_W) (n : Nat) (Z : Nat → Nat → Int) (A : Nat → Int) (m : Nat) : Option Value → va_W → Prop := fun r ws' => r = none ∧ fr 30 39 ws ws' ∧ ∃ (p q : Nat) (A' B' : Nat → Int), gP g ws' ad p q A' B' n Z ∧ ∀ v, v < n → A' v = itM Z n A m v
def dl (u : Nat) : Nat → Int := fun v => if v = u then 1 else 0

set_option maxHeartbeats 4000000 in
set_option maxRecDepth 100000 in
theorem m_P_run {g : aw_G} (hg : aw_T g) {ws : va_W} {ad : Nat → Nat} {n p q u m : Nat} {A B : Nat → Int} {Z : Nat → Nat → Int} (hP : gP g ws ad p q A B n Z) (hn : n ≤ 5) (hu : u < n) (hm : m ≤ 12) : AMet g y_P_run c_P_run 4 none 1 [.ref (ad 30), .int (nI u), .int (nI m)] ws (q_run g ad ws n Z (dl u) m) 0 0 := by
  refine amet_of (by decide +kernel) (Nat.le_of_ble_eq_true rfl) ?_
  refine aw_sub (lv' := [(0, .ref (ad 30)), (1, .int (nI u)), (2, .int (nI m))]) [0, 1, 2] rfl ?_
  have lq : ∀ (k : Nat) (ws1 : va_W) (p1 q1 : Nat) (A1 B1 : Nat → Int) (i : Nat), gP g ws1 ad p1 q1 A1 B1 n Z → fr 30 39 ws ws1 → i ≤ m → (∀ v, v < n → A1 v = itM Z n (dl u) i v) → m - i < k → AW g y_P_run c_P_run 4 none (aw_rm 1 0 0) aw_E0 (aw_F g (q_run g ad ws n Z (dl u) m) 0 0) 0 0 34 [(0, .ref (ad 30)), (1, .int (nI u)), (2, .int (nI m)), (3, .int (nI i))] [] ws1 := by
    intro k
    induction k with
    | zero => intro ws1 p1 q1 A1 B1 i hP1 hf hi hr hk; omega
    | succ k ih =>
      intro ws1 p1 q1 A1 B1 i hP1 hf hi hr hk
      refine aw_iload_n d_P_run_34 rfl rfl ?_
      refine aw_iload_n d_P_run_35 rfl rfl ?_
      refine aw_icmp_geN (tgt := 49) d_P_run_36 (by decide) (by omega) (by omega) (fun h => ?_) (fun h => ?_)
      · have e : m = i := by omega
        subst e
        exact aw_vret d_P_run_49 (Nat.le_refl 0) (Nat.le_refl 0) ⟨rfl, hf, p1, q1, A1, B1, hP1, hr⟩
      · refine aw_aload_n d_P_run_39 rfl rfl ?_
        refine aw_callV (av := []) (rest := []) (m_P_move hg hP1 hn) kd_P_move k_372 k_374 ks_P_move rfl hP1.2.1 d_P_run_40 rfl ⟨by decide, by decide⟩ (Nat.le_of_ble_eq_true rfl) ⟨by decide, by decide⟩ rfl (fun v2 ws2 hq2 => ?_)
        obtain ⟨rfl, f2, B2, hP2, hB2⟩ := hq2
        refine aw_iinc1 (lv' := [(3, .int (nI (i + 1))), (0, .ref (ad 30)), (1, .int (nI u)), (2, .int (nI m))]) d_P_run_43 rfl (by decide) rfl ?_
        refine aw_goto (tgt := 34) d_P_run_46 (by decide) ?_
        refine aw_sub (lv' := [(0, .ref (ad 30)), (1, .int (nI u)), (2, .int (nI m)), (3, .int (nI (i + 1)))]) [1, 2, 3, 0] rfl ?_
        exact ih _ _ _ _ _ (i + 1) hP2 (hf.tr f2) (by omega) (fun v hv => by rw [hB2 v hv]; exact mv_congr hr v) (by omega)
  refine aw_iconst (v := nI 0) d_P_run_0 (by decide) ?_
  refine aw_istore_n (lv' := [(3, .int (nI 0)), (0, .ref (ad 30)), (1, .int (nI u)), (2, .int (nI m))]) d_P_run_1 rfl (by decide) rfl ?_
  have lp : ∀ (k : Nat) (ws1 : va_W) (A1 : Nat → Int) (v : Nat), gP g ws1 ad p q A1 B n Z → fr 30 39 ws ws1 → v ≤ n → (∀ i, i < v → A1 i = dl u i) → n - v < k → AW g y_P_run c_P_run 4 none (aw_rm 1 0 0) aw_E0 (aw_F g (q_run g ad ws n Z (dl u) m) 0 0) 0 0 2 [(0, .ref (ad 30)), (1, .int (nI u)), (2, .int (nI m)), (3, .int (nI v))] [] ws1 := by
    intro k
    induction k with
    | zero => intro ws1 A1 v hP1 hf hv hr hk; omega
    | succ k ih =>
      intro ws1 A1 v hP1 hf hv hr hk
      refine aw_iload_n d_P_run_2 rfl rfl ?_
      refine aw_aload_n d_P_run_3 rfl rfl ?_
      refine aw_get kc_5 2 (by decide) k_136 d_P_run_4 hP1.2.1 rfl ?_
      refine aw_icmp_geN (tgt := 32) d_P_run_7 (by decide) (by omega) (by omega) (fun h => ?_) (fun h => ?_)
      · have e : v = n := by omega
        rw [e] at hr
        refine aw_iconst (v := nI 0) d_P_run_32 (by decide) ?_
        refine aw_istore_n (lv' := [(3, .int (nI 0)), (0, .ref (ad 30)), (1, .int (nI u)), (2, .int (nI m))]) d_P_run_33 rfl (by decide) rfl ?_
        refine aw_sub (lv' := [(0, .ref (ad 30)), (1, .int (nI u)), (2, .int (nI m)), (3, .int (nI 0))]) [1, 2, 3, 0] rfl ?_
        exact lq (m + 1) _ _ _ _ _ 0 hP1 hf (by omega) hr (by omega)
      · refine aw_aload_n d_P_run_10 rfl rfl ?_
        refine aw_get kc_5 0 (by decide) k_134 d_P_run_11 hP1.2.1 rfl ?_
        refine aw_iload_n d_P_run_14 rfl rfl ?_
        refine aw_iload_n d_P_run_15 rfl rfl ?_
        refine aw_iload_n d_P_run_16 rfl rfl ?_
        refine aw_icmp_neN (tgt := 24) d_P_run_17 (by decide) (by omega) (by omega) (fun h2 => ?_) (fun h2 => ?_)
        · refine aw_lconst (v := lI 0) d_P_run_24 (by decide) ?_
          refine aw_lastA d_P_run_25 hP1.2.2.1 hg (by omega) (by decide) (fun zws1 za2 zb3 zc4 => ?_)
          have hP2 := hP1.putA za2 zb3
          have f2 := fr.one (lo := 30) (hi := 39) zb3 zc4 (by have := hP.1; omega) (by have := hP.1; omega)
          refine aw_iinc1 (lv' := [(3, .int (nI (v + 1))), (0, .ref (ad 30)), (1, .int (nI u)), (2, .int (nI m))]) d_P_run_26 rfl (by decide) rfl ?_
          refine aw_goto (tgt := 2) d_P_run_29 (by decide) ?_
          refine aw_sub (lv' := [(0, .ref (ad 30)), (1, .int (nI u)), (2, .int (nI m)), (3, .int (nI (v + 1)))]) [1, 2, 3, 0] rfl ?_
          exact ih _ _ (v + 1) hP2 (hf.tr f2) (by omega) (fun i hi => by
            by_cases e : i = v
            · rw [e, fup_s]; unfold dl; rw [if_neg h2]
            · rw [fup_n e]; exact hr i (by omega)) (by omega)
        · refine aw_lconst (v := lI 1) d_P_run_20 (by decide) ?_
          refine aw_goto (tgt := 25) d_P_run_21 (by decide) ?_
          refine aw_lastA d_P_run_25 hP1.2.2.1 hg (by omega) (by decide) (fun zws5 za6 zb7 zc8 => ?_)
          have hP2 := hP1.putA za6 zb7
          have f2 := fr.one (lo := 30) (hi := 39) zb7 zc8 (by have := hP.1; omega) (by have := hP.1; omega)
          refine aw_iinc1 (lv' := [(3, .int (nI (v + 1))), (0, .ref (ad 30)), (1, .int (nI u)), (2, .int (nI m))]) d_P_run_26 rfl (by decide) rfl ?_
          refine aw_goto (tgt := 2) d_P_run_29 (by decide) ?_
          refine aw_sub (lv' := [(0, .ref (ad 30)), (1, .int (nI u)), (2, .int (nI m)), (3, .int (nI (v + 1)))]) [1, 2, 3, 0] rfl ?_
          exact ih _ _ (v + 1) hP2 (hf.tr f2) (by omega) (fun i hi => by
            by_cases e : i = v
            · rw [e, fup_s]; unfold dl; rw [if_pos h2]
            · rw [fup_n e]; exact hr i (by omega)) (by omega)
  refine aw_sub (lv' := [(0, .ref (ad 30)), (1, .int (nI u)), (2, .int (nI m)), (3, .int (nI 0))]) [1, 2, 3, 0] rfl ?_
  exact lp (n + 1) ws A 0 hP fr.rf (by omega) (fun i hi => absurd hi (by omega)) (by omega)
