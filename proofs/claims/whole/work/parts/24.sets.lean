-- laid by wip/whole/m5.py
set_option maxHeartbeats 4000000 in
set_option maxRecDepth 100000 in
theorem m_S_commonTotal {g : aw_G} (hg : aw_T g) {ws : va_W} {ad : Nat → Nat} {n : Nat} {P : Nat → Nat → Nat} {T X : Nat → Nat} (hS : gS g ws ad n P T X) (hn : n ≤ 5) (hT : ∀ u, u < n → 0 < T u ∧ T u ≤ 400) (hL : ∀ k, k ≤ n → 0 < lcmT T k ∧ lcmT T k ≤ 10080) : AMet g y_S_commonTotal c_S_commonTotal 6 (some .long) 1 [.ref (ad 9)] ws (aw_R (.long (lI (lcmT T n : Int))) ws) 0 0 := by
  refine amet_of (by decide +kernel) (Nat.le_of_ble_eq_true rfl) ?_
  refine aw_sub (lv' := [(0, .ref (ad 9))]) [0] rfl ?_
  refine aw_lconst (v := lI 1) d_S_commonTotal_0 (by decide) ?_
  refine aw_lstore_n (lv' := [(1, .long (lI 1)), (0, .ref (ad 9))]) d_S_commonTotal_1 rfl (by decide) rfl ?_
  refine aw_iconst (v := nI 0) d_S_commonTotal_2 (by decide) ?_
  refine aw_istore_n (lv' := [(3, .int (nI 0)), (1, .long (lI 1)), (0, .ref (ad 9))]) d_S_commonTotal_3 rfl (by decide) rfl ?_
  have lp : ∀ (k : Nat) (i : Nat), i ≤ n → n - i < k → AW g y_S_commonTotal c_S_commonTotal 6 (some .long) (aw_rm 1 0 0) aw_E0 (aw_F g (aw_R (.long (lI (lcmT T n : Int))) ws) 0 0) 0 0 4 [(0, .ref (ad 9)), (1, .long (lI (lcmT T i : Int))), (3, .int (nI i))] [] ws := by
    intro k
    induction k with
    | zero => intro i hi hk; omega
    | succ k ih =>
      intro i hi hk
      refine aw_iload_n d_S_commonTotal_4 rfl rfl ?_
      refine aw_aload_n d_S_commonTotal_5 rfl rfl ?_
      refine aw_get kc_2 0 (by decide) k_60 d_S_commonTotal_6 hS.1 rfl ?_
      refine aw_icmp_geN (tgt := 51) d_S_commonTotal_9 (by decide) (by omega) (by omega) (fun h => ?_) (fun h => ?_)
      · have e : i = n := by omega
        subst e
        refine aw_lload_n d_S_commonTotal_51 rfl rfl ?_
        exact aw_lret d_S_commonTotal_52 (Nat.le_refl 0) (Nat.le_refl 0) ⟨rfl, rfl⟩
      · have b1 := hT i h
        have b2 := hL i hi
        have g0 : 0 < Nat.gcd (lcmT T i) (T i) := Nat.gcd_pos_of_pos_right _ b1.1
        have g1 : Nat.gcd (lcmT T i) (T i) ≤ T i := Nat.le_of_dvd b1.1 (Nat.gcd_dvd_right _ _)
        refine aw_lload_n d_S_commonTotal_12 rfl rfl ?_
        refine aw_aload_n d_S_commonTotal_13 rfl rfl ?_
        refine aw_get kc_2 2 (by decide) k_68 d_S_commonTotal_14 hS.1 rfl ?_
        refine aw_iload_n d_S_commonTotal_17 rfl rfl ?_
        refine aw_ialdA d_S_commonTotal_18 hS.2.2.2.1 hg (by omega) (by decide) ?_
        refine aw_i2lN d_S_commonTotal_19 (by omega) ?_
        refine aw_callSN (av := [.long (lI (lcmT T i : Int)), .long (lI (T i : Nat))]) (rest := []) (m_W_greatestDivisor (ad := ad) hg (by omega) (by omega) (mul99 (by omega) (by omega))) kd_W_greatestDivisor k_198 k_199  d_S_commonTotal_20 rfl ⟨by decide, by decide⟩ (Nat.le_of_ble_eq_true rfl) ⟨by decide, by decide⟩ rfl (fun v2 ws2 hq => ?_)
        obtain ⟨rfl, rfl⟩ := hq
        refine aw_lstore (lv' := [(4, .long (lI (Nat.gcd (lcmT T i) (T i) : Int))), (0, .ref (ad 9)), (1, .long (lI (lcmT T i : Int))), (3, .int (nI i))]) d_S_commonTotal_23 (by decide) rfl ?_
        refine aw_lload d_S_commonTotal_25 rfl ?_
        refine aw_lconst (v := lI 0) d_S_commonTotal_27 (by decide) ?_
        refine aw_lcmpI d_S_commonTotal_28 (by omega) (by omega) (by omega) (by omega) ?_
        refine aw_if_eqC (tgt := 45) d_S_commonTotal_29 (by decide) (fun h2 => absurd h2 (by omega)) (fun h2 => ?_)
        refine aw_lload_n d_S_commonTotal_32 rfl rfl ?_
        refine aw_lload d_S_commonTotal_33 rfl ?_
        refine aw_ldivI (a := (lcmT T i)) (b := (Nat.gcd (lcmT T i) (T i))) d_S_commonTotal_35 (by omega) (by omega) (by omega) ?_
        refine aw_aload_n d_S_commonTotal_36 rfl rfl ?_
        refine aw_get kc_2 2 (by decide) k_68 d_S_commonTotal_37 hS.1 rfl ?_
        refine aw_iload_n d_S_commonTotal_40 rfl rfl ?_
        refine aw_ialdA d_S_commonTotal_41 hS.2.2.2.1 hg (by omega) (by decide) ?_
        refine aw_i2lN d_S_commonTotal_42 (by omega) ?_
        refine aw_lmulI d_S_commonTotal_43 ?_
        refine aw_nml (z := lI (lcmT T (i + 1) : Int)) (by rw [lcmT, Int.natCast_mul]) ?_
        refine aw_lstore_n (lv' := [(1, .long (lI (lcmT T (i + 1) : Int))), (4, .long (lI (Nat.gcd (lcmT T i) (T i) : Int))), (0, .ref (ad 9)), (3, .int (nI i))]) d_S_commonTotal_44 rfl (by decide) rfl ?_
        refine aw_iinc1 (lv' := [(3, .int (nI (i + 1))), (1, .long (lI (lcmT T (i + 1) : Int))), (4, .long (lI (Nat.gcd (lcmT T i) (T i) : Int))), (0, .ref (ad 9))]) d_S_commonTotal_45 rfl (by decide) rfl ?_
        refine aw_goto (tgt := 4) d_S_commonTotal_48 (by decide) ?_
        refine aw_sub (lv' := [(0, .ref (ad 9)), (1, .long (lI (lcmT T (i + 1) : Int))), (3, .int (nI (i + 1)))]) [3, 1, 0] rfl ?_
        exact ih (i + 1) (by omega) (by omega)
  refine aw_sub (lv' := [(0, .ref (ad 9)), (1, .long (lI (lcmT T 0 : Int))), (3, .int (nI 0))]) [2, 1, 0] rfl ?_
  exact lp (n + 1) 0 (by omega) (by omega)

set_option maxHeartbeats 4000000 in
set_option maxRecDepth 100000 in
theorem m_S_periodAt {g : aw_G} (hg : aw_T g) {ws : va_W} {ad : Nat → Nat} {n v : Nat} {P : Nat → Nat → Nat} {T X : Nat → Nat} (hS : gS g ws ad n P T X) (hn : n ≤ 5) (hv : v < 5) (hX : ∀ u, u < n → X u < 32) : AMet g y_S_periodAt c_S_periodAt 5 (some .int) 3 [.ref (ad 9), .int (nI v)] ws (aw_R (.int (nI (perd X n v 15))) ws) 0 0 := by
  have hb := itX_lt (n := n) hX (pow_32 hv)
  refine amet_of (by decide +kernel) (Nat.le_of_ble_eq_true rfl) ?_
  refine aw_sub (lv' := [(0, .ref (ad 9)), (1, .int (nI v))]) [0, 1] rfl ?_
  refine aw_iconst (v := nI 0) d_S_periodAt_0 (by decide) ?_
  refine aw_istore_n (lv' := [(2, .int (nI 0)), (0, .ref (ad 9)), (1, .int (nI v))]) d_S_periodAt_1 rfl (by decide) rfl ?_
  refine aw_iload_n d_S_periodAt_2 rfl rfl ?_
  refine aw_callSN (av := [.int (nI v)]) (rest := []) (m_W_only (ad := ad) hg hv) kd_W_only k_205 k_206  d_S_periodAt_3 rfl ⟨by decide, by decide⟩ (Nat.le_of_ble_eq_true rfl) ⟨by decide, by decide⟩ rfl (fun v2 ws2 hq => ?_)
  obtain ⟨rfl, rfl⟩ := hq
  refine aw_istore_n (lv' := [(3, .int (nI (2 ^ v))), (2, .int (nI 0)), (0, .ref (ad 9)), (1, .int (nI v))]) d_S_periodAt_6 rfl (by decide) rfl ?_
  refine aw_iconst (v := nI 1) d_S_periodAt_7 (by decide) ?_
  refine aw_istore (lv' := [(4, .int (nI 1)), (3, .int (nI (2 ^ v))), (2, .int (nI 0)), (0, .ref (ad 9)), (1, .int (nI v))]) d_S_periodAt_8 (by decide) rfl ?_
  have lp : ∀ (k : Nat) (i : Nat), i ≤ 15 → 15 - i < k → AW g y_S_periodAt c_S_periodAt 5 (some .int) (aw_rm 3 0 0) aw_E0 (aw_F g (aw_R (.int (nI (perd X n v 15))) ws) 0 0) 0 0 10 [(0, .ref (ad 9)), (1, .int (nI v)), (2, .int (nI (perd X n v i))), (3, .int (nI (itX X n (2 ^ v) i))), (4, .int (nI (i + 1)))] [] ws := by
    intro k
    induction k with
    | zero => intro i hi hk; omega
    | succ k ih =>
      intro i hi hk
      refine aw_iload d_S_periodAt_10 rfl ?_
      refine aw_bipush (v := nI 15) d_S_periodAt_12 (by decide) ?_
      refine aw_icmp_gtN (tgt := 47) d_S_periodAt_14 (by decide) (by omega) (by omega) (fun h => ?_) (fun h => ?_)
      · have e : i = 15 := by omega
        subst e
        refine aw_iload_n d_S_periodAt_47 rfl rfl ?_
        exact aw_iret d_S_periodAt_48 (Nat.le_refl 0) (Nat.le_refl 0) ⟨rfl, rfl⟩
      · refine aw_aload_n d_S_periodAt_17 rfl rfl ?_
        refine aw_iload_n d_S_periodAt_18 rfl rfl ?_
        refine aw_callV (av := [.int (nI (itX X n (2 ^ v) i))]) (rest := []) (m_S_nextOf hg hS hn (hb i)) kd_S_nextOf k_216 k_218 ks_S_nextOf rfl hS.1 d_S_periodAt_19 rfl ⟨by decide, by decide⟩ (Nat.le_of_ble_eq_true rfl) ⟨by decide, by decide⟩ rfl (fun v2 ws2 hq => ?_)
        obtain ⟨rfl, rfl⟩ := hq
        refine aw_istore_n (lv' := [(3, .int (nI (itX X n (2 ^ v) (i + 1)))), (0, .ref (ad 9)), (1, .int (nI v)), (2, .int (nI (perd X n v i))), (4, .int (nI (i + 1)))]) d_S_periodAt_22 rfl (by decide) rfl ?_
        refine aw_iload_n d_S_periodAt_23 rfl rfl ?_
        refine aw_iload_n d_S_periodAt_24 rfl rfl ?_
        refine aw_callSN (av := [.int (nI (itX X n (2 ^ v) (i + 1))), .int (nI v)]) (rest := []) (m_W_has (ad := ad) hg (hb (i + 1)) hv) kd_W_has k_220 k_221  d_S_periodAt_25 rfl ⟨by decide, by decide⟩ (Nat.le_of_ble_eq_true rfl) ⟨by decide, by decide⟩ rfl (fun v3 ws3 hq => ?_)
        obtain ⟨rfl, rfl⟩ := hq
        refine aw_if_eqB (tgt := 41) d_S_periodAt_28 (by decide) (fun h2 => ?_) (fun h2 => ?_)
        · have ex : perd X n v i = perd X n v (i + 1) := by rw [perd, if_neg (by rw [h2]; decide)]
          rw [ex]
          refine aw_iinc1 (lv' := [(4, .int (nI (i + 1 + 1))), (3, .int (nI (itX X n (2 ^ v) (i + 1)))), (0, .ref (ad 9)), (1, .int (nI v)), (2, .int (nI (perd X n v (i + 1))))]) d_S_periodAt_41 rfl (by decide) rfl ?_
          refine aw_goto (tgt := 10) d_S_periodAt_44 (by decide) ?_
          refine aw_sub (lv' := [(0, .ref (ad 9)), (1, .int (nI v)), (2, .int (nI (perd X n v (i + 1)))), (3, .int (nI (itX X n (2 ^ v) (i + 1)))), (4, .int (nI (i + 1 + 1)))]) [2, 3, 4, 1, 0] rfl ?_
          exact ih (i + 1) (by omega) (by omega)
        · have ex : perd X n v (i + 1) = Nat.gcd (perd X n v i) (i + 1) := by rw [perd, if_pos h2]
          have b1 := perd_le (X := X) (n := n) (v := v) i
          refine aw_iload_n d_S_periodAt_31 rfl rfl ?_
          refine aw_i2lN d_S_periodAt_32 (by omega) ?_
          refine aw_iload d_S_periodAt_33 rfl ?_
          refine aw_i2lN d_S_periodAt_35 (by omega) ?_
          refine aw_callSN (av := [.long (lI (perd X n v i : Nat)), .long (lI (i + 1 : Nat))]) (rest := []) (m_W_greatestDivisor (ad := ad) hg (by omega) (by omega) (mul99 (by omega) (by omega))) kd_W_greatestDivisor k_198 k_199  d_S_periodAt_36 rfl ⟨by decide, by decide⟩ (Nat.le_of_ble_eq_true rfl) ⟨by decide, by decide⟩ rfl (fun v4 ws4 hq => ?_)
          obtain ⟨rfl, rfl⟩ := hq
          refine aw_l2iN (a := (Nat.gcd (perd X n v i) (i + 1))) d_S_periodAt_39 ?_
          refine aw_nmi (z := nI (perd X n v (i + 1))) (by rw [ex]) ?_
          refine aw_istore_n (lv' := [(2, .int (nI (perd X n v (i + 1)))), (3, .int (nI (itX X n (2 ^ v) (i + 1)))), (0, .ref (ad 9)), (1, .int (nI v)), (4, .int (nI (i + 1)))]) d_S_periodAt_40 rfl (by decide) rfl ?_
          refine aw_iinc1 (lv' := [(4, .int (nI (i + 1 + 1))), (2, .int (nI (perd X n v (i + 1)))), (3, .int (nI (itX X n (2 ^ v) (i + 1)))), (0, .ref (ad 9)), (1, .int (nI v))]) d_S_periodAt_41 rfl (by decide) rfl ?_
          refine aw_goto (tgt := 10) d_S_periodAt_44 (by decide) ?_
          refine aw_sub (lv' := [(0, .ref (ad 9)), (1, .int (nI v)), (2, .int (nI (perd X n v (i + 1)))), (3, .int (nI (itX X n (2 ^ v) (i + 1)))), (4, .int (nI (i + 1 + 1)))]) [3, 4, 1, 2, 0] rfl ?_
          exact ih (i + 1) (by omega) (by omega)
  refine aw_sub (lv' := [(0, .ref (ad 9)), (1, .int (nI v)), (2, .int (nI (perd X n v 0))), (3, .int (nI (itX X n (2 ^ v) 0))), (4, .int (nI 1))]) [3, 4, 2, 1, 0] rfl ?_
  exact lp 16 0 (by omega) (by omega)

def q_pick (ws : va_W) (f : Nat → Nat) (n t : Nat) : Option Value → va_W → Prop := fun r ws' => ws = ws' ∧ ∃ v, v < n ∧ r = some (.int (nI v)) ∧ sN f v ≤ t ∧ t < sN f (v + 1)

set_option maxHeartbeats 4000000 in
set_option maxRecDepth 100000 in
theorem m_S_nextNode {g : aw_G} (hg : aw_T g) {ws : va_W} {ad : Nat → Nat} {n u m : Nat} {P : Nat → Nat → Nat} {T X : Nat → Nat} (hS : gS g ws ad n P T X) (hn : n ≤ 5) (hu : u < n) (hm : m < 2 ^ 31) (hT : 0 < T u ∧ T u ≤ 400) (hs : sN (P u) n = T u) : AMet g y_S_nextNode c_S_nextNode 5 (some .int) 0 [.ref (ad 9), .int (nI u), .int (nI m)] ws (q_pick ws (P u) n (m % T u)) 0 0 := by
  have hlt := Nat.mod_lt m hT.1
  refine amet_of (by decide +kernel) (Nat.le_of_ble_eq_true rfl) ?_
  refine aw_sub (lv' := [(0, .ref (ad 9)), (1, .int (nI u)), (2, .int (nI m))]) [0, 1, 2] rfl ?_
  refine aw_aload_n d_S_nextNode_0 rfl rfl ?_
  refine aw_get kc_2 2 (by decide) k_68 d_S_nextNode_1 hS.1 rfl ?_
  refine aw_iload_n d_S_nextNode_4 rfl rfl ?_
  refine aw_ialdA d_S_nextNode_5 hS.2.2.2.1 hg (by omega) (by decide) ?_
  refine aw_if_gtN (tgt := 11) d_S_nextNode_6 (by decide) (by omega) (fun h => ?_) (fun h => absurd h (by omega))
  refine aw_iload_n d_S_nextNode_11 rfl rfl ?_
  refine aw_aload_n d_S_nextNode_12 rfl rfl ?_
  refine aw_get kc_2 2 (by decide) k_68 d_S_nextNode_13 hS.1 rfl ?_
  refine aw_iload_n d_S_nextNode_16 rfl rfl ?_
  refine aw_ialdA d_S_nextNode_17 hS.2.2.2.1 hg (by omega) (by decide) ?_
  refine aw_iremN d_S_nextNode_18 (by omega) (by omega) (by omega) ?_
  refine aw_istore_n (lv' := [(3, .int (nI (m % (T u)))), (0, .ref (ad 9)), (1, .int (nI u)), (2, .int (nI m))]) d_S_nextNode_19 rfl (by decide) rfl ?_
  refine aw_iconst (v := nI 0) d_S_nextNode_20 (by decide) ?_
  refine aw_istore (lv' := [(4, .int (nI 0)), (3, .int (nI (m % (T u)))), (0, .ref (ad 9)), (1, .int (nI u)), (2, .int (nI m))]) d_S_nextNode_21 (by decide) rfl ?_
  have lp : ∀ (k : Nat) (i r : Nat), i ≤ n → r + sN (P u) i = m % T u → n - i < k → AW g y_S_nextNode c_S_nextNode 5 (some .int) (aw_rm 0 0 0) aw_E0 (aw_F g (q_pick ws (P u) n (m % T u)) 0 0) 0 0 23 [(0, .ref (ad 9)), (1, .int (nI u)), (3, .int (nI r)), (4, .int (nI i))] [] ws := by
    intro k
    induction k with
    | zero => intro i r hi hr hk; omega
    | succ k ih =>
      intro i r hi hr hk
      refine aw_iload d_S_nextNode_23 rfl ?_
      refine aw_aload_n d_S_nextNode_25 rfl rfl ?_
      refine aw_get kc_2 0 (by decide) k_60 d_S_nextNode_26 hS.1 rfl ?_
      refine aw_icmp_geN (tgt := 66) d_S_nextNode_29 (by decide) (by omega) (by omega) (fun h => ?_) (fun h => ?_)
      · have e : i = n := by omega
        subst e
        omega
      · have b1 := sN_mem (f := P u) h
        have es : sN (P u) (i + 1) = sN (P u) i + P u i := rfl
        refine aw_iload_n d_S_nextNode_32 rfl rfl ?_
        refine aw_aload_n d_S_nextNode_33 rfl rfl ?_
        refine aw_get kc_2 1 (by decide) k_64 d_S_nextNode_34 hS.1 rfl ?_
        refine aw_iload_n d_S_nextNode_37 rfl rfl ?_
        refine aw_aaldI d_S_nextNode_38 hS.2.1 hg (by omega) ?_
        refine aw_iload d_S_nextNode_39 rfl ?_
        refine aw_ialdA d_S_nextNode_41 (hS.2.2.1 u (by omega)) hg (by omega) (by decide) ?_
        refine aw_icmp_geN (tgt := 48) d_S_nextNode_42 (by decide) (by omega) (by omega) (fun h2 => ?_) (fun h2 => ?_)
        · refine aw_iload_n d_S_nextNode_48 rfl rfl ?_
          refine aw_aload_n d_S_nextNode_49 rfl rfl ?_
          refine aw_get kc_2 1 (by decide) k_64 d_S_nextNode_50 hS.1 rfl ?_
          refine aw_iload_n d_S_nextNode_53 rfl rfl ?_
          refine aw_aaldI d_S_nextNode_54 hS.2.1 hg (by omega) ?_
          refine aw_iload d_S_nextNode_55 rfl ?_
          refine aw_ialdA d_S_nextNode_57 (hS.2.2.1 u (by omega)) hg (by omega) (by decide) ?_
          refine aw_isubN d_S_nextNode_58 (by omega) ?_
          refine aw_istore_n (lv' := [(3, .int (nI (r - (P u i)))), (0, .ref (ad 9)), (1, .int (nI u)), (4, .int (nI i))]) d_S_nextNode_59 rfl (by decide) rfl ?_
          refine aw_iinc1 (lv' := [(4, .int (nI (i + 1))), (3, .int (nI (r - (P u i)))), (0, .ref (ad 9)), (1, .int (nI u))]) d_S_nextNode_60 rfl (by decide) rfl ?_
          refine aw_goto (tgt := 23) d_S_nextNode_63 (by decide) ?_
          refine aw_sub (lv' := [(0, .ref (ad 9)), (1, .int (nI u)), (3, .int (nI (r - (P u i)))), (4, .int (nI (i + 1)))]) [2, 3, 1, 0] rfl ?_
          exact ih (i + 1) (r - P u i) (by omega) (by omega) (by omega)
        · refine aw_iload d_S_nextNode_45 rfl ?_
          exact aw_iret d_S_nextNode_47 (Nat.le_refl 0) (Nat.le_refl 0) ⟨rfl, i, h, rfl, by omega, by omega⟩
  refine aw_sub (lv' := [(0, .ref (ad 9)), (1, .int (nI u)), (3, .int (nI (m % (T u)))), (4, .int (nI 0))]) [2, 3, 1, 0] rfl ?_
  exact lp (n + 1) 0 (m % T u) (by omega) (by show m % T u + 0 = _; omega) (by omega)

set_option maxHeartbeats 4000000 in
set_option maxRecDepth 100000 in
theorem m_C_leadingTo {g : aw_G} (hg : aw_T g) {ws : va_W} {ad : Nat → Nat} {n q m : Nat} {M L D : Nat → Nat} {O : Nat → Int32} (hC : gC g ws ad q M L O n D) (hn : n ≤ 5) (hD : ∀ u, u < n → D u < 32) : AMet g y_C_leadingTo c_C_leadingTo 4 (some .int) 1 [.ref (ad 18), .int (nI m)] ws (aw_R (.int (nI (lead D n m))) ws) 0 0 := by
  refine amet_of (by decide +kernel) (Nat.le_of_ble_eq_true rfl) ?_
  refine aw_sub (lv' := [(0, .ref (ad 18)), (1, .int (nI m))]) [0, 1] rfl ?_
  refine aw_iconst (v := nI 0) d_C_leadingTo_0 (by decide) ?_
  refine aw_istore_n (lv' := [(2, .int (nI 0)), (0, .ref (ad 18)), (1, .int (nI m))]) d_C_leadingTo_1 rfl (by decide) rfl ?_
  refine aw_iconst (v := nI 0) d_C_leadingTo_2 (by decide) ?_
  refine aw_istore_n (lv' := [(3, .int (nI 0)), (2, .int (nI 0)), (0, .ref (ad 18)), (1, .int (nI m))]) d_C_leadingTo_3 rfl (by decide) rfl ?_
  have lp : ∀ (k : Nat) (i : Nat), i ≤ n → n - i < k → AW g y_C_leadingTo c_C_leadingTo 4 (some .int) (aw_rm 1 0 0) aw_E0 (aw_F g (aw_R (.int (nI (lead D n m))) ws) 0 0) 0 0 4 [(0, .ref (ad 18)), (1, .int (nI m)), (2, .int (nI (mk (fun u => decide (¬ (D u &&& m = 0))) i))), (3, .int (nI i))] [] ws := by
    intro k
    induction k with
    | zero => intro i hi hk; omega
    | succ k ih =>
      intro i hi hk
      refine aw_iload_n d_C_leadingTo_4 rfl rfl ?_
      refine aw_aload_n d_C_leadingTo_5 rfl rfl ?_
      refine aw_get kc_3 4 (by decide) k_96 d_C_leadingTo_6 hC.1 rfl ?_
      refine aw_icmp_geN (tgt := 36) d_C_leadingTo_9 (by decide) (by omega) (by omega) (fun h => ?_) (fun h => ?_)
      · have e : i = n := by omega
        subst e
        refine aw_iload_n d_C_leadingTo_36 rfl rfl ?_
        exact aw_iret d_C_leadingTo_37 (Nat.le_refl 0) (Nat.le_refl 0) ⟨rfl, rfl⟩
      · have b1 := hD i h
        refine aw_aload_n d_C_leadingTo_12 rfl rfl ?_
        refine aw_get kc_3 5 (by decide) k_97 d_C_leadingTo_13 hC.1 rfl ?_
        refine aw_iload_n d_C_leadingTo_16 rfl rfl ?_
        refine aw_ialdA d_C_leadingTo_17 hC.2.2.2.2 hg (by omega) (by decide) ?_
        refine aw_iload_n d_C_leadingTo_18 rfl rfl ?_
        refine aw_iandN d_C_leadingTo_19 ?_
        refine aw_if_eqN (tgt := 30) d_C_leadingTo_20 (by decide) (Nat.lt_of_le_of_lt Nat.and_le_left (by omega)) (fun h2 => ?_) (fun h2 => ?_)
        · have ex : mk (fun u => decide (¬ (D u &&& m = 0))) i = mk (fun u => decide (¬ (D u &&& m = 0))) (i + 1) := by rw [mk, if_neg (by simp [h2])]
          rw [ex]
          refine aw_iinc1 (lv' := [(3, .int (nI (i + 1))), (0, .ref (ad 18)), (1, .int (nI m)), (2, .int (nI (mk (fun u => decide (¬ (D u &&& m = 0))) (i + 1))))]) d_C_leadingTo_30 rfl (by decide) rfl ?_
          refine aw_goto (tgt := 4) d_C_leadingTo_33 (by decide) ?_
          refine aw_sub (lv' := [(0, .ref (ad 18)), (1, .int (nI m)), (2, .int (nI (mk (fun u => decide (¬ (D u &&& m = 0))) (i + 1)))), (3, .int (nI (i + 1)))]) [1, 2, 3, 0] rfl ?_
          exact ih (i + 1) (by omega) (by omega)
        · have ex : mk (fun u => decide (¬ (D u &&& m = 0))) (i + 1) = mk (fun u => decide (¬ (D u &&& m = 0))) i ||| 2 ^ i := by rw [mk, if_pos (by simp [h2])]
          refine aw_iload_n d_C_leadingTo_23 rfl rfl ?_
          refine aw_iload_n d_C_leadingTo_24 rfl rfl ?_
          refine aw_callSN (av := [.int (nI i)]) (rest := [.int (nI (mk (fun u => decide (¬ (D u &&& m = 0))) i))]) (m_W_only (ad := ad) hg (by omega)) kd_W_only k_228 k_206  d_C_leadingTo_25 rfl ⟨by decide, by decide⟩ (Nat.le_of_ble_eq_true rfl) ⟨by decide, by decide⟩ rfl (fun v3 ws3 hq => ?_)
          obtain ⟨rfl, rfl⟩ := hq
          refine aw_iorN d_C_leadingTo_28 ?_
          refine aw_nmi (z := nI (mk (fun u => decide (¬ (D u &&& m = 0))) (i + 1))) (by rw [ex]) ?_
          refine aw_istore_n (lv' := [(2, .int (nI (mk (fun u => decide (¬ (D u &&& m = 0))) (i + 1)))), (0, .ref (ad 18)), (1, .int (nI m)), (3, .int (nI i))]) d_C_leadingTo_29 rfl (by decide) rfl ?_
          refine aw_iinc1 (lv' := [(3, .int (nI (i + 1))), (2, .int (nI (mk (fun u => decide (¬ (D u &&& m = 0))) (i + 1)))), (0, .ref (ad 18)), (1, .int (nI m))]) d_C_leadingTo_30 rfl (by decide) rfl ?_
          refine aw_goto (tgt := 4) d_C_leadingTo_33 (by decide) ?_
          refine aw_sub (lv' := [(0, .ref (ad 18)), (1, .int (nI m)), (2, .int (nI (mk (fun u => decide (¬ (D u &&& m = 0))) (i + 1)))), (3, .int (nI (i + 1)))]) [2, 3, 1, 0] rfl ?_
          exact ih (i + 1) (by omega) (by omega)
  refine aw_sub (lv' := [(0, .ref (ad 18)), (1, .int (nI m)), (2, .int (nI (mk (fun u => decide (¬ (D u &&& m = 0))) 0))), (3, .int (nI 0))]) [2, 3, 1, 0] rfl ?_
  exact lp (n + 1) 0 (by omega) (by omega)

set_option maxHeartbeats 4000000 in
set_option maxRecDepth 100000 in
theorem m_C_isClosedFrom {g : aw_G} (hg : aw_T g) {ws : va_W} {ad : Nat → Nat} {n q v : Nat} {M L D : Nat → Nat} {O : Nat → Int32} (hC : gC g ws ad q M L O n D) (hok : okD n D) (hv : v < n) : AMet g y_C_isClosedFrom c_C_isClosedFrom 2 (some .boolean) 2 [.ref (ad 18), .int (nI v)] ws (aw_R (.int (bI (clB D n v))) ws) 0 0 := by
  have hn := hok.1
  refine amet_of (by decide +kernel) (Nat.le_of_ble_eq_true rfl) ?_
  refine aw_sub (lv' := [(0, .ref (ad 18)), (1, .int (nI v))]) [0, 1] rfl ?_
  refine aw_aload_n d_C_isClosedFrom_0 rfl rfl ?_
  refine aw_get kc_3 5 (by decide) k_97 d_C_isClosedFrom_1 hC.1 rfl ?_
  refine aw_iload_n d_C_isClosedFrom_4 rfl rfl ?_
  refine aw_ialdA d_C_isClosedFrom_5 hC.2.2.2.2 hg (by omega) (by decide) ?_
  refine aw_aload_n d_C_isClosedFrom_6 rfl rfl ?_
  refine aw_iload_n d_C_isClosedFrom_7 rfl rfl ?_
  refine aw_callSN (av := [.int (nI v)]) (rest := [.ref (ad 18), .int (nI (D v))]) (m_W_only (ad := ad) hg (by omega)) kd_W_only k_228 k_206  d_C_isClosedFrom_8 rfl ⟨by decide, by decide⟩ (Nat.le_of_ble_eq_true rfl) ⟨by decide, by decide⟩ rfl (fun v3 ws3 hq => ?_)
  obtain ⟨rfl, rfl⟩ := hq
  refine aw_callV (av := [.int (nI (2 ^ v))]) (rest := [.int (nI (D v))]) (m_C_leadingTo hg hC hn (fun u hu => hok.lt hu)) kd_C_leadingTo k_229 k_230 ks_C_leadingTo rfl hC.1 d_C_isClosedFrom_11 rfl ⟨by decide, by decide⟩ (Nat.le_of_ble_eq_true rfl) ⟨by decide, by decide⟩ rfl (fun v4 ws4 hq => ?_)
  obtain ⟨rfl, rfl⟩ := hq
  refine aw_iconst (v := -1) d_C_isClosedFrom_14 (by decide) ?_
  refine aw_ixor d_C_isClosedFrom_15 ?_
  refine aw_iand d_C_isClosedFrom_16 ?_
  refine aw_nmi (z := nI (an (D v) (lead D n (2 ^ v)))) (an_eq _ (hok.lt hv) _ (lead_lt hok _)) ?_
  refine aw_if_neN (tgt := 24) d_C_isClosedFrom_17 (by decide) (Nat.lt_trans (an_lt _ (hok.lt hv) _ (lead_lt hok _)) (by decide)) (fun h => ?_) (fun h => ?_)
  · have e : clB D n v = false := by unfold clB; simp [h]
    refine aw_iconst (v := nI 0) d_C_isClosedFrom_24 (by decide) ?_
    exact aw_zret d_C_isClosedFrom_25 rfl (Nat.le_refl 0) (Nat.le_refl 0) ⟨by rw [e]; rfl, rfl⟩
  · have e : clB D n v = true := by unfold clB; simp [h]
    refine aw_iconst (v := nI 1) d_C_isClosedFrom_20 (by decide) ?_
    refine aw_goto (tgt := 25) d_C_isClosedFrom_21 (by decide) ?_
    exact aw_zret d_C_isClosedFrom_25 rfl (Nat.le_refl 0) (Nat.le_refl 0) ⟨by rw [e]; rfl, rfl⟩

def q_addSet (g : aw_G) (ad : Nat → Nat) (ws : va_W) (q : Nat) (M L : Nat → Nat) (O : Nat → Int32) (n : Nat) (D : Nat → Nat) (v : Nat) : Option Value → va_W → Prop := fun r ws' => r = none ∧ fr 18 23 ws ws' ∧ ∃ O' : Nat → Int32, gC g ws' ad (q + 1) (fup M q (D v)) (fup L q v) O' n D ∧ ∀ w, O' w = if w < n ∧ (D v).testBit w = true then nI q else O w

set_option maxHeartbeats 4000000 in
set_option maxRecDepth 100000 in
theorem m_C_addSet {g : aw_G} (hg : aw_T g) {ws : va_W} {ad : Nat → Nat} {n q v : Nat} {M L D : Nat → Nat} {O : Nat → Int32} (hC : gC g ws ad q M L O n D) (hn : n ≤ 5) (hq : q < 5) (hv : v < n) (hD : D v < 32) : AMet g y_C_addSet c_C_addSet 3 none 2 [.ref (ad 18), .int (nI v)] ws (q_addSet g ad ws q M L O n D v) 0 0 := by
  refine amet_of (by decide +kernel) (Nat.le_of_ble_eq_true rfl) ?_
  refine aw_sub (lv' := [(0, .ref (ad 18)), (1, .int (nI v))]) [0, 1] rfl ?_
  refine aw_aload_n d_C_addSet_0 rfl rfl ?_
  refine aw_get kc_3 0 (by decide) k_88 d_C_addSet_1 hC.1 rfl ?_
  refine aw_iconst (v := nI 5) d_C_addSet_4 (by decide) ?_
  refine aw_icmp_ltN (tgt := 9) d_C_addSet_5 (by decide) (by omega) (by omega) (fun h => ?_) (fun h => absurd h (by omega))
  refine aw_aload_n d_C_addSet_9 rfl rfl ?_
  refine aw_get kc_3 1 (by decide) k_90 d_C_addSet_10 hC.1 rfl ?_
  refine aw_aload_n d_C_addSet_13 rfl rfl ?_
  refine aw_get kc_3 0 (by decide) k_88 d_C_addSet_14 hC.1 rfl ?_
  refine aw_aload_n d_C_addSet_17 rfl rfl ?_
  refine aw_get kc_3 5 (by decide) k_97 d_C_addSet_18 hC.1 rfl ?_
  refine aw_iload_n d_C_addSet_21 rfl rfl ?_
  refine aw_ialdA d_C_addSet_22 hC.2.2.2.2 hg (by omega) (by decide) ?_
  refine aw_iastA d_C_addSet_23 hC.2.1 hg (by omega) (by decide) (fun ws1 a2 b3 c4 => ?_)
  have hC2 := hC.putM a2 b3
  have f2 := fr.one (lo := 18) (hi := 23) b3 c4 (by omega) (by omega)
  refine aw_aload_n d_C_addSet_24 rfl rfl ?_
  refine aw_get kc_3 2 (by decide) k_92 d_C_addSet_25 ((b3 18 (by omega)).trans hC.1) rfl ?_
  refine aw_aload_n d_C_addSet_28 rfl rfl ?_
  refine aw_get kc_3 0 (by decide) k_88 d_C_addSet_29 ((b3 18 (by omega)).trans hC.1) rfl ?_
  refine aw_iload_n d_C_addSet_32 rfl rfl ?_
  refine aw_iastA d_C_addSet_33 ((b3 20 (by omega)).trans hC.2.2.1) hg (by omega) (by decide) (fun ws5 a6 b7 c8 => ?_)
  have hC3 := hC2.putL a6 b7
  have f3 := fr.one (lo := 18) (hi := 23) b7 c8 (by omega) (by omega)
  refine aw_iconst (v := nI 0) d_C_addSet_34 (by decide) ?_
  refine aw_istore_n (lv' := [(2, .int (nI 0)), (0, .ref (ad 18)), (1, .int (nI v))]) d_C_addSet_35 rfl (by decide) rfl ?_
  have lp : ∀ (k : Nat) (ws1 : va_W) (O1 : Nat → Int32) (i : Nat), gC g ws1 ad q (fup M q (D v)) (fup L q v) O1 n D → fr 18 23 ws ws1 → i ≤ n → (∀ w, O1 w = if w < i ∧ (D v).testBit w = true then nI q else O w) → n - i < k → AW g y_C_addSet c_C_addSet 3 none (aw_rm 2 0 0) aw_E0 (aw_F g (q_addSet g ad ws q M L O n D v) 0 0) 0 0 36 [(0, .ref (ad 18)), (1, .int (nI v)), (2, .int (nI i))] [] ws1 := by
    intro k
    induction k with
    | zero => intro ws1 O1 i hC1 hf hi hO hk; omega
    | succ k ih =>
      intro ws1 O1 i hC1 hf hi hO hk
      refine aw_iload_n d_C_addSet_36 rfl rfl ?_
      refine aw_aload_n d_C_addSet_37 rfl rfl ?_
      refine aw_get kc_3 4 (by decide) k_96 d_C_addSet_38 hC1.1 rfl ?_
      refine aw_icmp_geN (tgt := 73) d_C_addSet_41 (by decide) (by omega) (by omega) (fun h => ?_) (fun h => ?_)
      · have e : n = i := by omega
        subst e
        refine aw_aload_n d_C_addSet_73 rfl rfl ?_
        refine aw_dup d_C_addSet_74 rfl ?_
        refine aw_get kc_3 0 (by decide) k_88 d_C_addSet_75 hC1.1 rfl ?_
        refine aw_iconst (v := nI 1) d_C_addSet_78 (by decide) ?_
        refine aw_iaddN d_C_addSet_79 ?_
        refine aw_putN kc_3 0 (by decide) k_88 d_C_addSet_80 hC1.1 rfl rfl rfl (Nat.le_of_ble_eq_true rfl) (fun ws9 a10 b11 c12 => ?_)
        have f13 : ws9[18]? = some (ad 18, .inr (3, [.int (nI (q + 1)), .ref (ad 19), .ref (ad 20), .ref (ad 21), .int (nI n), .ref (ad 22)])) := a10
        have hC4 := hC1.putO (q' := q + 1) (n' := n) a10 b11
        have f4 := fr.one (lo := 18) (hi := 23) b11 c12 (by omega) (by omega)
        exact aw_vret d_C_addSet_83 (Nat.le_refl 0) (Nat.le_refl 0) ⟨rfl, hf.tr f4, O1, hC4, hO⟩
      · refine aw_aload_n d_C_addSet_44 rfl rfl ?_
        refine aw_get kc_3 5 (by decide) k_97 d_C_addSet_45 hC1.1 rfl ?_
        refine aw_iload_n d_C_addSet_48 rfl rfl ?_
        refine aw_ialdA d_C_addSet_49 hC1.2.2.2.2 hg (by omega) (by decide) ?_
        refine aw_iload_n d_C_addSet_50 rfl rfl ?_
        refine aw_callSN (av := [.int (nI (D v)), .int (nI i)]) (rest := []) (m_W_has (ad := ad) hg hD (by omega)) kd_W_has k_237 k_221  d_C_addSet_51 rfl ⟨by decide, by decide⟩ (Nat.le_of_ble_eq_true rfl) ⟨by decide, by decide⟩ rfl (fun v3 ws3 hq3 => ?_)
        obtain ⟨rfl, rfl⟩ := hq3
        refine aw_if_eqB (tgt := 67) d_C_addSet_54 (by decide) (fun h2 => ?_) (fun h2 => ?_)
        · refine aw_iinc1 (lv' := [(2, .int (nI (i + 1))), (0, .ref (ad 18)), (1, .int (nI v))]) d_C_addSet_67 rfl (by decide) rfl ?_
          refine aw_goto (tgt := 36) d_C_addSet_70 (by decide) ?_
          refine aw_sub (lv' := [(0, .ref (ad 18)), (1, .int (nI v)), (2, .int (nI (i + 1)))]) [1, 2, 0] rfl ?_
          exact ih _ O1 (i + 1) hC1 hf (by omega) (fun w => by rw [hO w]; by_cases e : w = i; (subst e; rw [if_neg (by omega), if_neg (fun z => by rw [h2] at z; cases z.2)]); exact ite_iff (by constructor <;> (intro z; exact ⟨by omega, z.2⟩))) (by omega)
        · refine aw_aload_n d_C_addSet_57 rfl rfl ?_
          refine aw_get kc_3 3 (by decide) k_94 d_C_addSet_58 hC1.1 rfl ?_
          refine aw_iload_n d_C_addSet_61 rfl rfl ?_
          refine aw_aload_n d_C_addSet_62 rfl rfl ?_
          refine aw_get kc_3 0 (by decide) k_88 d_C_addSet_63 hC1.1 rfl ?_
          refine aw_iastR d_C_addSet_66 hC1.2.2.2.1 hg (by omega) (by decide) (fun ws14 a15 b16 c17 => ?_)
          have hC4 := hC1.putS a15 b16
          have f4 := fr.one (lo := 18) (hi := 23) b16 c17 (by omega) (by omega)
          refine aw_iinc1 (lv' := [(2, .int (nI (i + 1))), (0, .ref (ad 18)), (1, .int (nI v))]) d_C_addSet_67 rfl (by decide) rfl ?_
          refine aw_goto (tgt := 36) d_C_addSet_70 (by decide) ?_
          refine aw_sub (lv' := [(0, .ref (ad 18)), (1, .int (nI v)), (2, .int (nI (i + 1)))]) [1, 2, 0] rfl ?_
          exact ih _ _ (i + 1) hC4 (hf.tr f4) (by omega) (fun w => by unfold fup; by_cases e : w = i; (subst e; rw [if_pos rfl, if_pos ⟨by omega, h2⟩]); rw [if_neg e, hO w]; exact ite_iff (by constructor <;> (intro z; exact ⟨by omega, z.2⟩))) (by omega)
  refine aw_sub (lv' := [(0, .ref (ad 18)), (1, .int (nI v)), (2, .int (nI 0))]) [1, 2, 0] rfl ?_
  exact lp (n + 1) _ O 0 hC3 (f2.tr f3) (by omega) (fun w => by rw [if_neg (by omega)]) (by omega)

def q_renewC (g : aw_G) (ad : Nat → Nat) (ws : va_W) (n : Nat) (X : Nat → Nat) : Option Value → va_W → Prop := fun r ws' => r = none ∧ fr 18 23 ws ws' ∧ ∃ (q : Nat) (M L D : Nat → Nat) (O : Nat → Int32), gC g ws' ad q M L O n D ∧ (∀ u, u < n → D u = Dm X n u) ∧ IC n D n q M L O

set_option maxHeartbeats 4000000 in
set_option maxRecDepth 100000 in
theorem m_C_renew {g : aw_G} (hg : aw_T g) {ws : va_W} {ad : Nat → Nat} {n q0 n0 : Nat} {P : Nat → Nat → Nat} {T X M0 L0 D0 : Nat → Nat} {O0 : Nat → Int32} (hC : gC g ws ad q0 M0 L0 O0 n0 D0) (hS : gS g ws ad n P T X) (hX : okX n X) : AMet g y_C_renew c_C_renew 3 none 4 [.ref (ad 18), .ref (ad 9)] ws (q_renewC g ad ws n X) 0 0 := by
  have hn := hX.1
  refine amet_of (by decide +kernel) (Nat.le_of_ble_eq_true rfl) ?_
  refine aw_sub (lv' := [(0, .ref (ad 18)), (1, .ref (ad 9))]) [0, 1] rfl ?_
  have lq : ∀ (k : Nat) (ws1 : va_W) (q : Nat) (M L D : Nat → Nat) (O : Nat → Int32) (v : Nat), gC g ws1 ad q M L O n D → gS g ws1 ad n P T X → fr 18 23 ws ws1 → (∀ u, u < n → D u = Dm X n u) → IC n D v q M L O → v ≤ n → n - v < k → AW g y_C_renew c_C_renew 3 none (aw_rm 4 0 0) aw_E0 (aw_F g (q_renewC g ad ws n X) 0 0) 0 0 51 [(0, .ref (ad 18)), (1, .ref (ad 9)), (2, .int (nI v))] [] ws1 := by
    intro k
    induction k with
    | zero => intro ws1 q M L D O v hC1 hS1 hf hD hI hv hk; omega
    | succ k ih =>
      intro ws1 q M L D O v hC1 hS1 hf hD hI hv hk
      have hok := okD_of hX hD
      refine aw_iload_n d_C_renew_51 rfl rfl ?_
      refine aw_aload_n d_C_renew_52 rfl rfl ?_
      refine aw_get kc_3 4 (by decide) k_96 d_C_renew_53 hC1.1 rfl ?_
      refine aw_icmp_geN (tgt := 89) d_C_renew_56 (by decide) (by omega) (by omega) (fun h => ?_) (fun h => ?_)
      · have e : v = n := by omega
        subst e
        exact aw_vret d_C_renew_89 (Nat.le_refl 0) (Nat.le_refl 0) ⟨rfl, hf, q, M, L, D, O, hC1, hD, hI⟩
      · have ht := IC_test hok h hI
        refine aw_aload_n d_C_renew_59 rfl rfl ?_
        refine aw_get kc_3 3 (by decide) k_94 d_C_renew_60 hC1.1 rfl ?_
        refine aw_iload_n d_C_renew_63 rfl rfl ?_
        refine aw_ialdR d_C_renew_64 hC1.2.2.2.1 hg (by omega) (by decide) ?_
        refine aw_bipush (v := -3) d_C_renew_65 (by decide) ?_
        refine aw_icmp_ne (tgt := 83) d_C_renew_67 (by decide) (fun h2 => ?_) (fun h2 => ?_)
        · have hl : ldB D n v = false := by cases z : ldB D n v with | false => rfl | true => exact absurd (ht.mpr z).1 h2
          refine aw_iinc1 (lv' := [(2, .int (nI (v + 1))), (0, .ref (ad 18)), (1, .ref (ad 9))]) d_C_renew_83 rfl (by decide) rfl ?_
          refine aw_goto (tgt := 51) d_C_renew_86 (by decide) ?_
          refine aw_sub (lv' := [(0, .ref (ad 18)), (1, .ref (ad 9)), (2, .int (nI (v + 1)))]) [1, 2, 0] rfl ?_
          exact ih _ _ _ _ _ _ (v + 1) hC1 hS1 hf hD (IC_no hI hl) (by omega) (by omega)
        · refine aw_aload_n d_C_renew_70 rfl rfl ?_
          refine aw_iload_n d_C_renew_71 rfl rfl ?_
          refine aw_callV (av := [.int (nI v)]) (rest := []) (m_C_isClosedFrom hg hC1 hok h) kd_C_isClosedFrom k_224 k_226 ks_C_isClosedFrom rfl hC1.1 d_C_renew_72 rfl ⟨by decide, by decide⟩ (Nat.le_of_ble_eq_true rfl) ⟨by decide, by decide⟩ rfl (fun v3 ws3 hq3 => ?_)
          obtain ⟨rfl, rfl⟩ := hq3
          refine aw_if_eqB (tgt := 83) d_C_renew_75 (by decide) (fun h3 => ?_) (fun h3 => ?_)
          · have hl : ldB D n v = false := by cases z : ldB D n v with | false => rfl | true => exact absurd ((ht.mpr z).2) (by rw [h3]; decide)
            refine aw_iinc1 (lv' := [(2, .int (nI (v + 1))), (0, .ref (ad 18)), (1, .ref (ad 9))]) d_C_renew_83 rfl (by decide) rfl ?_
            refine aw_goto (tgt := 51) d_C_renew_86 (by decide) ?_
            refine aw_sub (lv' := [(0, .ref (ad 18)), (1, .ref (ad 9)), (2, .int (nI (v + 1)))]) [1, 2, 0] rfl ?_
            exact ih _ _ _ _ _ _ (v + 1) hC1 hS1 hf hD (IC_no hI hl) (by omega) (by omega)
          · have hl := ht.mp ⟨h2, h3⟩
            have hq5 : q < 5 := by have := cntB_le (ldB D n) v; have := hI.1; omega
            refine aw_aload_n d_C_renew_78 rfl rfl ?_
            refine aw_iload_n d_C_renew_79 rfl rfl ?_
            refine aw_callV (av := [.int (nI v)]) (rest := []) (m_C_addSet hg hC1 hn hq5 h (hok.lt h)) kd_C_addSet k_233 k_235 ks_C_addSet rfl hC1.1 d_C_renew_80 rfl ⟨by decide, by decide⟩ (Nat.le_of_ble_eq_true rfl) ⟨by decide, by decide⟩ rfl (fun v4 ws4 hq4 => ?_)
            obtain ⟨rfl, f4, O4, hC4, hO4⟩ := hq4
            have hS4 := hS1.kept f4 (by omega)
            refine aw_iinc1 (lv' := [(2, .int (nI (v + 1))), (0, .ref (ad 18)), (1, .ref (ad 9))]) d_C_renew_83 rfl (by decide) rfl ?_
            refine aw_goto (tgt := 51) d_C_renew_86 (by decide) ?_
            refine aw_sub (lv' := [(0, .ref (ad 18)), (1, .ref (ad 9)), (2, .int (nI (v + 1)))]) [1, 2, 0] rfl ?_
            exact ih _ _ _ _ _ _ (v + 1) hC4 hS4 (hf.tr f4) hD (IC_add hok h hI hl hO4) (by omega) (by omega)
  have lp : ∀ (k : Nat) (ws1 : va_W) (D : Nat → Nat) (O : Nat → Int32) (v : Nat), gC g ws1 ad 0 M0 L0 O n D → gS g ws1 ad n P T X → fr 18 23 ws ws1 → (∀ u, u < v → D u = Dm X n u) → (∀ u, u < v → O u = -3) → v ≤ n → n - v < k → AW g y_C_renew c_C_renew 3 none (aw_rm 4 0 0) aw_E0 (aw_F g (q_renewC g ad ws n X) 0 0) 0 0 15 [(0, .ref (ad 18)), (1, .ref (ad 9)), (2, .int (nI v))] [] ws1 := by
    intro k
    induction k with
    | zero => intro ws1 D O v hC1 hS1 hf hD hO hv hk; omega
    | succ k ih =>
      intro ws1 D O v hC1 hS1 hf hD hO hv hk
      refine aw_iload_n d_C_renew_15 rfl rfl ?_
      refine aw_aload_n d_C_renew_16 rfl rfl ?_
      refine aw_get kc_3 4 (by decide) k_96 d_C_renew_17 hC1.1 rfl ?_
      refine aw_icmp_geN (tgt := 49) d_C_renew_20 (by decide) (by omega) (by omega) (fun h => ?_) (fun h => ?_)
      · have e : v = n := by omega
        subst e
        refine aw_iconst (v := nI 0) d_C_renew_49 (by decide) ?_
        refine aw_istore_n (lv' := [(2, .int (nI 0)), (0, .ref (ad 18)), (1, .ref (ad 9))]) d_C_renew_50 rfl (by decide) rfl ?_
        refine aw_sub (lv' := [(0, .ref (ad 18)), (1, .ref (ad 9)), (2, .int (nI 0))]) [1, 2, 0] rfl ?_
        exact lq (v + 1) _ _ _ _ _ _ 0 hC1 hS1 hf hD (IC_0 hO) (by omega) (by omega)
      · refine aw_aload_n d_C_renew_23 rfl rfl ?_
        refine aw_get kc_3 5 (by decide) k_97 d_C_renew_24 hC1.1 rfl ?_
        refine aw_iload_n d_C_renew_27 rfl rfl ?_
        refine aw_aload_n d_C_renew_28 rfl rfl ?_
        refine aw_iload_n d_C_renew_29 rfl rfl ?_
        refine aw_iconst (v := nI 0) d_C_renew_30 (by decide) ?_
        refine aw_callV (av := [.int (nI v), .int (nI 0)]) (rest := [.int (nI v), .ref (ad 22)]) (m_S_nodesBehind hg hS1 hn (by omega) hX.lt (by decide)) kd_S_nodesBehind k_212 k_213 ks_S_nodesBehind rfl hS1.1 d_C_renew_31 rfl ⟨by decide, by decide⟩ (Nat.le_of_ble_eq_true rfl) ⟨by decide, by decide⟩ rfl (fun v3 ws3 hq3 => ?_)
        obtain ⟨rfl, rfl⟩ := hq3
        refine aw_iastA d_C_renew_34 hC1.2.2.2.2 hg (by omega) (by decide) (fun ws1 a2 b3 c4 => ?_)
        have hC2 := hC1.putD a2 b3
        have f2 := fr.one (lo := 18) (hi := 23) b3 c4 (by omega) (by omega)
        refine aw_aload_n d_C_renew_35 rfl rfl ?_
        refine aw_get kc_3 3 (by decide) k_94 d_C_renew_36 ((b3 18 (by omega)).trans hC1.1) rfl ?_
        refine aw_iload_n d_C_renew_39 rfl rfl ?_
        refine aw_bipush (v := -3) d_C_renew_40 (by decide) ?_
        refine aw_iastR d_C_renew_42 ((b3 21 (by omega)).trans hC1.2.2.2.1) hg (by omega) (by decide) (fun ws5 a6 b7 c8 => ?_)
        have hC3 := hC2.putS a6 b7
        have f3 := fr.one (lo := 18) (hi := 23) b7 c8 (by omega) (by omega)
        have hS3 := (hS1.kept f2 (by omega)).kept f3 (by omega)
        refine aw_iinc1 (lv' := [(2, .int (nI (v + 1))), (0, .ref (ad 18)), (1, .ref (ad 9))]) d_C_renew_43 rfl (by decide) rfl ?_
        refine aw_goto (tgt := 15) d_C_renew_46 (by decide) ?_
        refine aw_sub (lv' := [(0, .ref (ad 18)), (1, .ref (ad 9)), (2, .int (nI (v + 1)))]) [1, 2, 0] rfl ?_
        exact ih _ _ _ (v + 1) hC3 hS3 ((hf.tr f2).tr f3) (fun u hu => by
          by_cases e : u = v
          · subst e; rw [fup_s]; rfl
          · rw [fup_n e]; exact hD u (by omega)) (fun u hu => by
          by_cases e : u = v
          · subst e; rw [fup_s]
          · rw [fup_n e]; exact hO u (by omega)) (by omega) (by omega)
  refine aw_aload_n d_C_renew_0 rfl rfl ?_
  refine aw_aload_n d_C_renew_1 rfl rfl ?_
  refine aw_get kc_2 0 (by decide) k_61 d_C_renew_2 hS.1 rfl ?_
  refine aw_putN kc_3 4 (by decide) k_96 d_C_renew_5 hC.1 rfl rfl rfl (Nat.le_of_ble_eq_true rfl) (fun ws9 a10 b11 c12 => ?_)
  have f13 : ws9[18]? = some (ad 18, .inr (3, [.int (nI q0), .ref (ad 19), .ref (ad 20), .ref (ad 21), .int (nI n), .ref (ad 22)])) := a10
  have hC2 := hC.putO (q' := q0) (n' := n) a10 b11
  have f2 := fr.one (lo := 18) (hi := 23) b11 c12 (by omega) (by omega)
  refine aw_aload_n d_C_renew_8 rfl rfl ?_
  refine aw_iconst (v := nI 0) d_C_renew_9 (by decide) ?_
  refine aw_putN kc_3 0 (by decide) k_88 d_C_renew_10 f13 rfl rfl rfl (Nat.le_of_ble_eq_true rfl) (fun ws14 a15 b16 c17 => ?_)
  have f18 : ws14[18]? = some (ad 18, .inr (3, [.int (nI 0), .ref (ad 19), .ref (ad 20), .ref (ad 21), .int (nI n), .ref (ad 22)])) := a15
  have hC3 := hC2.putO (q' := 0) (n' := n) a15 b16
  have f3 := fr.one (lo := 18) (hi := 23) b16 c17 (by omega) (by omega)
  have hS3 := (hS.kept f2 (by omega)).kept f3 (by omega)
  refine aw_iconst (v := nI 0) d_C_renew_13 (by decide) ?_
  refine aw_istore_n (lv' := [(2, .int (nI 0)), (0, .ref (ad 18)), (1, .ref (ad 9))]) d_C_renew_14 rfl (by decide) rfl ?_
  refine aw_sub (lv' := [(0, .ref (ad 18)), (1, .ref (ad 9)), (2, .int (nI 0))]) [1, 2, 0] rfl ?_
  exact lp (n + 1) _ _ _ 0 hC3 hS3 (f2.tr f3) (fun u hu => absurd hu (by omega)) (fun u hu => absurd hu (by omega)) (by omega) (by omega)
