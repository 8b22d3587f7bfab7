-- laid by wip/whole/m2.py
theorem eu_gcd (G L : Nat) : Nat.gcd L (G % L) = Nat.gcd G L := by
  rw [Nat.gcd_comm L (G % L), ← Nat.gcd_rec L G, Nat.gcd_comm]
theorem eu_half {G L : Nat} (h0 : 0 < L) (h : L ≤ G) : 2 * (L * (G % L)) ≤ G * L - L := by
  have h1 := Nat.mod_lt G h0
  have h2 := Nat.div_add_mod G L
  have h3 : 1 ≤ G / L := Nat.div_pos h h0
  have h4 : L * 1 ≤ L * (G / L) := Nat.mul_le_mul_left L h3
  have h5 : 2 * (G % L) + 1 ≤ G := by omega
  have h6 : L * (2 * (G % L) + 1) ≤ L * G := Nat.mul_le_mul_left L h5
  rw [Nat.mul_add, Nat.mul_one, Nat.mul_comm L G, ← Nat.mul_assoc, Nat.mul_comm L 2, Nat.mul_assoc] at h6
  omega
theorem eu_step {i G L : Nat} (h0 : 0 < L) (hi : i < 100) (h : (i = 0 ∧ G * L < 2 ^ 99) ∨ (1 ≤ i ∧ L ≤ G ∧ G * L < 2 ^ (100 - i))) : (1 ≤ i + 1 ∧ G % L ≤ L ∧ L * (G % L) < 2 ^ (100 - (i + 1))) := by
  have h1 := Nat.mod_lt G h0
  refine ⟨by omega, by omega, ?_⟩
  rcases h with ⟨e, h⟩ | ⟨h2, h3, h4⟩
  · subst e
    have h5 : L * (G % L) ≤ L * G := Nat.mul_le_mul_left L (Nat.mod_le G L)
    rw [Nat.mul_comm L G] at h5
    exact Nat.lt_of_le_of_lt h5 h
  · have h5 := eu_half h0 h3
    have h6 : 2 ^ (100 - i) = 2 * 2 ^ (100 - (i + 1)) := by
      rw [show 100 - i = (100 - (i + 1)) + 1 by omega, Nat.pow_succ, Nat.mul_comm]
    rw [h6] at h4
    omega
theorem eu_end {G L : Nat} (h : (100 = 0 ∧ G * L < 2 ^ 99) ∨ (1 ≤ 100 ∧ L ≤ G ∧ G * L < 2 ^ (100 - 100))) : L = 0 := by
  rcases h with ⟨e, -⟩ | ⟨-, h3, h4⟩
  · omega
  · have h5 : G * L = 0 := by omega
    rcases Nat.mul_eq_zero.mp h5 with e | e
    · omega
    · exact e
/-- a fraction in lowest terms -/
def fracN (a b p : Nat) : Nat := (if p = 0 then a else b) / Nat.gcd a b

set_option maxHeartbeats 4000000 in
set_option maxRecDepth 100000 in
theorem m_W_greatestDivisor {g : aw_G} (hg : aw_T g) {ws : va_W} {ad : Nat → Nat} {a b : Nat} (ha : a < 2 ^ 62) (hb : b < 2 ^ 62) (hab : a * b < 2 ^ 99) : AMet g y_W_greatestDivisor c_W_greatestDivisor 11 (some .long) 0 [.long (lI (a : Int)), .long (lI (b : Int))] ws (aw_R (.long (lI (Nat.gcd a b : Int))) ws) 0 0 := by
  refine amet_of (by decide +kernel) (Nat.le_of_ble_eq_true rfl) ?_
  refine aw_sub (lv' := [(0, .long (lI (a : Int))), (2, .long (lI (b : Int)))]) [0, 1] rfl ?_
  refine aw_lload_n d_W_greatestDivisor_0 rfl rfl ?_
  refine aw_lstore (lv' := [(4, .long (lI (a : Int))), (0, .long (lI (a : Int))), (2, .long (lI (b : Int)))]) d_W_greatestDivisor_1 (by decide) rfl ?_
  refine aw_lload_n d_W_greatestDivisor_3 rfl rfl ?_
  refine aw_lstore (lv' := [(6, .long (lI (b : Int))), (4, .long (lI (a : Int))), (0, .long (lI (a : Int))), (2, .long (lI (b : Int)))]) d_W_greatestDivisor_4 (by decide) rfl ?_
  refine aw_iconst (v := nI 0) d_W_greatestDivisor_6 (by decide) ?_
  refine aw_istore (lv' := [(8, .int (nI 0)), (6, .long (lI (b : Int))), (4, .long (lI (a : Int))), (0, .long (lI (a : Int))), (2, .long (lI (b : Int)))]) d_W_greatestDivisor_7 (by decide) rfl ?_
  have lp : ∀ (k : Nat) (G L i : Nat), G < 2 ^ 62 → L < 2 ^ 62 → Nat.gcd G L = Nat.gcd a b → i ≤ 100 → ((i = 0 ∧ G * L < 2 ^ 99) ∨ (1 ≤ i ∧ L ≤ G ∧ G * L < 2 ^ (100 - i))) → 100 - i < k → AW g y_W_greatestDivisor c_W_greatestDivisor 11 (some .long) (aw_rm 0 0 0) aw_E0 (aw_F g (aw_R (.long (lI (Nat.gcd a b : Int))) ws) 0 0) 0 0 9 [(4, .long (lI (G : Int))), (6, .long (lI (L : Int))), (8, .int (nI i))] [] ws := by
    intro k
    induction k with
    | zero => intro G L i hG hL he hi hp hk; omega
    | succ k ih =>
      intro G L i hG hL he hi hp hk
      refine aw_iload d_W_greatestDivisor_9 rfl ?_
      refine aw_bipush (v := nI 100) d_W_greatestDivisor_11 (by decide) ?_
      refine aw_icmp_geN (tgt := 44) d_W_greatestDivisor_13 (by decide) (by omega) (by omega) (fun h => ?_) (fun h => ?_)
      · have ei : i = 100 := by omega
        subst ei
        have e0 := eu_end hp
        subst e0
        rw [Nat.gcd_zero_right] at he
        refine aw_lload d_W_greatestDivisor_44 rfl ?_
        exact aw_lret d_W_greatestDivisor_46 (Nat.le_refl 0) (Nat.le_refl 0) ⟨by rw [he], rfl⟩
      · refine aw_lload d_W_greatestDivisor_16 rfl ?_
        refine aw_lconst (v := lI 0) d_W_greatestDivisor_18 (by decide) ?_
        refine aw_lcmpI d_W_greatestDivisor_19 (by omega) (by omega) (by omega) (by omega) ?_
        refine aw_if_eqC (tgt := 44) d_W_greatestDivisor_20 (by decide) (fun h2 => ?_) (fun h2 => ?_)
        · have e0 : L = 0 := by omega
          subst e0
          rw [Nat.gcd_zero_right] at he
          refine aw_lload d_W_greatestDivisor_44 rfl ?_
          exact aw_lret d_W_greatestDivisor_46 (Nat.le_refl 0) (Nat.le_refl 0) ⟨by rw [he], rfl⟩
        · have h0 : 0 < L := by omega
          have h1 := Nat.mod_lt G h0
          refine aw_lload d_W_greatestDivisor_23 rfl ?_
          refine aw_lload d_W_greatestDivisor_25 rfl ?_
          refine aw_lremI (a := G) (b := L) d_W_greatestDivisor_27 (by omega) (by omega) (by omega) ?_
          refine aw_lstore (lv' := [(9, .long (lI ((G % L : Nat) : Int))), (4, .long (lI (G : Int))), (6, .long (lI (L : Int))), (8, .int (nI i))]) d_W_greatestDivisor_28 (by decide) rfl ?_
          refine aw_lload d_W_greatestDivisor_30 rfl ?_
          refine aw_lstore (lv' := [(4, .long (lI (L : Int))), (9, .long (lI ((G % L : Nat) : Int))), (6, .long (lI (L : Int))), (8, .int (nI i))]) d_W_greatestDivisor_32 (by decide) rfl ?_
          refine aw_lload d_W_greatestDivisor_34 rfl ?_
          refine aw_lstore (lv' := [(6, .long (lI ((G % L : Nat) : Int))), (4, .long (lI (L : Int))), (9, .long (lI ((G % L : Nat) : Int))), (8, .int (nI i))]) d_W_greatestDivisor_36 (by decide) rfl ?_
          refine aw_iinc1 (lv' := [(8, .int (nI (i + 1))), (6, .long (lI ((G % L : Nat) : Int))), (4, .long (lI (L : Int))), (9, .long (lI ((G % L : Nat) : Int)))]) d_W_greatestDivisor_38 rfl (by decide) rfl ?_
          refine aw_goto (tgt := 9) d_W_greatestDivisor_41 (by decide) ?_
          refine aw_sub (lv' := [(4, .long (lI (L : Int))), (6, .long (lI ((G % L : Nat) : Int))), (8, .int (nI (i + 1)))]) [2, 1, 0] rfl ?_
          exact ih L (G % L) (i + 1) hL (by omega) ((eu_gcd G L).trans he) (by omega) (Or.inr (eu_step h0 h hp)) (by omega)
  refine aw_sub (lv' := [(4, .long (lI (a : Int))), (6, .long (lI (b : Int))), (8, .int (nI 0))]) [2, 1, 0] rfl ?_
  exact lp 101 a b 0 ha hb rfl (by omega) (Or.inl ⟨rfl, hab⟩) (by omega)

set_option maxHeartbeats 4000000 in
set_option maxRecDepth 100000 in
theorem m_M_common {g : aw_G} (hg : aw_T g) {ws : va_W} {ad : Nat → Nat} {a b : Nat} (ha : a < 2 ^ 62) (hb : b < 2 ^ 62) : AMet g y_M_common c_M_common 10 (some .long) 0 [.long (lI (a : Int)), .long (lI (b : Int))] ws (aw_R (.long (lI (Nat.gcd a b : Int))) ws) 0 0 := by
  refine amet_of (by decide +kernel) (Nat.le_of_ble_eq_true rfl) ?_
  refine aw_sub (lv' := [(0, .long (lI (a : Int))), (2, .long (lI (b : Int)))]) [0, 1] rfl ?_
  refine aw_lload_n d_M_common_0 rfl rfl ?_
  refine aw_lstore (lv' := [(4, .long (lI (a : Int))), (0, .long (lI (a : Int))), (2, .long (lI (b : Int)))]) d_M_common_1 (by decide) rfl ?_
  refine aw_lload_n d_M_common_3 rfl rfl ?_
  refine aw_lstore (lv' := [(6, .long (lI (b : Int))), (4, .long (lI (a : Int))), (0, .long (lI (a : Int))), (2, .long (lI (b : Int)))]) d_M_common_4 (by decide) rfl ?_
  have lp : ∀ (k : Nat) (G L : Nat), G < 2 ^ 62 → L < 2 ^ 62 → Nat.gcd G L = Nat.gcd a b → L < k → AW g y_M_common c_M_common 10 (some .long) (aw_rm 0 0 0) aw_E0 (aw_F g (aw_R (.long (lI (Nat.gcd a b : Int))) ws) 0 0) 0 0 6 [(4, .long (lI (G : Int))), (6, .long (lI (L : Int)))] [] ws := by
    intro k
    induction k with
    | zero => intro G L hG hL he hk; omega
    | succ k ih =>
      intro G L hG hL he hk
      refine aw_lload d_M_common_6 rfl ?_
      refine aw_lconst (v := lI 0) d_M_common_8 (by decide) ?_
      refine aw_lcmpI d_M_common_9 (by omega) (by omega) (by omega) (by omega) ?_
      refine aw_if_eqC (tgt := 31) d_M_common_10 (by decide) (fun h2 => ?_) (fun h2 => ?_)
      · have e0 : L = 0 := by omega
        subst e0
        rw [Nat.gcd_zero_right] at he
        refine aw_lload d_M_common_31 rfl ?_
        exact aw_lret d_M_common_33 (Nat.le_refl 0) (Nat.le_refl 0) ⟨by rw [he], rfl⟩
      · have h0 : 0 < L := by omega
        have h1 := Nat.mod_lt G h0
        refine aw_lload d_M_common_13 rfl ?_
        refine aw_lload d_M_common_15 rfl ?_
        refine aw_lremI (a := G) (b := L) d_M_common_17 (by omega) (by omega) (by omega) ?_
        refine aw_lstore (lv' := [(8, .long (lI ((G % L : Nat) : Int))), (4, .long (lI (G : Int))), (6, .long (lI (L : Int)))]) d_M_common_18 (by decide) rfl ?_
        refine aw_lload d_M_common_20 rfl ?_
        refine aw_lstore (lv' := [(4, .long (lI (L : Int))), (8, .long (lI ((G % L : Nat) : Int))), (6, .long (lI (L : Int)))]) d_M_common_22 (by decide) rfl ?_
        refine aw_lload d_M_common_24 rfl ?_
        refine aw_lstore (lv' := [(6, .long (lI ((G % L : Nat) : Int))), (4, .long (lI (L : Int))), (8, .long (lI ((G % L : Nat) : Int)))]) d_M_common_26 (by decide) rfl ?_
        refine aw_goto (tgt := 6) d_M_common_28 (by decide) ?_
        refine aw_sub (lv' := [(4, .long (lI (L : Int))), (6, .long (lI ((G % L : Nat) : Int)))]) [1, 0] rfl ?_
        exact ih L (G % L) hL (by omega) ((eu_gcd G L).trans he) (by omega)
  refine aw_sub (lv' := [(4, .long (lI (a : Int))), (6, .long (lI (b : Int)))]) [1, 0] rfl ?_
  exact lp (b + 1) a b ha hb rfl (by omega)

set_option maxHeartbeats 4000000 in
set_option maxRecDepth 100000 in
theorem m_W_fraction {g : aw_G} (hg : aw_T g) {ws : va_W} {ad : Nat → Nat} {a b p : Nat} (ha : a < 2 ^ 62) (hb : b < 2 ^ 62) (hab : a * b < 2 ^ 99) (h0 : 0 < b) (hp : p < 2) : AMet g y_W_fraction c_W_fraction 9 (some .long) 1 [.long (lI (a : Int)), .long (lI (b : Int)), .int (nI p)] ws (aw_R (.long (lI (fracN a b p : Int))) ws) 0 0 := by
  have g0 : 0 < Nat.gcd a b := Nat.gcd_pos_of_pos_right a h0
  have g1 : Nat.gcd a b ≤ b := Nat.le_of_dvd h0 (Nat.gcd_dvd_right a b)
  refine amet_of (by decide +kernel) (Nat.le_of_ble_eq_true rfl) ?_
  refine aw_sub (lv' := [(0, .long (lI (a : Int))), (2, .long (lI (b : Int))), (4, .int (nI p))]) [0, 1, 2] rfl ?_
  refine aw_iload d_W_fraction_0 rfl ?_
  refine aw_if_neN (tgt := 9) d_W_fraction_2 (by decide) (by omega) (fun h => ?_) (fun h => ?_)
  · refine aw_lload_n d_W_fraction_9 rfl rfl ?_
    refine aw_lstore (lv' := [(5, .long (lI (b : Int))), (0, .long (lI (a : Int))), (2, .long (lI (b : Int))), (4, .int (nI p))]) d_W_fraction_10 (by decide) rfl ?_
    refine aw_lload_n d_W_fraction_12 rfl rfl ?_
    refine aw_lload_n d_W_fraction_13 rfl rfl ?_
    refine aw_callS (av := [.long (lI (a : Int)), .long (lI (b : Int))]) (rest := []) (m_W_greatestDivisor (ad := ad) hg ha hb hab) kd_W_greatestDivisor k_317 k_199  d_W_fraction_14 rfl ⟨by decide, by decide⟩ (Nat.le_of_ble_eq_true rfl) ⟨by decide, by decide⟩ rfl (fun v ws2 hq => ?_)
    obtain ⟨rfl, rfl⟩ := hq
    refine aw_lstore (lv' := [(7, .long (lI (Nat.gcd a b : Int))), (5, .long (lI (b : Int))), (0, .long (lI (a : Int))), (2, .long (lI (b : Int))), (4, .int (nI p))]) d_W_fraction_17 (by decide) rfl ?_
    refine aw_lload d_W_fraction_19 rfl ?_
    refine aw_lconst (v := lI 0) d_W_fraction_21 (by decide) ?_
    refine aw_lcmpI d_W_fraction_22 (by omega) (by omega) (by omega) (by omega) ?_
    refine aw_if_neC (tgt := 31) d_W_fraction_23 (by decide) (fun h2 => ?_) (fun h2 => absurd h2 (by omega))
    refine aw_lload d_W_fraction_31 rfl ?_
    refine aw_lload d_W_fraction_33 rfl ?_
    refine aw_ldivI (a := b) (b := (Nat.gcd a b)) d_W_fraction_35 (by omega) (by omega) (by omega) ?_
    exact aw_lret d_W_fraction_36 (Nat.le_refl 0) (Nat.le_refl 0) ⟨by unfold fracN; rw [if_neg h], rfl⟩
  · refine aw_lload_n d_W_fraction_5 rfl rfl ?_
    refine aw_goto (tgt := 10) d_W_fraction_6 (by decide) ?_
    refine aw_lstore (lv' := [(5, .long (lI (a : Int))), (0, .long (lI (a : Int))), (2, .long (lI (b : Int))), (4, .int (nI p))]) d_W_fraction_10 (by decide) rfl ?_
    refine aw_lload_n d_W_fraction_12 rfl rfl ?_
    refine aw_lload_n d_W_fraction_13 rfl rfl ?_
    refine aw_callS (av := [.long (lI (a : Int)), .long (lI (b : Int))]) (rest := []) (m_W_greatestDivisor (ad := ad) hg ha hb hab) kd_W_greatestDivisor k_317 k_199  d_W_fraction_14 rfl ⟨by decide, by decide⟩ (Nat.le_of_ble_eq_true rfl) ⟨by decide, by decide⟩ rfl (fun v ws2 hq => ?_)
    obtain ⟨rfl, rfl⟩ := hq
    refine aw_lstore (lv' := [(7, .long (lI (Nat.gcd a b : Int))), (5, .long (lI (a : Int))), (0, .long (lI (a : Int))), (2, .long (lI (b : Int))), (4, .int (nI p))]) d_W_fraction_17 (by decide) rfl ?_
    refine aw_lload d_W_fraction_19 rfl ?_
    refine aw_lconst (v := lI 0) d_W_fraction_21 (by decide) ?_
    refine aw_lcmpI d_W_fraction_22 (by omega) (by omega) (by omega) (by omega) ?_
    refine aw_if_neC (tgt := 31) d_W_fraction_23 (by decide) (fun h2 => ?_) (fun h2 => absurd h2 (by omega))
    refine aw_lload d_W_fraction_31 rfl ?_
    refine aw_lload d_W_fraction_33 rfl ?_
    refine aw_ldivI (a := a) (b := (Nat.gcd a b)) d_W_fraction_35 (by omega) (by omega) (by omega) ?_
    exact aw_lret d_W_fraction_36 (Nat.le_refl 0) (Nat.le_refl 0) ⟨by unfold fracN; rw [if_pos h], rfl⟩

set_option maxHeartbeats 4000000 in
set_option maxRecDepth 100000 in
theorem m_M_lowest {g : aw_G} (hg : aw_T g) {ws : va_W} {ad : Nat → Nat} {a b p : Nat} (ha : a < 2 ^ 62) (hb : b < 2 ^ 62) (h0 : 0 < b) (hp : p < 2) : AMet g y_M_lowest c_M_lowest 7 (some .long) 1 [.long (lI (a : Int)), .long (lI (b : Int)), .int (nI p)] ws (aw_R (.long (lI (fracN a b p : Int))) ws) 0 0 := by
  have g0 : 0 < Nat.gcd a b := Nat.gcd_pos_of_pos_right a h0
  have g1 : Nat.gcd a b ≤ b := Nat.le_of_dvd h0 (Nat.gcd_dvd_right a b)
  refine amet_of (by decide +kernel) (Nat.le_of_ble_eq_true rfl) ?_
  refine aw_sub (lv' := [(0, .long (lI (a : Int))), (2, .long (lI (b : Int))), (4, .int (nI p))]) [0, 1, 2] rfl ?_
  refine aw_lload_n d_M_lowest_0 rfl rfl ?_
  refine aw_lload_n d_M_lowest_1 rfl rfl ?_
  refine aw_callS (av := [.long (lI (a : Int)), .long (lI (b : Int))]) (rest := []) (m_M_common (ad := ad) hg ha hb) kd_M_common k_488 k_489  d_M_lowest_2 rfl ⟨by decide, by decide⟩ (Nat.le_of_ble_eq_true rfl) ⟨by decide, by decide⟩ rfl (fun v ws2 hq => ?_)
  obtain ⟨rfl, rfl⟩ := hq
  refine aw_lstore (lv' := [(5, .long (lI (Nat.gcd a b : Int))), (0, .long (lI (a : Int))), (2, .long (lI (b : Int))), (4, .int (nI p))]) d_M_lowest_5 (by decide) rfl ?_
  refine aw_iload d_M_lowest_7 rfl ?_
  refine aw_if_neN (tgt := 19) d_M_lowest_9 (by decide) (by omega) (fun h => ?_) (fun h => ?_)
  · refine aw_lload_n d_M_lowest_19 rfl rfl ?_
    refine aw_lload d_M_lowest_20 rfl ?_
    refine aw_ldivI (a := b) (b := (Nat.gcd a b)) d_M_lowest_22 (by omega) (by omega) (by omega) ?_
    exact aw_lret d_M_lowest_23 (Nat.le_refl 0) (Nat.le_refl 0) ⟨by unfold fracN; rw [if_neg h], rfl⟩
  · refine aw_lload_n d_M_lowest_12 rfl rfl ?_
    refine aw_lload d_M_lowest_13 rfl ?_
    refine aw_ldivI (a := a) (b := (Nat.gcd a b)) d_M_lowest_15 (by omega) (by omega) (by omega) ?_
    refine aw_goto (tgt := 23) d_M_lowest_16 (by decide) ?_
    exact aw_lret d_M_lowest_23 (Nat.le_refl 0) (Nat.le_refl 0) ⟨by unfold fracN; rw [if_pos h], rfl⟩
