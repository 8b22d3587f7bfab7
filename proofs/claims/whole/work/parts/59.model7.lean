-- laid by wip/whole/m19.py
theorem fs_ov {P : Nat → Nat → Nat} {n U ov : Nat} {G : (Nat → Nat) → Nat} {f : Nat → Nat} (h : ∀ i j, i < n → U.testBit i = true → j < n → ov.testBit j = false → P i j = 0) : fsU (Pov P ov) n U G n 0 f = fsU P n U G n 0 f := fs_congr (fun i w hi q hw => by
  unfold Pov
  split
  · rfl
  · rename_i z
    exact (h i w hi q hw (tb_ne z)).symm) (fun _ => rfl) n 0 f (by omega)
theorem okSc {n x y : Nat} {W : Nat → Nat → Nat} {J : Nat → Nat} : okS n x y W J (nr n x y W J) (tt n x y W J) (Xc n x y W J) := fun _ _ => ⟨fun _ _ => rfl, rfl, rfl⟩
theorem Dc_cl {n x y : Nat} {W : Nat → Nat → Nat} {J : Nat → Nat} (hn : n ≤ 5) {l i j : Nat} (hl : l < n) (hi : (Dc n x y W J l).testBit i = true) (hj : j < n) (h : (Dc n x y W J l).testBit j = false) : nr n x y W J i j = 0 := by
  by_cases e : 0 < nr n x y W J i j
  · have h2 : (Dc n x y W J l).testBit j = true := Dm_step (Xc_ok hn) hl hi (Xc_bit.mpr ⟨hj, e⟩)
    rw [h] at h2; cases h2
  · omega
theorem sh_1 {n x y : Nat} {W : Nat → Nat → Nat} {J : Nat → Nat} {m v : Nat} (h : m.testBit v = true) : (Fo n x y W J (an m (2 ^ v)) : Int) * (tt n x y W J v : Int) = (shG n x y W J m v : Int) := by
  unfold shG
  rw [if_pos h, Int.natCast_mul, Int.mul_comm]
theorem sh_0 {n x y : Nat} {W : Nat → Nat → Nat} {J : Nat → Nat} {m v : Nat} (h : m.testBit v = false) : shG n x y W J m v = 0 := by
  unfold shG
  rw [if_neg (by rw [h]; decide)]
theorem IC_ge {n : Nat} {D : Nat → Nat} {q : Nat} {M L : Nat → Nat} {O : Nat → Int32} (C : IC n D n q M L O) (hn : n ≤ 5) {v : Nat} (hv : v < n) (h : ¬ O v < 0) : nb q (O v) = true := by
  by_cases e : ∃ l, l < n ∧ ldB D n l = true ∧ (D l).testBit v = true
  · obtain ⟨l, k1, k2, k3⟩ := e
    have c1 := cntB_lt (ldB D n) k1 k2
    have c2 := cntB_le (ldB D n) n
    have c3 := C.1
    rw [C.2.2.1 l k1 k2 v k3]
    exact (by decide : ∀ q, q ≤ 5 → ∀ k, k < q → nb q (nI k) = true) q (by omega) _ (by omega)
  · have no : ∀ l, l < n → ldB D n l = true → (D l).testBit v = false := fun l k1 k2 => by
      cases k3 : (D l).testBit v with
      | false => rfl
      | true => exact absurd ⟨l, k1, k2, k3⟩ e
    rw [C.2.2.2 v hv no] at h
    exact absurd (by decide) h
theorem nb_neg {q : Nat} {z : Int32} (h : z < 0) : nb q z = false := by unfold nb; simp [h]

def qMSh (g : aw_G) (ad : Nat → Nat) (ws : va_W) (W : Nat → Nat → Nat) (n : Nat) (x : Nat) (y : Nat) (V : Nat → Nat) (J : Nat → Nat) (Rw : Nat → Nat) (Tt : Nat → Nat) (q : Nat) (So : Nat → Int32) (Bo : Nat → Nat) (Nw : Nat → Int) (Th : Nat → Int) (m : Nat) : Option Value → va_W → Prop := fun r ws' => r = none ∧ fr 40 51 ws ws' ∧ ∃ (fo tw : Int) (St : Nat → Nat) (Sh : Nat → Int), gM g ws' ad n x y V J Rw Tt q So Bo fo tw St Sh (sN (shG n x y W J m) n : Int) Nw Th ∧ ∀ i, i < n → Sh i = (shG n x y W J m i : Int)

set_option maxHeartbeats 4000000 in
set_option maxRecDepth 100000 in
theorem m_M_findShares {g : aw_G} (hg : aw_T g) {ws : va_W} {ad : Nat → Nat} {n : Nat} {x : Nat} {y : Nat} {V : Nat → Nat} {J : Nat → Nat} {Rw : Nat → Nat} {Tt : Nat → Nat} {q : Nat} {So : Nat → Int32} {Bo : Nat → Nat} {fo : Int} {tw : Int} {St : Nat → Nat} {Sh : Nat → Int} {ss : Int} {Nw : Nat → Int} {Th : Nat → Int} {W : Nat → Nat → Nat} {m : Nat} (hM : gM g ws ad n x y V J Rw Tt q So Bo fo tw St Sh ss Nw Th) (hok : okG n x y W J) (hR : rwOk n x y W J Rw Tt) (hm : m < 32) (hcl : ∀ i j, i < n → m.testBit i = true → j < n → m.testBit j = false → nr n x y W J i j = 0) : AMet g y_M_findShares c_M_findShares 3 none 2 [.ref (ad 40), .int (nI m)] ws (qMSh g ad ws W n x y V J Rw Tt q So Bo Nw Th m) 0 0 := by
  have hn := hok.1
  refine amet_of (by decide +kernel) (Nat.le_of_ble_eq_true rfl) ?_
  refine aw_sub (lv' := [(0, .ref (ad 40)), (1, .int (nI m))]) [0, 1] rfl ?_
  refine aw_aload_n d_M_findShares_0 rfl rfl ?_
  refine aw_lconst (v := lI 0) d_M_findShares_1 (by decide) ?_
  refine aw_putN kc_6 14 (by decide) k_418 d_M_findShares_2 hM.1 rfl rfl rfl (Nat.le_of_ble_eq_true rfl) (fun zws1 za2 zb3 zc4 => ?_)
  have zf5 : zws1[40]? = some (ad 40, .inr (6, [.int (nI n), .ref (ad 41), .ref (ad 42), .int (nI x), .int (nI y), .ref (ad 43), .ref (ad 44), .int (nI q), .ref (ad 45), .ref (ad 46), .long (lI fo), .long (lI tw), .ref (ad 47), .ref (ad 48), .long (lI 0), .ref (ad 49), .ref (ad 50)])) := za2
  have hM1 := hM.p40 (n' := n) (x' := x) (y' := y) (q' := q) (fo' := fo) (tw' := tw) (ss' := (sN (shG n x y W J m) 0 : Int)) za2 zb3
  have f1 := (fr.one (lo := 40) (hi := 51) zb3 zc4 (by omega) (by omega))
  refine aw_iconst (v := nI 0) d_M_findShares_5 (by decide) ?_
  refine aw_istore_n (lv' := [(2, .int (nI 0)), (0, .ref (ad 40)), (1, .int (nI m))]) d_M_findShares_6 rfl (by decide) rfl ?_
  have lp : ∀ (k : Nat) (ws1 : va_W) (fo1 tw1 : Int) (St1 : Nat → Nat) (Sh1 : Nat → Int) (v : Nat), gM g ws1 ad n x y V J Rw Tt q So Bo fo1 tw1 St1 Sh1 (sN (shG n x y W J m) v : Int) Nw Th → fr 40 51 ws ws1 → v ≤ n → (∀ i, i < v → Sh1 i = (shG n x y W J m i : Int)) → n - v < k → AW g y_M_findShares c_M_findShares 3 none (aw_rm 2 0 0) aw_E0 (aw_F g (qMSh g ad ws W n x y V J Rw Tt q So Bo Nw Th m) 0 0) 0 0 7 [(0, .ref (ad 40)), (1, .int (nI m)), (2, .int (nI v))] [] ws1 := by
    intro k
    induction k with
    | zero => intro ws1 fo1 tw1 St1 Sh1 v hM2 f2 hv0 hS hk; omega
    | succ k ih =>
      intro ws1 fo1 tw1 St1 Sh1 v hM2 f2 hv0 hS hk
      refine aw_iload_n d_M_findShares_7 rfl rfl ?_
      refine aw_aload_n d_M_findShares_8 rfl rfl ?_
      refine aw_get kc_6 0 (by decide) k_404 d_M_findShares_9 hM2.1 rfl ?_
      refine aw_icmp_geN (tgt := 82) d_M_findShares_12 (by decide) (by omega) (by omega) (fun hv => ?_) (fun hv => ?_)
      · have e : n = v := by omega
        subst e
        exact aw_vret d_M_findShares_82 (Nat.le_refl 0) (Nat.le_refl 0) ⟨rfl, f2, fo1, tw1, St1, Sh1, hM2, hS⟩
      · have ht := nr_ok hok hv
        refine aw_aload_n d_M_findShares_15 rfl rfl ?_
        refine aw_get kc_6 13 (by decide) k_417 d_M_findShares_16 hM2.1 rfl ?_
        refine aw_iload_n d_M_findShares_19 rfl rfl ?_
        refine aw_lconst (v := lI 0) d_M_findShares_20 (by decide) ?_
        refine aw_lastA d_M_findShares_21 hM2.2.2.2.2.2.2.2.2.1 hg (by omega) (by decide) (fun zws6 za7 zb8 zc9 => ?_)
        have hM3 := hM2.p48  za7 zb8
        have f3 := f2.tr (fr.one (lo := 40) (hi := 51) zb8 zc9 (by omega) (by omega))
        refine aw_iload_n d_M_findShares_22 rfl rfl ?_
        refine aw_iload_n d_M_findShares_23 rfl rfl ?_
        refine aw_ishr d_M_findShares_24 ?_
        refine aw_iconst (v := nI 1) d_M_findShares_25 (by decide) ?_
        refine aw_iand d_M_findShares_26 ?_
        refine aw_nmi (z := nI (bN (m.testBit v))) (bt_eq m hm v (by omega)) ?_
        refine aw_iconst (v := nI 1) d_M_findShares_27 (by decide) ?_
        refine aw_icmp_neN (tgt := 76) d_M_findShares_28 (by decide) (bN_le _) (by omega) (fun h2 => ?_) (fun h2 => ?_)
        · have z := sh_0 (n := n) (x := x) (y := y) (W := W) (J := J) (bN_n1 h2)
          refine aw_iinc1 (lv' := [(2, .int (nI (v + 1))), (0, .ref (ad 40)), (1, .int (nI m))]) d_M_findShares_76 rfl (by decide) rfl ?_
          refine aw_goto (tgt := 7) d_M_findShares_79 (by decide) ?_
          refine aw_sub (lv' := [(0, .ref (ad 40)), (1, .int (nI m)), (2, .int (nI (v + 1)))]) [1, 2, 0] rfl ?_
          exact ih _ fo1 tw1 St1 _ (v + 1) (by rw [sN_no z]; exact hM3) f3 (by omega) (fup_up hS (by rw [z]; rfl)) (by omega)
        · have hmv := bN_1.mp h2
          have hp := pow_32 (show v < 5 by omega)
          refine aw_aload_n d_M_findShares_31 rfl rfl ?_
          refine aw_iload_n d_M_findShares_32 rfl rfl ?_
          refine aw_iconst (v := nI 1) d_M_findShares_33 (by decide) ?_
          refine aw_iload_n d_M_findShares_34 rfl rfl ?_
          refine aw_ishl d_M_findShares_35 ?_
          refine aw_nmi (z := nI (2 ^ v)) (sl_eq v (by omega)) ?_
          refine aw_iload_n d_M_findShares_36 rfl rfl ?_
          refine aw_iconst (v := nI 1) d_M_findShares_37 (by decide) ?_
          refine aw_iload_n d_M_findShares_38 rfl rfl ?_
          refine aw_ishl d_M_findShares_39 ?_
          refine aw_nmi (z := nI (2 ^ v)) (sl_eq v (by omega)) ?_
          refine aw_callV (av := [.int (nI m), .int (nI (2 ^ v)), .int (nI v), .int (nI (2 ^ v))]) (rest := []) (m_M_count hg hM3 hok hR hm hp hv hmv hp) kd_M_count k_537 k_539 ks_M_count rfl ((zb8 40 (by omega)).trans hM2.1) d_M_findShares_40 rfl ⟨by decide, by decide⟩ (Nat.le_of_ble_eq_true rfl) ⟨by decide, by decide⟩ rfl (fun v4 ws4 hq4 => ?_)
          obtain ⟨rfl, f4, St4, hM4⟩ := hq4
          have f5 := f3.tr f4
          have eF : fsU (Pov (nr n x y W J) m) n (an m (2 ^ v)) (FA n (an m (2 ^ v))) n 0 (fun _ => 0) = Fo n x y W J (an m (2 ^ v)) := fs_ov (fun i j hi q hj => hcl i j hi ((an_tb hm hp).mp q).1 hj)
          refine aw_aload_n d_M_findShares_43 rfl rfl ?_
          refine aw_get kc_6 13 (by decide) k_417 d_M_findShares_44 hM4.1 rfl ?_
          refine aw_iload_n d_M_findShares_47 rfl rfl ?_
          refine aw_aload_n d_M_findShares_48 rfl rfl ?_
          refine aw_get kc_6 10 (by decide) k_414 d_M_findShares_49 hM4.1 rfl ?_
          refine aw_nml (z := lI (Fo n x y W J (an m (2 ^ v)) : Int)) (by rw [eF]) ?_
          refine aw_aload_n d_M_findShares_52 rfl rfl ?_
          refine aw_get kc_6 6 (by decide) k_410 d_M_findShares_53 hM4.1 rfl ?_
          refine aw_iload_n d_M_findShares_56 rfl rfl ?_
          refine aw_ialdA d_M_findShares_57 hM4.2.2.2.2.1 hg (by omega) (by decide) ?_
          refine aw_nmi (z := nI (tt n x y W J v)) (by rw [(hR v hv).2]) ?_
          refine aw_i2lN d_M_findShares_58 (by omega) ?_
          refine aw_lmulI d_M_findShares_59 ?_
          refine aw_nml (z := lI (shG n x y W J m v : Int)) (congrArg lI (sh_1 hmv)) ?_
          refine aw_lastA d_M_findShares_60 hM4.2.2.2.2.2.2.2.2.1 hg (by omega) (by decide) (fun zws10 za11 zb12 zc13 => ?_)
          have hM5 := hM4.p48  za11 zb12
          have f6 := f5.tr (fr.one (lo := 40) (hi := 51) zb12 zc13 (by omega) (by omega))
          refine aw_aload_n d_M_findShares_61 rfl rfl ?_
          refine aw_dup d_M_findShares_62 rfl ?_
          refine aw_get kc_6 14 (by decide) k_418 d_M_findShares_63 ((zb12 40 (by omega)).trans hM4.1) rfl ?_
          refine aw_aload_n d_M_findShares_66 rfl rfl ?_
          refine aw_get kc_6 13 (by decide) k_417 d_M_findShares_67 ((zb12 40 (by omega)).trans hM4.1) rfl ?_
          refine aw_iload_n d_M_findShares_70 rfl rfl ?_
          refine aw_laldA d_M_findShares_71 za11 hg (by omega) (by decide) ?_
          refine aw_nml (z := lI (shG n x y W J m v : Int)) (by rw [fup_at]) ?_
          refine aw_laddI d_M_findShares_72 ?_
          refine aw_nml (z := lI ((sN (shG n x y W J m) (v + 1) : Int))) (congrArg lI (sn_add rfl)) ?_
          refine aw_putN kc_6 14 (by decide) k_418 d_M_findShares_73 ((zb12 40 (by omega)).trans hM4.1) rfl rfl rfl (Nat.le_of_ble_eq_true rfl) (fun zws14 za15 zb16 zc17 => ?_)
          have zf18 : zws14[40]? = some (ad 40, .inr (6, [.int (nI n), .ref (ad 41), .ref (ad 42), .int (nI x), .int (nI y), .ref (ad 43), .ref (ad 44), .int (nI q), .ref (ad 45), .ref (ad 46), .long (lI (fsU (Pov (nr n x y W J) m) n (an m (2 ^ v)) (FA n (an m (2 ^ v))) n 0 (fun _ => 0) : Int)), .long (lI (fsU (Pov (nr n x y W J) m) n (an m (2 ^ v)) (FG n (an m (2 ^ v)) v (2 ^ v)) n 0 (fun _ => 0) : Int)), .ref (ad 47), .ref (ad 48), .long (lI ((sN (shG n x y W J m) (v + 1) : Int))), .ref (ad 49), .ref (ad 50)])) := za15
          have hM6 := hM5.p40 (n' := n) (x' := x) (y' := y) (q' := q) (fo' := (fsU (Pov (nr n x y W J) m) n (an m (2 ^ v)) (FA n (an m (2 ^ v))) n 0 (fun _ => 0) : Int)) (tw' := (fsU (Pov (nr n x y W J) m) n (an m (2 ^ v)) (FG n (an m (2 ^ v)) v (2 ^ v)) n 0 (fun _ => 0) : Int)) (ss' := (sN (shG n x y W J m) (v + 1) : Int)) za15 zb16
          have f7 := f6.tr (fr.one (lo := 40) (hi := 51) zb16 zc17 (by omega) (by omega))
          refine aw_iinc1 (lv' := [(2, .int (nI (v + 1))), (0, .ref (ad 40)), (1, .int (nI m))]) d_M_findShares_76 rfl (by decide) rfl ?_
          refine aw_goto (tgt := 7) d_M_findShares_79 (by decide) ?_
          refine aw_sub (lv' := [(0, .ref (ad 40)), (1, .int (nI m)), (2, .int (nI (v + 1)))]) [1, 2, 0] rfl ?_
          exact ih _ _ _ St4 _ (v + 1) hM6 f7 (by omega) (fup_up (fun j hj => by rw [fup_ne (by omega)]; exact hS j hj) rfl) (by omega)
  refine aw_sub (lv' := [(0, .ref (ad 40)), (1, .int (nI m)), (2, .int (nI 0))]) [1, 2, 0] rfl ?_
  exact lp (n + 1) _ fo tw St Sh 0 hM1 f1 (by omega) (fun i hi => absurd hi (by omega)) (by omega)

set_option maxHeartbeats 4000000 in
set_option maxRecDepth 100000 in
theorem m_M_rank {g : aw_G} (hg : aw_T g) {ws : va_W} {ad : Nat → Nat} {n x y : Nat} {W : Nat → Nat → Nat} {J : Nat → Nat} {v p : Int32} {q0 : Nat} {M0 L0 : Nat → Nat} {O0 : Nat → Int32} (hC : IC n (Dc n x y W J) n q0 M0 L0 O0) (hO : gMo g ws ad n x y W J) : AMet g y_M_rank c_M_rank 3 (some .long) 4 [.ref (ad 40), .int v, .int p] ws (qM g ad ws (.long (aRank n x y W J q0 M0 v p)) n x y W J) 0 0 := by
  obtain ⟨V, Rw, Tt, q, So, Bo, fo, tw, St, Sh, ss, Nw, Th, hM, hok, hV⟩ := id hO
  have hn := hok.1
  refine amet_of (by decide +kernel) (Nat.le_of_ble_eq_true rfl) ?_
  refine aw_sub (lv' := [(0, .ref (ad 40)), (1, .int v), (2, .int p)]) [0, 1, 2] rfl ?_
  refine aw_aload_n d_M_rank_0 rfl rfl ?_
  refine aw_iload_n d_M_rank_1 rfl rfl ?_
  refine aw_callV (av := [.int v]) (rest := []) (m_M_isNode hg hM) kd_M_isNode k_464 k_466 ks_M_isNode rfl hM.1 d_M_rank_2 rfl ⟨by decide, by decide⟩ (Nat.le_of_ble_eq_true rfl) ⟨by decide, by decide⟩ rfl (fun v2 ws2 hq2 => ?_)
  obtain ⟨rfl, rfl⟩ := hq2
  refine aw_if_neB (tgt := 12) d_M_rank_5 (by decide) (fun h1 => ?_) (fun h1 => ?_)
  · refine aw_iload_n d_M_rank_12 rfl rfl ?_
    refine aw_callS (av := [.int p]) (rest := []) (m_M_isPart (ad := ad) hg) kd_M_isPart k_528 k_529  d_M_rank_13 rfl ⟨by decide, by decide⟩ (Nat.le_of_ble_eq_true rfl) ⟨by decide, by decide⟩ rfl (fun v2 ws2 hq2 => ?_)
    obtain ⟨rfl, rfl⟩ := hq2
    refine aw_if_neB (tgt := 23) d_M_rank_16 (by decide) (fun h2 => ?_) (fun h2 => ?_)
    · refine aw_aload_n d_M_rank_23 rfl rfl ?_
      refine aw_callV (av := []) (rest := []) (m_M_findSets hg hM hok hV) kd_M_findSets k_499 k_501 ks_M_findSets rfl hM.1 d_M_rank_24 rfl ⟨by decide, by decide⟩ (Nat.le_of_ble_eq_true rfl) ⟨by decide, by decide⟩ rfl (fun v5 ws5 hq5 => ?_)
      obtain ⟨rfl, f5, Rw5, Tt5, q5, So5, Bo5, hM5, hR, hF⟩ := hq5
      obtain ⟨rfl, eB, eO⟩ := FI_IC hF (Dc_ok hn) hC
      have hq5 := IC_q hC hn
      refine aw_aload_n d_M_rank_27 rfl rfl ?_
      refine aw_get kc_6 7 (by decide) k_411 d_M_rank_28 hM5.1 rfl ?_
      refine aw_iconst (v := nI 1) d_M_rank_31 (by decide) ?_
      refine aw_icmp_eqN (tgt := 39) d_M_rank_32 (by decide) (by omega) (by omega) (fun h3 => ?_) (fun h3 => ?_)
      · obtain ⟨v1, hv1, rfl⟩ := nb_true hn h1
        obtain ⟨p1, hp1, rfl⟩ := pb_true h2
        obtain ⟨l, hl, l2, -, eM, -⟩ := IC_set hC (show 0 < q5 by omega)
        have hD := Dc_ok (x := x) (y := y) (W := W) (J := J) hn
        have lc := ((ldB_iff hD hl).mp l2).1
        have hm : M0 0 < 32 := by rw [eM]; exact hD.lt hl
        have hmb : ∀ k, (M0 0).testBit k = true → k < n := fun k hk => by rw [eM] at hk; exact hD.in hl hk
        have hmc : ∀ a b, a < n → (M0 0).testBit a = true → b < n → (M0 0).testBit b = false → nr n x y W J a b = 0 := fun a b _ h1 h2 h3 => by rw [eM] at h1 h3; exact Dc_cl hn hl h1 h2 h3
        have b1 := sum_le hok hm hmb
        have b2 := shG_le hok hv1 hm hmb
        have b3 : 0 < sN (shG n x y W J (M0 0)) n := Nat.lt_of_lt_of_le (by rw [eM]; exact share_pos okSc (Xc_ok hn) (fun _ _ => rfl) hok hl lc (hD.rf hl)) (sN_mem (f := shG n x y W J (M0 0)) hl)
        refine aw_aload_n d_M_rank_39 rfl rfl ?_
        refine aw_aload_n d_M_rank_40 rfl rfl ?_
        refine aw_get kc_6 9 (by decide) k_413 d_M_rank_41 hM5.1 rfl ?_
        refine aw_iconst (v := nI 0) d_M_rank_44 (by decide) ?_
        refine aw_ialdA d_M_rank_45 hM5.2.2.2.2.2.2.1 hg (by omega) (by decide) ?_
        refine aw_nmi (z := nI (M0 0)) (by rw [eB 0 (by omega)]) ?_
        refine aw_callV (av := [.int (nI (M0 0))]) (rest := []) (m_M_findShares hg hM5 hok hR hm hmc) kd_M_findShares k_533 k_535 ks_M_findShares rfl hM5.1 d_M_rank_46 rfl ⟨by decide, by decide⟩ (Nat.le_of_ble_eq_true rfl) ⟨by decide, by decide⟩ rfl (fun v6 ws6 hq6 => ?_)
        obtain ⟨rfl, f6, fo6, tw6, St6, Sh6, hM6, hS6⟩ := hq6
        have f7 := f5.tr f6
        refine aw_aload_n d_M_rank_49 rfl rfl ?_
        refine aw_get kc_6 13 (by decide) k_417 d_M_rank_50 hM6.1 rfl ?_
        refine aw_iload_n d_M_rank_53 rfl rfl ?_
        refine aw_laldA d_M_rank_54 hM6.2.2.2.2.2.2.2.2.1 hg (by omega) (by decide) ?_
        refine aw_nml (z := lI (shG n x y W J (M0 0) v1 : Int)) (by rw [hS6 v1 hv1]) ?_
        refine aw_aload_n d_M_rank_55 rfl rfl ?_
        refine aw_get kc_6 14 (by decide) k_418 d_M_rank_56 hM6.1 rfl ?_
        refine aw_iload_n d_M_rank_59 rfl rfl ?_
        refine aw_callS (av := [.long (lI (shG n x y W J (M0 0) v1 : Int)), .long (lI (sN (shG n x y W J (M0 0)) n : Int)), .int (nI p1)]) (rest := []) (m_M_lowest (ad := ad) hg (by omega) (by omega) b3 hp1) kd_M_lowest k_545 k_546  d_M_rank_60 rfl ⟨by decide, by decide⟩ (Nat.le_of_ble_eq_true rfl) ⟨by decide, by decide⟩ rfl (fun v8 ws8 hq8 => ?_)
        obtain ⟨rfl, rfl⟩ := hq8
        exact aw_lret d_M_rank_63 (Nat.le_refl 0) (Nat.le_refl 0) ⟨by unfold aRank; rw [if_pos h1, if_pos h2, if_pos h3, ix_nI (by omega), ix_nI (by omega)], f7, ⟨_, _, _, _, _, _, _, _, _, _, _, _, _, hM6, hok, hV⟩⟩
      · refine aw_ldc2 (v := (-3 : Int64)) d_M_rank_35 k_532 ?_
        exact aw_lret d_M_rank_38 (Nat.le_refl 0) (Nat.le_refl 0) ⟨by unfold aRank; rw [if_pos h1, if_pos h2, if_neg h3], f5, ⟨_, _, _, _, _, _, _, _, _, _, _, _, _, hM5, hok, hV⟩⟩
    · refine aw_ldc2 (v := (-2 : Int64)) d_M_rank_19 k_531 ?_
      exact aw_lret d_M_rank_22 (Nat.le_refl 0) (Nat.le_refl 0) ⟨by unfold aRank; rw [if_pos h1, if_neg (by rw [h2]; decide)], fr.rf, hO⟩
  · refine aw_ldc2 (v := (-1 : Int64)) d_M_rank_8 k_527 ?_
    exact aw_lret d_M_rank_11 (Nat.le_refl 0) (Nat.le_refl 0) ⟨by unfold aRank; rw [if_neg (by rw [h1]; decide)], fr.rf, hO⟩

set_option maxHeartbeats 4000000 in
set_option maxRecDepth 100000 in
theorem m_M_back {g : aw_G} (hg : aw_T g) {ws : va_W} {ad : Nat → Nat} {n x y : Nat} {W : Nat → Nat → Nat} {J : Nat → Nat} {v p : Int32} {q0 : Nat} {M0 L0 : Nat → Nat} {O0 : Nat → Int32} (hC : IC n (Dc n x y W J) n q0 M0 L0 O0) (hO : gMo g ws ad n x y W J) : AMet g y_M_back c_M_back 3 (some .long) 4 [.ref (ad 40), .int v, .int p] ws (qM g ad ws (.long (aBack n x y W J q0 M0 O0 v p)) n x y W J) 0 0 := by
  obtain ⟨V, Rw, Tt, q, So, Bo, fo, tw, St, Sh, ss, Nw, Th, hM, hok, hV⟩ := id hO
  have hn := hok.1
  refine amet_of (by decide +kernel) (Nat.le_of_ble_eq_true rfl) ?_
  refine aw_sub (lv' := [(0, .ref (ad 40)), (1, .int v), (2, .int p)]) [0, 1, 2] rfl ?_
  refine aw_aload_n d_M_back_0 rfl rfl ?_
  refine aw_iload_n d_M_back_1 rfl rfl ?_
  refine aw_callV (av := [.int v]) (rest := []) (m_M_isNode hg hM) kd_M_isNode k_464 k_466 ks_M_isNode rfl hM.1 d_M_back_2 rfl ⟨by decide, by decide⟩ (Nat.le_of_ble_eq_true rfl) ⟨by decide, by decide⟩ rfl (fun v2 ws2 hq2 => ?_)
  obtain ⟨rfl, rfl⟩ := hq2
  refine aw_if_neB (tgt := 12) d_M_back_5 (by decide) (fun h1 => ?_) (fun h1 => ?_)
  · refine aw_iload_n d_M_back_12 rfl rfl ?_
    refine aw_callS (av := [.int p]) (rest := []) (m_M_isPart (ad := ad) hg) kd_M_isPart k_528 k_529  d_M_back_13 rfl ⟨by decide, by decide⟩ (Nat.le_of_ble_eq_true rfl) ⟨by decide, by decide⟩ rfl (fun v2 ws2 hq2 => ?_)
    obtain ⟨rfl, rfl⟩ := hq2
    refine aw_if_neB (tgt := 23) d_M_back_16 (by decide) (fun h2 => ?_) (fun h2 => ?_)
    · obtain ⟨v1, hv1, rfl⟩ := nb_true hn h1
      obtain ⟨p1, hp1, rfl⟩ := pb_true h2
      refine aw_aload_n d_M_back_23 rfl rfl ?_
      refine aw_callV (av := []) (rest := []) (m_M_findSets hg hM hok hV) kd_M_findSets k_499 k_501 ks_M_findSets rfl hM.1 d_M_back_24 rfl ⟨by decide, by decide⟩ (Nat.le_of_ble_eq_true rfl) ⟨by decide, by decide⟩ rfl (fun v5 ws5 hq5 => ?_)
      obtain ⟨rfl, f5, Rw5, Tt5, q5, So5, Bo5, hM5, hR, hF⟩ := hq5
      obtain ⟨rfl, eB, eO⟩ := FI_IC hF (Dc_ok hn) hC
      have hq5 := IC_q hC hn
      refine aw_aload_n d_M_back_27 rfl rfl ?_
      refine aw_get kc_6 8 (by decide) k_412 d_M_back_28 hM5.1 rfl ?_
      refine aw_iload_n d_M_back_31 rfl rfl ?_
      refine aw_ialdR d_M_back_32 hM5.2.2.2.2.2.1 hg (by omega) (by decide) ?_
      refine aw_nmi (z := O0 v1) (by rw [eO v1 hv1]) ?_
      refine aw_if_ge (tgt := 40) d_M_back_33 (by decide) (fun h3 => ?_) (fun h3 => ?_)
      · have h4 := IC_ge hC hn hv1 (Int32.not_lt.mpr h3)
        obtain ⟨i, l0, hi, eOv, hl0, -, k0, eM0, hvl⟩ := IC_of (Dc_ok hn) hC hv1 h4
        obtain ⟨l, hl, l2, -, eM, -⟩ := IC_set hC hi
        have hD := Dc_ok (x := x) (y := y) (W := W) (J := J) hn
        have lc := ((ldB_iff hD hl).mp l2).1
        have hm : M0 i < 32 := by rw [eM]; exact hD.lt hl
        have hmb : ∀ k, (M0 i).testBit k = true → k < n := fun k hk => by rw [eM] at hk; exact hD.in hl hk
        have hmc : ∀ a b, a < n → (M0 i).testBit a = true → b < n → (M0 i).testBit b = false → nr n x y W J a b = 0 := fun a b _ h1 h2 h3 => by rw [eM] at h1 h3; exact Dc_cl hn hl h1 h2 h3
        have b1 := sum_le hok hm hmb
        have hvm : (Dc n x y W J l).testBit v1 = true := by rw [← eM, eM0]; exact hvl
        have b2 := shG_le hok hv1 hm hmb
        have b3 : 0 < shG n x y W J (M0 i) v1 := by rw [eM]; exact share_pos okSc (Xc_ok hn) (fun _ _ => rfl) hok hl lc hvm
        refine aw_aload_n d_M_back_40 rfl rfl ?_
        refine aw_aload_n d_M_back_41 rfl rfl ?_
        refine aw_get kc_6 9 (by decide) k_413 d_M_back_42 hM5.1 rfl ?_
        refine aw_aload_n d_M_back_45 rfl rfl ?_
        refine aw_get kc_6 8 (by decide) k_412 d_M_back_46 hM5.1 rfl ?_
        refine aw_iload_n d_M_back_49 rfl rfl ?_
        refine aw_ialdR d_M_back_50 hM5.2.2.2.2.2.1 hg (by omega) (by decide) ?_
        refine aw_nmi (z := nI i) (by rw [eO v1 hv1, eOv]) ?_
        refine aw_ialdA d_M_back_51 hM5.2.2.2.2.2.2.1 hg (by omega) (by decide) ?_
        refine aw_nmi (z := nI (M0 i)) (by rw [eB i hi]) ?_
        refine aw_callV (av := [.int (nI (M0 i))]) (rest := []) (m_M_findShares hg hM5 hok hR hm hmc) kd_M_findShares k_533 k_535 ks_M_findShares rfl hM5.1 d_M_back_52 rfl ⟨by decide, by decide⟩ (Nat.le_of_ble_eq_true rfl) ⟨by decide, by decide⟩ rfl (fun v6 ws6 hq6 => ?_)
        obtain ⟨rfl, f6, fo6, tw6, St6, Sh6, hM6, hS6⟩ := hq6
        have f7 := f5.tr f6
        refine aw_aload_n d_M_back_55 rfl rfl ?_
        refine aw_get kc_6 14 (by decide) k_418 d_M_back_56 hM6.1 rfl ?_
        refine aw_aload_n d_M_back_59 rfl rfl ?_
        refine aw_get kc_6 13 (by decide) k_417 d_M_back_60 hM6.1 rfl ?_
        refine aw_iload_n d_M_back_63 rfl rfl ?_
        refine aw_laldA d_M_back_64 hM6.2.2.2.2.2.2.2.2.1 hg (by omega) (by decide) ?_
        refine aw_nml (z := lI (shG n x y W J (M0 i) v1 : Int)) (by rw [hS6 v1 hv1]) ?_
        refine aw_iload_n d_M_back_65 rfl rfl ?_
        refine aw_callS (av := [.long (lI (sN (shG n x y W J (M0 i)) n : Int)), .long (lI (shG n x y W J (M0 i) v1 : Int)), .int (nI p1)]) (rest := []) (m_M_lowest (ad := ad) hg (by omega) (by omega) b3 hp1) kd_M_lowest k_545 k_546  d_M_back_66 rfl ⟨by decide, by decide⟩ (Nat.le_of_ble_eq_true rfl) ⟨by decide, by decide⟩ rfl (fun v8 ws8 hq8 => ?_)
        obtain ⟨rfl, rfl⟩ := hq8
        exact aw_lret d_M_back_69 (Nat.le_refl 0) (Nat.le_refl 0) ⟨by unfold aBack; rw [if_pos h1, if_pos h2, ix_nI (by omega), ix_nI (by omega), if_pos h4, eOv, ix_nI (by omega)], f7, ⟨_, _, _, _, _, _, _, _, _, _, _, _, _, hM6, hok, hV⟩⟩
      · refine aw_ldc2 (v := (-3 : Int64)) d_M_back_36 k_532 ?_
        exact aw_lret d_M_back_39 (Nat.le_refl 0) (Nat.le_refl 0) ⟨by unfold aBack; rw [if_pos h1, if_pos h2, ix_nI (by omega), if_neg (by rw [nb_neg (Int32.not_le.mp h3)]; decide)], f5, ⟨_, _, _, _, _, _, _, _, _, _, _, _, _, hM5, hok, hV⟩⟩
    · refine aw_ldc2 (v := (-2 : Int64)) d_M_back_19 k_531 ?_
      exact aw_lret d_M_back_22 (Nat.le_refl 0) (Nat.le_refl 0) ⟨by unfold aBack; rw [if_pos h1, if_neg (by rw [h2]; decide)], fr.rf, hO⟩
  · refine aw_ldc2 (v := (-1 : Int64)) d_M_back_8 k_527 ?_
    exact aw_lret d_M_back_11 (Nat.le_refl 0) (Nat.le_refl 0) ⟨by unfold aBack; rw [if_neg (by rw [h1]; decide)], fr.rf, hO⟩

set_option maxHeartbeats 4000000 in
set_option maxRecDepth 100000 in
theorem m_M_place {g : aw_G} (hg : aw_T g) {ws : va_W} {ad : Nat → Nat} {n x y : Nat} {W : Nat → Nat → Nat} {J : Nat → Nat} {k : Int32} {q0 : Nat} {M0 L0 : Nat → Nat} {O0 : Nat → Int32} (hC : IC n (Dc n x y W J) n q0 M0 L0 O0) (hO : gMo g ws ad n x y W J) : AMet g y_M_place c_M_place 5 (some .int) 4 [.ref (ad 40), .int k] ws (qM g ad ws (.int (aPlace n x y W J q0 M0 k)) n x y W J) 0 0 := by
  obtain ⟨V, Rw, Tt, q, So, Bo, fo, tw, St, Sh, ss, Nw, Th, hM, hok, hV⟩ := id hO
  have hn := hok.1
  refine amet_of (by decide +kernel) (Nat.le_of_ble_eq_true rfl) ?_
  refine aw_sub (lv' := [(0, .ref (ad 40)), (1, .int k)]) [0, 1] rfl ?_
  refine aw_aload_n d_M_place_0 rfl rfl ?_
  refine aw_iload_n d_M_place_1 rfl rfl ?_
  refine aw_callV (av := [.int k]) (rest := []) (m_M_isNode hg hM) kd_M_isNode k_464 k_466 ks_M_isNode rfl hM.1 d_M_place_2 rfl ⟨by decide, by decide⟩ (Nat.le_of_ble_eq_true rfl) ⟨by decide, by decide⟩ rfl (fun v2 ws2 hq2 => ?_)
  obtain ⟨rfl, rfl⟩ := hq2
  refine aw_if_neB (tgt := 10) d_M_place_5 (by decide) (fun h1 => ?_) (fun h1 => ?_)
  · refine aw_aload_n d_M_place_10 rfl rfl ?_
    refine aw_callV (av := []) (rest := []) (m_M_findSets hg hM hok hV) kd_M_findSets k_499 k_501 ks_M_findSets rfl hM.1 d_M_place_11 rfl ⟨by decide, by decide⟩ (Nat.le_of_ble_eq_true rfl) ⟨by decide, by decide⟩ rfl (fun v5 ws5 hq5 => ?_)
    obtain ⟨rfl, f5, Rw5, Tt5, q5, So5, Bo5, hM5, hR, hF⟩ := hq5
    obtain ⟨rfl, eB, eO⟩ := FI_IC hF (Dc_ok hn) hC
    have hq5 := IC_q hC hn
    refine aw_aload_n d_M_place_14 rfl rfl ?_
    refine aw_get kc_6 7 (by decide) k_411 d_M_place_15 hM5.1 rfl ?_
    refine aw_iconst (v := nI 1) d_M_place_18 (by decide) ?_
    refine aw_icmp_eqN (tgt := 25) d_M_place_19 (by decide) (by omega) (by omega) (fun h3 => ?_) (fun h3 => ?_)
    · obtain ⟨k1, hk1, rfl⟩ := nb_true hn h1
      obtain ⟨l, hl, l2, -, eM, -⟩ := IC_set hC (show 0 < q5 by omega)
      have hD := Dc_ok (x := x) (y := y) (W := W) (J := J) hn
      have lc := ((ldB_iff hD hl).mp l2).1
      have hm : M0 0 < 32 := by rw [eM]; exact hD.lt hl
      have hmb : ∀ k, (M0 0).testBit k = true → k < n := fun k hk => by rw [eM] at hk; exact hD.in hl hk
      have hmc : ∀ a b, a < n → (M0 0).testBit a = true → b < n → (M0 0).testBit b = false → nr n x y W J a b = 0 := fun a b _ h1 h2 h3 => by rw [eM] at h1 h3; exact Dc_cl hn hl h1 h2 h3
      have b1 := sum_le hok hm hmb
      have hb : ∀ i, i < n → shG n x y W J (M0 0) i < 2 ^ 62 := fun i hi => by have := shG_le hok hi hm hmb; omega
      have hal : ∀ v k, ahd (shG n x y W J (M0 0)) v k ≤ k := fun v k => by induction k with | zero => exact Nat.le_refl 0 | succ k ih => rw [ahd]; split <;> omega
      refine aw_aload_n d_M_place_25 rfl rfl ?_
      refine aw_aload_n d_M_place_26 rfl rfl ?_
      refine aw_get kc_6 9 (by decide) k_413 d_M_place_27 hM5.1 rfl ?_
      refine aw_iconst (v := nI 0) d_M_place_30 (by decide) ?_
      refine aw_ialdA d_M_place_31 hM5.2.2.2.2.2.2.1 hg (by omega) (by decide) ?_
      refine aw_nmi (z := nI (M0 0)) (by rw [eB 0 (by omega)]) ?_
      refine aw_callV (av := [.int (nI (M0 0))]) (rest := []) (m_M_findShares hg hM5 hok hR hm hmc) kd_M_findShares k_533 k_535 ks_M_findShares rfl hM5.1 d_M_place_32 rfl ⟨by decide, by decide⟩ (Nat.le_of_ble_eq_true rfl) ⟨by decide, by decide⟩ rfl (fun v6 ws6 hq6 => ?_)
      obtain ⟨rfl, f6, fo6, tw6, St6, Sh6, hM6, hS6⟩ := hq6
      have f7 := f5.tr f6
      refine aw_iconst (v := nI 0) d_M_place_35 (by decide) ?_
      refine aw_istore_n (lv' := [(2, .int (nI 0)), (0, .ref (ad 40)), (1, .int (nI k1))]) d_M_place_36 rfl (by decide) rfl ?_
      have lp : ∀ (k : Nat) (v : Nat), v ≤ n → fnd (shG n x y W J (M0 0)) n k1 (n - v) v = fnd (shG n x y W J (M0 0)) n k1 n 0 → n - v < k → AW g y_M_place c_M_place 5 (some .int) (aw_rm 4 0 0) aw_E0 (aw_F g (qM g ad ws (.int (aPlace n x y W J q5 M0 (nI k1))) n x y W J) 0 0) 0 0 37 [(0, .ref (ad 40)), (1, .int (nI k1)), (2, .int (nI v))] [] ws6 := by
        intro k
        induction k with
        | zero => intro v hv0 he hk; omega
        | succ k ih =>
          intro v hv0 he hk
          refine aw_iload_n d_M_place_37 rfl rfl ?_
          refine aw_aload_n d_M_place_38 rfl rfl ?_
          refine aw_get kc_6 0 (by decide) k_404 d_M_place_39 hM6.1 rfl ?_
          refine aw_icmp_geN (tgt := 126) d_M_place_42 (by decide) (by omega) (by omega) (fun hv => ?_) (fun hv => ?_)
          · have e : n = v := by omega
            subst e
            rw [Nat.sub_self] at he
            refine aw_iconst (v := -1) d_M_place_126 (by decide) ?_
            exact aw_iret d_M_place_127 (Nat.le_refl 0) (Nat.le_refl 0) ⟨by unfold aPlace; rw [if_pos h1, if_pos h3, ix_nI (by omega), ← he]; rfl, f7, ⟨_, _, _, _, _, _, _, _, _, _, _, _, _, hM6, hok, hV⟩⟩
          · have ihV := ih
            have hvb := hb v hv
            have li : ∀ (k : Nat) (i : Nat), i ≤ n → n - i < k → AW g y_M_place c_M_place 5 (some .int) (aw_rm 4 0 0) aw_E0 (aw_F g (qM g ad ws (.int (aPlace n x y W J q5 M0 (nI k1))) n x y W J) 0 0) 0 0 50 [(0, .ref (ad 40)), (1, .int (nI k1)), (2, .int (nI v)), (3, .int (nI (ahd (shG n x y W J (M0 0)) v i))), (4, .int (nI i))] [] ws6 := by
              intro k
              induction k with
              | zero => intro i hi0 hk2; omega
              | succ k ih =>
                intro i hi0 hk2
                refine aw_iload d_M_place_50 rfl ?_
                refine aw_aload_n d_M_place_52 rfl rfl ?_
                refine aw_get kc_6 0 (by decide) k_404 d_M_place_53 hM6.1 rfl ?_
                refine aw_icmp_geN (tgt := 113) d_M_place_56 (by decide) (by omega) (by omega) (fun hi => ?_) (fun hi => ?_)
                · have e : n = i := by omega
                  subst e
                  have ha := hal v n
                  rw [show n - v = (n - (v + 1)) + 1 by omega, fnd] at he
                  refine aw_iload_n d_M_place_113 rfl rfl ?_
                  refine aw_iload_n d_M_place_114 rfl rfl ?_
                  refine aw_icmp_neN (tgt := 120) d_M_place_115 (by decide) (by omega) (by omega) (fun h6 => ?_) (fun h6 => ?_)
                  · rw [if_neg h6] at he
                    refine aw_iinc1 (lv' := [(2, .int (nI (v + 1))), (0, .ref (ad 40)), (1, .int (nI k1)), (3, .int (nI (ahd (shG n x y W J (M0 0)) v n))), (4, .int (nI n))]) d_M_place_120 rfl (by decide) rfl ?_
                    refine aw_goto (tgt := 37) d_M_place_123 (by decide) ?_
                    refine aw_sub (lv' := [(0, .ref (ad 40)), (1, .int (nI k1)), (2, .int (nI (v + 1)))]) [1, 2, 0] rfl ?_
                    exact ihV (v + 1) (by omega) he (by omega)
                  · rw [if_pos h6] at he
                    refine aw_iload_n d_M_place_118 rfl rfl ?_
                    exact aw_iret d_M_place_119 (Nat.le_refl 0) (Nat.le_refl 0) ⟨by unfold aPlace; rw [if_pos h1, if_pos h3, ix_nI (by omega), ← he], f7, ⟨_, _, _, _, _, _, _, _, _, _, _, _, _, hM6, hok, hV⟩⟩
                · have hib := hb i hi
                  refine aw_iload_n d_M_place_59 rfl rfl ?_
                  refine aw_aload_n d_M_place_60 rfl rfl ?_
                  refine aw_get kc_6 13 (by decide) k_417 d_M_place_61 hM6.1 rfl ?_
                  refine aw_iload d_M_place_64 rfl ?_
                  refine aw_laldA d_M_place_66 hM6.2.2.2.2.2.2.2.2.1 hg (by omega) (by decide) ?_
                  refine aw_nml (z := lI (shG n x y W J (M0 0) i : Int)) (by rw [hS6 i hi]) ?_
                  refine aw_aload_n d_M_place_67 rfl rfl ?_
                  refine aw_get kc_6 13 (by decide) k_417 d_M_place_68 hM6.1 rfl ?_
                  refine aw_iload_n d_M_place_71 rfl rfl ?_
                  refine aw_laldA d_M_place_72 hM6.2.2.2.2.2.2.2.2.1 hg (by omega) (by decide) ?_
                  refine aw_nml (z := lI (shG n x y W J (M0 0) v : Int)) (by rw [hS6 v hv]) ?_
                  refine aw_lcmpI d_M_place_73 (by omega) (by omega) (by omega) (by omega) ?_
                  refine aw_if_gtC (tgt := 100) d_M_place_74 (by decide) (fun h6 => ?_) (fun h6 => ?_)
                  · refine aw_iconst (v := nI 1) d_M_place_100 (by decide) ?_
                    refine aw_goto (tgt := 105) d_M_place_101 (by decide) ?_
                    refine aw_iaddN d_M_place_105 ?_
                    refine aw_nmi (z := nI (ahd (shG n x y W J (M0 0)) v (i + 1))) (by rw [ahd, if_pos (Or.inl (by omega))]) ?_
                    refine aw_istore_n (lv' := [(3, .int (nI (ahd (shG n x y W J (M0 0)) v (i + 1)))), (0, .ref (ad 40)), (1, .int (nI k1)), (2, .int (nI v)), (4, .int (nI i))]) d_M_place_106 rfl (by decide) rfl ?_
                    refine aw_iinc1 (lv' := [(4, .int (nI (i + 1))), (3, .int (nI (ahd (shG n x y W J (M0 0)) v (i + 1)))), (0, .ref (ad 40)), (1, .int (nI k1)), (2, .int (nI v))]) d_M_place_107 rfl (by decide) rfl ?_
                    refine aw_goto (tgt := 50) d_M_place_110 (by decide) ?_
                    refine aw_sub (lv' := [(0, .ref (ad 40)), (1, .int (nI k1)), (2, .int (nI v)), (3, .int (nI (ahd (shG n x y W J (M0 0)) v (i + 1)))), (4, .int (nI (i + 1)))]) [2, 3, 4, 1, 0] rfl ?_
                    exact ih (i + 1) (by omega) (by omega)
                  · refine aw_aload_n d_M_place_77 rfl rfl ?_
                    refine aw_get kc_6 13 (by decide) k_417 d_M_place_78 hM6.1 rfl ?_
                    refine aw_iload d_M_place_81 rfl ?_
                    refine aw_laldA d_M_place_83 hM6.2.2.2.2.2.2.2.2.1 hg (by omega) (by decide) ?_
                    refine aw_nml (z := lI (shG n x y W J (M0 0) i : Int)) (by rw [hS6 i hi]) ?_
                    refine aw_aload_n d_M_place_84 rfl rfl ?_
                    refine aw_get kc_6 13 (by decide) k_417 d_M_place_85 hM6.1 rfl ?_
                    refine aw_iload_n d_M_place_88 rfl rfl ?_
                    refine aw_laldA d_M_place_89 hM6.2.2.2.2.2.2.2.2.1 hg (by omega) (by decide) ?_
                    refine aw_nml (z := lI (shG n x y W J (M0 0) v : Int)) (by rw [hS6 v hv]) ?_
                    refine aw_lcmpI d_M_place_90 (by omega) (by omega) (by omega) (by omega) ?_
                    refine aw_if_neC (tgt := 104) d_M_place_91 (by decide) (fun h7 => ?_) (fun h7 => ?_)
                    · refine aw_iconst (v := nI 0) d_M_place_104 (by decide) ?_
                      refine aw_iaddN d_M_place_105 ?_
                      refine aw_nmi (z := nI (ahd (shG n x y W J (M0 0)) v (i + 1))) (by rw [ahd, if_neg (by omega)]) ?_
                      refine aw_istore_n (lv' := [(3, .int (nI (ahd (shG n x y W J (M0 0)) v (i + 1)))), (0, .ref (ad 40)), (1, .int (nI k1)), (2, .int (nI v)), (4, .int (nI i))]) d_M_place_106 rfl (by decide) rfl ?_
                      refine aw_iinc1 (lv' := [(4, .int (nI (i + 1))), (3, .int (nI (ahd (shG n x y W J (M0 0)) v (i + 1)))), (0, .ref (ad 40)), (1, .int (nI k1)), (2, .int (nI v))]) d_M_place_107 rfl (by decide) rfl ?_
                      refine aw_goto (tgt := 50) d_M_place_110 (by decide) ?_
                      refine aw_sub (lv' := [(0, .ref (ad 40)), (1, .int (nI k1)), (2, .int (nI v)), (3, .int (nI (ahd (shG n x y W J (M0 0)) v (i + 1)))), (4, .int (nI (i + 1)))]) [2, 3, 4, 1, 0] rfl ?_
                      exact ih (i + 1) (by omega) (by omega)
                    · refine aw_iload d_M_place_94 rfl ?_
                      refine aw_iload_n d_M_place_96 rfl rfl ?_
                      refine aw_icmp_geN (tgt := 104) d_M_place_97 (by decide) (by omega) (by omega) (fun h8 => ?_) (fun h8 => ?_)
                      · refine aw_iconst (v := nI 0) d_M_place_104 (by decide) ?_
                        refine aw_iaddN d_M_place_105 ?_
                        refine aw_nmi (z := nI (ahd (shG n x y W J (M0 0)) v (i + 1))) (by rw [ahd, if_neg (by omega)]) ?_
                        refine aw_istore_n (lv' := [(3, .int (nI (ahd (shG n x y W J (M0 0)) v (i + 1)))), (0, .ref (ad 40)), (1, .int (nI k1)), (2, .int (nI v)), (4, .int (nI i))]) d_M_place_106 rfl (by decide) rfl ?_
                        refine aw_iinc1 (lv' := [(4, .int (nI (i + 1))), (3, .int (nI (ahd (shG n x y W J (M0 0)) v (i + 1)))), (0, .ref (ad 40)), (1, .int (nI k1)), (2, .int (nI v))]) d_M_place_107 rfl (by decide) rfl ?_
                        refine aw_goto (tgt := 50) d_M_place_110 (by decide) ?_
                        refine aw_sub (lv' := [(0, .ref (ad 40)), (1, .int (nI k1)), (2, .int (nI v)), (3, .int (nI (ahd (shG n x y W J (M0 0)) v (i + 1)))), (4, .int (nI (i + 1)))]) [2, 3, 4, 1, 0] rfl ?_
                        exact ih (i + 1) (by omega) (by omega)
                      · refine aw_iconst (v := nI 1) d_M_place_100 (by decide) ?_
                        refine aw_goto (tgt := 105) d_M_place_101 (by decide) ?_
                        refine aw_iaddN d_M_place_105 ?_
                        refine aw_nmi (z := nI (ahd (shG n x y W J (M0 0)) v (i + 1))) (by rw [ahd, if_pos (by omega)]) ?_
                        refine aw_istore_n (lv' := [(3, .int (nI (ahd (shG n x y W J (M0 0)) v (i + 1)))), (0, .ref (ad 40)), (1, .int (nI k1)), (2, .int (nI v)), (4, .int (nI i))]) d_M_place_106 rfl (by decide) rfl ?_
                        refine aw_iinc1 (lv' := [(4, .int (nI (i + 1))), (3, .int (nI (ahd (shG n x y W J (M0 0)) v (i + 1)))), (0, .ref (ad 40)), (1, .int (nI k1)), (2, .int (nI v))]) d_M_place_107 rfl (by decide) rfl ?_
                        refine aw_goto (tgt := 50) d_M_place_110 (by decide) ?_
                        refine aw_sub (lv' := [(0, .ref (ad 40)), (1, .int (nI k1)), (2, .int (nI v)), (3, .int (nI (ahd (shG n x y W J (M0 0)) v (i + 1)))), (4, .int (nI (i + 1)))]) [2, 3, 4, 1, 0] rfl ?_
                        exact ih (i + 1) (by omega) (by omega)
            refine aw_iconst (v := nI 0) d_M_place_45 (by decide) ?_
            refine aw_nmi (z := nI (ahd (shG n x y W J (M0 0)) v 0)) rfl ?_
            refine aw_istore_n (lv' := [(3, .int (nI (ahd (shG n x y W J (M0 0)) v 0))), (0, .ref (ad 40)), (1, .int (nI k1)), (2, .int (nI v))]) d_M_place_46 rfl (by decide) rfl ?_
            refine aw_iconst (v := nI 0) d_M_place_47 (by decide) ?_
            refine aw_istore (lv' := [(4, .int (nI 0)), (3, .int (nI (ahd (shG n x y W J (M0 0)) v 0))), (0, .ref (ad 40)), (1, .int (nI k1)), (2, .int (nI v))]) d_M_place_48 (by decide) rfl ?_
            refine aw_sub (lv' := [(0, .ref (ad 40)), (1, .int (nI k1)), (2, .int (nI v)), (3, .int (nI (ahd (shG n x y W J (M0 0)) v 0))), (4, .int (nI 0))]) [2, 3, 4, 1, 0] rfl ?_
            exact li (n + 1) 0 (by omega) (by omega)
      refine aw_sub (lv' := [(0, .ref (ad 40)), (1, .int (nI k1)), (2, .int (nI 0))]) [1, 2, 0] rfl ?_
      exact lp (n + 1) 0 (by omega) rfl (by omega)
    · refine aw_bipush (v := -3) d_M_place_22 (by decide) ?_
      exact aw_iret d_M_place_24 (Nat.le_refl 0) (Nat.le_refl 0) ⟨by unfold aPlace; rw [if_pos h1, if_neg h3], f5, ⟨_, _, _, _, _, _, _, _, _, _, _, _, _, hM5, hok, hV⟩⟩
  · refine aw_iconst (v := -1) d_M_place_8 (by decide) ?_
    exact aw_iret d_M_place_9 (Nat.le_refl 0) (Nat.le_refl 0) ⟨by unfold aPlace; rw [if_neg (by rw [h1]; decide)], fr.rf, hO⟩
