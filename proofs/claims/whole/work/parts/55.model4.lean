-- laid by wip/whole/m16.py
def FK (n : Nat) (D : Nat → Nat) (v q : Nat) (Bo : Nat → Nat) (l : Nat) : Prop := q = cntB (ldB D n) (v + 1) ∧ (∀ l, l < v + 1 → ldB D n l = true → Bo (cntB (ldB D n) l) = D l) ∧ l ≤ v ∧ ldB D n l = true ∧ D l = D v ∧ cntB (ldB D n) l < q ∧ ∀ j, j < q → (Bo j = D v ↔ j = cntB (ldB D n) l)
theorem FK_q {n : Nat} {D : Nat → Nat} {v q l : Nat} {Bo : Nat → Nat} (h : FK n D v q Bo l) : q ≤ v + 1 := by
  have := cntB_le (ldB D n) (v + 1)
  have := h.1
  omega
theorem FK_lt {n : Nat} {D : Nat → Nat} {v q l : Nat} {Bo : Nat → Nat} (h : FK n D v q Bo l) (hD : okD n D) (hv : v < n) {j : Nat} (hj : j < q) : Bo j < 32 := by
  rw [h.1] at hj
  obtain ⟨l', k1, k2, k3⟩ := cntB_ex _ hj
  rw [← k3, h.2.1 l' k1 k2]
  exact hD.lt (by omega)
theorem FK_ne {n : Nat} {D : Nat → Nat} {v q l : Nat} {Bo : Nat → Nat} (h : FK n D v q Bo l) {j : Nat} (hj : j < q) (e : ¬ Bo j = D v) {z : Int32} (s : z = if cntB (ldB D n) l < j then nI (cntB (ldB D n) l) else -3) : z = if cntB (ldB D n) l < j + 1 then nI (cntB (ldB D n) l) else -3 := by
  have : ¬ j = cntB (ldB D n) l := fun q => e ((h.2.2.2.2.2.2 j hj).mpr q)
  rw [s]
  exact ite_iff (by omega)
theorem FK_eq {n : Nat} {D : Nat → Nat} {v q l : Nat} {Bo : Nat → Nat} (h : FK n D v q Bo l) {j : Nat} (hj : j < q) (e : Bo j = D v) : nI j = if cntB (ldB D n) l < j + 1 then nI (cntB (ldB D n) l) else -3 := by
  have := (h.2.2.2.2.2.2 j hj).mp e
  rw [if_pos (by omega), ← this]
theorem ld_of {n : Nat} {D : Nat → Nat} {v : Nat} (hc : clB D n v = true) (h : D v &&& (2 ^ v - 1) = 0) : ldB D n v = true := by unfold ldB; rw [hc, h]; rfl
theorem ld_not {n : Nat} {D : Nat → Nat} {v : Nat} (h : ¬ D v &&& (2 ^ v - 1) = 0) : ldB D n v = false := by unfold ldB; rw [decide_eq_false h]; simp

def qSets (g : aw_G) (ad : Nat → Nat) (ws : va_W) (W : Nat → Nat → Nat) (n : Nat) (x : Nat) (y : Nat) (V : Nat → Nat) (J : Nat → Nat) (fo : Int) (tw : Int) (St : Nat → Nat) (Sh : Nat → Int) (ss : Int) (Nw : Nat → Int) (Th : Nat → Int) : Option Value → va_W → Prop := fun r ws' => r = none ∧ fr 40 51 ws ws' ∧ ∃ (Rw Tt : Nat → Nat) (q : Nat) (So : Nat → Int32) (Bo : Nat → Nat), gM g ws' ad n x y V J Rw Tt q So Bo fo tw St Sh ss Nw Th ∧ rwOk n x y W J Rw Tt ∧ FI n (Dc n x y W J) n q Bo So

set_option maxHeartbeats 4000000 in
set_option maxRecDepth 100000 in
theorem m_M_findSets {g : aw_G} (hg : aw_T g) {ws : va_W} {ad : Nat → Nat} {n : Nat} {x : Nat} {y : Nat} {V : Nat → Nat} {J : Nat → Nat} {Rw : Nat → Nat} {Tt : Nat → Nat} {q : Nat} {So : Nat → Int32} {Bo : Nat → Nat} {fo : Int} {tw : Int} {St : Nat → Nat} {Sh : Nat → Int} {ss : Int} {Nw : Nat → Int} {Th : Nat → Int} {W : Nat → Nat → Nat} (hM : gM g ws ad n x y V J Rw Tt q So Bo fo tw St Sh ss Nw Th) (hok : okG n x y W J) (hV : vw V W) : AMet g y_M_findSets c_M_findSets 4 none 3 [.ref (ad 40)] ws (qSets g ad ws W n x y V J fo tw St Sh ss Nw Th) 0 0 := by
  have hn := hok.1
  have hX : okX n (Xc n x y W J) := Xc_ok hn
  have hD : okD n (Dc n x y W J) := Dc_ok hn
  refine amet_of (by decide +kernel) (Nat.le_of_ble_eq_true rfl) ?_
  refine aw_sub (lv' := [(0, .ref (ad 40))]) [0] rfl ?_
  refine aw_aload_n d_M_findSets_0 rfl rfl ?_
  refine aw_callV (av := []) (rest := []) (m_M_findRows hg hM hok hV) kd_M_findRows k_484 k_486 ks_M_findRows rfl hM.1 d_M_findSets_1 rfl ⟨by decide, by decide⟩ (Nat.le_of_ble_eq_true rfl) ⟨by decide, by decide⟩ rfl (fun v5 ws5 hq5 => ?_)
  obtain ⟨rfl, f5, Rw5, Tt5, hM5, hR⟩ := hq5
  refine aw_aload_n d_M_findSets_4 rfl rfl ?_
  refine aw_iconst (v := nI 0) d_M_findSets_5 (by decide) ?_
  refine aw_putN kc_6 7 (by decide) k_411 d_M_findSets_6 hM5.1 rfl rfl rfl (Nat.le_of_ble_eq_true rfl) (fun zws1 za2 zb3 zc4 => ?_)
  have zf5 : zws1[40]? = some (ad 40, .inr (6, [.int (nI n), .ref (ad 41), .ref (ad 42), .int (nI x), .int (nI y), .ref (ad 43), .ref (ad 44), .int (nI 0), .ref (ad 45), .ref (ad 46), .long (lI fo), .long (lI tw), .ref (ad 47), .ref (ad 48), .long (lI ss), .ref (ad 49), .ref (ad 50)])) := za2
  have hM6 := hM5.p40 (n' := n) (x' := x) (y' := y) (q' := 0) (fo' := fo) (tw' := tw) (ss' := ss) za2 zb3
  have f6 := f5.tr (fr.one (lo := 40) (hi := 51) zb3 zc4 (by omega) (by omega))
  refine aw_iconst (v := nI 0) d_M_findSets_9 (by decide) ?_
  refine aw_istore_n (lv' := [(1, .int (nI 0)), (0, .ref (ad 40))]) d_M_findSets_10 rfl (by decide) rfl ?_
  have lV : ∀ (k : Nat) (ws1 : va_W) (q1 : Nat) (So1 : Nat → Int32) (Bo1 : Nat → Nat) (v : Nat), gM g ws1 ad n x y V J Rw5 Tt5 q1 So1 Bo1 fo tw St Sh ss Nw Th → fr 40 51 ws ws1 → v ≤ n → FI n (Dc n x y W J) v q1 Bo1 So1 → n - v < k → AW g y_M_findSets c_M_findSets 4 none (aw_rm 3 0 0) aw_E0 (aw_F g (qSets g ad ws W n x y V J fo tw St Sh ss Nw Th) 0 0) 0 0 11 [(0, .ref (ad 40)), (1, .int (nI v))] [] ws1 := by
    intro k
    induction k with
    | zero => intro ws1 q1 So1 Bo1 v hM1 f1 hv0 hF hk; omega
    | succ k ih =>
      intro ws1 q1 So1 Bo1 v hM1 f1 hv0 hF hk
      refine aw_iload_n d_M_findSets_11 rfl rfl ?_
      refine aw_aload_n d_M_findSets_12 rfl rfl ?_
      refine aw_get kc_6 0 (by decide) k_404 d_M_findSets_13 hM1.1 rfl ?_
      refine aw_icmp_geN (tgt := 123) d_M_findSets_16 (by decide) (by omega) (by omega) (fun hv => ?_) (fun hv => ?_)
      · have e : n = v := by omega
        subst e
        exact aw_vret d_M_findSets_123 (Nat.le_refl 0) (Nat.le_refl 0) ⟨rfl, f1, Rw5, Tt5, q1, So1, Bo1, hM1, hR, hF⟩
      · have ihV := ih
        have cq : q1 ≤ v := by have := hF.1; have := cntB_le (ldB (Dc n x y W J) n) v; omega
        have hp : 1 ≤ 2 ^ v := Nat.one_le_two_pow
        have d32 : Dc n x y W J v < 32 := hD.lt hv
        have lK : ∀ (k : Nat) (ws2 : va_W) (q2 : Nat) (So2 : Nat → Int32) (Bo2 : Nat → Nat) (l j : Nat), gM g ws2 ad n x y V J Rw5 Tt5 q2 So2 Bo2 fo tw St Sh ss Nw Th → fr 40 51 ws ws2 → FK n (Dc n x y W J) v q2 Bo2 l → j ≤ q2 → So2 v = (if cntB (ldB (Dc n x y W J) n) l < j then nI (cntB (ldB (Dc n x y W J) n) l) else -3) → (∀ w, w < v → So2 w = So1 w) → q2 - j < k → AW g y_M_findSets c_M_findSets 4 none (aw_rm 3 0 0) aw_E0 (aw_F g (qSets g ad ws W n x y V J fo tw St Sh ss Nw Th) 0 0) 0 0 77 [(0, .ref (ad 40)), (1, .int (nI v)), (2, .int (nI (Dc n x y W J v))), (3, .int (nI j))] [] ws2 := by
          intro k
          induction k with
          | zero => intro ws2 q2 So2 Bo2 l j hM2 f2 hK hj0 hs hs2 hk2; omega
          | succ k ih =>
            intro ws2 q2 So2 Bo2 l j hM2 f2 hK hj0 hs hs2 hk2
            have q5 := FK_q hK
            refine aw_iload_n d_M_findSets_77 rfl rfl ?_
            refine aw_aload_n d_M_findSets_78 rfl rfl ?_
            refine aw_get kc_6 7 (by decide) k_411 d_M_findSets_79 hM2.1 rfl ?_
            refine aw_icmp_geN (tgt := 117) d_M_findSets_82 (by decide) (by omega) (by omega) (fun hj => ?_) (fun hj => ?_)
            · refine aw_iinc1 (lv' := [(1, .int (nI (v + 1))), (0, .ref (ad 40)), (2, .int (nI (Dc n x y W J v))), (3, .int (nI j))]) d_M_findSets_117 rfl (by decide) rfl ?_
              refine aw_goto (tgt := 11) d_M_findSets_120 (by decide) ?_
              have hcl := hK.2.2.2.2.2.1
              rw [if_pos (by omega)] at hs
              refine aw_sub (lv' := [(0, .ref (ad 40)), (1, .int (nI (v + 1)))]) [1, 0] rfl ?_
              exact ihV ws2 q2 So2 Bo2 (v + 1) hM2 f2 (by omega) (FI_yes hF hD hv hK.1 hK.2.1 hK.2.2.1 hK.2.2.2.1 hK.2.2.2.2.1 hs hs2) (by omega)
            · have b32 := FK_lt hK hD hv hj
              refine aw_aload_n d_M_findSets_85 rfl rfl ?_
              refine aw_get kc_6 8 (by decide) k_412 d_M_findSets_86 hM2.1 rfl ?_
              refine aw_iload_n d_M_findSets_89 rfl rfl ?_
              refine aw_aload_n d_M_findSets_90 rfl rfl ?_
              refine aw_get kc_6 9 (by decide) k_413 d_M_findSets_91 hM2.1 rfl ?_
              refine aw_iload_n d_M_findSets_94 rfl rfl ?_
              refine aw_ialdA d_M_findSets_95 hM2.2.2.2.2.2.2.1 hg (by omega) (by decide) ?_
              refine aw_iload_n d_M_findSets_96 rfl rfl ?_
              refine aw_icmp_neN (tgt := 104) d_M_findSets_97 (by decide) (by omega) (by omega) (fun h3 => ?_) (fun h3 => ?_)
              · refine aw_aload_n d_M_findSets_104 rfl rfl ?_
                refine aw_get kc_6 8 (by decide) k_412 d_M_findSets_105 hM2.1 rfl ?_
                refine aw_iload_n d_M_findSets_108 rfl rfl ?_
                refine aw_ialdR d_M_findSets_109 hM2.2.2.2.2.2.1 hg (by omega) (by decide) ?_
                refine aw_iastR d_M_findSets_110 hM2.2.2.2.2.2.1 hg (by omega) (by decide) (fun zws6 za7 zb8 zc9 => ?_)
                have hM3 := hM2.p45  za7 zb8
                have f3 := f2.tr (fr.one (lo := 40) (hi := 51) zb8 zc9 (by omega) (by omega))
                refine aw_iinc1 (lv' := [(3, .int (nI (j + 1))), (0, .ref (ad 40)), (1, .int (nI v)), (2, .int (nI (Dc n x y W J v)))]) d_M_findSets_111 rfl (by decide) rfl ?_
                refine aw_goto (tgt := 77) d_M_findSets_114 (by decide) ?_
                refine aw_sub (lv' := [(0, .ref (ad 40)), (1, .int (nI v)), (2, .int (nI (Dc n x y W J v))), (3, .int (nI (j + 1)))]) [1, 2, 3, 0] rfl ?_
                exact ih _ q2 _ Bo2 l (j + 1) hM3 f3 hK (by omega) (by rw [fup_at]; exact FK_ne hK hj h3 hs) (fun w hw => by rw [fup_ne (by omega)]; exact hs2 w hw) (by omega)
              · refine aw_iload_n d_M_findSets_100 rfl rfl ?_
                refine aw_goto (tgt := 110) d_M_findSets_101 (by decide) ?_
                refine aw_iastR d_M_findSets_110 hM2.2.2.2.2.2.1 hg (by omega) (by decide) (fun zws10 za11 zb12 zc13 => ?_)
                have hM3 := hM2.p45  za11 zb12
                have f3 := f2.tr (fr.one (lo := 40) (hi := 51) zb12 zc13 (by omega) (by omega))
                refine aw_iinc1 (lv' := [(3, .int (nI (j + 1))), (0, .ref (ad 40)), (1, .int (nI v)), (2, .int (nI (Dc n x y W J v)))]) d_M_findSets_111 rfl (by decide) rfl ?_
                refine aw_goto (tgt := 77) d_M_findSets_114 (by decide) ?_
                refine aw_sub (lv' := [(0, .ref (ad 40)), (1, .int (nI v)), (2, .int (nI (Dc n x y W J v))), (3, .int (nI (j + 1)))]) [1, 2, 3, 0] rfl ?_
                exact ih _ q2 _ Bo2 l (j + 1) hM3 f3 hK (by omega) (by rw [fup_at]; exact FK_eq hK hj h3) (fun w hw => by rw [fup_ne (by omega)]; exact hs2 w hw) (by omega)
        refine aw_aload_n d_M_findSets_19 rfl rfl ?_
        refine aw_get kc_6 8 (by decide) k_412 d_M_findSets_20 hM1.1 rfl ?_
        refine aw_iload_n d_M_findSets_23 rfl rfl ?_
        refine aw_bipush (v := -3) d_M_findSets_24 (by decide) ?_
        refine aw_iastR d_M_findSets_26 hM1.2.2.2.2.2.1 hg (by omega) (by decide) (fun zws14 za15 zb16 zc17 => ?_)
        have hM2 := hM1.p45  za15 zb16
        have f2 := f1.tr (fr.one (lo := 40) (hi := 51) zb16 zc17 (by omega) (by omega))
        refine aw_aload_n d_M_findSets_27 rfl rfl ?_
        refine aw_iload_n d_M_findSets_28 rfl rfl ?_
        refine aw_callV (av := [.int (nI v)]) (rest := []) (m_M_isClosed hg hM2 hok hR hv) kd_M_isClosed k_503 k_505 ks_M_isClosed rfl ((zb16 40 (by omega)).trans hM1.1) d_M_findSets_29 rfl ⟨by decide, by decide⟩ (Nat.le_of_ble_eq_true rfl) ⟨by decide, by decide⟩ rfl (fun v3 ws3 hq3 => ?_)
        obtain ⟨rfl, rfl⟩ := hq3
        refine aw_if_neB (tgt := 38) d_M_findSets_32 (by decide) (fun h2 => ?_) (fun h2 => ?_)
        · refine aw_aload_n d_M_findSets_38 rfl rfl ?_
          refine aw_iload_n d_M_findSets_39 rfl rfl ?_
          refine aw_iconst (v := -1) d_M_findSets_40 (by decide) ?_
          refine aw_callV (av := [.int (nI v), .int (-1)]) (rest := []) (m_M_reached hg hM2 hok hR hv) kd_M_reached k_507 k_509 ks_M_reached rfl ((zb16 40 (by omega)).trans hM1.1) d_M_findSets_41 rfl ⟨by decide, by decide⟩ (Nat.le_of_ble_eq_true rfl) ⟨by decide, by decide⟩ rfl (fun v4 ws4 hq4 => ?_)
          obtain ⟨rfl, S, rfl, hS⟩ := hq4
          have eS : S = Dc n x y W J v := rcs_D hS hX hv
          subst eS
          refine aw_istore_n (lv' := [(2, .int (nI (Dc n x y W J v))), (0, .ref (ad 40)), (1, .int (nI v))]) d_M_findSets_44 rfl (by decide) rfl ?_
          refine aw_iload_n d_M_findSets_45 rfl rfl ?_
          refine aw_iconst (v := nI 1) d_M_findSets_46 (by decide) ?_
          refine aw_iload_n d_M_findSets_47 rfl rfl ?_
          refine aw_ishl d_M_findSets_48 ?_
          refine aw_nmi (z := nI (2 ^ v)) (sl_eq v (by omega)) ?_
          refine aw_iconst (v := nI 1) d_M_findSets_49 (by decide) ?_
          refine aw_isubN d_M_findSets_50 (by omega) ?_
          refine aw_iandN d_M_findSets_51 ?_
          refine aw_if_neN (tgt := 75) d_M_findSets_52 (by decide) (Nat.lt_of_le_of_lt Nat.and_le_left (by omega)) (fun h3 => ?_) (fun h3 => ?_)
          · obtain ⟨e1, e2, l, e3⟩ := FI_cnt hF hD hv h2 (Or.inr ⟨ld_not h3, rfl, rfl⟩)
            refine aw_iconst (v := nI 0) d_M_findSets_75 (by decide) ?_
            refine aw_istore_n (lv' := [(3, .int (nI 0)), (2, .int (nI (Dc n x y W J v))), (0, .ref (ad 40)), (1, .int (nI v))]) d_M_findSets_76 rfl (by decide) rfl ?_
            refine aw_sub (lv' := [(0, .ref (ad 40)), (1, .int (nI v)), (2, .int (nI (Dc n x y W J v))), (3, .int (nI 0))]) [2, 3, 1, 0] rfl ?_
            exact lK (q1 + 1) _ q1 _ Bo1 l 0 hM2 f2 ⟨e1, e2, e3⟩ (by omega) (by rw [fup_at, if_neg (by omega)]) (fun w hw => by rw [fup_ne (by omega)]) (by omega)
          · obtain ⟨e1, e2, l, e3⟩ := FI_cnt hF hD hv h2 (Or.inl ⟨ld_of h2 h3, rfl, rfl⟩)
            refine aw_aload_n d_M_findSets_55 rfl rfl ?_
            refine aw_get kc_6 9 (by decide) k_413 d_M_findSets_56 ((zb16 40 (by omega)).trans hM1.1) rfl ?_
            refine aw_aload_n d_M_findSets_59 rfl rfl ?_
            refine aw_get kc_6 7 (by decide) k_411 d_M_findSets_60 ((zb16 40 (by omega)).trans hM1.1) rfl ?_
            refine aw_iload_n d_M_findSets_63 rfl rfl ?_
            refine aw_iastA d_M_findSets_64 ((zb16 46 (by omega)).trans hM1.2.2.2.2.2.2.1) hg (by omega) (by decide) (fun zws18 za19 zb20 zc21 => ?_)
            have hM3 := hM2.p46  za19 zb20
            have f3 := f2.tr (fr.one (lo := 40) (hi := 51) zb20 zc21 (by omega) (by omega))
            refine aw_aload_n d_M_findSets_65 rfl rfl ?_
            refine aw_dup d_M_findSets_66 rfl ?_
            refine aw_get kc_6 7 (by decide) k_411 d_M_findSets_67 ((zb20 40 (by omega)).trans ((zb16 40 (by omega)).trans hM1.1)) rfl ?_
            refine aw_iconst (v := nI 1) d_M_findSets_70 (by decide) ?_
            refine aw_iaddN d_M_findSets_71 ?_
            refine aw_putN kc_6 7 (by decide) k_411 d_M_findSets_72 ((zb20 40 (by omega)).trans ((zb16 40 (by omega)).trans hM1.1)) rfl rfl rfl (Nat.le_of_ble_eq_true rfl) (fun zws22 za23 zb24 zc25 => ?_)
            have zf26 : zws22[40]? = some (ad 40, .inr (6, [.int (nI n), .ref (ad 41), .ref (ad 42), .int (nI x), .int (nI y), .ref (ad 43), .ref (ad 44), .int (nI (q1 + 1)), .ref (ad 45), .ref (ad 46), .long (lI fo), .long (lI tw), .ref (ad 47), .ref (ad 48), .long (lI ss), .ref (ad 49), .ref (ad 50)])) := za23
            have hM4 := hM3.p40 (n' := n) (x' := x) (y' := y) (q' := q1 + 1) (fo' := fo) (tw' := tw) (ss' := ss) za23 zb24
            have f4 := f3.tr (fr.one (lo := 40) (hi := 51) zb24 zc25 (by omega) (by omega))
            refine aw_iconst (v := nI 0) d_M_findSets_75 (by decide) ?_
            refine aw_istore_n (lv' := [(3, .int (nI 0)), (2, .int (nI (Dc n x y W J v))), (0, .ref (ad 40)), (1, .int (nI v))]) d_M_findSets_76 rfl (by decide) rfl ?_
            refine aw_sub (lv' := [(0, .ref (ad 40)), (1, .int (nI v)), (2, .int (nI (Dc n x y W J v))), (3, .int (nI 0))]) [2, 3, 1, 0] rfl ?_
            exact lK (q1 + 2) _ (q1 + 1) _ _ l 0 hM4 f4 ⟨e1, e2, e3⟩ (by omega) (by rw [fup_at, if_neg (by omega)]) (fun w hw => by rw [fup_ne (by omega)]) (by omega)
        · refine aw_goto (tgt := 117) d_M_findSets_35 (by decide) ?_
          refine aw_iinc1 (lv' := [(1, .int (nI (v + 1))), (0, .ref (ad 40))]) d_M_findSets_117 rfl (by decide) rfl ?_
          refine aw_goto (tgt := 11) d_M_findSets_120 (by decide) ?_
          refine aw_sub (lv' := [(0, .ref (ad 40)), (1, .int (nI (v + 1)))]) [1, 0] rfl ?_
          exact ihV _ q1 _ Bo1 (v + 1) hM2 f2 (by omega) (FI_no hF hD hv h2) (by omega)
  refine aw_sub (lv' := [(0, .ref (ad 40)), (1, .int (nI 0))]) [1, 0] rfl ?_
  exact lV (n + 1) _ 0 So Bo 0 hM6 f6 (by omega) FI_0 (by omega)

set_option maxHeartbeats 4000000 in
set_option maxRecDepth 100000 in
theorem m_M_closed {g : aw_G} (hg : aw_T g) {ws : va_W} {ad : Nat → Nat} {n x y : Nat} {W : Nat → Nat → Nat} {J : Nat → Nat} {q0 : Nat} {M0 L0 : Nat → Nat} {O0 : Nat → Int32} (hC : IC n (Dc n x y W J) n q0 M0 L0 O0) (hO : gMo g ws ad n x y W J) : AMet g y_M_closed c_M_closed 1 (some .int) 4 [.ref (ad 40)] ws (qM g ad ws (.int (nI q0)) n x y W J) 0 0 := by
  obtain ⟨V, Rw, Tt, q, So, Bo, fo, tw, St, Sh, ss, Nw, Th, hM, hok, hV⟩ := id hO
  have hn := hok.1
  refine amet_of (by decide +kernel) (Nat.le_of_ble_eq_true rfl) ?_
  refine aw_sub (lv' := [(0, .ref (ad 40))]) [0] rfl ?_
  refine aw_aload_n d_M_closed_0 rfl rfl ?_
  refine aw_callV (av := []) (rest := []) (m_M_findSets hg hM hok hV) kd_M_findSets k_499 k_501 ks_M_findSets rfl hM.1 d_M_closed_1 rfl ⟨by decide, by decide⟩ (Nat.le_of_ble_eq_true rfl) ⟨by decide, by decide⟩ rfl (fun v5 ws5 hq5 => ?_)
  obtain ⟨rfl, f5, Rw5, Tt5, q5, So5, Bo5, hM5, hR, hF⟩ := hq5
  obtain ⟨rfl, eB, eO⟩ := FI_IC hF (Dc_ok hn) hC
  refine aw_aload_n d_M_closed_4 rfl rfl ?_
  refine aw_get kc_6 7 (by decide) k_411 d_M_closed_5 hM5.1 rfl ?_
  exact aw_iret d_M_closed_8 (Nat.le_refl 0) (Nat.le_refl 0) ⟨rfl, f5, ⟨_, _, _, _, _, _, _, _, _, _, _, _, _, hM5, hok, hV⟩⟩

set_option maxHeartbeats 4000000 in
set_option maxRecDepth 100000 in
theorem m_M_closedOf {g : aw_G} (hg : aw_T g) {ws : va_W} {ad : Nat → Nat} {n x y : Nat} {W : Nat → Nat → Nat} {J : Nat → Nat} {u : Int32} {q0 : Nat} {M0 L0 : Nat → Nat} {O0 : Nat → Int32} (hC : IC n (Dc n x y W J) n q0 M0 L0 O0) (hO : gMo g ws ad n x y W J) : AMet g y_M_closedOf c_M_closedOf 2 (some .int) 4 [.ref (ad 40), .int u] ws (qM g ad ws (.int (if nb n u = true then O0 (ix u) else -1)) n x y W J) 0 0 := by
  obtain ⟨V, Rw, Tt, q, So, Bo, fo, tw, St, Sh, ss, Nw, Th, hM, hok, hV⟩ := id hO
  have hn := hok.1
  refine amet_of (by decide +kernel) (Nat.le_of_ble_eq_true rfl) ?_
  refine aw_sub (lv' := [(0, .ref (ad 40)), (1, .int u)]) [0, 1] rfl ?_
  refine aw_aload_n d_M_closedOf_0 rfl rfl ?_
  refine aw_iload_n d_M_closedOf_1 rfl rfl ?_
  refine aw_callV (av := [.int u]) (rest := []) (m_M_isNode hg hM) kd_M_isNode k_464 k_466 ks_M_isNode rfl hM.1 d_M_closedOf_2 rfl ⟨by decide, by decide⟩ (Nat.le_of_ble_eq_true rfl) ⟨by decide, by decide⟩ rfl (fun v2 ws2 hq2 => ?_)
  obtain ⟨rfl, rfl⟩ := hq2
  refine aw_if_neB (tgt := 10) d_M_closedOf_5 (by decide) (fun h1 => ?_) (fun h1 => ?_)
  · obtain ⟨u1, hu1, rfl⟩ := nb_true hn h1
    refine aw_aload_n d_M_closedOf_10 rfl rfl ?_
    refine aw_callV (av := []) (rest := []) (m_M_findSets hg hM hok hV) kd_M_findSets k_499 k_501 ks_M_findSets rfl hM.1 d_M_closedOf_11 rfl ⟨by decide, by decide⟩ (Nat.le_of_ble_eq_true rfl) ⟨by decide, by decide⟩ rfl (fun v5 ws5 hq5 => ?_)
    obtain ⟨rfl, f5, Rw5, Tt5, q5, So5, Bo5, hM5, hR, hF⟩ := hq5
    obtain ⟨rfl, eB, eO⟩ := FI_IC hF (Dc_ok hn) hC
    refine aw_aload_n d_M_closedOf_14 rfl rfl ?_
    refine aw_get kc_6 8 (by decide) k_412 d_M_closedOf_15 hM5.1 rfl ?_
    refine aw_iload_n d_M_closedOf_18 rfl rfl ?_
    refine aw_ialdR d_M_closedOf_19 hM5.2.2.2.2.2.1 hg (by omega) (by decide) ?_
    exact aw_iret d_M_closedOf_20 (Nat.le_refl 0) (Nat.le_refl 0) ⟨by rw [if_pos h1, ix_nI (by omega), eO u1 hu1], f5, ⟨_, _, _, _, _, _, _, _, _, _, _, _, _, hM5, hok, hV⟩⟩
  · refine aw_iconst (v := -1) d_M_closedOf_8 (by decide) ?_
    exact aw_iret d_M_closedOf_9 (Nat.le_refl 0) (Nat.le_refl 0) ⟨by rw [if_neg (by simp [h1])], fr.rf, hO⟩

def nX (X : Nat → Nat) (S a b s : Nat) : Prop := s < 32 ∧ ∀ d, s.testBit d = true ↔ (∃ c, c < a ∧ S.testBit c = true ∧ (X c).testBit d = true) ∨ (S.testBit a = true ∧ d < b ∧ (X a).testBit d = true)
section NX
variable {X : Nat → Nat} {n S a b s : Nat}
theorem nX_0 : nX X S 0 0 0 := ⟨by decide, fun d => by
  rw [Nat.zero_testBit]
  constructor
  · intro h; cases h
  · rintro (⟨c, h, -⟩ | ⟨-, h, -⟩)
    · omega
    · omega⟩
theorem nX_yes (h : nX X S a b s) (hb : b < 5) (h1 : S.testBit a = true) (h2 : (X a).testBit b = true) : nX X S a (b + 1) (s ||| 2 ^ b) := ⟨or_32 h.1 (pow_32 hb), fun d => by
  rw [or_bits, h.2 d, pow_bit]
  constructor
  · rintro ((q | ⟨q1, q2, q3⟩) | q)
    · exact Or.inl q
    · exact Or.inr ⟨q1, by omega, q3⟩
    · have e : b = d := by simpa using q
      subst e
      exact Or.inr ⟨h1, by omega, h2⟩
  · rintro (q | ⟨q1, q2, q3⟩)
    · exact Or.inl (Or.inl q)
    · by_cases e : b = d
      · exact Or.inr (by simpa using e)
      · exact Or.inl (Or.inr ⟨q1, by omega, q3⟩)⟩
theorem nX_no (h : nX X S a b s) (h1 : S.testBit a = true → (X a).testBit b = true → False) : nX X S a (b + 1) s := ⟨h.1, fun d => by
  rw [h.2 d]
  constructor
  · rintro (q | ⟨q1, q2, q3⟩)
    · exact Or.inl q
    · exact Or.inr ⟨q1, by omega, q3⟩
  · rintro (q | ⟨q1, q2, q3⟩)
    · exact Or.inl q
    · by_cases e : d = b
      · subst e; exact (h1 q1 q3).elim
      · exact Or.inr ⟨q1, by omega, q3⟩⟩
theorem nX_next (h : nX X S a n s) (hX : okX n X) (ha : a < n) : nX X S (a + 1) 0 s := ⟨h.1, fun d => by
  rw [h.2 d]
  constructor
  · rintro (⟨c, q1, q2⟩ | ⟨q1, q2, q3⟩)
    · exact Or.inl ⟨c, by omega, q2⟩
    · exact Or.inl ⟨a, by omega, q1, q3⟩
  · rintro (⟨c, q1, q2, q3⟩ | ⟨q1, q2, q3⟩)
    · by_cases e : c = a
      · subst e; exact Or.inr ⟨q2, (hX.2 c ha).2 d q3, q3⟩
      · exact Or.inl ⟨c, by omega, q2, q3⟩
    · omega⟩
theorem nX_end (h : nX X S n 0 s) (hX : okX n X) : s = nxO X S n := by
  refine bits_ext _ h.1 _ (nxO_lt hX.lt) (fun k _ => Bool.eq_iff_iff.mpr ?_)
  rw [h.2 k, nxO_bit]
  constructor
  · rintro (⟨c, q1, q2⟩ | ⟨q1, q2, q3⟩)
    · exact ⟨c, q1, q2⟩
    · omega
  · rintro ⟨c, q1, q2⟩
    exact Or.inl ⟨c, q1, q2⟩
end NX

set_option maxHeartbeats 4000000 in
set_option maxRecDepth 100000 in
theorem m_M_period {g : aw_G} (hg : aw_T g) {ws : va_W} {ad : Nat → Nat} {n x y : Nat} {W : Nat → Nat → Nat} {J : Nat → Nat} {a : Int32} {q0 : Nat} {M0 L0 : Nat → Nat} {O0 : Nat → Int32} (hC : IC n (Dc n x y W J) n q0 M0 L0 O0) (hO : gMo g ws ad n x y W J) : AMet g y_M_period c_M_period 10 (some .int) 4 [.ref (ad 40), .int a] ws (qM g ad ws (.int (if nb q0 a = true then nI (perd (Xc n x y W J) n (L0 (ix a)) 60) else -1)) n x y W J) 0 0 := by
  obtain ⟨V, Rw, Tt, q, So, Bo, fo, tw, St, Sh, ss, Nw, Th, hM, hok, hV⟩ := id hO
  have hn := hok.1
  have hX : okX n (Xc n x y W J) := Xc_ok hn
  refine amet_of (by decide +kernel) (Nat.le_of_ble_eq_true rfl) ?_
  refine aw_sub (lv' := [(0, .ref (ad 40)), (1, .int a)]) [0, 1] rfl ?_
  refine aw_aload_n d_M_period_0 rfl rfl ?_
  refine aw_callV (av := []) (rest := []) (m_M_findSets hg hM hok hV) kd_M_findSets k_499 k_501 ks_M_findSets rfl hM.1 d_M_period_1 rfl ⟨by decide, by decide⟩ (Nat.le_of_ble_eq_true rfl) ⟨by decide, by decide⟩ rfl (fun v5 ws5 hq5 => ?_)
  obtain ⟨rfl, f5, Rw5, Tt5, q5, So5, Bo5, hM5, hR, hF⟩ := hq5
  obtain ⟨rfl, eB, eO⟩ := FI_IC hF (Dc_ok hn) hC
  have hq5 := IC_q hC hn
  refine aw_iload_n d_M_period_4 rfl rfl ?_
  refine aw_if_lt (tgt := 16) d_M_period_5 (by decide) (fun h1 => ?_) (fun h1 => ?_)
  · refine aw_iconst (v := -1) d_M_period_16 (by decide) ?_
    exact aw_iret d_M_period_17 (Nat.le_refl 0) (Nat.le_refl 0) ⟨by rw [if_neg (by unfold nb; simp [h1])], f5, ⟨_, _, _, _, _, _, _, _, _, _, _, _, _, hM5, hok, hV⟩⟩
  · refine aw_iload_n d_M_period_8 rfl rfl ?_
    refine aw_aload_n d_M_period_9 rfl rfl ?_
    refine aw_get kc_6 7 (by decide) k_411 d_M_period_10 hM5.1 rfl ?_
    refine aw_icmp_lt (tgt := 18) d_M_period_13 (by decide) (fun h2 => ?_) (fun h2 => ?_)
    · have h3 : nb q5 a = true := by unfold nb; rw [decide_eq_true_eq]; exact ⟨h1, fun z => Int32.not_lt.mpr z h2⟩
      obtain ⟨a1, ha1, rfl⟩ := nb_true hq5 h3
      obtain ⟨l, hl, k2, k3, k4, k5⟩ := FI_first hF (Dc_ok hn) ha1
      have eL := (hC.2.1 l hl k2).2
      rw [k3] at eL
      have lJ : ∀ (k : Nat) (j : Nat), j ≤ 60 → 60 - j < k → AW g y_M_period c_M_period 10 (some .int) (aw_rm 4 0 0) aw_E0 (aw_F g (qM g ad ws (.int (if nb q5 (nI a1) = true then nI (perd (Xc n x y W J) n (L0 (ix (nI a1))) 60) else -1)) n x y W J) 0 0) 0 0 46 [(0, .ref (ad 40)), (2, .int (nI l)), (3, .int (nI (itX (Xc n x y W J) n (2 ^ l) j))), (4, .long (lI (perd (Xc n x y W J) n l j : Int))), (6, .int (nI (j + 1)))] [] ws5 := by
        intro k
        induction k with
        | zero => intro j hj0 hk; omega
        | succ k ih =>
          intro j hj0 hk
          have pl := perd_le (X := Xc n x y W J) (n := n) (v := l) j
          have s32 := itX_lt (n := n) (X := Xc n x y W J) (m := 2 ^ l) hX.lt (pow_32 (by omega))
          refine aw_iload d_M_period_46 rfl ?_
          refine aw_bipush (v := nI 60) d_M_period_48 (by decide) ?_
          refine aw_icmp_gtN (tgt := 163) d_M_period_50 (by decide) (by omega) (by omega) (fun h4 => ?_) (fun h4 => ?_)
          · have e : j = 60 := by omega
            subst e
            refine aw_lload d_M_period_163 rfl ?_
            refine aw_l2iN (a := (perd (Xc n x y W J) n l 60)) d_M_period_165 ?_
            exact aw_iret d_M_period_166 (Nat.le_refl 0) (Nat.le_refl 0) ⟨by rw [if_pos h3, ix_nI (by omega), eL], f5, ⟨_, _, _, _, _, _, _, _, _, _, _, _, _, hM5, hok, hV⟩⟩
          · have ihJ := ih
            have lA : ∀ (k : Nat) (s1 c : Nat), c ≤ n → nX (Xc n x y W J) (itX (Xc n x y W J) n (2 ^ l) j) c 0 s1 → n - c < k → AW g y_M_period c_M_period 10 (some .int) (aw_rm 4 0 0) aw_E0 (aw_F g (qM g ad ws (.int (if nb q5 (nI a1) = true then nI (perd (Xc n x y W J) n (L0 (ix (nI a1))) 60) else -1)) n x y W J) 0 0) 0 0 59 [(0, .ref (ad 40)), (2, .int (nI l)), (3, .int (nI (itX (Xc n x y W J) n (2 ^ l) j))), (4, .long (lI (perd (Xc n x y W J) n l j : Int))), (6, .int (nI (j + 1))), (7, .int (nI s1)), (8, .int (nI c))] [] ws5 := by
              intro k
              induction k with
              | zero => intro s1 c hc0 hI hk2; omega
              | succ k ih =>
                intro s1 c hc0 hI hk2
                refine aw_iload d_M_period_59 rfl ?_
                refine aw_aload_n d_M_period_61 rfl rfl ?_
                refine aw_get kc_6 0 (by decide) k_404 d_M_period_62 hM5.1 rfl ?_
                refine aw_icmp_geN (tgt := 130) d_M_period_65 (by decide) (by omega) (by omega) (fun hc => ?_) (fun hc => ?_)
                · have e : n = c := by omega
                  subst e
                  have e1 : s1 = itX (Xc n x y W J) n (2 ^ l) (j + 1) := nX_end hI hX
                  subst e1
                  refine aw_iload d_M_period_130 rfl ?_
                  refine aw_istore_n (lv' := [(3, .int (nI (itX (Xc n x y W J) n (2 ^ l) (j + 1)))), (0, .ref (ad 40)), (2, .int (nI l)), (4, .long (lI (perd (Xc n x y W J) n l j : Int))), (6, .int (nI (j + 1))), (7, .int (nI (itX (Xc n x y W J) n (2 ^ l) (j + 1)))), (8, .int (nI n))]) d_M_period_132 rfl (by decide) rfl ?_
                  refine aw_iload_n d_M_period_133 rfl rfl ?_
                  refine aw_iload_n d_M_period_134 rfl rfl ?_
                  refine aw_ishr d_M_period_135 ?_
                  refine aw_iconst (v := nI 1) d_M_period_136 (by decide) ?_
                  refine aw_iand d_M_period_137 ?_
                  refine aw_nmi (z := nI (bN ((itX (Xc n x y W J) n (2 ^ l) (j + 1)).testBit l))) (bt_eq _ (s32 (j + 1)) l (by omega)) ?_
                  refine aw_iconst (v := nI 1) d_M_period_138 (by decide) ?_
                  refine aw_icmp_neN (tgt := 153) d_M_period_139 (by decide) (bN_le _) (by omega) (fun h6 => ?_) (fun h6 => ?_)
                  · have e2 : perd (Xc n x y W J) n l j = perd (Xc n x y W J) n l (j + 1) := by rw [perd, if_neg (by rw [bN_n1 h6]; decide)]
                    refine aw_lload d_M_period_153 rfl ?_
                    refine aw_nml (z := lI (perd (Xc n x y W J) n l (j + 1) : Int)) (by rw [e2]) ?_
                    refine aw_lstore (lv' := [(4, .long (lI (perd (Xc n x y W J) n l (j + 1) : Int))), (3, .int (nI (itX (Xc n x y W J) n (2 ^ l) (j + 1)))), (0, .ref (ad 40)), (2, .int (nI l)), (6, .int (nI (j + 1))), (7, .int (nI (itX (Xc n x y W J) n (2 ^ l) (j + 1)))), (8, .int (nI n))]) d_M_period_155 (by decide) rfl ?_
                    refine aw_iinc1 (lv' := [(6, .int (nI (j + 1 + 1))), (4, .long (lI (perd (Xc n x y W J) n l (j + 1) : Int))), (3, .int (nI (itX (Xc n x y W J) n (2 ^ l) (j + 1)))), (0, .ref (ad 40)), (2, .int (nI l)), (7, .int (nI (itX (Xc n x y W J) n (2 ^ l) (j + 1)))), (8, .int (nI n))]) d_M_period_157 rfl (by decide) rfl ?_
                    refine aw_goto (tgt := 46) d_M_period_160 (by decide) ?_
                    refine aw_sub (lv' := [(0, .ref (ad 40)), (2, .int (nI l)), (3, .int (nI (itX (Xc n x y W J) n (2 ^ l) (j + 1)))), (4, .long (lI (perd (Xc n x y W J) n l (j + 1) : Int))), (6, .int (nI ((j + 1) + 1)))]) [3, 4, 2, 1, 0] rfl ?_
                    exact ihJ (j + 1) (by omega) (by omega)
                  · have e2 : Nat.gcd (perd (Xc n x y W J) n l j) (j + 1) = perd (Xc n x y W J) n l (j + 1) := by rw [perd, if_pos (bN_1.mp h6)]
                    refine aw_lload d_M_period_142 rfl ?_
                    refine aw_iload d_M_period_144 rfl ?_
                    refine aw_i2lN d_M_period_146 (by omega) ?_
                    refine aw_callS (av := [.long (lI (perd (Xc n x y W J) n l j : Int)), .long (lI (j + 1 : Nat))]) (rest := []) (m_M_common (ad := ad) hg (by omega) (by omega)) kd_M_common k_488 k_489  d_M_period_147 rfl ⟨by decide, by decide⟩ (Nat.le_of_ble_eq_true rfl) ⟨by decide, by decide⟩ rfl (fun v8 ws8 hq8 => ?_)
                    obtain ⟨rfl, rfl⟩ := hq8
                    refine aw_nml (z := lI (perd (Xc n x y W J) n l (j + 1) : Int)) (by rw [e2]) ?_
                    refine aw_goto (tgt := 155) d_M_period_150 (by decide) ?_
                    refine aw_lstore (lv' := [(4, .long (lI (perd (Xc n x y W J) n l (j + 1) : Int))), (3, .int (nI (itX (Xc n x y W J) n (2 ^ l) (j + 1)))), (0, .ref (ad 40)), (2, .int (nI l)), (6, .int (nI (j + 1))), (7, .int (nI (itX (Xc n x y W J) n (2 ^ l) (j + 1)))), (8, .int (nI n))]) d_M_period_155 (by decide) rfl ?_
                    refine aw_iinc1 (lv' := [(6, .int (nI (j + 1 + 1))), (4, .long (lI (perd (Xc n x y W J) n l (j + 1) : Int))), (3, .int (nI (itX (Xc n x y W J) n (2 ^ l) (j + 1)))), (0, .ref (ad 40)), (2, .int (nI l)), (7, .int (nI (itX (Xc n x y W J) n (2 ^ l) (j + 1)))), (8, .int (nI n))]) d_M_period_157 rfl (by decide) rfl ?_
                    refine aw_goto (tgt := 46) d_M_period_160 (by decide) ?_
                    refine aw_sub (lv' := [(0, .ref (ad 40)), (2, .int (nI l)), (3, .int (nI (itX (Xc n x y W J) n (2 ^ l) (j + 1)))), (4, .long (lI (perd (Xc n x y W J) n l (j + 1) : Int))), (6, .int (nI ((j + 1) + 1)))]) [3, 4, 2, 1, 0] rfl ?_
                    exact ihJ (j + 1) (by omega) (by omega)
                · have ihA := ih
                  have lB : ∀ (k : Nat) (s2 b : Nat), b ≤ n → nX (Xc n x y W J) (itX (Xc n x y W J) n (2 ^ l) j) c b s2 → n - b < k → AW g y_M_period c_M_period 10 (some .int) (aw_rm 4 0 0) aw_E0 (aw_F g (qM g ad ws (.int (if nb q5 (nI a1) = true then nI (perd (Xc n x y W J) n (L0 (ix (nI a1))) 60) else -1)) n x y W J) 0 0) 0 0 71 [(0, .ref (ad 40)), (2, .int (nI l)), (3, .int (nI (itX (Xc n x y W J) n (2 ^ l) j))), (4, .long (lI (perd (Xc n x y W J) n l j : Int))), (6, .int (nI (j + 1))), (7, .int (nI s2)), (8, .int (nI c)), (9, .int (nI b))] [] ws5 := by
                    intro k
                    induction k with
                    | zero => intro s2 b hb0 hI2 hk3; omega
                    | succ k ih =>
                      intro s2 b hb0 hI2 hk3
                      refine aw_iload d_M_period_71 rfl ?_
                      refine aw_aload_n d_M_period_73 rfl rfl ?_
                      refine aw_get kc_6 0 (by decide) k_404 d_M_period_74 hM5.1 rfl ?_
                      refine aw_icmp_geN (tgt := 124) d_M_period_77 (by decide) (by omega) (by omega) (fun hb => ?_) (fun hb => ?_)
                      · have e : n = b := by omega
                        subst e
                        refine aw_iinc1 (lv' := [(8, .int (nI (c + 1))), (0, .ref (ad 40)), (2, .int (nI l)), (3, .int (nI (itX (Xc n x y W J) n (2 ^ l) j))), (4, .long (lI (perd (Xc n x y W J) n l j : Int))), (6, .int (nI (j + 1))), (7, .int (nI s2)), (9, .int (nI n))]) d_M_period_124 rfl (by decide) rfl ?_
                        refine aw_goto (tgt := 59) d_M_period_127 (by decide) ?_
                        refine aw_sub (lv' := [(0, .ref (ad 40)), (2, .int (nI l)), (3, .int (nI (itX (Xc n x y W J) n (2 ^ l) j))), (4, .long (lI (perd (Xc n x y W J) n l j : Int))), (6, .int (nI (j + 1))), (7, .int (nI s2)), (8, .int (nI (c + 1)))]) [1, 2, 3, 4, 5, 6, 0] rfl ?_
                        exact ihA s2 (c + 1) (by omega) (nX_next hI2 hX hc) (by omega)
                      · have h400 := nr_400 hok hc hb
                        refine aw_iload d_M_period_80 rfl ?_
                        refine aw_iload_n d_M_period_82 rfl rfl ?_
                        refine aw_iload d_M_period_83 rfl ?_
                        refine aw_ishr d_M_period_85 ?_
                        refine aw_iconst (v := nI 1) d_M_period_86 (by decide) ?_
                        refine aw_iand d_M_period_87 ?_
                        refine aw_nmi (z := nI (bN ((itX (Xc n x y W J) n (2 ^ l) j).testBit c))) (bt_eq _ (s32 j) c (by omega)) ?_
                        refine aw_iconst (v := nI 1) d_M_period_88 (by decide) ?_
                        refine aw_icmp_neN (tgt := 114) d_M_period_89 (by decide) (bN_le _) (by omega) (fun h7 => ?_) (fun h7 => ?_)
                        · refine aw_iconst (v := nI 0) d_M_period_114 (by decide) ?_
                          refine aw_iorN d_M_period_115 ?_
                          refine aw_nmi (z := nI s2) (by rw [Nat.or_zero]) ?_
                          refine aw_istore (lv' := [(7, .int (nI s2)), (0, .ref (ad 40)), (2, .int (nI l)), (3, .int (nI (itX (Xc n x y W J) n (2 ^ l) j))), (4, .long (lI (perd (Xc n x y W J) n l j : Int))), (6, .int (nI (j + 1))), (8, .int (nI c)), (9, .int (nI b))]) d_M_period_116 (by decide) rfl ?_
                          refine aw_iinc1 (lv' := [(9, .int (nI (b + 1))), (7, .int (nI s2)), (0, .ref (ad 40)), (2, .int (nI l)), (3, .int (nI (itX (Xc n x y W J) n (2 ^ l) j))), (4, .long (lI (perd (Xc n x y W J) n l j : Int))), (6, .int (nI (j + 1))), (8, .int (nI c))]) d_M_period_118 rfl (by decide) rfl ?_
                          refine aw_goto (tgt := 71) d_M_period_121 (by decide) ?_
                          refine aw_sub (lv' := [(0, .ref (ad 40)), (2, .int (nI l)), (3, .int (nI (itX (Xc n x y W J) n (2 ^ l) j))), (4, .long (lI (perd (Xc n x y W J) n l j : Int))), (6, .int (nI (j + 1))), (7, .int (nI s2)), (8, .int (nI c)), (9, .int (nI (b + 1)))]) [2, 3, 4, 5, 6, 1, 7, 0] rfl ?_
                          exact ih s2 (b + 1) (by omega) (nX_no hI2 (fun z _ => h7 (bN_1.mpr z))) (by omega)
                        · refine aw_aload_n d_M_period_92 rfl rfl ?_
                          refine aw_get kc_6 5 (by decide) k_409 d_M_period_93 hM5.1 rfl ?_
                          refine aw_iconst (v := nI 5) d_M_period_96 (by decide) ?_
                          refine aw_iload d_M_period_97 rfl ?_
                          refine aw_imulN d_M_period_99 ?_
                          refine aw_iload d_M_period_100 rfl ?_
                          refine aw_iaddN d_M_period_102 ?_
                          refine aw_ialdA d_M_period_103 hM5.2.2.2.1 hg (by omega) (by decide) ?_
                          refine aw_nmi (z := nI (nr n x y W J c b)) (by rw [(hR c hc).1 b hb]) ?_
                          refine aw_if_leN (tgt := 114) d_M_period_104 (by decide) (by omega) (fun h8 => ?_) (fun h8 => ?_)
                          · refine aw_iconst (v := nI 0) d_M_period_114 (by decide) ?_
                            refine aw_iorN d_M_period_115 ?_
                            refine aw_nmi (z := nI s2) (by rw [Nat.or_zero]) ?_
                            refine aw_istore (lv' := [(7, .int (nI s2)), (0, .ref (ad 40)), (2, .int (nI l)), (3, .int (nI (itX (Xc n x y W J) n (2 ^ l) j))), (4, .long (lI (perd (Xc n x y W J) n l j : Int))), (6, .int (nI (j + 1))), (8, .int (nI c)), (9, .int (nI b))]) d_M_period_116 (by decide) rfl ?_
                            refine aw_iinc1 (lv' := [(9, .int (nI (b + 1))), (7, .int (nI s2)), (0, .ref (ad 40)), (2, .int (nI l)), (3, .int (nI (itX (Xc n x y W J) n (2 ^ l) j))), (4, .long (lI (perd (Xc n x y W J) n l j : Int))), (6, .int (nI (j + 1))), (8, .int (nI c))]) d_M_period_118 rfl (by decide) rfl ?_
                            refine aw_goto (tgt := 71) d_M_period_121 (by decide) ?_
                            refine aw_sub (lv' := [(0, .ref (ad 40)), (2, .int (nI l)), (3, .int (nI (itX (Xc n x y W J) n (2 ^ l) j))), (4, .long (lI (perd (Xc n x y W J) n l j : Int))), (6, .int (nI (j + 1))), (7, .int (nI s2)), (8, .int (nI c)), (9, .int (nI (b + 1)))]) [2, 3, 4, 5, 6, 1, 7, 0] rfl ?_
                            exact ih s2 (b + 1) (by omega) (nX_no hI2 (fun _ z => absurd (Xc_bit.mp z).2 (by omega))) (by omega)
                          · refine aw_iconst (v := nI 1) d_M_period_107 (by decide) ?_
                            refine aw_iload d_M_period_108 rfl ?_
                            refine aw_ishl d_M_period_110 ?_
                            refine aw_nmi (z := nI (2 ^ b)) (sl_eq b (by omega)) ?_
                            refine aw_goto (tgt := 115) d_M_period_111 (by decide) ?_
                            refine aw_iorN d_M_period_115 ?_
                            refine aw_istore (lv' := [(7, .int (nI (s2 ||| (2 ^ b)))), (0, .ref (ad 40)), (2, .int (nI l)), (3, .int (nI (itX (Xc n x y W J) n (2 ^ l) j))), (4, .long (lI (perd (Xc n x y W J) n l j : Int))), (6, .int (nI (j + 1))), (8, .int (nI c)), (9, .int (nI b))]) d_M_period_116 (by decide) rfl ?_
                            refine aw_iinc1 (lv' := [(9, .int (nI (b + 1))), (7, .int (nI (s2 ||| (2 ^ b)))), (0, .ref (ad 40)), (2, .int (nI l)), (3, .int (nI (itX (Xc n x y W J) n (2 ^ l) j))), (4, .long (lI (perd (Xc n x y W J) n l j : Int))), (6, .int (nI (j + 1))), (8, .int (nI c))]) d_M_period_118 rfl (by decide) rfl ?_
                            refine aw_goto (tgt := 71) d_M_period_121 (by decide) ?_
                            refine aw_sub (lv' := [(0, .ref (ad 40)), (2, .int (nI l)), (3, .int (nI (itX (Xc n x y W J) n (2 ^ l) j))), (4, .long (lI (perd (Xc n x y W J) n l j : Int))), (6, .int (nI (j + 1))), (7, .int (nI (s2 ||| 2 ^ b))), (8, .int (nI c)), (9, .int (nI (b + 1)))]) [2, 3, 4, 5, 6, 1, 7, 0] rfl ?_
                            exact ih (s2 ||| 2 ^ b) (b + 1) (by omega) (nX_yes hI2 (by omega) (bN_1.mp h7) (Xc_bit.mpr ⟨hb, h8⟩)) (by omega)
                  refine aw_iconst (v := nI 0) d_M_period_68 (by decide) ?_
                  refine aw_istore (lv' := [(9, .int (nI 0)), (0, .ref (ad 40)), (2, .int (nI l)), (3, .int (nI (itX (Xc n x y W J) n (2 ^ l) j))), (4, .long (lI (perd (Xc n x y W J) n l j : Int))), (6, .int (nI (j + 1))), (7, .int (nI s1)), (8, .int (nI c))]) d_M_period_69 (by decide) rfl ?_
                  refine aw_sub (lv' := [(0, .ref (ad 40)), (2, .int (nI l)), (3, .int (nI (itX (Xc n x y W J) n (2 ^ l) j))), (4, .long (lI (perd (Xc n x y W J) n l j : Int))), (6, .int (nI (j + 1))), (7, .int (nI s1)), (8, .int (nI c)), (9, .int (nI 0))]) [1, 2, 3, 4, 5, 6, 7, 0] rfl ?_
                  exact lB (n + 1) s1 0 (by omega) hI (by omega)
            refine aw_iconst (v := nI 0) d_M_period_53 (by decide) ?_
            refine aw_istore (lv' := [(7, .int (nI 0)), (0, .ref (ad 40)), (2, .int (nI l)), (3, .int (nI (itX (Xc n x y W J) n (2 ^ l) j))), (4, .long (lI (perd (Xc n x y W J) n l j : Int))), (6, .int (nI (j + 1)))]) d_M_period_54 (by decide) rfl ?_
            refine aw_iconst (v := nI 0) d_M_period_56 (by decide) ?_
            refine aw_istore (lv' := [(8, .int (nI 0)), (7, .int (nI 0)), (0, .ref (ad 40)), (2, .int (nI l)), (3, .int (nI (itX (Xc n x y W J) n (2 ^ l) j))), (4, .long (lI (perd (Xc n x y W J) n l j : Int))), (6, .int (nI (j + 1)))]) d_M_period_57 (by decide) rfl ?_
            refine aw_sub (lv' := [(0, .ref (ad 40)), (2, .int (nI l)), (3, .int (nI (itX (Xc n x y W J) n (2 ^ l) j))), (4, .long (lI (perd (Xc n x y W J) n l j : Int))), (6, .int (nI (j + 1))), (7, .int (nI 0)), (8, .int (nI 0))]) [2, 3, 4, 5, 6, 1, 0] rfl ?_
            exact lA (n + 1) 0 0 (by omega) nX_0 (by omega)
      have lF : ∀ (k : Nat) (v : Nat), v ≤ l → l - v < k → AW g y_M_period c_M_period 10 (some .int) (aw_rm 4 0 0) aw_E0 (aw_F g (qM g ad ws (.int (if nb q5 (nI a1) = true then nI (perd (Xc n x y W J) n (L0 (ix (nI a1))) 60) else -1)) n x y W J) 0 0) 0 0 20 [(0, .ref (ad 40)), (1, .int (nI a1)), (2, .int (nI v))] [] ws5 := by
        intro k
        induction k with
        | zero => intro v hv0 hk; omega
        | succ k ih =>
          intro v hv0 hk
          refine aw_aload_n d_M_period_20 rfl rfl ?_
          refine aw_get kc_6 8 (by decide) k_412 d_M_period_21 hM5.1 rfl ?_
          refine aw_iload_n d_M_period_24 rfl rfl ?_
          refine aw_ialdR d_M_period_25 hM5.2.2.2.2.2.1 hg (by omega) (by decide) ?_
          refine aw_iload_n d_M_period_26 rfl rfl ?_
          refine aw_icmp_eq (tgt := 36) d_M_period_27 (by decide) (fun h4 => ?_) (fun h4 => ?_)
          · have e : l = v := by rcases Nat.lt_or_ge v l with z | z; exact absurd h4 (k5 v z); omega
            subst e
            refine aw_iconst (v := nI 1) d_M_period_36 (by decide) ?_
            refine aw_iload_n d_M_period_37 rfl rfl ?_
            refine aw_ishl d_M_period_38 ?_
            refine aw_nmi (z := nI (itX (Xc n x y W J) n (2 ^ l) 0)) (sl_eq l (by omega)) ?_
            refine aw_istore_n (lv' := [(3, .int (nI (itX (Xc n x y W J) n (2 ^ l) 0))), (0, .ref (ad 40)), (1, .int (nI a1)), (2, .int (nI l))]) d_M_period_39 rfl (by decide) rfl ?_
            refine aw_lconst (v := lI 0) d_M_period_40 (by decide) ?_
            refine aw_nml (z := lI (perd (Xc n x y W J) n l 0 : Int)) rfl ?_
            refine aw_lstore (lv' := [(4, .long (lI (perd (Xc n x y W J) n l 0 : Int))), (3, .int (nI (itX (Xc n x y W J) n (2 ^ l) 0))), (0, .ref (ad 40)), (1, .int (nI a1)), (2, .int (nI l))]) d_M_period_41 (by decide) rfl ?_
            refine aw_iconst (v := nI 1) d_M_period_43 (by decide) ?_
            refine aw_nmi (z := nI (0 + 1)) rfl ?_
            refine aw_istore (lv' := [(6, .int (nI (0 + 1))), (4, .long (lI (perd (Xc n x y W J) n l 0 : Int))), (3, .int (nI (itX (Xc n x y W J) n (2 ^ l) 0))), (0, .ref (ad 40)), (1, .int (nI a1)), (2, .int (nI l))]) d_M_period_44 (by decide) rfl ?_
            refine aw_sub (lv' := [(0, .ref (ad 40)), (2, .int (nI l)), (3, .int (nI (itX (Xc n x y W J) n (2 ^ l) 0))), (4, .long (lI (perd (Xc n x y W J) n l 0 : Int))), (6, .int (nI (0 + 1)))]) [3, 5, 2, 1, 0] rfl ?_
            exact lJ 61 0 (by omega) (by omega)
          · have e : v ≠ l := fun z => h4 (by rw [z]; exact k4)
            refine aw_iinc1 (lv' := [(2, .int (nI (v + 1))), (0, .ref (ad 40)), (1, .int (nI a1))]) d_M_period_30 rfl (by decide) rfl ?_
            refine aw_goto (tgt := 20) d_M_period_33 (by decide) ?_
            refine aw_sub (lv' := [(0, .ref (ad 40)), (1, .int (nI a1)), (2, .int (nI (v + 1)))]) [1, 2, 0] rfl ?_
            exact ih (v + 1) (by omega) (by omega)
      refine aw_iconst (v := nI 0) d_M_period_18 (by decide) ?_
      refine aw_istore_n (lv' := [(2, .int (nI 0)), (0, .ref (ad 40)), (1, .int (nI a1))]) d_M_period_19 rfl (by decide) rfl ?_
      refine aw_sub (lv' := [(0, .ref (ad 40)), (1, .int (nI a1)), (2, .int (nI 0))]) [1, 2, 0] rfl ?_
      exact lF (l + 1) 0 (by omega) (by omega)
    · refine aw_iconst (v := -1) d_M_period_16 (by decide) ?_
      exact aw_iret d_M_period_17 (Nat.le_refl 0) (Nat.le_refl 0) ⟨by rw [if_neg (by unfold nb; simp [Int32.not_lt.mp h2])], f5, ⟨_, _, _, _, _, _, _, _, _, _, _, _, _, hM5, hok, hV⟩⟩
