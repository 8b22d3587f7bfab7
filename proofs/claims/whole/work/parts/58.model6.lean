-- laid by wip/whole/m18.py
theorem sN_no {f : Nat → Nat} {p : Nat} (h : f p = 0) : sN f (p + 1) = sN f p := by rw [sN, h, Nat.add_zero]
theorem sn_add {f : Nat → Nat} {p w : Nat} (h : f p = w) : (sN f p : Int) + (w : Int) = (sN f (p + 1) : Int) := by rw [sN, h, Int.natCast_add]
theorem sn_add0 {f : Nat → Nat} {p : Nat} (h : f p = 0) : (sN f p : Int) + 0 = (sN f (p + 1) : Int) := by rw [sN, h, Int.add_zero, Nat.add_zero]
theorem Pov_le {P : Nat → Nat → Nat} {ov i j c : Nat} (h : P i j ≤ c) : Pov P ov i j ≤ c := by unfold Pov; split <;> omega
theorem cnt_w {P : Nat → Nat → Nat} {ov v d w : Nat} (hw : w ≤ 400 ^ v) (hP : P v d ≤ 400) : w * Pov P ov v d ≤ 400 ^ (v + 1) := by
  rw [Nat.pow_succ]
  exact Nat.mul_le_mul hw (Pov_le hP)
theorem cnt_in {P : Nat → Nat → Nat} {n U ov v d w : Nat} {f : Nat → Nat} (h : ∀ i, i < v → U.testBit i = true → f i < n ∧ (0 < w → ov.testBit (f i) = true)) (hd : d < n) : ∀ i, i < v + 1 → U.testBit i = true → fup f v d i < n ∧ (0 < w * Pov P ov v d → ov.testBit (fup f v d i) = true) := fun i hi q => by
  by_cases e : i = v
  · subst e
    rw [fup_at]
    refine ⟨hd, fun z => ?_⟩
    unfold Pov at z
    by_cases o : ov.testBit d = true
    · exact o
    · rw [if_neg o, Nat.mul_zero] at z
      exact absurd z (Nat.lt_irrefl 0)
  · rw [fup_ne e]
    obtain ⟨h1, h2⟩ := h i (by omega) q
    exact ⟨h1, fun z => h2 (Nat.pos_of_mul_pos_right z)⟩
theorem cnt_no {n U ov v w : Nat} {f : Nat → Nat} (h : ∀ i, i < v → U.testBit i = true → f i < n ∧ (0 < w → ov.testBit (f i) = true)) (q : U.testBit v = false) : ∀ i, i < v + 1 → U.testBit i = true → f i < n ∧ (0 < w → ov.testBit (f i) = true) := fun i hi q2 => by
  by_cases e : i = v
  · subst e; rw [q] at q2; cases q2
  · exact h i (by omega) q2
theorem cS_yes {P : Nat → Nat → Nat} {n U : Nat} {G : (Nat → Nat) → Nat} {v r w : Nat} {f : Nat → Nat} (hv : v < n) (q : U.testBit v = true) : cS P n U G (n - v) v r f w = cS P n U G (n - (v + 1)) (v + 1) (r / n) (fup f v (r % n)) (w * P v (r % n)) := by
  rw [show n - v = (n - (v + 1)) + 1 by omega, cS, if_pos q]
theorem cS_not {P : Nat → Nat → Nat} {n U : Nat} {G : (Nat → Nat) → Nat} {v r w : Nat} {f : Nat → Nat} (hv : v < n) (q : U.testBit v = false) : cS P n U G (n - v) v r f w = cS P n U G (n - (v + 1)) (v + 1) r f w := by
  rw [show n - v = (n - (v + 1)) + 1 by omega, cS, if_neg (by rw [q]; decide)]
def cAt (P : Nat → Nat → Nat) (n U : Nat) (G : (Nat → Nat) → Nat) (p : Nat) : Nat := cS P n U G n 0 p (fun _ => 0) 1
theorem cAt_val {P : Nat → Nat → Nat} {n U : Nat} {G : (Nat → Nat) → Nat} {p w c : Nat} {f s : Nat → Nat} (h0 : 0 < n) (hG : ∀ f h, agr n U n f h → G f = G h) (h : w * G f = cS P n U G n 0 p s 1) (hc : w * G f = c) : cAt P n U G p = c :=
  (cS_agr h0 hG n 0 p _ s 1 (by omega) (fun i hi => absurd hi (Nat.not_lt_zero i))).trans (h.symm.trans hc)
theorem cAt_sum {P : Nat → Nat → Nat} {n U : Nat} {G : (Nat → Nat) → Nat} (h0 : 0 < n) : sN (cAt P n U G) (mnP U n n) = fsU P n U G n 0 (fun _ => 0) := by
  have e := mnP_mny (U := U) (n := n) n 0
  rw [Nat.zero_add, mnP, Nat.one_mul] at e
  have := cS_sum (P := P) (U := U) (G := G) h0 n 0 (fun _ => 0) 1
  rw [Nat.one_mul] at this
  rw [e, ← this]
  rfl
theorem rtI_neg {n U ov : Nat} {f : Nat → Nat} (h : into n U ov f) (hn : n ≤ 5) {v : Nat} (hv : v < n) (ho : ov.testBit v = true) : rtI U f v < 0 ↔ U.testBit (rch U f 5 v) = true := by
  have h1 := (rch_ov h 5 v hv ho).1
  unfold rtI
  by_cases q : U.testBit (rch U f 5 v) = true
  · rw [if_pos q]; exact ⟨fun _ => q, fun _ => by decide⟩
  · rw [if_neg q]
    exact ⟨fun z => absurd z ((by decide : ∀ k, k < 5 → ¬ nI k < 0) _ (by omega)), fun z => absurd z q⟩
theorem gd_0 {n U w : Nat} {f : Nat → Nat} {c : Bool} (hc : c = true ↔ 0 < w ∧ acyc n U f = true) (h : c = false) {G : (Nat → Nat) → Nat} (hG : acyc n U f = false → G f = 0) : w * G f = 0 := by
  by_cases e : 0 < w
  · cases q : acyc n U f with
    | false => rw [hG q, Nat.mul_zero]
    | true => rw [hc.mpr ⟨e, q⟩] at h; cases h
  · rw [show w = 0 by omega, Nat.zero_mul]
theorem FA_0 {n U : Nat} {f : Nat → Nat} (h : acyc n U f = false) : FA n U f = 0 := by unfold FA; rw [h]; rfl
theorem FG_0 {n U a G : Nat} {f : Nat → Nat} (h : acyc n U f = false) : FG n U a G f = 0 := by unfold FG; rw [h]; rfl
theorem FA_1 {n U w : Nat} {f : Nat → Nat} (h : acyc n U f = true) : w * FA n U f = w := by unfold FA; rw [h, if_pos rfl, Nat.mul_one]
theorem FG_1 {n U a G w : Nat} {f : Nat → Nat} (h : acyc n U f = true) (g : G.testBit (rch U f 5 a) = true) : w * FG n U a G f = w := by unfold FG; rw [h, g, if_pos (by decide), Nat.mul_one]
theorem FG_2 {n U a G w : Nat} {f : Nat → Nat} (g : G.testBit (rch U f 5 a) = false) : w * FG n U a G f = 0 := by unfold FG; rw [g, Bool.and_false, if_neg (by decide), Nat.mul_zero]
theorem gd_in {n U ov w : Nat} {f : Nat → Nat} (h : ∀ i, i < n → U.testBit i = true → f i < n ∧ (0 < w → ov.testBit (f i) = true)) (hw : 0 < w) : into n U ov f := fun i hi q => ⟨(h i hi q).1, (h i hi q).2 hw⟩
theorem gd_end {n U w : Nat} {f : Nat → Nat} {c : Bool} {u : Nat} (hu : n ≤ u) (hc : c = true ↔ 0 < w ∧ ∀ v, v < u → v < n → U.testBit v = true → U.testBit (rch U f 5 v) = false) : c = true ↔ 0 < w ∧ acyc n U f = true :=
  hc.trans ⟨fun h => ⟨h.1, acyc_iff.mpr (fun v hv => h.2 v (by omega) hv)⟩, fun h => ⟨h.1, fun v _ hv q => acyc_iff.mp h.2 v hv q⟩⟩
theorem gd_early {n U w : Nat} {f : Nat → Nat} {c : Bool} {u : Nat} (h : c = false) (hc : c = true ↔ 0 < w ∧ ∀ v, v < u → v < n → U.testBit v = true → U.testBit (rch U f 5 v) = false) : c = true ↔ 0 < w ∧ acyc n U f = true :=
  ⟨fun z => (by rw [h] at z; cases z), fun z => by rw [hc.mpr ⟨z.1, fun v _ hv q => acyc_iff.mp z.2 v hv q⟩] at h; cases h⟩
theorem gd_t {n U w : Nat} {f : Nat → Nat} {c : Bool} {u : Nat} (h : c = true) (hc : c = true ↔ 0 < w ∧ ∀ v, v < u → v < n → U.testBit v = true → U.testBit (rch U f 5 v) = false) (hu : U.testBit u = true → U.testBit (rch U f 5 u) = false) : true = true ↔ 0 < w ∧ ∀ v, v < u + 1 → v < n → U.testBit v = true → U.testBit (rch U f 5 v) = false :=
  ⟨fun _ => ⟨(hc.mp h).1, fun v h1 h2 h3 => by
    by_cases e : v = u
    · subst e; exact hu h3
    · exact (hc.mp h).2 v (by omega) h2 h3⟩, fun _ => rfl⟩
theorem gd_f {n U w : Nat} {f : Nat → Nat} {u : Nat} (hu : u < n) (h1 : U.testBit u = true) (h2 : U.testBit (rch U f 5 u) = true) : false = true ↔ 0 < w ∧ ∀ v, v < u + 1 → v < n → U.testBit v = true → U.testBit (rch U f 5 v) = false :=
  ⟨fun z => (by cases z), fun z => by have := z.2 u (by omega) hu h1; rw [h2] at this; exact this.symm⟩
def qCount (g : aw_G) (ad : Nat → Nat) (ws : va_W) (W : Nat → Nat → Nat) (n : Nat) (x : Nat) (y : Nat) (V : Nat → Nat) (J : Nat → Nat) (Rw : Nat → Nat) (Tt : Nat → Nat) (q : Nat) (So : Nat → Int32) (Bo : Nat → Nat) (Sh : Nat → Int) (ss : Int) (Nw : Nat → Int) (Th : Nat → Int) (ov ro s z : Nat) : Option Value → va_W → Prop := fun r ws' => r = none ∧ fr 40 51 ws ws' ∧ ∃ St : Nat → Nat, gM g ws' ad n x y V J Rw Tt q So Bo (fsU (Pov (nr n x y W J) ov) n (an ov ro) (FA n (an ov ro)) n 0 (fun _ => 0) : Int) (fsU (Pov (nr n x y W J) ov) n (an ov ro) (FG n (an ov ro) s z) n 0 (fun _ => 0) : Int) St Sh ss Nw Th

theorem rt_next {U u v j : Nat} {f : Nat → Nat} (q : U.testBit u = true) (h : j ≤ 5 ∧ rch U f (5 - j) u = rch U f 5 v) : (j + 1 ≤ 5 ∧ rch U f (5 - (j + 1)) (f u) = rch U f 5 v) ∨ (j + 1 = 6 ∧ U.testBit (rch U f 5 v) = true) := by
  by_cases e : j = 5
  · subst e
    refine Or.inr ⟨rfl, ?_⟩
    rw [← h.2]
    exact q
  · refine Or.inl ⟨by omega, ?_⟩
    rw [← h.2, show 5 - j = (5 - (j + 1)) + 1 by omega, rch_1 q]
theorem rt_stop {ov ro u v k : Nat} {f : Nat → Nat} (hov : ov < 32) (hro : ro < 32) (q : ro.testBit u = true) (h : rch (an ov ro) f k u = rch (an ov ro) f 5 v) : nI u = rtI (an ov ro) f v := by
  have e : (an ov ro).testBit u = false := by
    cases z : (an ov ro).testBit u with
    | false => rfl
    | true => have := ((an_tb hov hro).mp z).2; rw [q] at this; cases this
  rw [rch_0 e] at h
  unfold rtI
  rw [← h, if_neg (by rw [e]; decide)]

set_option maxHeartbeats 4000000 in
set_option maxRecDepth 100000 in
theorem m_M_rootOf {g : aw_G} (hg : aw_T g) {ws : va_W} {ad : Nat → Nat} {n : Nat} {x : Nat} {y : Nat} {V : Nat → Nat} {J : Nat → Nat} {Rw : Nat → Nat} {Tt : Nat → Nat} {q : Nat} {So : Nat → Int32} {Bo : Nat → Nat} {fo : Int} {tw : Int} {St : Nat → Nat} {Sh : Nat → Int} {ss : Int} {Nw : Nat → Int} {Th : Nat → Int} {ov ro v : Nat} (hM : gM g ws ad n x y V J Rw Tt q So Bo fo tw St Sh ss Nw Th) (hn : n ≤ 5) (hov : ov < 32) (hro : ro < 32) (hI : into n (an ov ro) ov St) (hv : v < n) (hvo : ov.testBit v = true) : AMet g y_M_rootOf c_M_rootOf 5 (some .int) 0 [.ref (ad 40), .int (nI v), .int (nI ro)] ws (aw_R (.int (rtI (an ov ro) St v)) ws) 0 0 := by
  refine amet_of (by decide +kernel) (Nat.le_of_ble_eq_true rfl) ?_
  refine aw_sub (lv' := [(0, .ref (ad 40)), (1, .int (nI v)), (2, .int (nI ro))]) [0, 1, 2] rfl ?_
  have lp : ∀ (k : Nat) (u j : Nat), u < n → ov.testBit u = true → ((j ≤ 5 ∧ rch (an ov ro) St (5 - j) u = rch (an ov ro) St 5 v) ∨ (j = 6 ∧ (an ov ro).testBit (rch (an ov ro) St 5 v) = true)) → 6 - j < k → AW g y_M_rootOf c_M_rootOf 5 (some .int) (aw_rm 0 0 0) aw_E0 (aw_F g (aw_R (.int (rtI (an ov ro) St v)) ws) 0 0) 0 0 5 [(0, .ref (ad 40)), (2, .int (nI ro)), (3, .int (nI u)), (4, .int (nI j))] [] ws := by
    intro k
    induction k with
    | zero => intro u j hu huo hj hk; omega
    | succ k ih =>
      intro u j hu huo hj hk
      refine aw_iload d_M_rootOf_5 rfl ?_
      refine aw_bipush (v := nI 6) d_M_rootOf_7 (by decide) ?_
      refine aw_icmp_geN (tgt := 36) d_M_rootOf_9 (by decide) (by omega) (by omega) (fun h1 => ?_) (fun h1 => ?_)
      · have e : (an ov ro).testBit (rch (an ov ro) St 5 v) = true := by rcases hj with q | q; omega; exact q.2
        refine aw_iconst (v := -1) d_M_rootOf_36 (by decide) ?_
        exact aw_iret d_M_rootOf_37 (Nat.le_refl 0) (Nat.le_refl 0) ⟨by unfold rtI; rw [if_pos e], rfl⟩
      · have hj2 : j ≤ 5 ∧ rch (an ov ro) St (5 - j) u = rch (an ov ro) St 5 v := by rcases hj with q | q; exact q; omega
        refine aw_iload_n d_M_rootOf_12 rfl rfl ?_
        refine aw_iload_n d_M_rootOf_13 rfl rfl ?_
        refine aw_ishr d_M_rootOf_14 ?_
        refine aw_iconst (v := nI 1) d_M_rootOf_15 (by decide) ?_
        refine aw_iand d_M_rootOf_16 ?_
        refine aw_nmi (z := nI (bN (ro.testBit u))) (bt_eq ro hro u (by omega)) ?_
        refine aw_iconst (v := nI 1) d_M_rootOf_17 (by decide) ?_
        refine aw_icmp_neN (tgt := 23) d_M_rootOf_18 (by decide) (bN_le _) (by omega) (fun h2 => ?_) (fun h2 => ?_)
        · have hUu : (an ov ro).testBit u = true := (an_tb hov hro).mpr ⟨huo, bN_n1 h2⟩
          refine aw_aload_n d_M_rootOf_23 rfl rfl ?_
          refine aw_get kc_6 12 (by decide) k_416 d_M_rootOf_24 hM.1 rfl ?_
          refine aw_iload_n d_M_rootOf_27 rfl rfl ?_
          refine aw_ialdA d_M_rootOf_28 hM.2.2.2.2.2.2.2.1 hg (by omega) (by decide) ?_
          refine aw_istore_n (lv' := [(3, .int (nI (St u))), (0, .ref (ad 40)), (2, .int (nI ro)), (4, .int (nI j))]) d_M_rootOf_29 rfl (by decide) rfl ?_
          refine aw_iinc1 (lv' := [(4, .int (nI (j + 1))), (3, .int (nI (St u))), (0, .ref (ad 40)), (2, .int (nI ro))]) d_M_rootOf_30 rfl (by decide) rfl ?_
          refine aw_goto (tgt := 5) d_M_rootOf_33 (by decide) ?_
          refine aw_sub (lv' := [(0, .ref (ad 40)), (2, .int (nI ro)), (3, .int (nI (St u))), (4, .int (nI (j + 1)))]) [2, 3, 1, 0] rfl ?_
          exact ih (St u) (j + 1) (hI u hu hUu).1 (hI u hu hUu).2 (rt_next hUu hj2) (by omega)
        · have e := rt_stop hov hro (bN_1.mp h2) hj2.2
          refine aw_iload_n d_M_rootOf_21 rfl rfl ?_
          exact aw_iret d_M_rootOf_22 (Nat.le_refl 0) (Nat.le_refl 0) ⟨by rw [e], rfl⟩
  refine aw_iload_n d_M_rootOf_0 rfl rfl ?_
  refine aw_istore_n (lv' := [(3, .int (nI v)), (0, .ref (ad 40)), (1, .int (nI v)), (2, .int (nI ro))]) d_M_rootOf_1 rfl (by decide) rfl ?_
  refine aw_iconst (v := nI 0) d_M_rootOf_2 (by decide) ?_
  refine aw_istore (lv' := [(4, .int (nI 0)), (3, .int (nI v)), (0, .ref (ad 40)), (1, .int (nI v)), (2, .int (nI ro))]) d_M_rootOf_3 (by decide) rfl ?_
  refine aw_sub (lv' := [(0, .ref (ad 40)), (2, .int (nI ro)), (3, .int (nI v)), (4, .int (nI 0))]) [2, 4, 1, 0] rfl ?_
  exact lp 7 v 0 hv hvo (Or.inl ⟨by omega, rfl⟩) (by omega)

theorem rt_out {n U s : Nat} {f : Nat → Nat} (h : acyc n U f = true) (hs : s < n) : U.testBit (rch U f 5 s) = false := by
  cases q : U.testBit s with
  | true => exact acyc_iff.mp h s hs q
  | false => rw [rch_0 q]; exact q
theorem cw_0 {P : Nat → Nat → Nat} {ov v d w : Nat} (h : ov.testBit d = false) : (w : Int) * 0 = ((w * Pov P ov v d : Nat) : Int) := by unfold Pov; rw [if_neg (by rw [h]; decide), Nat.mul_zero, Int.mul_zero]; rfl
theorem cw_1 {P : Nat → Nat → Nat} {ov v d w : Nat} (h : ov.testBit d = true) : (w : Int) * (P v d : Int) = ((w * Pov P ov v d : Nat) : Int) := by unfold Pov; rw [if_pos h, Int.natCast_mul]

set_option maxHeartbeats 4000000 in
set_option maxRecDepth 100000 in
theorem m_M_count {g : aw_G} (hg : aw_T g) {ws : va_W} {ad : Nat → Nat} {n : Nat} {x : Nat} {y : Nat} {V : Nat → Nat} {J : Nat → Nat} {Rw : Nat → Nat} {Tt : Nat → Nat} {q : Nat} {So : Nat → Int32} {Bo : Nat → Nat} {fo : Int} {tw : Int} {St : Nat → Nat} {Sh : Nat → Int} {ss : Int} {Nw : Nat → Int} {Th : Nat → Int} {W : Nat → Nat → Nat} {ov ro s z : Nat} (hM : gM g ws ad n x y V J Rw Tt q So Bo fo tw St Sh ss Nw Th) (hok : okG n x y W J) (hR : rwOk n x y W J Rw Tt) (hov : ov < 32) (hro : ro < 32) (hs : s < n) (hso : ov.testBit s = true) (hz : z < 32) : AMet g y_M_count c_M_count 12 none 1 [.ref (ad 40), .int (nI ov), .int (nI ro), .int (nI s), .int (nI z)] ws (qCount g ad ws W n x y V J Rw Tt q So Bo Sh ss Nw Th ov ro s z) 0 0 := by
  have hn := hok.1
  have h0 : 0 < n := by omega
  have hU := an_lt ov hov ro hro
  have hm5 := mnP_le (U := an ov ro) hn n
  have hm6 : 5 ^ n ≤ 5 ^ 5 := Nat.pow_le_pow_right (by decide) hn
  have hw5 : 400 ^ n ≤ 400 ^ 5 := Nat.pow_le_pow_right (by decide) hn
  refine amet_of (by decide +kernel) (Nat.le_of_ble_eq_true rfl) ?_
  refine aw_sub (lv' := [(0, .ref (ad 40)), (1, .int (nI ov)), (2, .int (nI ro)), (3, .int (nI s)), (4, .int (nI z))]) [0, 1, 2, 3, 4] rfl ?_
  have lP : ∀ (k : Nat) (ws1 : va_W) (St1 : Nat → Nat) (p : Nat), gM g ws1 ad n x y V J Rw Tt q So Bo (sN (cAt (Pov (nr n x y W J) ov) n (an ov ro) (FA n (an ov ro))) p : Int) (sN (cAt (Pov (nr n x y W J) ov) n (an ov ro) (FG n (an ov ro) s z)) p : Int) St1 Sh ss Nw Th → fr 40 51 ws ws1 → p ≤ mnP (an ov ro) n n → mnP (an ov ro) n n - p < k → AW g y_M_count c_M_count 12 none (aw_rm 1 0 0) aw_E0 (aw_F g (qCount g ad ws W n x y V J Rw Tt q So Bo Sh ss Nw Th ov ro s z) 0 0) 0 0 61 [(0, .ref (ad 40)), (1, .int (nI ov)), (2, .int (nI ro)), (3, .int (nI s)), (4, .int (nI z)), (5, .int (nI (mnP (an ov ro) n n))), (6, .int (nI p))] [] ws1 := by
    intro k
    induction k with
    | zero => intro ws1 St1 p hM1 f1 hp0 hk; omega
    | succ k ih =>
      intro ws1 St1 p hM1 f1 hp0 hk
      refine aw_iload d_M_count_61 rfl ?_
      refine aw_iload d_M_count_63 rfl ?_
      refine aw_icmp_geN (tgt := 291) d_M_count_65 (by decide) (by omega) (by omega) (fun hp => ?_) (fun hp => ?_)
      · have e : p = mnP (an ov ro) n n := by omega
        subst e
        rw [cAt_sum h0, cAt_sum h0] at hM1
        exact aw_vret d_M_count_291 (Nat.le_refl 0) (Nat.le_refl 0) ⟨rfl, f1, St1, hM1⟩
      · have ihP := ih
        have lG : ∀ (k : Nat) (ws2 : va_W) (St2 : Nat → Nat) (w u : Nat) (c : Bool), gM g ws2 ad n x y V J Rw Tt q So Bo (sN (cAt (Pov (nr n x y W J) ov) n (an ov ro) (FA n (an ov ro))) p : Int) (sN (cAt (Pov (nr n x y W J) ov) n (an ov ro) (FG n (an ov ro) s z)) p : Int) St2 Sh ss Nw Th → fr 40 51 ws ws2 → u ≤ n → w < 2 ^ 62 → (∀ i, i < n → (an ov ro).testBit i = true → St2 i < n ∧ (0 < w → ov.testBit (St2 i) = true)) → (∀ G, w * G St2 = cS (Pov (nr n x y W J) ov) n (an ov ro) G n 0 p St1 1) → (c = true ↔ 0 < w ∧ ∀ v, v < u → v < n → (an ov ro).testBit v = true → (an ov ro).testBit (rch (an ov ro) St2 5 v) = false) → n - u < k → AW g y_M_count c_M_count 12 none (aw_rm 1 0 0) aw_E0 (aw_F g (qCount g ad ws W n x y V J Rw Tt q So Bo Sh ss Nw Th ov ro s z) 0 0) 0 0 189 [(0, .ref (ad 40)), (1, .int (nI ov)), (2, .int (nI ro)), (3, .int (nI s)), (4, .int (nI z)), (5, .int (nI (mnP (an ov ro) n n))), (6, .int (nI p)), (8, .long (lI (w : Int))), (10, .int (bI c)), (11, .int (nI u))] [] ws2 := by
          intro k
          induction k with
          | zero => intro ws2 St2 w u c hM2 f2 hu0 hw62 hin hcs hc hk2; omega
          | succ k ih =>
            intro ws2 St2 w u c hM2 f2 hu0 hw62 hin hcs hc hk2
            refine aw_iload d_M_count_189 rfl ?_
            refine aw_aload_n d_M_count_191 rfl rfl ?_
            refine aw_get kc_6 0 (by decide) k_404 d_M_count_192 hM2.1 rfl ?_
            refine aw_icmp_geN (tgt := 239) d_M_count_195 (by decide) (by omega) (by omega) (fun hu => ?_) (fun hu => ?_)
            · have hcc := gd_end (show n ≤ u by omega) hc
              refine aw_iload d_M_count_239 rfl ?_
              refine aw_if_eqB (tgt := 285) d_M_count_241 (by decide) (fun hcf => ?_) (fun hcf => ?_)
              · have z1 := cAt_val h0 (fun f h e => FA_agr f h e) (hcs (FA n (an ov ro))) (gd_0 hcc hcf FA_0)
                have z2 := cAt_val h0 (fun f h e => FG_agr (a := s) (G := z) hs f h e) (hcs (FG n (an ov ro) s z)) (gd_0 hcc hcf FG_0)
                refine aw_iinc1 (lv' := [(6, .int (nI (p + 1))), (0, .ref (ad 40)), (1, .int (nI ov)), (2, .int (nI ro)), (3, .int (nI s)), (4, .int (nI z)), (5, .int (nI (mnP (an ov ro) n n))), (8, .long (lI (w : Int))), (10, .int (bI c)), (11, .int (nI u))]) d_M_count_285 rfl (by decide) rfl ?_
                refine aw_goto (tgt := 61) d_M_count_288 (by decide) ?_
                refine aw_sub (lv' := [(0, .ref (ad 40)), (1, .int (nI ov)), (2, .int (nI ro)), (3, .int (nI s)), (4, .int (nI z)), (5, .int (nI (mnP (an ov ro) n n))), (6, .int (nI (p + 1)))]) [1, 2, 3, 4, 5, 6, 0] rfl ?_
                exact ihP ws2 St2 (p + 1) (by rw [sN_no z1, sN_no z2]; exact hM2) f2 (by omega) (by omega)
              · obtain ⟨hw0, hac⟩ := hcc.mp hcf
                have hI := gd_in hin hw0
                have hro2 := rch_ov hI 5 s hs hso
                have hnot : (an ov ro).testBit (rch (an ov ro) St2 5 s) = false := rt_out hac hs
                have z1 := cAt_val h0 (fun f h e => FA_agr f h e) (hcs (FA n (an ov ro))) (FA_1 hac)
                refine aw_aload_n d_M_count_244 rfl rfl ?_
                refine aw_dup d_M_count_245 rfl ?_
                refine aw_get kc_6 10 (by decide) k_414 d_M_count_246 hM2.1 rfl ?_
                refine aw_lload d_M_count_249 rfl ?_
                refine aw_laddI d_M_count_251 ?_
                refine aw_nml (z := lI ((sN (cAt (Pov (nr n x y W J) ov) n (an ov ro) (FA n (an ov ro))) (p + 1) : Int))) (congrArg lI (sn_add z1)) ?_
                refine aw_putN kc_6 10 (by decide) k_414 d_M_count_252 hM2.1 rfl rfl rfl (Nat.le_of_ble_eq_true rfl) (fun zws1 za2 zb3 zc4 => ?_)
                have zf5 : zws1[40]? = some (ad 40, .inr (6, [.int (nI n), .ref (ad 41), .ref (ad 42), .int (nI x), .int (nI y), .ref (ad 43), .ref (ad 44), .int (nI q), .ref (ad 45), .ref (ad 46), .long (lI ((sN (cAt (Pov (nr n x y W J) ov) n (an ov ro) (FA n (an ov ro))) (p + 1) : Int))), .long (lI (sN (cAt (Pov (nr n x y W J) ov) n (an ov ro) (FG n (an ov ro) s z)) p : Int)), .ref (ad 47), .ref (ad 48), .long (lI ss), .ref (ad 49), .ref (ad 50)])) := za2
                have hM3 := hM2.p40 (n' := n) (x' := x) (y' := y) (q' := q) (ss' := ss) (fo' := (sN (cAt (Pov (nr n x y W J) ov) n (an ov ro) (FA n (an ov ro))) (p + 1) : Int)) (tw' := (sN (cAt (Pov (nr n x y W J) ov) n (an ov ro) (FG n (an ov ro) s z)) p : Int)) za2 zb3
                have f3 := f2.tr (fr.one (lo := 40) (hi := 51) zb3 zc4 (by omega) (by omega))
                refine aw_aload_n d_M_count_255 rfl rfl ?_
                refine aw_dup d_M_count_256 rfl ?_
                refine aw_get kc_6 11 (by decide) k_415 d_M_count_257 zf5 rfl ?_
                refine aw_iload d_M_count_260 rfl ?_
                refine aw_aload_n d_M_count_262 rfl rfl ?_
                refine aw_iload_n d_M_count_263 rfl rfl ?_
                refine aw_iload_n d_M_count_264 rfl rfl ?_
                refine aw_callV (av := [.int (nI s), .int (nI ro)]) (rest := [.int (nI z), .long (lI (sN (cAt (Pov (nr n x y W J) ov) n (an ov ro) (FG n (an ov ro) s z)) p : Int)), .ref (ad 40)]) (m_M_rootOf hg hM3 hn hov hro hI hs hso) kd_M_rootOf k_541 k_543 ks_M_rootOf rfl zf5 d_M_count_265 rfl ⟨by decide, by decide⟩ (Nat.le_of_ble_eq_true rfl) ⟨by decide, by decide⟩ rfl (fun v4 ws4 hq4 => ?_)
                obtain ⟨rfl, rfl⟩ := hq4
                refine aw_nmi (z := nI (rch (an ov ro) St2 5 s)) (by unfold rtI; rw [if_neg (by rw [hnot]; decide)]) ?_
                refine aw_ishr d_M_count_268 ?_
                refine aw_iconst (v := nI 1) d_M_count_269 (by decide) ?_
                refine aw_iand d_M_count_270 ?_
                refine aw_nmi (z := nI (bN (z.testBit (rch (an ov ro) St2 5 s)))) (bt_eq z hz _ (by omega)) ?_
                refine aw_iconst (v := nI 1) d_M_count_271 (by decide) ?_
                refine aw_icmp_neN (tgt := 280) d_M_count_272 (by decide) (bN_le _) (by omega) (fun hb => ?_) (fun hb => ?_)
                · have z2 := cAt_val h0 (fun f h e => FG_agr (a := s) (G := z) hs f h e) (hcs (FG n (an ov ro) s z)) (FG_2 (bN_n1 hb))
                  refine aw_lconst (v := lI 0) d_M_count_280 (by decide) ?_
                  refine aw_laddI d_M_count_281 ?_
                  refine aw_nml (z := lI ((sN (cAt (Pov (nr n x y W J) ov) n (an ov ro) (FG n (an ov ro) s z)) (p + 1) : Int))) (congrArg lI (sn_add0 z2)) ?_
                  refine aw_putN kc_6 11 (by decide) k_415 d_M_count_282 zf5 rfl rfl rfl (Nat.le_of_ble_eq_true rfl) (fun zws6 za7 zb8 zc9 => ?_)
                  have zf10 : zws6[40]? = some (ad 40, .inr (6, [.int (nI n), .ref (ad 41), .ref (ad 42), .int (nI x), .int (nI y), .ref (ad 43), .ref (ad 44), .int (nI q), .ref (ad 45), .ref (ad 46), .long (lI ((sN (cAt (Pov (nr n x y W J) ov) n (an ov ro) (FA n (an ov ro))) (p + 1) : Int))), .long (lI ((sN (cAt (Pov (nr n x y W J) ov) n (an ov ro) (FG n (an ov ro) s z)) (p + 1) : Int))), .ref (ad 47), .ref (ad 48), .long (lI ss), .ref (ad 49), .ref (ad 50)])) := za7
                  have hM4 := hM3.p40 (n' := n) (x' := x) (y' := y) (q' := q) (ss' := ss) (fo' := (sN (cAt (Pov (nr n x y W J) ov) n (an ov ro) (FA n (an ov ro))) (p + 1) : Int)) (tw' := (sN (cAt (Pov (nr n x y W J) ov) n (an ov ro) (FG n (an ov ro) s z)) (p + 1) : Int)) za7 zb8
                  have f4 := f3.tr (fr.one (lo := 40) (hi := 51) zb8 zc9 (by omega) (by omega))
                  refine aw_iinc1 (lv' := [(6, .int (nI (p + 1))), (0, .ref (ad 40)), (1, .int (nI ov)), (2, .int (nI ro)), (3, .int (nI s)), (4, .int (nI z)), (5, .int (nI (mnP (an ov ro) n n))), (8, .long (lI (w : Int))), (10, .int (bI c)), (11, .int (nI u))]) d_M_count_285 rfl (by decide) rfl ?_
                  refine aw_goto (tgt := 61) d_M_count_288 (by decide) ?_
                  refine aw_sub (lv' := [(0, .ref (ad 40)), (1, .int (nI ov)), (2, .int (nI ro)), (3, .int (nI s)), (4, .int (nI z)), (5, .int (nI (mnP (an ov ro) n n))), (6, .int (nI (p + 1)))]) [1, 2, 3, 4, 5, 6, 0] rfl ?_
                  exact ihP _ St2 (p + 1) hM4 f4 (by omega) (by omega)
                · have z2 := cAt_val h0 (fun f h e => FG_agr (a := s) (G := z) hs f h e) (hcs (FG n (an ov ro) s z)) (FG_1 hac (bN_1.mp hb))
                  refine aw_lload d_M_count_275 rfl ?_
                  refine aw_goto (tgt := 281) d_M_count_277 (by decide) ?_
                  refine aw_laddI d_M_count_281 ?_
                  refine aw_nml (z := lI ((sN (cAt (Pov (nr n x y W J) ov) n (an ov ro) (FG n (an ov ro) s z)) (p + 1) : Int))) (congrArg lI (sn_add z2)) ?_
                  refine aw_putN kc_6 11 (by decide) k_415 d_M_count_282 zf5 rfl rfl rfl (Nat.le_of_ble_eq_true rfl) (fun zws11 za12 zb13 zc14 => ?_)
                  have zf15 : zws11[40]? = some (ad 40, .inr (6, [.int (nI n), .ref (ad 41), .ref (ad 42), .int (nI x), .int (nI y), .ref (ad 43), .ref (ad 44), .int (nI q), .ref (ad 45), .ref (ad 46), .long (lI ((sN (cAt (Pov (nr n x y W J) ov) n (an ov ro) (FA n (an ov ro))) (p + 1) : Int))), .long (lI ((sN (cAt (Pov (nr n x y W J) ov) n (an ov ro) (FG n (an ov ro) s z)) (p + 1) : Int))), .ref (ad 47), .ref (ad 48), .long (lI ss), .ref (ad 49), .ref (ad 50)])) := za12
                  have hM4 := hM3.p40 (n' := n) (x' := x) (y' := y) (q' := q) (ss' := ss) (fo' := (sN (cAt (Pov (nr n x y W J) ov) n (an ov ro) (FA n (an ov ro))) (p + 1) : Int)) (tw' := (sN (cAt (Pov (nr n x y W J) ov) n (an ov ro) (FG n (an ov ro) s z)) (p + 1) : Int)) za12 zb13
                  have f4 := f3.tr (fr.one (lo := 40) (hi := 51) zb13 zc14 (by omega) (by omega))
                  refine aw_iinc1 (lv' := [(6, .int (nI (p + 1))), (0, .ref (ad 40)), (1, .int (nI ov)), (2, .int (nI ro)), (3, .int (nI s)), (4, .int (nI z)), (5, .int (nI (mnP (an ov ro) n n))), (8, .long (lI (w : Int))), (10, .int (bI c)), (11, .int (nI u))]) d_M_count_285 rfl (by decide) rfl ?_
                  refine aw_goto (tgt := 61) d_M_count_288 (by decide) ?_
                  refine aw_sub (lv' := [(0, .ref (ad 40)), (1, .int (nI ov)), (2, .int (nI ro)), (3, .int (nI s)), (4, .int (nI z)), (5, .int (nI (mnP (an ov ro) n n))), (6, .int (nI (p + 1)))]) [1, 2, 3, 4, 5, 6, 0] rfl ?_
                  exact ihP _ St2 (p + 1) hM4 f4 (by omega) (by omega)
            · refine aw_iload d_M_count_198 rfl ?_
              refine aw_if_eqB (tgt := 239) d_M_count_200 (by decide) (fun h3 => ?_) (fun h3 => ?_)
              · have hcc := gd_early h3 hc
                refine aw_iload d_M_count_239 rfl ?_
                refine aw_if_eqB (tgt := 285) d_M_count_241 (by decide) (fun hcf => ?_) (fun hcf => ?_)
                · have z1 := cAt_val h0 (fun f h e => FA_agr f h e) (hcs (FA n (an ov ro))) (gd_0 hcc hcf FA_0)
                  have z2 := cAt_val h0 (fun f h e => FG_agr (a := s) (G := z) hs f h e) (hcs (FG n (an ov ro) s z)) (gd_0 hcc hcf FG_0)
                  refine aw_iinc1 (lv' := [(6, .int (nI (p + 1))), (0, .ref (ad 40)), (1, .int (nI ov)), (2, .int (nI ro)), (3, .int (nI s)), (4, .int (nI z)), (5, .int (nI (mnP (an ov ro) n n))), (8, .long (lI (w : Int))), (10, .int (bI c)), (11, .int (nI u))]) d_M_count_285 rfl (by decide) rfl ?_
                  refine aw_goto (tgt := 61) d_M_count_288 (by decide) ?_
                  refine aw_sub (lv' := [(0, .ref (ad 40)), (1, .int (nI ov)), (2, .int (nI ro)), (3, .int (nI s)), (4, .int (nI z)), (5, .int (nI (mnP (an ov ro) n n))), (6, .int (nI (p + 1)))]) [1, 2, 3, 4, 5, 6, 0] rfl ?_
                  exact ihP ws2 St2 (p + 1) (by rw [sN_no z1, sN_no z2]; exact hM2) f2 (by omega) (by omega)
                · obtain ⟨hw0, hac⟩ := hcc.mp hcf
                  have hI := gd_in hin hw0
                  have hro2 := rch_ov hI 5 s hs hso
                  have hnot : (an ov ro).testBit (rch (an ov ro) St2 5 s) = false := rt_out hac hs
                  have z1 := cAt_val h0 (fun f h e => FA_agr f h e) (hcs (FA n (an ov ro))) (FA_1 hac)
                  refine aw_aload_n d_M_count_244 rfl rfl ?_
                  refine aw_dup d_M_count_245 rfl ?_
                  refine aw_get kc_6 10 (by decide) k_414 d_M_count_246 hM2.1 rfl ?_
                  refine aw_lload d_M_count_249 rfl ?_
                  refine aw_laddI d_M_count_251 ?_
                  refine aw_nml (z := lI ((sN (cAt (Pov (nr n x y W J) ov) n (an ov ro) (FA n (an ov ro))) (p + 1) : Int))) (congrArg lI (sn_add z1)) ?_
                  refine aw_putN kc_6 10 (by decide) k_414 d_M_count_252 hM2.1 rfl rfl rfl (Nat.le_of_ble_eq_true rfl) (fun zws16 za17 zb18 zc19 => ?_)
                  have zf20 : zws16[40]? = some (ad 40, .inr (6, [.int (nI n), .ref (ad 41), .ref (ad 42), .int (nI x), .int (nI y), .ref (ad 43), .ref (ad 44), .int (nI q), .ref (ad 45), .ref (ad 46), .long (lI ((sN (cAt (Pov (nr n x y W J) ov) n (an ov ro) (FA n (an ov ro))) (p + 1) : Int))), .long (lI (sN (cAt (Pov (nr n x y W J) ov) n (an ov ro) (FG n (an ov ro) s z)) p : Int)), .ref (ad 47), .ref (ad 48), .long (lI ss), .ref (ad 49), .ref (ad 50)])) := za17
                  have hM3 := hM2.p40 (n' := n) (x' := x) (y' := y) (q' := q) (ss' := ss) (fo' := (sN (cAt (Pov (nr n x y W J) ov) n (an ov ro) (FA n (an ov ro))) (p + 1) : Int)) (tw' := (sN (cAt (Pov (nr n x y W J) ov) n (an ov ro) (FG n (an ov ro) s z)) p : Int)) za17 zb18
                  have f3 := f2.tr (fr.one (lo := 40) (hi := 51) zb18 zc19 (by omega) (by omega))
                  refine aw_aload_n d_M_count_255 rfl rfl ?_
                  refine aw_dup d_M_count_256 rfl ?_
                  refine aw_get kc_6 11 (by decide) k_415 d_M_count_257 zf20 rfl ?_
                  refine aw_iload d_M_count_260 rfl ?_
                  refine aw_aload_n d_M_count_262 rfl rfl ?_
                  refine aw_iload_n d_M_count_263 rfl rfl ?_
                  refine aw_iload_n d_M_count_264 rfl rfl ?_
                  refine aw_callV (av := [.int (nI s), .int (nI ro)]) (rest := [.int (nI z), .long (lI (sN (cAt (Pov (nr n x y W J) ov) n (an ov ro) (FG n (an ov ro) s z)) p : Int)), .ref (ad 40)]) (m_M_rootOf hg hM3 hn hov hro hI hs hso) kd_M_rootOf k_541 k_543 ks_M_rootOf rfl zf20 d_M_count_265 rfl ⟨by decide, by decide⟩ (Nat.le_of_ble_eq_true rfl) ⟨by decide, by decide⟩ rfl (fun v4 ws4 hq4 => ?_)
                  obtain ⟨rfl, rfl⟩ := hq4
                  refine aw_nmi (z := nI (rch (an ov ro) St2 5 s)) (by unfold rtI; rw [if_neg (by rw [hnot]; decide)]) ?_
                  refine aw_ishr d_M_count_268 ?_
                  refine aw_iconst (v := nI 1) d_M_count_269 (by decide) ?_
                  refine aw_iand d_M_count_270 ?_
                  refine aw_nmi (z := nI (bN (z.testBit (rch (an ov ro) St2 5 s)))) (bt_eq z hz _ (by omega)) ?_
                  refine aw_iconst (v := nI 1) d_M_count_271 (by decide) ?_
                  refine aw_icmp_neN (tgt := 280) d_M_count_272 (by decide) (bN_le _) (by omega) (fun hb => ?_) (fun hb => ?_)
                  · have z2 := cAt_val h0 (fun f h e => FG_agr (a := s) (G := z) hs f h e) (hcs (FG n (an ov ro) s z)) (FG_2 (bN_n1 hb))
                    refine aw_lconst (v := lI 0) d_M_count_280 (by decide) ?_
                    refine aw_laddI d_M_count_281 ?_
                    refine aw_nml (z := lI ((sN (cAt (Pov (nr n x y W J) ov) n (an ov ro) (FG n (an ov ro) s z)) (p + 1) : Int))) (congrArg lI (sn_add0 z2)) ?_
                    refine aw_putN kc_6 11 (by decide) k_415 d_M_count_282 zf20 rfl rfl rfl (Nat.le_of_ble_eq_true rfl) (fun zws21 za22 zb23 zc24 => ?_)
                    have zf25 : zws21[40]? = some (ad 40, .inr (6, [.int (nI n), .ref (ad 41), .ref (ad 42), .int (nI x), .int (nI y), .ref (ad 43), .ref (ad 44), .int (nI q), .ref (ad 45), .ref (ad 46), .long (lI ((sN (cAt (Pov (nr n x y W J) ov) n (an ov ro) (FA n (an ov ro))) (p + 1) : Int))), .long (lI ((sN (cAt (Pov (nr n x y W J) ov) n (an ov ro) (FG n (an ov ro) s z)) (p + 1) : Int))), .ref (ad 47), .ref (ad 48), .long (lI ss), .ref (ad 49), .ref (ad 50)])) := za22
                    have hM4 := hM3.p40 (n' := n) (x' := x) (y' := y) (q' := q) (ss' := ss) (fo' := (sN (cAt (Pov (nr n x y W J) ov) n (an ov ro) (FA n (an ov ro))) (p + 1) : Int)) (tw' := (sN (cAt (Pov (nr n x y W J) ov) n (an ov ro) (FG n (an ov ro) s z)) (p + 1) : Int)) za22 zb23
                    have f4 := f3.tr (fr.one (lo := 40) (hi := 51) zb23 zc24 (by omega) (by omega))
                    refine aw_iinc1 (lv' := [(6, .int (nI (p + 1))), (0, .ref (ad 40)), (1, .int (nI ov)), (2, .int (nI ro)), (3, .int (nI s)), (4, .int (nI z)), (5, .int (nI (mnP (an ov ro) n n))), (8, .long (lI (w : Int))), (10, .int (bI c)), (11, .int (nI u))]) d_M_count_285 rfl (by decide) rfl ?_
                    refine aw_goto (tgt := 61) d_M_count_288 (by decide) ?_
                    refine aw_sub (lv' := [(0, .ref (ad 40)), (1, .int (nI ov)), (2, .int (nI ro)), (3, .int (nI s)), (4, .int (nI z)), (5, .int (nI (mnP (an ov ro) n n))), (6, .int (nI (p + 1)))]) [1, 2, 3, 4, 5, 6, 0] rfl ?_
                    exact ihP _ St2 (p + 1) hM4 f4 (by omega) (by omega)
                  · have z2 := cAt_val h0 (fun f h e => FG_agr (a := s) (G := z) hs f h e) (hcs (FG n (an ov ro) s z)) (FG_1 hac (bN_1.mp hb))
                    refine aw_lload d_M_count_275 rfl ?_
                    refine aw_goto (tgt := 281) d_M_count_277 (by decide) ?_
                    refine aw_laddI d_M_count_281 ?_
                    refine aw_nml (z := lI ((sN (cAt (Pov (nr n x y W J) ov) n (an ov ro) (FG n (an ov ro) s z)) (p + 1) : Int))) (congrArg lI (sn_add z2)) ?_
                    refine aw_putN kc_6 11 (by decide) k_415 d_M_count_282 zf20 rfl rfl rfl (Nat.le_of_ble_eq_true rfl) (fun zws26 za27 zb28 zc29 => ?_)
                    have zf30 : zws26[40]? = some (ad 40, .inr (6, [.int (nI n), .ref (ad 41), .ref (ad 42), .int (nI x), .int (nI y), .ref (ad 43), .ref (ad 44), .int (nI q), .ref (ad 45), .ref (ad 46), .long (lI ((sN (cAt (Pov (nr n x y W J) ov) n (an ov ro) (FA n (an ov ro))) (p + 1) : Int))), .long (lI ((sN (cAt (Pov (nr n x y W J) ov) n (an ov ro) (FG n (an ov ro) s z)) (p + 1) : Int))), .ref (ad 47), .ref (ad 48), .long (lI ss), .ref (ad 49), .ref (ad 50)])) := za27
                    have hM4 := hM3.p40 (n' := n) (x' := x) (y' := y) (q' := q) (ss' := ss) (fo' := (sN (cAt (Pov (nr n x y W J) ov) n (an ov ro) (FA n (an ov ro))) (p + 1) : Int)) (tw' := (sN (cAt (Pov (nr n x y W J) ov) n (an ov ro) (FG n (an ov ro) s z)) (p + 1) : Int)) za27 zb28
                    have f4 := f3.tr (fr.one (lo := 40) (hi := 51) zb28 zc29 (by omega) (by omega))
                    refine aw_iinc1 (lv' := [(6, .int (nI (p + 1))), (0, .ref (ad 40)), (1, .int (nI ov)), (2, .int (nI ro)), (3, .int (nI s)), (4, .int (nI z)), (5, .int (nI (mnP (an ov ro) n n))), (8, .long (lI (w : Int))), (10, .int (bI c)), (11, .int (nI u))]) d_M_count_285 rfl (by decide) rfl ?_
                    refine aw_goto (tgt := 61) d_M_count_288 (by decide) ?_
                    refine aw_sub (lv' := [(0, .ref (ad 40)), (1, .int (nI ov)), (2, .int (nI ro)), (3, .int (nI s)), (4, .int (nI z)), (5, .int (nI (mnP (an ov ro) n n))), (6, .int (nI (p + 1)))]) [1, 2, 3, 4, 5, 6, 0] rfl ?_
                    exact ihP _ St2 (p + 1) hM4 f4 (by omega) (by omega)
              · have hI := gd_in hin (hc.mp h3).1
                refine aw_iload_n d_M_count_203 rfl rfl ?_
                refine aw_iload_n d_M_count_204 rfl rfl ?_
                refine aw_iconst (v := -1) d_M_count_205 (by decide) ?_
                refine aw_ixor d_M_count_206 ?_
                refine aw_iand d_M_count_207 ?_
                refine aw_nmi (z := nI (an ov ro)) (an_eq ov hov ro hro) ?_
                refine aw_iload d_M_count_208 rfl ?_
                refine aw_ishr d_M_count_210 ?_
                refine aw_iconst (v := nI 1) d_M_count_211 (by decide) ?_
                refine aw_iand d_M_count_212 ?_
                refine aw_nmi (z := nI (bN ((an ov ro).testBit u))) (bt_eq _ hU u (by omega)) ?_
                refine aw_if_eqN (tgt := 226) d_M_count_213 (by decide) (bN_le _) (fun h4 => ?_) (fun h4 => ?_)
                · refine aw_iconst (v := nI 1) d_M_count_226 (by decide) ?_
                  refine aw_goto (tgt := 231) d_M_count_227 (by decide) ?_
                  refine aw_nmi (z := bI true) (by decide) ?_
                  refine aw_istore (lv' := [(10, .int (bI true)), (0, .ref (ad 40)), (1, .int (nI ov)), (2, .int (nI ro)), (3, .int (nI s)), (4, .int (nI z)), (5, .int (nI (mnP (an ov ro) n n))), (6, .int (nI p)), (8, .long (lI (w : Int))), (11, .int (nI u))]) d_M_count_231 (by decide) rfl ?_
                  refine aw_iinc1 (lv' := [(11, .int (nI (u + 1))), (10, .int (bI true)), (0, .ref (ad 40)), (1, .int (nI ov)), (2, .int (nI ro)), (3, .int (nI s)), (4, .int (nI z)), (5, .int (nI (mnP (an ov ro) n n))), (6, .int (nI p)), (8, .long (lI (w : Int)))]) d_M_count_233 rfl (by decide) rfl ?_
                  refine aw_goto (tgt := 189) d_M_count_236 (by decide) ?_
                  refine aw_sub (lv' := [(0, .ref (ad 40)), (1, .int (nI ov)), (2, .int (nI ro)), (3, .int (nI s)), (4, .int (nI z)), (5, .int (nI (mnP (an ov ro) n n))), (6, .int (nI p)), (8, .long (lI (w : Int))), (10, .int (bI true)), (11, .int (nI (u + 1)))]) [2, 3, 4, 5, 6, 7, 8, 9, 1, 0] rfl ?_
                  exact ih ws2 St2 w (u + 1) true hM2 f2 (by omega) hw62 hin hcs (gd_t h3 hc (fun q => by rw [bN_0 h4] at q; cases q)) (by omega)
                · have hUu := bN_n0 h4
                  have huo := ((an_tb hov hro).mp hUu).1
                  refine aw_aload_n d_M_count_216 rfl rfl ?_
                  refine aw_iload d_M_count_217 rfl ?_
                  refine aw_iload_n d_M_count_219 rfl rfl ?_
                  refine aw_callV (av := [.int (nI u), .int (nI ro)]) (rest := []) (m_M_rootOf hg hM2 hn hov hro hI hu huo) kd_M_rootOf k_541 k_543 ks_M_rootOf rfl hM2.1 d_M_count_220 rfl ⟨by decide, by decide⟩ (Nat.le_of_ble_eq_true rfl) ⟨by decide, by decide⟩ rfl (fun v4 ws4 hq4 => ?_)
                  obtain ⟨rfl, rfl⟩ := hq4
                  refine aw_if_lt (tgt := 230) d_M_count_223 (by decide) (fun h5 => ?_) (fun h5 => ?_)
                  · refine aw_iconst (v := nI 0) d_M_count_230 (by decide) ?_
                    refine aw_nmi (z := bI false) (by decide) ?_
                    refine aw_istore (lv' := [(10, .int (bI false)), (0, .ref (ad 40)), (1, .int (nI ov)), (2, .int (nI ro)), (3, .int (nI s)), (4, .int (nI z)), (5, .int (nI (mnP (an ov ro) n n))), (6, .int (nI p)), (8, .long (lI (w : Int))), (11, .int (nI u))]) d_M_count_231 (by decide) rfl ?_
                    refine aw_iinc1 (lv' := [(11, .int (nI (u + 1))), (10, .int (bI false)), (0, .ref (ad 40)), (1, .int (nI ov)), (2, .int (nI ro)), (3, .int (nI s)), (4, .int (nI z)), (5, .int (nI (mnP (an ov ro) n n))), (6, .int (nI p)), (8, .long (lI (w : Int)))]) d_M_count_233 rfl (by decide) rfl ?_
                    refine aw_goto (tgt := 189) d_M_count_236 (by decide) ?_
                    refine aw_sub (lv' := [(0, .ref (ad 40)), (1, .int (nI ov)), (2, .int (nI ro)), (3, .int (nI s)), (4, .int (nI z)), (5, .int (nI (mnP (an ov ro) n n))), (6, .int (nI p)), (8, .long (lI (w : Int))), (10, .int (bI false)), (11, .int (nI (u + 1)))]) [2, 3, 4, 5, 6, 7, 8, 9, 1, 0] rfl ?_
                    exact ih ws2 St2 w (u + 1) false hM2 f2 (by omega) hw62 hin hcs (gd_f hu hUu ((rtI_neg hI hn hu huo).mp h5)) (by omega)
                  · refine aw_iconst (v := nI 1) d_M_count_226 (by decide) ?_
                    refine aw_goto (tgt := 231) d_M_count_227 (by decide) ?_
                    refine aw_nmi (z := bI true) (by decide) ?_
                    refine aw_istore (lv' := [(10, .int (bI true)), (0, .ref (ad 40)), (1, .int (nI ov)), (2, .int (nI ro)), (3, .int (nI s)), (4, .int (nI z)), (5, .int (nI (mnP (an ov ro) n n))), (6, .int (nI p)), (8, .long (lI (w : Int))), (11, .int (nI u))]) d_M_count_231 (by decide) rfl ?_
                    refine aw_iinc1 (lv' := [(11, .int (nI (u + 1))), (10, .int (bI true)), (0, .ref (ad 40)), (1, .int (nI ov)), (2, .int (nI ro)), (3, .int (nI s)), (4, .int (nI z)), (5, .int (nI (mnP (an ov ro) n n))), (6, .int (nI p)), (8, .long (lI (w : Int)))]) d_M_count_233 rfl (by decide) rfl ?_
                    refine aw_goto (tgt := 189) d_M_count_236 (by decide) ?_
                    refine aw_sub (lv' := [(0, .ref (ad 40)), (1, .int (nI ov)), (2, .int (nI ro)), (3, .int (nI s)), (4, .int (nI z)), (5, .int (nI (mnP (an ov ro) n n))), (6, .int (nI p)), (8, .long (lI (w : Int))), (10, .int (bI true)), (11, .int (nI (u + 1)))]) [2, 3, 4, 5, 6, 7, 8, 9, 1, 0] rfl ?_
                    exact ih ws2 St2 w (u + 1) true hM2 f2 (by omega) hw62 hin hcs (gd_t h3 hc (fun _ => tb_ne (fun q => h5 ((rtI_neg hI hn hu huo).mpr q)))) (by omega)
        have lD : ∀ (k : Nat) (ws2 : va_W) (St2 : Nat → Nat) (v rest w : Nat), gM g ws2 ad n x y V J Rw Tt q So Bo (sN (cAt (Pov (nr n x y W J) ov) n (an ov ro) (FA n (an ov ro))) p : Int) (sN (cAt (Pov (nr n x y W J) ov) n (an ov ro) (FG n (an ov ro) s z)) p : Int) St2 Sh ss Nw Th → fr 40 51 ws ws2 → v ≤ n → rest ≤ p → w ≤ 400 ^ v → (∀ i, i < v → (an ov ro).testBit i = true → St2 i < n ∧ (0 < w → ov.testBit (St2 i) = true)) → (∀ G, cS (Pov (nr n x y W J) ov) n (an ov ro) G (n - v) v rest St2 w = cS (Pov (nr n x y W J) ov) n (an ov ro) G n 0 p St1 1) → n - v < k → AW g y_M_count c_M_count 12 none (aw_rm 1 0 0) aw_E0 (aw_F g (qCount g ad ws W n x y V J Rw Tt q So Bo Sh ss Nw Th ov ro s z) 0 0) 0 0 78 [(0, .ref (ad 40)), (1, .int (nI ov)), (2, .int (nI ro)), (3, .int (nI s)), (4, .int (nI z)), (5, .int (nI (mnP (an ov ro) n n))), (6, .int (nI p)), (7, .int (nI rest)), (8, .long (lI (w : Int))), (10, .int (nI v))] [] ws2 := by
          intro k
          induction k with
          | zero => intro ws2 St2 v rest w hM2 f2 hv0 hrp hw hin hcs hk2; omega
          | succ k ih =>
            intro ws2 St2 v rest w hM2 f2 hv0 hrp hw hin hcs hk2
            refine aw_iload d_M_count_78 rfl ?_
            refine aw_aload_n d_M_count_80 rfl rfl ?_
            refine aw_get kc_6 0 (by decide) k_404 d_M_count_81 hM2.1 rfl ?_
            refine aw_icmp_geN (tgt := 172) d_M_count_84 (by decide) (by omega) (by omega) (fun hv => ?_) (fun hv => ?_)
            · have e : n = v := by omega
              subst e
              have hcs2 : ∀ G, w * G St2 = cS (Pov (nr n x y W J) ov) n (an ov ro) G n 0 p St1 1 := fun G => by have := hcs G; rw [Nat.sub_self] at this; exact this
              refine aw_lload d_M_count_172 rfl ?_
              refine aw_lconst (v := lI 0) d_M_count_174 (by decide) ?_
              refine aw_lcmpI d_M_count_175 (by omega) (by omega) (by omega) (by omega) ?_
              refine aw_if_leC (tgt := 183) d_M_count_176 (by decide) (fun h3 => ?_) (fun h3 => ?_)
              · refine aw_iconst (v := nI 0) d_M_count_183 (by decide) ?_
                refine aw_nmi (z := bI false) (by decide) ?_
                refine aw_istore (lv' := [(10, .int (bI false)), (0, .ref (ad 40)), (1, .int (nI ov)), (2, .int (nI ro)), (3, .int (nI s)), (4, .int (nI z)), (5, .int (nI (mnP (an ov ro) n n))), (6, .int (nI p)), (7, .int (nI rest)), (8, .long (lI (w : Int)))]) d_M_count_184 (by decide) rfl ?_
                refine aw_iconst (v := nI 0) d_M_count_186 (by decide) ?_
                refine aw_istore (lv' := [(11, .int (nI 0)), (10, .int (bI false)), (0, .ref (ad 40)), (1, .int (nI ov)), (2, .int (nI ro)), (3, .int (nI s)), (4, .int (nI z)), (5, .int (nI (mnP (an ov ro) n n))), (6, .int (nI p)), (7, .int (nI rest)), (8, .long (lI (w : Int)))]) d_M_count_187 (by decide) rfl ?_
                refine aw_sub (lv' := [(0, .ref (ad 40)), (1, .int (nI ov)), (2, .int (nI ro)), (3, .int (nI s)), (4, .int (nI z)), (5, .int (nI (mnP (an ov ro) n n))), (6, .int (nI p)), (8, .long (lI (w : Int))), (10, .int (bI false)), (11, .int (nI 0))]) [2, 3, 4, 5, 6, 7, 8, 10, 1, 0] rfl ?_
                exact lG (n + 1) ws2 St2 w 0 false hM2 f2 (by omega) (by omega) hin hcs2 ⟨fun q => (by cases q), fun q => absurd q.1 (by omega)⟩ (by omega)
              · refine aw_iconst (v := nI 1) d_M_count_179 (by decide) ?_
                refine aw_goto (tgt := 184) d_M_count_180 (by decide) ?_
                refine aw_nmi (z := bI true) (by decide) ?_
                refine aw_istore (lv' := [(10, .int (bI true)), (0, .ref (ad 40)), (1, .int (nI ov)), (2, .int (nI ro)), (3, .int (nI s)), (4, .int (nI z)), (5, .int (nI (mnP (an ov ro) n n))), (6, .int (nI p)), (7, .int (nI rest)), (8, .long (lI (w : Int)))]) d_M_count_184 (by decide) rfl ?_
                refine aw_iconst (v := nI 0) d_M_count_186 (by decide) ?_
                refine aw_istore (lv' := [(11, .int (nI 0)), (10, .int (bI true)), (0, .ref (ad 40)), (1, .int (nI ov)), (2, .int (nI ro)), (3, .int (nI s)), (4, .int (nI z)), (5, .int (nI (mnP (an ov ro) n n))), (6, .int (nI p)), (7, .int (nI rest)), (8, .long (lI (w : Int)))]) d_M_count_187 (by decide) rfl ?_
                refine aw_sub (lv' := [(0, .ref (ad 40)), (1, .int (nI ov)), (2, .int (nI ro)), (3, .int (nI s)), (4, .int (nI z)), (5, .int (nI (mnP (an ov ro) n n))), (6, .int (nI p)), (8, .long (lI (w : Int))), (10, .int (bI true)), (11, .int (nI 0))]) [2, 3, 4, 5, 6, 7, 8, 10, 1, 0] rfl ?_
                exact lG (n + 1) ws2 St2 w 0 true hM2 f2 (by omega) (by omega) hin hcs2 ⟨fun _ => ⟨by omega, fun v h => absurd h (by omega)⟩, fun _ => rfl⟩ (by omega)
            · refine aw_iload_n d_M_count_87 rfl rfl ?_
              refine aw_iload_n d_M_count_88 rfl rfl ?_
              refine aw_iconst (v := -1) d_M_count_89 (by decide) ?_
              refine aw_ixor d_M_count_90 ?_
              refine aw_iand d_M_count_91 ?_
              refine aw_nmi (z := nI (an ov ro)) (an_eq ov hov ro hro) ?_
              refine aw_iload d_M_count_92 rfl ?_
              refine aw_ishr d_M_count_94 ?_
              refine aw_iconst (v := nI 1) d_M_count_95 (by decide) ?_
              refine aw_iand d_M_count_96 ?_
              refine aw_nmi (z := nI (bN ((an ov ro).testBit v))) (bt_eq _ hU v (by omega)) ?_
              refine aw_iconst (v := nI 1) d_M_count_97 (by decide) ?_
              refine aw_icmp_neN (tgt := 166) d_M_count_98 (by decide) (bN_le _) (by omega) (fun h3 => ?_) (fun h3 => ?_)
              · have hq := bN_n1 h3
                refine aw_iinc1 (lv' := [(10, .int (nI (v + 1))), (0, .ref (ad 40)), (1, .int (nI ov)), (2, .int (nI ro)), (3, .int (nI s)), (4, .int (nI z)), (5, .int (nI (mnP (an ov ro) n n))), (6, .int (nI p)), (7, .int (nI rest)), (8, .long (lI (w : Int)))]) d_M_count_166 rfl (by decide) rfl ?_
                refine aw_goto (tgt := 78) d_M_count_169 (by decide) ?_
                refine aw_sub (lv' := [(0, .ref (ad 40)), (1, .int (nI ov)), (2, .int (nI ro)), (3, .int (nI s)), (4, .int (nI z)), (5, .int (nI (mnP (an ov ro) n n))), (6, .int (nI p)), (7, .int (nI rest)), (8, .long (lI (w : Int))), (10, .int (nI (v + 1)))]) [1, 2, 3, 4, 5, 6, 7, 8, 9, 0] rfl ?_
                exact ih ws2 St2 (v + 1) rest w hM2 f2 (by omega) hrp (Nat.le_trans hw (Nat.pow_le_pow_right (by decide) (by omega))) (cnt_no hin hq) (fun G => by rw [← hcs G, cS_not hv hq]) (by omega)
              · have hq := bN_1.mp h3
                have hrm := Nat.mod_lt rest h0
                have hrd := Nat.div_le_self rest n
                have h400 := nr_400 hok hv hrm
                refine aw_aload_n d_M_count_101 rfl rfl ?_
                refine aw_get kc_6 12 (by decide) k_416 d_M_count_102 hM2.1 rfl ?_
                refine aw_iload d_M_count_105 rfl ?_
                refine aw_iload d_M_count_107 rfl ?_
                refine aw_aload_n d_M_count_109 rfl rfl ?_
                refine aw_get kc_6 0 (by decide) k_404 d_M_count_110 hM2.1 rfl ?_
                refine aw_iremN d_M_count_113 (by omega) (by omega) (by omega) ?_
                refine aw_iastA d_M_count_114 hM2.2.2.2.2.2.2.2.1 hg (by omega) (by decide) (fun zws31 za32 zb33 zc34 => ?_)
                have hM3 := hM2.p47  za32 zb33
                have f3 := f2.tr (fr.one (lo := 40) (hi := 51) zb33 zc34 (by omega) (by omega))
                refine aw_iload d_M_count_115 rfl ?_
                refine aw_aload_n d_M_count_117 rfl rfl ?_
                refine aw_get kc_6 0 (by decide) k_404 d_M_count_118 ((zb33 40 (by omega)).trans hM2.1) rfl ?_
                refine aw_idivN d_M_count_121 (by omega) (by omega) (by omega) ?_
                refine aw_istore (lv' := [(7, .int (nI (rest / n))), (0, .ref (ad 40)), (1, .int (nI ov)), (2, .int (nI ro)), (3, .int (nI s)), (4, .int (nI z)), (5, .int (nI (mnP (an ov ro) n n))), (6, .int (nI p)), (8, .long (lI (w : Int))), (10, .int (nI v))]) d_M_count_122 (by decide) rfl ?_
                refine aw_lload d_M_count_124 rfl ?_
                refine aw_iload_n d_M_count_126 rfl rfl ?_
                refine aw_aload_n d_M_count_127 rfl rfl ?_
                refine aw_get kc_6 12 (by decide) k_416 d_M_count_128 ((zb33 40 (by omega)).trans hM2.1) rfl ?_
                refine aw_iload d_M_count_131 rfl ?_
                refine aw_ialdA d_M_count_133 za32 hg (by omega) (by decide) ?_
                refine aw_nmi (z := nI (rest % n)) (by rw [fup_at]) ?_
                refine aw_ishr d_M_count_134 ?_
                refine aw_iconst (v := nI 1) d_M_count_135 (by decide) ?_
                refine aw_iand d_M_count_136 ?_
                refine aw_nmi (z := nI (bN (ov.testBit (rest % n)))) (bt_eq ov hov _ (by omega)) ?_
                refine aw_iconst (v := nI 1) d_M_count_137 (by decide) ?_
                refine aw_icmp_neN (tgt := 162) d_M_count_138 (by decide) (bN_le _) (by omega) (fun h4 => ?_) (fun h4 => ?_)
                · refine aw_lconst (v := lI 0) d_M_count_162 (by decide) ?_
                  refine aw_lmulI d_M_count_163 ?_
                  refine aw_nml (z := lI ((w * Pov (nr n x y W J) ov v (rest % n) : Nat) : Int)) (congrArg lI (cw_0 (bN_n1 h4))) ?_
                  refine aw_lstore (lv' := [(8, .long (lI ((w * Pov (nr n x y W J) ov v (rest % n) : Nat) : Int))), (7, .int (nI (rest / n))), (0, .ref (ad 40)), (1, .int (nI ov)), (2, .int (nI ro)), (3, .int (nI s)), (4, .int (nI z)), (5, .int (nI (mnP (an ov ro) n n))), (6, .int (nI p)), (10, .int (nI v))]) d_M_count_164 (by decide) rfl ?_
                  refine aw_iinc1 (lv' := [(10, .int (nI (v + 1))), (8, .long (lI ((w * Pov (nr n x y W J) ov v (rest % n) : Nat) : Int))), (7, .int (nI (rest / n))), (0, .ref (ad 40)), (1, .int (nI ov)), (2, .int (nI ro)), (3, .int (nI s)), (4, .int (nI z)), (5, .int (nI (mnP (an ov ro) n n))), (6, .int (nI p))]) d_M_count_166 rfl (by decide) rfl ?_
                  refine aw_goto (tgt := 78) d_M_count_169 (by decide) ?_
                  refine aw_sub (lv' := [(0, .ref (ad 40)), (1, .int (nI ov)), (2, .int (nI ro)), (3, .int (nI s)), (4, .int (nI z)), (5, .int (nI (mnP (an ov ro) n n))), (6, .int (nI p)), (7, .int (nI (rest / n))), (8, .long (lI ((w * Pov (nr n x y W J) ov v (rest % n) : Nat) : Int))), (10, .int (nI (v + 1)))]) [3, 4, 5, 6, 7, 8, 9, 2, 1, 0] rfl ?_
                  exact ih _ _ (v + 1) (rest / n) (w * Pov (nr n x y W J) ov v (rest % n)) hM3 f3 (by omega) (by omega) (cnt_w hw h400) (cnt_in hin hrm) (fun G => by rw [← hcs G, cS_yes hv hq]) (by omega)
                · refine aw_aload_n d_M_count_141 rfl rfl ?_
                  refine aw_get kc_6 5 (by decide) k_409 d_M_count_142 ((zb33 40 (by omega)).trans hM2.1) rfl ?_
                  refine aw_iconst (v := nI 5) d_M_count_145 (by decide) ?_
                  refine aw_iload d_M_count_146 rfl ?_
                  refine aw_imulN d_M_count_148 ?_
                  refine aw_aload_n d_M_count_149 rfl rfl ?_
                  refine aw_get kc_6 12 (by decide) k_416 d_M_count_150 ((zb33 40 (by omega)).trans hM2.1) rfl ?_
                  refine aw_iload d_M_count_153 rfl ?_
                  refine aw_ialdA d_M_count_155 za32 hg (by omega) (by decide) ?_
                  refine aw_nmi (z := nI (rest % n)) (by rw [fup_at]) ?_
                  refine aw_iaddN d_M_count_156 ?_
                  refine aw_ialdA d_M_count_157 ((zb33 43 (by omega)).trans hM2.2.2.2.1) hg (by omega) (by decide) ?_
                  refine aw_nmi (z := nI (nr n x y W J v (rest % n))) (by rw [(hR v hv).1 _ hrm]) ?_
                  refine aw_i2lN d_M_count_158 (by omega) ?_
                  refine aw_goto (tgt := 163) d_M_count_159 (by decide) ?_
                  refine aw_lmulI d_M_count_163 ?_
                  refine aw_nml (z := lI ((w * Pov (nr n x y W J) ov v (rest % n) : Nat) : Int)) (congrArg lI (cw_1 (bN_1.mp h4))) ?_
                  refine aw_lstore (lv' := [(8, .long (lI ((w * Pov (nr n x y W J) ov v (rest % n) : Nat) : Int))), (7, .int (nI (rest / n))), (0, .ref (ad 40)), (1, .int (nI ov)), (2, .int (nI ro)), (3, .int (nI s)), (4, .int (nI z)), (5, .int (nI (mnP (an ov ro) n n))), (6, .int (nI p)), (10, .int (nI v))]) d_M_count_164 (by decide) rfl ?_
                  refine aw_iinc1 (lv' := [(10, .int (nI (v + 1))), (8, .long (lI ((w * Pov (nr n x y W J) ov v (rest % n) : Nat) : Int))), (7, .int (nI (rest / n))), (0, .ref (ad 40)), (1, .int (nI ov)), (2, .int (nI ro)), (3, .int (nI s)), (4, .int (nI z)), (5, .int (nI (mnP (an ov ro) n n))), (6, .int (nI p))]) d_M_count_166 rfl (by decide) rfl ?_
                  refine aw_goto (tgt := 78) d_M_count_169 (by decide) ?_
                  refine aw_sub (lv' := [(0, .ref (ad 40)), (1, .int (nI ov)), (2, .int (nI ro)), (3, .int (nI s)), (4, .int (nI z)), (5, .int (nI (mnP (an ov ro) n n))), (6, .int (nI p)), (7, .int (nI (rest / n))), (8, .long (lI ((w * Pov (nr n x y W J) ov v (rest % n) : Nat) : Int))), (10, .int (nI (v + 1)))]) [3, 4, 5, 6, 7, 8, 9, 2, 1, 0] rfl ?_
                  exact ih _ _ (v + 1) (rest / n) (w * Pov (nr n x y W J) ov v (rest % n)) hM3 f3 (by omega) (by omega) (cnt_w hw h400) (cnt_in hin hrm) (fun G => by rw [← hcs G, cS_yes hv hq]) (by omega)
        refine aw_iload d_M_count_68 rfl ?_
        refine aw_istore (lv' := [(7, .int (nI p)), (0, .ref (ad 40)), (1, .int (nI ov)), (2, .int (nI ro)), (3, .int (nI s)), (4, .int (nI z)), (5, .int (nI (mnP (an ov ro) n n))), (6, .int (nI p))]) d_M_count_70 (by decide) rfl ?_
        refine aw_lconst (v := lI 1) d_M_count_72 (by decide) ?_
        refine aw_lstore (lv' := [(8, .long (lI 1)), (7, .int (nI p)), (0, .ref (ad 40)), (1, .int (nI ov)), (2, .int (nI ro)), (3, .int (nI s)), (4, .int (nI z)), (5, .int (nI (mnP (an ov ro) n n))), (6, .int (nI p))]) d_M_count_73 (by decide) rfl ?_
        refine aw_iconst (v := nI 0) d_M_count_75 (by decide) ?_
        refine aw_istore (lv' := [(10, .int (nI 0)), (8, .long (lI 1)), (7, .int (nI p)), (0, .ref (ad 40)), (1, .int (nI ov)), (2, .int (nI ro)), (3, .int (nI s)), (4, .int (nI z)), (5, .int (nI (mnP (an ov ro) n n))), (6, .int (nI p))]) d_M_count_76 (by decide) rfl ?_
        refine aw_sub (lv' := [(0, .ref (ad 40)), (1, .int (nI ov)), (2, .int (nI ro)), (3, .int (nI s)), (4, .int (nI z)), (5, .int (nI (mnP (an ov ro) n n))), (6, .int (nI p)), (7, .int (nI p)), (8, .long (lI (1 : Int))), (10, .int (nI 0))]) [3, 4, 5, 6, 7, 8, 9, 2, 1, 0] rfl ?_
        exact lD (n + 1) ws1 St1 0 p 1 hM1 f1 (by omega) (Nat.le_refl p) (Nat.le_refl 1) (fun i hi => absurd hi (by omega)) (fun G => rfl) (by omega)
  refine aw_aload_n d_M_count_0 rfl rfl ?_
  refine aw_lconst (v := lI 0) d_M_count_1 (by decide) ?_
  refine aw_putN kc_6 10 (by decide) k_414 d_M_count_2 hM.1 rfl rfl rfl (Nat.le_of_ble_eq_true rfl) (fun zws35 za36 zb37 zc38 => ?_)
  have zf39 : zws35[40]? = some (ad 40, .inr (6, [.int (nI n), .ref (ad 41), .ref (ad 42), .int (nI x), .int (nI y), .ref (ad 43), .ref (ad 44), .int (nI q), .ref (ad 45), .ref (ad 46), .long (lI 0), .long (lI tw), .ref (ad 47), .ref (ad 48), .long (lI ss), .ref (ad 49), .ref (ad 50)])) := za36
  have hM1 := hM.p40 (n' := n) (x' := x) (y' := y) (q' := q) (ss' := ss) (tw' := tw) (fo' := 0) za36 zb37
  have f1 := (fr.one (lo := 40) (hi := 51) zb37 zc38 (by omega) (by omega))
  refine aw_aload_n d_M_count_5 rfl rfl ?_
  refine aw_lconst (v := lI 0) d_M_count_6 (by decide) ?_
  refine aw_putN kc_6 11 (by decide) k_415 d_M_count_7 zf39 rfl rfl rfl (Nat.le_of_ble_eq_true rfl) (fun zws40 za41 zb42 zc43 => ?_)
  have zf44 : zws40[40]? = some (ad 40, .inr (6, [.int (nI n), .ref (ad 41), .ref (ad 42), .int (nI x), .int (nI y), .ref (ad 43), .ref (ad 44), .int (nI q), .ref (ad 45), .ref (ad 46), .long (lI 0), .long (lI 0), .ref (ad 47), .ref (ad 48), .long (lI ss), .ref (ad 49), .ref (ad 50)])) := za41
  have hM2 := hM1.p40 (n' := n) (x' := x) (y' := y) (q' := q) (ss' := ss) (fo' := 0) (tw' := 0) za41 zb42
  have f2 := f1.tr (fr.one (lo := 40) (hi := 51) zb42 zc43 (by omega) (by omega))
  have hM3 : gM g zws40 ad n x y V J Rw Tt q So Bo (sN (cAt (Pov (nr n x y W J) ov) n (an ov ro) (FA n (an ov ro))) 0 : Int) (sN (cAt (Pov (nr n x y W J) ov) n (an ov ro) (FG n (an ov ro) s z)) 0 : Int) St Sh ss Nw Th := hM2
  have lM : ∀ (k : Nat) (v : Nat), v ≤ n → n - v < k → AW g y_M_count c_M_count 12 none (aw_rm 1 0 0) aw_E0 (aw_F g (qCount g ad ws W n x y V J Rw Tt q So Bo Sh ss Nw Th ov ro s z) 0 0) 0 0 16 [(0, .ref (ad 40)), (1, .int (nI ov)), (2, .int (nI ro)), (3, .int (nI s)), (4, .int (nI z)), (5, .int (nI (mnP (an ov ro) n v))), (6, .int (nI v))] [] zws40 := by
    intro k
    induction k with
    | zero => intro v hv0 hk; omega
    | succ k ih =>
      intro v hv0 hk
      refine aw_iload d_M_count_16 rfl ?_
      refine aw_aload_n d_M_count_18 rfl rfl ?_
      refine aw_get kc_6 0 (by decide) k_404 d_M_count_19 hM3.1 rfl ?_
      refine aw_icmp_geN (tgt := 58) d_M_count_22 (by decide) (by omega) (by omega) (fun hv => ?_) (fun hv => ?_)
      · have e : n = v := by omega
        subst e
        refine aw_iconst (v := nI 0) d_M_count_58 (by decide) ?_
        refine aw_istore (lv' := [(6, .int (nI 0)), (0, .ref (ad 40)), (1, .int (nI ov)), (2, .int (nI ro)), (3, .int (nI s)), (4, .int (nI z)), (5, .int (nI (mnP (an ov ro) n n)))]) d_M_count_59 (by decide) rfl ?_
        refine aw_sub (lv' := [(0, .ref (ad 40)), (1, .int (nI ov)), (2, .int (nI ro)), (3, .int (nI s)), (4, .int (nI z)), (5, .int (nI (mnP (an ov ro) n n))), (6, .int (nI 0))]) [1, 2, 3, 4, 5, 6, 0] rfl ?_
        exact lP (mnP (an ov ro) n n + 1) _ St 0 hM3 f2 (by omega) (by omega)
      · refine aw_iload d_M_count_25 rfl ?_
        refine aw_iload_n d_M_count_27 rfl rfl ?_
        refine aw_iload_n d_M_count_28 rfl rfl ?_
        refine aw_iconst (v := -1) d_M_count_29 (by decide) ?_
        refine aw_ixor d_M_count_30 ?_
        refine aw_iand d_M_count_31 ?_
        refine aw_nmi (z := nI (an ov ro)) (an_eq ov hov ro hro) ?_
        refine aw_iload d_M_count_32 rfl ?_
        refine aw_ishr d_M_count_34 ?_
        refine aw_iconst (v := nI 1) d_M_count_35 (by decide) ?_
        refine aw_iand d_M_count_36 ?_
        refine aw_nmi (z := nI (bN ((an ov ro).testBit v))) (bt_eq _ hU v (by omega)) ?_
        refine aw_iconst (v := nI 1) d_M_count_37 (by decide) ?_
        refine aw_icmp_neN (tgt := 48) d_M_count_38 (by decide) (bN_le _) (by omega) (fun h2 => ?_) (fun h2 => ?_)
        · refine aw_iconst (v := nI 1) d_M_count_48 (by decide) ?_
          refine aw_imulN d_M_count_49 ?_
          refine aw_nmi (z := nI (mnP (an ov ro) n (v + 1))) (by rw [mnP, if_neg (by rw [bN_n1 h2]; decide)]) ?_
          refine aw_istore (lv' := [(5, .int (nI (mnP (an ov ro) n (v + 1)))), (0, .ref (ad 40)), (1, .int (nI ov)), (2, .int (nI ro)), (3, .int (nI s)), (4, .int (nI z)), (6, .int (nI v))]) d_M_count_50 (by decide) rfl ?_
          refine aw_iinc1 (lv' := [(6, .int (nI (v + 1))), (5, .int (nI (mnP (an ov ro) n (v + 1)))), (0, .ref (ad 40)), (1, .int (nI ov)), (2, .int (nI ro)), (3, .int (nI s)), (4, .int (nI z))]) d_M_count_52 rfl (by decide) rfl ?_
          refine aw_goto (tgt := 16) d_M_count_55 (by decide) ?_
          refine aw_sub (lv' := [(0, .ref (ad 40)), (1, .int (nI ov)), (2, .int (nI ro)), (3, .int (nI s)), (4, .int (nI z)), (5, .int (nI (mnP (an ov ro) n (v + 1)))), (6, .int (nI (v + 1)))]) [2, 3, 4, 5, 6, 1, 0] rfl ?_
          exact ih (v + 1) (by omega) (by omega)
        · refine aw_aload_n d_M_count_41 rfl rfl ?_
          refine aw_get kc_6 0 (by decide) k_404 d_M_count_42 hM3.1 rfl ?_
          refine aw_goto (tgt := 49) d_M_count_45 (by decide) ?_
          refine aw_imulN d_M_count_49 ?_
          refine aw_nmi (z := nI (mnP (an ov ro) n (v + 1))) (by rw [mnP, if_pos (bN_1.mp h2)]) ?_
          refine aw_istore (lv' := [(5, .int (nI (mnP (an ov ro) n (v + 1)))), (0, .ref (ad 40)), (1, .int (nI ov)), (2, .int (nI ro)), (3, .int (nI s)), (4, .int (nI z)), (6, .int (nI v))]) d_M_count_50 (by decide) rfl ?_
          refine aw_iinc1 (lv' := [(6, .int (nI (v + 1))), (5, .int (nI (mnP (an ov ro) n (v + 1)))), (0, .ref (ad 40)), (1, .int (nI ov)), (2, .int (nI ro)), (3, .int (nI s)), (4, .int (nI z))]) d_M_count_52 rfl (by decide) rfl ?_
          refine aw_goto (tgt := 16) d_M_count_55 (by decide) ?_
          refine aw_sub (lv' := [(0, .ref (ad 40)), (1, .int (nI ov)), (2, .int (nI ro)), (3, .int (nI s)), (4, .int (nI z)), (5, .int (nI (mnP (an ov ro) n (v + 1)))), (6, .int (nI (v + 1)))]) [2, 3, 4, 5, 6, 1, 0] rfl ?_
          exact ih (v + 1) (by omega) (by omega)
  refine aw_iconst (v := nI 1) d_M_count_10 (by decide) ?_
  refine aw_nmi (z := nI (mnP (an ov ro) n 0)) rfl ?_
  refine aw_istore (lv' := [(5, .int (nI (mnP (an ov ro) n 0))), (0, .ref (ad 40)), (1, .int (nI ov)), (2, .int (nI ro)), (3, .int (nI s)), (4, .int (nI z))]) d_M_count_11 (by decide) rfl ?_
  refine aw_iconst (v := nI 0) d_M_count_13 (by decide) ?_
  refine aw_istore (lv' := [(6, .int (nI 0)), (5, .int (nI (mnP (an ov ro) n 0))), (0, .ref (ad 40)), (1, .int (nI ov)), (2, .int (nI ro)), (3, .int (nI s)), (4, .int (nI z))]) d_M_count_14 (by decide) rfl ?_
  refine aw_sub (lv' := [(0, .ref (ad 40)), (1, .int (nI ov)), (2, .int (nI ro)), (3, .int (nI s)), (4, .int (nI z)), (5, .int (nI (mnP (an ov ro) n 0))), (6, .int (nI 0))]) [2, 3, 4, 5, 6, 1, 0] rfl ?_
  exact lM (n + 1) 0 (by omega) (by omega)
