-- laid by wip/whole/m14.py
def rwOk (n x y : Nat) (W : Nat → Nat → Nat) (J Rw Tt : Nat → Nat) : Prop := ∀ u, u < n → (∀ v, v < n → Rw (5 * u + v) = nr n x y W J u v) ∧ Tt u = tt n x y W J u
theorem raw_a {n x y : Nat} {W : Nat → Nat → Nat} {J : Nat → Nat} {u v z : Nat} (h1 : 0 < sN (W u) n) (h2 : 0 < sN J n) (hz : z = W u v) : x * z * sN J n + (y - x) * J v * sN (W u) n = raw n x y W J u v := by
  unfold raw
  rw [if_pos h1, if_pos h2, hz, Nat.mul_right_comm x, Nat.mul_right_comm (y - x)]
theorem raw_b {n x y : Nat} {W : Nat → Nat → Nat} {J : Nat → Nat} {u v : Nat} (h1 : 0 < sN (W u) n) (h2 : ¬ 0 < sN J n) : W u v = raw n x y W J u v := by
  unfold raw
  rw [if_pos h1, if_neg h2]
theorem raw_c {n x y : Nat} {W : Nat → Nat → Nat} {J : Nat → Nat} {u v : Nat} (h1 : ¬ 0 < sN (W u) n) (h2 : 0 < sN J n) : J v = raw n x y W J u v := by
  unfold raw
  rw [if_neg h1, if_pos h2]
theorem raw_d {n x y : Nat} {W : Nat → Nat → Nat} {J : Nat → Nat} {u v : Nat} (h1 : ¬ 0 < sN (W u) n) (h2 : ¬ 0 < sN J n) : (if u = v then 1 else 0) = raw n x y W J u v := by
  unfold raw
  rw [if_neg h1, if_neg h2]
theorem fup_ne {α : Type} {f : Nat → α} {k j : Nat} {z : α} (h : j ≠ k) : fup f k z j = f j := by unfold fup; rw [if_neg h]
theorem fup_at {α : Type} {f : Nat → α} {k : Nat} {z : α} : fup f k z k = z := by unfold fup; rw [if_pos rfl]

def qRows (g : aw_G) (ad : Nat → Nat) (ws : va_W) (W : Nat → Nat → Nat) (n : Nat) (x : Nat) (y : Nat) (V : Nat → Nat) (J : Nat → Nat) (q : Nat) (So : Nat → Int32) (Bo : Nat → Nat) (fo : Int) (tw : Int) (St : Nat → Nat) (Sh : Nat → Int) (ss : Int) (Nw : Nat → Int) (Th : Nat → Int) : Option Value → va_W → Prop := fun r ws' => r = none ∧ fr 40 51 ws ws' ∧ ∃ Rw Tt : Nat → Nat, gM g ws' ad n x y V J Rw Tt q So Bo fo tw St Sh ss Nw Th ∧ rwOk n x y W J Rw Tt

theorem rw_next {n x y u : Nat} {W : Nat → Nat → Nat} {J Rw Tt : Nat → Nat} (hd : ∀ i, i < u → ∀ j, j < n → Rw (5 * i + j) = nr n x y W J i j) (hb : ∀ j, j < n → Rw (5 * u + j) = nr n x y W J u j) (hT : ∀ i, i < u → Tt i = tt n x y W J i) (ht : tt n x y W J u = sN (raw n x y W J u) n / gcdN (raw n x y W J u) n) : ∀ i, i < u + 1 → (∀ v, v < n → Rw (5 * i + v) = nr n x y W J i v) ∧ fup Tt u (sN (raw n x y W J u) n / gcdN (raw n x y W J u) n) i = tt n x y W J i := fun i hi => by
  by_cases e : i = u
  · subst e
    exact ⟨hb, by rw [fup_at, ht]⟩
  · exact ⟨hd i (by omega), by rw [fup_ne e]; exact hT i (by omega)⟩
theorem rw_div {n x y u v : Nat} {W : Nat → Nat → Nat} {J Rw : Nat → Nat} (hb : ∀ j, j < v → Rw (5 * u + j) = nr n x y W J u j) (e : Rw (5 * u + v) = raw n x y W J u v) : ∀ j, j < v + 1 → fup Rw (5 * u + v) (Rw (5 * u + v) / gcdN (raw n x y W J u) n) (5 * u + j) = nr n x y W J u j := fun j hj => by
  by_cases q : j = v
  · subst q
    rw [fup_at, e]; rfl
  · rw [fup_ne (by omega)]; exact hb j (by omega)
theorem rw_add {u v : Nat} {f Rw : Nat → Nat} (hb : ∀ j, j < v → Rw (5 * u + j) = f j) : ∀ j, j < v + 1 → fup Rw (5 * u + v) (f v) (5 * u + j) = f j := fun j hj => by
  by_cases q : j = v
  · subst q
    rw [fup_at]
  · rw [fup_ne (by omega)]; exact hb j (by omega)

set_option maxHeartbeats 4000000 in
set_option maxRecDepth 100000 in
theorem m_M_findRows {g : aw_G} (hg : aw_T g) {ws : va_W} {ad : Nat → Nat} {n : Nat} {x : Nat} {y : Nat} {V : Nat → Nat} {J : Nat → Nat} {Rw : Nat → Nat} {Tt : Nat → Nat} {q : Nat} {So : Nat → Int32} {Bo : Nat → Nat} {fo : Int} {tw : Int} {St : Nat → Nat} {Sh : Nat → Int} {ss : Int} {Nw : Nat → Int} {Th : Nat → Int} {W : Nat → Nat → Nat} (hM : gM g ws ad n x y V J Rw Tt q So Bo fo tw St Sh ss Nw Th) (hok : okG n x y W J) (hV : vw V W) : AMet g y_M_findRows c_M_findRows 9 none 1 [.ref (ad 40)] ws (qRows g ad ws W n x y V J q So Bo fo tw St Sh ss Nw Th) 0 0 := by
  have hn := hok.1
  have hxy := hok.2.1
  have ha := sN_le (f := J) (b := 2) (n := n) (fun i hi => hok.2.2.2.2.2 i (by omega))
  refine amet_of (by decide +kernel) (Nat.le_of_ble_eq_true rfl) ?_
  refine aw_sub (lv' := [(0, .ref (ad 40))]) [0] rfl ?_
  have lU : ∀ (k : Nat) (ws1 : va_W) (Rw1 Tt1 : Nat → Nat) (u : Nat), gM g ws1 ad n x y V J Rw1 Tt1 q So Bo fo tw St Sh ss Nw Th → fr 40 51 ws ws1 → u ≤ n → (∀ i, i < u → (∀ v, v < n → Rw1 (5 * i + v) = nr n x y W J i v) ∧ Tt1 i = tt n x y W J i) → n - u < k → AW g y_M_findRows c_M_findRows 9 none (aw_rm 1 0 0) aw_E0 (aw_F g (qRows g ad ws W n x y V J q So Bo fo tw St Sh ss Nw Th) 0 0) 0 0 29 [(0, .ref (ad 40)), (1, .int (nI (sN J n))), (2, .int (nI u))] [] ws1 := by
    intro k
    induction k with
    | zero => intro ws1 Rw1 Tt1 u hM1 f1 hu0 hr hk; omega
    | succ k ih =>
      intro ws1 Rw1 Tt1 u hM1 f1 hu0 hr hk
      refine aw_iload_n d_M_findRows_29 rfl rfl ?_
      refine aw_aload_n d_M_findRows_30 rfl rfl ?_
      refine aw_get kc_6 0 (by decide) k_404 d_M_findRows_31 hM1.1 rfl ?_
      refine aw_icmp_geN (tgt := 272) d_M_findRows_34 (by decide) (by omega) (by omega) (fun hu => ?_) (fun hu => ?_)
      · exact aw_vret d_M_findRows_272 (Nat.le_refl 0) (Nat.le_refl 0) ⟨rfl, f1, Rw1, Tt1, hM1, fun i hi => hr i (by omega)⟩
      · have ihU := ih
        have rs := raw_sum hok hu
        have gp := gcdN_pos rs.1
        have gl := gcdN_le rs.1
        have hto := (nr_ok hok hu).2.2
        have ho := sN_le (f := W u) (b := 2) (n := n) (fun i hi => hok.2.2.2.2.1 u i (by omega) (by omega))
        have lC : ∀ (k : Nat) (ws2 : va_W) (Rw2 : Nat → Nat) (v : Nat), gM g ws2 ad n x y V J Rw2 Tt1 q So Bo fo tw St Sh ss Nw Th → fr 40 51 ws ws2 → v ≤ n → (∀ i, i < u → ∀ j, j < n → Rw2 (5 * i + j) = nr n x y W J i j) → (∀ j, j < v → Rw2 (5 * u + j) = nr n x y W J u j) → (∀ j, v ≤ j → j < n → Rw2 (5 * u + j) = raw n x y W J u j) → n - v < k → AW g y_M_findRows c_M_findRows 9 none (aw_rm 1 0 0) aw_E0 (aw_F g (qRows g ad ws W n x y V J q So Bo fo tw St Sh ss Nw Th) 0 0) 0 0 222 [(0, .ref (ad 40)), (1, .int (nI (sN J n))), (2, .int (nI u)), (4, .long (lI (gcdN (raw n x y W J u) n : Int))), (6, .int (nI (sN (raw n x y W J u) n))), (7, .int (nI v))] [] ws2 := by
          intro k
          induction k with
          | zero => intro ws2 Rw2 v hM2 f2 hv0 hd hb hc hk2; omega
          | succ k ih =>
            intro ws2 Rw2 v hM2 f2 hv0 hd hb hc hk2
            refine aw_iload d_M_findRows_222 rfl ?_
            refine aw_aload_n d_M_findRows_224 rfl rfl ?_
            refine aw_get kc_6 0 (by decide) k_404 d_M_findRows_225 hM2.1 rfl ?_
            refine aw_icmp_geN (tgt := 254) d_M_findRows_228 (by decide) (by omega) (by omega) (fun hv => ?_) (fun hv => ?_)
            · refine aw_aload_n d_M_findRows_254 rfl rfl ?_
              refine aw_get kc_6 6 (by decide) k_410 d_M_findRows_255 hM2.1 rfl ?_
              refine aw_iload_n d_M_findRows_258 rfl rfl ?_
              refine aw_iload d_M_findRows_259 rfl ?_
              refine aw_lload d_M_findRows_261 rfl ?_
              refine aw_l2iN (a := (gcdN (raw n x y W J u) n)) d_M_findRows_263 ?_
              refine aw_idivN d_M_findRows_264 (by omega) (by omega) (by omega) ?_
              refine aw_iastA d_M_findRows_265 hM2.2.2.2.2.1 hg (by omega) (by decide) (fun zws1 za2 zb3 zc4 => ?_)
              have hM3 := hM2.p44  za2 zb3
              have f3 := f2.tr (fr.one (lo := 40) (hi := 51) zb3 zc4 (by omega) (by omega))
              refine aw_iinc1 (lv' := [(2, .int (nI (u + 1))), (0, .ref (ad 40)), (1, .int (nI (sN J n))), (4, .long (lI (gcdN (raw n x y W J u) n : Int))), (6, .int (nI (sN (raw n x y W J u) n))), (7, .int (nI v))]) d_M_findRows_266 rfl (by decide) rfl ?_
              refine aw_goto (tgt := 29) d_M_findRows_269 (by decide) ?_
              refine aw_sub (lv' := [(0, .ref (ad 40)), (1, .int (nI (sN J n))), (2, .int (nI (u + 1)))]) [1, 2, 0] rfl ?_
              exact ihU _ _ _ (u + 1) hM3 f3 (by omega) (rw_next hd (fun j hj => hb j (by omega)) (fun i hi => (hr i hi).2) hto) (by omega)
            · have e1 := hc v (Nat.le_refl v) hv
              have e2 := sN_mem (f := raw n x y W J u) hv
              refine aw_aload_n d_M_findRows_231 rfl rfl ?_
              refine aw_get kc_6 5 (by decide) k_409 d_M_findRows_232 hM2.1 rfl ?_
              refine aw_iconst (v := nI 5) d_M_findRows_235 (by decide) ?_
              refine aw_iload_n d_M_findRows_236 rfl rfl ?_
              refine aw_imulN d_M_findRows_237 ?_
              refine aw_iload d_M_findRows_238 rfl ?_
              refine aw_iaddN d_M_findRows_240 ?_
              refine aw_dup2_11 d_M_findRows_241 rfl rfl ?_
              refine aw_ialdA d_M_findRows_242 hM2.2.2.2.1 hg (by omega) (by decide) ?_
              refine aw_lload d_M_findRows_243 rfl ?_
              refine aw_l2iN (a := (gcdN (raw n x y W J u) n)) d_M_findRows_245 ?_
              refine aw_idivN d_M_findRows_246 (by omega) (by omega) (by omega) ?_
              refine aw_iastA d_M_findRows_247 hM2.2.2.2.1 hg (by omega) (by decide) (fun zws5 za6 zb7 zc8 => ?_)
              have hM3 := hM2.p43  za6 zb7
              have f3 := f2.tr (fr.one (lo := 40) (hi := 51) zb7 zc8 (by omega) (by omega))
              refine aw_iinc1 (lv' := [(7, .int (nI (v + 1))), (0, .ref (ad 40)), (1, .int (nI (sN J n))), (2, .int (nI u)), (4, .long (lI (gcdN (raw n x y W J u) n : Int))), (6, .int (nI (sN (raw n x y W J u) n)))]) d_M_findRows_248 rfl (by decide) rfl ?_
              refine aw_goto (tgt := 222) d_M_findRows_251 (by decide) ?_
              refine aw_sub (lv' := [(0, .ref (ad 40)), (1, .int (nI (sN J n))), (2, .int (nI u)), (4, .long (lI (gcdN (raw n x y W J u) n : Int))), (6, .int (nI (sN (raw n x y W J u) n))), (7, .int (nI (v + 1)))]) [1, 2, 3, 4, 5, 0] rfl ?_
              exact ih _ _ (v + 1) hM3 f3 (by omega) (fun i hi j hj => by rw [fup_ne (by omega)]; exact hd i hi j hj) (rw_div hb e1) (fun j h1 h2 => by rw [fup_ne (by omega)]; exact hc j (by omega) h2) (by omega)
        have lB : ∀ (k : Nat) (ws2 : va_W) (Rw2 : Nat → Nat) (v : Nat), gM g ws2 ad n x y V J Rw2 Tt1 q So Bo fo tw St Sh ss Nw Th → fr 40 51 ws ws2 → v ≤ n → (∀ i, i < u → ∀ j, j < n → Rw2 (5 * i + j) = nr n x y W J i j) → (∀ j, j < v → Rw2 (5 * u + j) = raw n x y W J u j) → n - v < k → AW g y_M_findRows c_M_findRows 9 none (aw_rm 1 0 0) aw_E0 (aw_F g (qRows g ad ws W n x y V J q So Bo fo tw St Sh ss Nw Th) 0 0) 0 0 80 [(0, .ref (ad 40)), (1, .int (nI (sN J n))), (2, .int (nI u)), (3, .int (nI (sN (W u) n))), (4, .long (lI (gcdN (raw n x y W J u) v : Int))), (6, .int (nI (sN (raw n x y W J u) v))), (7, .int (nI v))] [] ws2 := by
          intro k
          induction k with
          | zero => intro ws2 Rw2 v hM2 f2 hv0 hd hb hk2; omega
          | succ k ih =>
            intro ws2 Rw2 v hM2 f2 hv0 hd hb hk2
            refine aw_iload d_M_findRows_80 rfl ?_
            refine aw_aload_n d_M_findRows_82 rfl rfl ?_
            refine aw_get kc_6 0 (by decide) k_404 d_M_findRows_83 hM2.1 rfl ?_
            refine aw_icmp_geN (tgt := 219) d_M_findRows_86 (by decide) (by omega) (by omega) (fun hv => ?_) (fun hv => ?_)
            · have e : n = v := by omega
              subst e
              refine aw_iconst (v := nI 0) d_M_findRows_219 (by decide) ?_
              refine aw_istore (lv' := [(7, .int (nI 0)), (0, .ref (ad 40)), (1, .int (nI (sN J n))), (2, .int (nI u)), (3, .int (nI (sN (W u) n))), (4, .long (lI (gcdN (raw n x y W J u) n : Int))), (6, .int (nI (sN (raw n x y W J u) n)))]) d_M_findRows_220 (by decide) rfl ?_
              refine aw_sub (lv' := [(0, .ref (ad 40)), (1, .int (nI (sN J n))), (2, .int (nI u)), (4, .long (lI (gcdN (raw n x y W J u) n : Int))), (6, .int (nI (sN (raw n x y W J u) n))), (7, .int (nI 0))]) [1, 2, 3, 5, 6, 0] rfl ?_
              exact lC (n + 1) ws2 Rw2 0 hM2 f2 (by omega) hd (fun j hj => absurd hj (by omega)) (fun j _ hj => hb j hj) (by omega)
            · have e2 := sN_mem (f := raw n x y W J u) hv
              have e3 := gcdN_le' (raw n x y W J u) v
              have e4 := sN_mono (raw n x y W J u) hv0
              have c1 : AW g y_M_findRows c_M_findRows 9 none (aw_rm 1 0 0) aw_E0 (aw_F g (qRows g ad ws W n x y V J q So Bo fo tw St Sh ss Nw Th) 0 0) 0 0 181 [(0, .ref (ad 40)), (1, .int (nI (sN J n))), (2, .int (nI u)), (3, .int (nI (sN (W u) n))), (4, .long (lI (gcdN (raw n x y W J u) v : Int))), (6, .int (nI (sN (raw n x y W J u) v))), (7, .int (nI v))] [.int (nI (raw n x y W J u v))] ws2 := by
                refine aw_istore (lv' := [(8, .int (nI (raw n x y W J u v))), (0, .ref (ad 40)), (1, .int (nI (sN J n))), (2, .int (nI u)), (3, .int (nI (sN (W u) n))), (4, .long (lI (gcdN (raw n x y W J u) v : Int))), (6, .int (nI (sN (raw n x y W J u) v))), (7, .int (nI v))]) d_M_findRows_181 (by decide) rfl ?_
                refine aw_aload_n d_M_findRows_183 rfl rfl ?_
                refine aw_get kc_6 5 (by decide) k_409 d_M_findRows_184 hM2.1 rfl ?_
                refine aw_iconst (v := nI 5) d_M_findRows_187 (by decide) ?_
                refine aw_iload_n d_M_findRows_188 rfl rfl ?_
                refine aw_imulN d_M_findRows_189 ?_
                refine aw_iload d_M_findRows_190 rfl ?_
                refine aw_iaddN d_M_findRows_192 ?_
                refine aw_iload d_M_findRows_193 rfl ?_
                refine aw_iastA d_M_findRows_195 hM2.2.2.2.1 hg (by omega) (by decide) (fun zws9 za10 zb11 zc12 => ?_)
                have hM3 := hM2.p43  za10 zb11
                have f3 := f2.tr (fr.one (lo := 40) (hi := 51) zb11 zc12 (by omega) (by omega))
                refine aw_iload d_M_findRows_196 rfl ?_
                refine aw_iload d_M_findRows_198 rfl ?_
                refine aw_iaddN d_M_findRows_200 ?_
                refine aw_nmi (z := nI (sN (raw n x y W J u) (v + 1))) rfl ?_
                refine aw_istore (lv' := [(6, .int (nI (sN (raw n x y W J u) (v + 1)))), (8, .int (nI (raw n x y W J u v))), (0, .ref (ad 40)), (1, .int (nI (sN J n))), (2, .int (nI u)), (3, .int (nI (sN (W u) n))), (4, .long (lI (gcdN (raw n x y W J u) v : Int))), (7, .int (nI v))]) d_M_findRows_201 (by decide) rfl ?_
                refine aw_lload d_M_findRows_203 rfl ?_
                refine aw_iload d_M_findRows_205 rfl ?_
                refine aw_i2lN d_M_findRows_207 (by omega) ?_
                refine aw_callS (av := [.long (lI (gcdN (raw n x y W J u) v : Int)), .long (lI (raw n x y W J u v : Nat))]) (rest := []) (m_M_common (ad := ad) hg (by omega) (by omega)) kd_M_common k_488 k_489  d_M_findRows_208 rfl ⟨by decide, by decide⟩ (Nat.le_of_ble_eq_true rfl) ⟨by decide, by decide⟩ rfl (fun v4 ws4 hq4 => ?_)
                obtain ⟨rfl, rfl⟩ := hq4
                refine aw_lstore (lv' := [(4, .long (lI (gcdN (raw n x y W J u) (v + 1) : Int))), (6, .int (nI (sN (raw n x y W J u) (v + 1)))), (8, .int (nI (raw n x y W J u v))), (0, .ref (ad 40)), (1, .int (nI (sN J n))), (2, .int (nI u)), (3, .int (nI (sN (W u) n))), (7, .int (nI v))]) d_M_findRows_211 (by decide) rfl ?_
                refine aw_iinc1 (lv' := [(7, .int (nI (v + 1))), (4, .long (lI (gcdN (raw n x y W J u) (v + 1) : Int))), (6, .int (nI (sN (raw n x y W J u) (v + 1)))), (8, .int (nI (raw n x y W J u v))), (0, .ref (ad 40)), (1, .int (nI (sN J n))), (2, .int (nI u)), (3, .int (nI (sN (W u) n)))]) d_M_findRows_213 rfl (by decide) rfl ?_
                refine aw_goto (tgt := 80) d_M_findRows_216 (by decide) ?_
                refine aw_sub (lv' := [(0, .ref (ad 40)), (1, .int (nI (sN J n))), (2, .int (nI u)), (3, .int (nI (sN (W u) n))), (4, .long (lI (gcdN (raw n x y W J u) (v + 1) : Int))), (6, .int (nI (sN (raw n x y W J u) (v + 1)))), (7, .int (nI (v + 1)))]) [4, 5, 6, 7, 1, 2, 0] rfl ?_
                exact ih _ _ (v + 1) hM3 f3 (by omega) (fun i hi j hj => by rw [fup_ne (by omega)]; exact hd i hi j hj) (rw_add hb) (by omega)
              refine aw_iload_n d_M_findRows_89 rfl rfl ?_
              refine aw_if_leN (tgt := 138) d_M_findRows_90 (by decide) (by omega) (fun h3 => ?_) (fun h3 => ?_)
              · refine aw_iload_n d_M_findRows_138 rfl rfl ?_
                refine aw_if_leN (tgt := 156) d_M_findRows_139 (by decide) (by omega) (fun h4 => ?_) (fun h4 => absurd h4 (by omega))
                refine aw_iload_n d_M_findRows_156 rfl rfl ?_
                refine aw_if_leN (tgt := 170) d_M_findRows_157 (by decide) (by omega) (fun h5 => ?_) (fun h5 => ?_)
                · refine aw_iload_n d_M_findRows_170 rfl rfl ?_
                  refine aw_iload d_M_findRows_171 rfl ?_
                  refine aw_icmp_neN (tgt := 180) d_M_findRows_173 (by decide) (by omega) (by omega) (fun h6 => ?_) (fun h6 => ?_)
                  · refine aw_iconst (v := nI 0) d_M_findRows_180 (by decide) ?_
                    refine aw_nmi (z := nI (raw n x y W J u v)) (by rw [← raw_d (by omega) (by omega), if_neg (by omega)]) ?_
                    refine aw_sub (lv' := [(0, .ref (ad 40)), (1, .int (nI (sN J n))), (2, .int (nI u)), (3, .int (nI (sN (W u) n))), (4, .long (lI (gcdN (raw n x y W J u) v : Int))), (6, .int (nI (sN (raw n x y W J u) v))), (7, .int (nI v))]) [0, 1, 2, 3, 4, 5, 6] rfl ?_
                    exact c1
                  · refine aw_iconst (v := nI 1) d_M_findRows_176 (by decide) ?_
                    refine aw_goto (tgt := 181) d_M_findRows_177 (by decide) ?_
                    refine aw_nmi (z := nI (raw n x y W J u v)) (by rw [← raw_d (by omega) (by omega), if_pos (by omega)]) ?_
                    refine aw_sub (lv' := [(0, .ref (ad 40)), (1, .int (nI (sN J n))), (2, .int (nI u)), (3, .int (nI (sN (W u) n))), (4, .long (lI (gcdN (raw n x y W J u) v : Int))), (6, .int (nI (sN (raw n x y W J u) v))), (7, .int (nI v))]) [0, 1, 2, 3, 4, 5, 6] rfl ?_
                    exact c1
                · refine aw_aload_n d_M_findRows_160 rfl rfl ?_
                  refine aw_get kc_6 2 (by decide) k_406 d_M_findRows_161 hM2.1 rfl ?_
                  refine aw_iload d_M_findRows_164 rfl ?_
                  refine aw_ialdA d_M_findRows_166 hM2.2.2.1 hg (by omega) (by decide) ?_
                  refine aw_goto (tgt := 181) d_M_findRows_167 (by decide) ?_
                  refine aw_nmi (z := nI (raw n x y W J u v)) (by rw [← raw_c (by omega) (by omega)]) ?_
                  refine aw_sub (lv' := [(0, .ref (ad 40)), (1, .int (nI (sN J n))), (2, .int (nI u)), (3, .int (nI (sN (W u) n))), (4, .long (lI (gcdN (raw n x y W J u) v : Int))), (6, .int (nI (sN (raw n x y W J u) v))), (7, .int (nI v))]) [0, 1, 2, 3, 4, 5, 6] rfl ?_
                  exact c1
              · refine aw_iload_n d_M_findRows_93 rfl rfl ?_
                refine aw_if_leN (tgt := 138) d_M_findRows_94 (by decide) (by omega) (fun h4 => ?_) (fun h4 => ?_)
                · refine aw_iload_n d_M_findRows_138 rfl rfl ?_
                  refine aw_if_leN (tgt := 156) d_M_findRows_139 (by decide) (by omega) (fun h5 => absurd h5 (by omega)) (fun h5 => ?_)
                  refine aw_aload_n d_M_findRows_142 rfl rfl ?_
                  refine aw_get kc_6 1 (by decide) k_405 d_M_findRows_143 hM2.1 rfl ?_
                  refine aw_iconst (v := nI 5) d_M_findRows_146 (by decide) ?_
                  refine aw_iload_n d_M_findRows_147 rfl rfl ?_
                  refine aw_imulN d_M_findRows_148 ?_
                  refine aw_iload d_M_findRows_149 rfl ?_
                  refine aw_iaddN d_M_findRows_151 ?_
                  refine aw_ialdA d_M_findRows_152 hM2.2.1 hg (by omega) (by decide) ?_
                  refine aw_goto (tgt := 181) d_M_findRows_153 (by decide) ?_
                  refine aw_nmi (z := nI (raw n x y W J u v)) (by rw [hV u v (by omega) (by omega), ← raw_b (by omega) (by omega)]) ?_
                  refine aw_sub (lv' := [(0, .ref (ad 40)), (1, .int (nI (sN J n))), (2, .int (nI u)), (3, .int (nI (sN (W u) n))), (4, .long (lI (gcdN (raw n x y W J u) v : Int))), (6, .int (nI (sN (raw n x y W J u) v))), (7, .int (nI v))]) [0, 1, 2, 3, 4, 5, 6] rfl ?_
                  exact c1
                · refine aw_aload_n d_M_findRows_97 rfl rfl ?_
                  refine aw_get kc_6 3 (by decide) k_407 d_M_findRows_98 hM2.1 rfl ?_
                  refine aw_aload_n d_M_findRows_101 rfl rfl ?_
                  refine aw_get kc_6 1 (by decide) k_405 d_M_findRows_102 hM2.1 rfl ?_
                  refine aw_iconst (v := nI 5) d_M_findRows_105 (by decide) ?_
                  refine aw_iload_n d_M_findRows_106 rfl rfl ?_
                  refine aw_imulN d_M_findRows_107 ?_
                  refine aw_iload d_M_findRows_108 rfl ?_
                  refine aw_iaddN d_M_findRows_110 ?_
                  refine aw_ialdA d_M_findRows_111 hM2.2.1 hg (by omega) (by decide) ?_
                  refine aw_imulN d_M_findRows_112 ?_
                  refine aw_iload_n d_M_findRows_113 rfl rfl ?_
                  refine aw_imulN d_M_findRows_114 ?_
                  refine aw_aload_n d_M_findRows_115 rfl rfl ?_
                  refine aw_get kc_6 4 (by decide) k_408 d_M_findRows_116 hM2.1 rfl ?_
                  refine aw_aload_n d_M_findRows_119 rfl rfl ?_
                  refine aw_get kc_6 3 (by decide) k_407 d_M_findRows_120 hM2.1 rfl ?_
                  refine aw_isubN d_M_findRows_123 (by omega) ?_
                  refine aw_aload_n d_M_findRows_124 rfl rfl ?_
                  refine aw_get kc_6 2 (by decide) k_406 d_M_findRows_125 hM2.1 rfl ?_
                  refine aw_iload d_M_findRows_128 rfl ?_
                  refine aw_ialdA d_M_findRows_130 hM2.2.2.1 hg (by omega) (by decide) ?_
                  refine aw_imulN d_M_findRows_131 ?_
                  refine aw_iload_n d_M_findRows_132 rfl rfl ?_
                  refine aw_imulN d_M_findRows_133 ?_
                  refine aw_iaddN d_M_findRows_134 ?_
                  refine aw_goto (tgt := 181) d_M_findRows_135 (by decide) ?_
                  refine aw_nmi (z := nI (raw n x y W J u v)) (by rw [raw_a (by omega) (by omega) (hV u v (by omega) (by omega))]) ?_
                  refine aw_sub (lv' := [(0, .ref (ad 40)), (1, .int (nI (sN J n))), (2, .int (nI u)), (3, .int (nI (sN (W u) n))), (4, .long (lI (gcdN (raw n x y W J u) v : Int))), (6, .int (nI (sN (raw n x y W J u) v))), (7, .int (nI v))]) [0, 1, 2, 3, 4, 5, 6] rfl ?_
                  exact c1
        have lA : ∀ (k : Nat) (v : Nat), v ≤ n → n - v < k → AW g y_M_findRows c_M_findRows 9 none (aw_rm 1 0 0) aw_E0 (aw_F g (qRows g ad ws W n x y V J q So Bo fo tw St Sh ss Nw Th) 0 0) 0 0 42 [(0, .ref (ad 40)), (1, .int (nI (sN J n))), (2, .int (nI u)), (3, .int (nI (sN (W u) v))), (4, .int (nI v))] [] ws1 := by
          intro k
          induction k with
          | zero => intro v hv0 hk2; omega
          | succ k ih =>
            intro v hv0 hk2
            refine aw_iload d_M_findRows_42 rfl ?_
            refine aw_aload_n d_M_findRows_44 rfl rfl ?_
            refine aw_get kc_6 0 (by decide) k_404 d_M_findRows_45 hM1.1 rfl ?_
            refine aw_icmp_geN (tgt := 71) d_M_findRows_48 (by decide) (by omega) (by omega) (fun hv => ?_) (fun hv => ?_)
            · have e : n = v := by omega
              subst e
              refine aw_lconst (v := lI 0) d_M_findRows_71 (by decide) ?_
              refine aw_nml (z := lI (gcdN (raw n x y W J u) 0 : Int)) rfl ?_
              refine aw_lstore (lv' := [(4, .long (lI (gcdN (raw n x y W J u) 0 : Int))), (0, .ref (ad 40)), (1, .int (nI (sN J n))), (2, .int (nI u)), (3, .int (nI (sN (W u) n)))]) d_M_findRows_72 (by decide) rfl ?_
              refine aw_iconst (v := nI 0) d_M_findRows_74 (by decide) ?_
              refine aw_nmi (z := nI (sN (raw n x y W J u) 0)) rfl ?_
              refine aw_istore (lv' := [(6, .int (nI (sN (raw n x y W J u) 0))), (4, .long (lI (gcdN (raw n x y W J u) 0 : Int))), (0, .ref (ad 40)), (1, .int (nI (sN J n))), (2, .int (nI u)), (3, .int (nI (sN (W u) n)))]) d_M_findRows_75 (by decide) rfl ?_
              refine aw_iconst (v := nI 0) d_M_findRows_77 (by decide) ?_
              refine aw_istore (lv' := [(7, .int (nI 0)), (6, .int (nI (sN (raw n x y W J u) 0))), (4, .long (lI (gcdN (raw n x y W J u) 0 : Int))), (0, .ref (ad 40)), (1, .int (nI (sN J n))), (2, .int (nI u)), (3, .int (nI (sN (W u) n)))]) d_M_findRows_78 (by decide) rfl ?_
              refine aw_sub (lv' := [(0, .ref (ad 40)), (1, .int (nI (sN J n))), (2, .int (nI u)), (3, .int (nI (sN (W u) n))), (4, .long (lI (gcdN (raw n x y W J u) 0 : Int))), (6, .int (nI (sN (raw n x y W J u) 0))), (7, .int (nI 0))]) [3, 4, 5, 6, 2, 1, 0] rfl ?_
              exact lB (n + 1) ws1 Rw1 0 hM1 f1 (by omega) (fun i hi => (hr i hi).1) (fun j hj => absurd hj (by omega)) (by omega)
            · refine aw_iload_n d_M_findRows_51 rfl rfl ?_
              refine aw_aload_n d_M_findRows_52 rfl rfl ?_
              refine aw_get kc_6 1 (by decide) k_405 d_M_findRows_53 hM1.1 rfl ?_
              refine aw_iconst (v := nI 5) d_M_findRows_56 (by decide) ?_
              refine aw_iload_n d_M_findRows_57 rfl rfl ?_
              refine aw_imulN d_M_findRows_58 ?_
              refine aw_iload d_M_findRows_59 rfl ?_
              refine aw_iaddN d_M_findRows_61 ?_
              refine aw_ialdA d_M_findRows_62 hM1.2.1 hg (by omega) (by decide) ?_
              refine aw_nmi (z := nI (W u v)) (by rw [hV u v (by omega) (by omega)]) ?_
              refine aw_iaddN d_M_findRows_63 ?_
              refine aw_nmi (z := nI (sN (W u) (v + 1))) rfl ?_
              refine aw_istore_n (lv' := [(3, .int (nI (sN (W u) (v + 1)))), (0, .ref (ad 40)), (1, .int (nI (sN J n))), (2, .int (nI u)), (4, .int (nI v))]) d_M_findRows_64 rfl (by decide) rfl ?_
              refine aw_iinc1 (lv' := [(4, .int (nI (v + 1))), (3, .int (nI (sN (W u) (v + 1)))), (0, .ref (ad 40)), (1, .int (nI (sN J n))), (2, .int (nI u))]) d_M_findRows_65 rfl (by decide) rfl ?_
              refine aw_goto (tgt := 42) d_M_findRows_68 (by decide) ?_
              refine aw_sub (lv' := [(0, .ref (ad 40)), (1, .int (nI (sN J n))), (2, .int (nI u)), (3, .int (nI (sN (W u) (v + 1)))), (4, .int (nI (v + 1)))]) [2, 3, 4, 1, 0] rfl ?_
              exact ih (v + 1) (by omega) (by omega)
        refine aw_iconst (v := nI 0) d_M_findRows_37 (by decide) ?_
        refine aw_nmi (z := nI (sN (W u) 0)) rfl ?_
        refine aw_istore_n (lv' := [(3, .int (nI (sN (W u) 0))), (0, .ref (ad 40)), (1, .int (nI (sN J n))), (2, .int (nI u))]) d_M_findRows_38 rfl (by decide) rfl ?_
        refine aw_iconst (v := nI 0) d_M_findRows_39 (by decide) ?_
        refine aw_istore (lv' := [(4, .int (nI 0)), (3, .int (nI (sN (W u) 0))), (0, .ref (ad 40)), (1, .int (nI (sN J n))), (2, .int (nI u))]) d_M_findRows_40 (by decide) rfl ?_
        refine aw_sub (lv' := [(0, .ref (ad 40)), (1, .int (nI (sN J n))), (2, .int (nI u)), (3, .int (nI (sN (W u) 0))), (4, .int (nI 0))]) [2, 3, 4, 1, 0] rfl ?_
        exact lA (n + 1) 0 (by omega) (by omega)
  have l1 : ∀ (k : Nat) (v : Nat), v ≤ n → n - v < k → AW g y_M_findRows c_M_findRows 9 none (aw_rm 1 0 0) aw_E0 (aw_F g (qRows g ad ws W n x y V J q So Bo fo tw St Sh ss Nw Th) 0 0) 0 0 4 [(0, .ref (ad 40)), (1, .int (nI (sN J v))), (2, .int (nI v))] [] ws := by
    intro k
    induction k with
    | zero => intro v hv0 hk; omega
    | succ k ih =>
      intro v hv0 hk
      refine aw_iload_n d_M_findRows_4 rfl rfl ?_
      refine aw_aload_n d_M_findRows_5 rfl rfl ?_
      refine aw_get kc_6 0 (by decide) k_404 d_M_findRows_6 hM.1 rfl ?_
      refine aw_icmp_geN (tgt := 27) d_M_findRows_9 (by decide) (by omega) (by omega) (fun hv => ?_) (fun hv => ?_)
      · have e : n = v := by omega
        subst e
        refine aw_iconst (v := nI 0) d_M_findRows_27 (by decide) ?_
        refine aw_istore_n (lv' := [(2, .int (nI 0)), (0, .ref (ad 40)), (1, .int (nI (sN J n)))]) d_M_findRows_28 rfl (by decide) rfl ?_
        refine aw_sub (lv' := [(0, .ref (ad 40)), (1, .int (nI (sN J n))), (2, .int (nI 0))]) [1, 2, 0] rfl ?_
        exact lU (n + 1) ws Rw Tt 0 hM fr.rf (by omega) (fun i hi => absurd hi (by omega)) (by omega)
      · refine aw_iload_n d_M_findRows_12 rfl rfl ?_
        refine aw_aload_n d_M_findRows_13 rfl rfl ?_
        refine aw_get kc_6 2 (by decide) k_406 d_M_findRows_14 hM.1 rfl ?_
        refine aw_iload_n d_M_findRows_17 rfl rfl ?_
        refine aw_ialdA d_M_findRows_18 hM.2.2.1 hg (by omega) (by decide) ?_
        refine aw_iaddN d_M_findRows_19 ?_
        refine aw_nmi (z := nI (sN J (v + 1))) rfl ?_
        refine aw_istore_n (lv' := [(1, .int (nI (sN J (v + 1)))), (0, .ref (ad 40)), (2, .int (nI v))]) d_M_findRows_20 rfl (by decide) rfl ?_
        refine aw_iinc1 (lv' := [(2, .int (nI (v + 1))), (1, .int (nI (sN J (v + 1)))), (0, .ref (ad 40))]) d_M_findRows_21 rfl (by decide) rfl ?_
        refine aw_goto (tgt := 4) d_M_findRows_24 (by decide) ?_
        refine aw_sub (lv' := [(0, .ref (ad 40)), (1, .int (nI (sN J (v + 1)))), (2, .int (nI (v + 1)))]) [2, 1, 0] rfl ?_
        exact ih (v + 1) (by omega) (by omega)
  refine aw_iconst (v := nI 0) d_M_findRows_0 (by decide) ?_
  refine aw_nmi (z := nI (sN J 0)) rfl ?_
  refine aw_istore_n (lv' := [(1, .int (nI (sN J 0))), (0, .ref (ad 40))]) d_M_findRows_1 rfl (by decide) rfl ?_
  refine aw_iconst (v := nI 0) d_M_findRows_2 (by decide) ?_
  refine aw_istore_n (lv' := [(2, .int (nI 0)), (1, .int (nI (sN J 0))), (0, .ref (ad 40))]) d_M_findRows_3 rfl (by decide) rfl ?_
  refine aw_sub (lv' := [(0, .ref (ad 40)), (1, .int (nI (sN J 0))), (2, .int (nI 0))]) [2, 1, 0] rfl ?_
  exact l1 (n + 1) 0 (by omega) (by omega)
