-- laid by wip/whole/m22.py
-- the law's cases: class and reference answer alike, and stay together
def gB (g : aw_G) (ws : va_W) (ad : Nat → Nat) (n x y : Nat) (W : Nat → Nat → Nat) (J : Nat → Nat) : Prop := (∃ (P : Nat → Nat → Nat) (T X : Nat → Nat) (q : Nat) (M L : Nat → Nat) (O : Nat → Int32) (D : Nat → Nat), gK g ws ad n x y W J P T X q M L O D) ∧ gMo g ws ad n x y W J
theorem gMo.kept {g : aw_G} {ws ws' : va_W} {ad : Nat → Nat} {n x y : Nat} {W : Nat → Nat → Nat} {J : Nat → Nat} (h : gMo g ws ad n x y W J) (f : fr 0 40 ws ws') : gMo g ws' ad n x y W J := by
  obtain ⟨V, Rw, Tt, q, So, Bo, fo, tw, St, Sh, ss, Nw, Th, hM, hok, hV⟩ := h
  exact ⟨V, Rw, Tt, q, So, Bo, fo, tw, St, Sh, ss, Nw, Th, hM.kept f (by omega), hok, hV⟩
theorem gK.kept {g : aw_G} {ws ws' : va_W} {ad : Nat → Nat} {n x y : Nat} {W P : Nat → Nat → Nat} {J T X : Nat → Nat} {q : Nat} {M L : Nat → Nat} {O : Nat → Int32} {D : Nat → Nat} (h : gK g ws ad n x y W J P T X q M L O D) (f : fr 40 51 ws ws') : gK g ws' ad n x y W J P T X q M L O D := by
  obtain ⟨h1, h2, h3, h4, h5, h6, h7, h8, ⟨m, Z, h9⟩, ⟨p, q', m', A, B, Z', h10⟩, ⟨A', h11⟩⟩ := h
  exact ⟨(f.1 0 (by omega)).trans h1, h2.kept f (by omega), h3, h4.kept f (by omega), h5, h6.kept f (by omega), h7, h8, ⟨m, Z, h9.kept f (by omega)⟩, ⟨p, q', m', A, B, Z', h10.kept f (by omega)⟩, ⟨A', (f.1 39 (by omega)).trans h11⟩⟩
theorem lgc (v : Int64) : lg_cmp v v = nI 0 := by
  unfold lg_cmp
  rw [if_neg (Int64.lt_irrefl), if_pos rfl]
  rfl
theorem vpi {j N : Nat} (h : j < N) (hN : N ≤ 2560) : vp_in (nI j) N := by
  unfold vp_in
  rw [nI_clamp (by omega)]
  rintro (z | z)
  · exact nI_pos (show j < 2 ^ 31 by omega) z
  · omega
theorem nI_5 (i : Nat) : nI i + Int32.ofInt 5 = nI (i + 5) := (Int32.ofNat_add i 5).symm

set_option maxHeartbeats 4000000 in
set_option maxRecDepth 100000 in
theorem law_node {g : aw_G} (hg : aw_T g) {ws : va_W} {ad : Nat → Nat} {b N i : Nat} {xs : Nat → Int32} {F : List Frame → Array Value → State → (Nat → Prop) → State → Prop} {n x y : Nat} {W : Nat → Nat → Nat} {J : Nat → Nat} (hN : N ≤ 2560) (hi : i + 5 ≤ N) (hB : gB g ws ad n x y W J) (K : ∀ (ws' : va_W) (n x y : Nat) (W : Nat → Nat → Nat) (J : Nat → Nat), gB g ws' ad n x y W J → AW g y_L_law c_L_law 4 ret room_1 (aw_EX b N xs) F 51 304 738 [(0, .ref b), (1, .ref (ad 0)), (2, .ref (ad 40)), (3, .int (nI i))] [] ws') : AW g y_L_law c_L_law 4 ret room_1 (aw_EX b N xs) F 51 304 124 [(0, .ref b), (1, .ref (ad 0)), (2, .ref (ad 40)), (3, .int (nI i))] [] ws := by
  obtain ⟨⟨P, T, X, q, M, L, O, D, hK⟩, hO⟩ := hB
  have hn := hK.2.2.1.1
  have hoS := hK.2.2.2.2.1
  have eD := D_Dc hoS hK.2.2.2.2.2.2.1
  have hC := IC_congr eD hK.2.2.2.2.2.2.2.1
  by_cases h5 : n < 5
  · refine aw_aload_n d_L_law_124 rfl rfl ?_
    refine aw_callV (av := []) (rest := []) (m_W_node hg hK) kd_W_node k_166 k_167 ks_W_node rfl hK.1 d_L_law_125 rfl ⟨by decide, by decide⟩ (Nat.le_of_ble_eq_true rfl) ⟨by decide, by decide⟩ rfl (fun v2 ws2 hq2 => ?_)
    unfold qNode at hq2
    rw [if_pos h5] at hq2
    obtain ⟨rfl, f2, P2, T2, X2, q2, M2, L2, O2, D2, hK2⟩ := hq2
    have hO2 := hO.kept f2
    obtain ⟨V, Rw, Tt, q', So, Bo, fo, tw, St, Sh, ss, Nw, Th, hM, -, -⟩ := id hO2
    refine aw_aload_n d_L_law_128 rfl rfl ?_
    refine aw_callV (av := []) (rest := [.int (nI n)]) (m_M_node hg hO2) kd_M_node k_456 k_457 ks_M_node rfl hM.1 d_L_law_129 rfl ⟨by decide, by decide⟩ (Nat.le_of_ble_eq_true rfl) ⟨by decide, by decide⟩ rfl (fun v3 ws3 hq3 => ?_)
    unfold qMnode at hq3
    rw [if_pos h5] at hq3
    obtain ⟨rfl, f3, hO3⟩ := hq3
    have hK3 := hK2.kept f3
    refine aw_icmp_eq (tgt := 738) d_L_law_132 (by decide) (fun _ => ?_) (fun h => absurd (rfl) h)
    exact K ws3 _ _ _ _ _ ⟨⟨_, _, _, _, _, _, _, _, hK3⟩, hO3⟩
  · refine aw_aload_n d_L_law_124 rfl rfl ?_
    refine aw_callV (av := []) (rest := []) (m_W_node hg hK) kd_W_node k_166 k_167 ks_W_node rfl hK.1 d_L_law_125 rfl ⟨by decide, by decide⟩ (Nat.le_of_ble_eq_true rfl) ⟨by decide, by decide⟩ rfl (fun v2 ws2 hq2 => ?_)
    unfold qNode at hq2
    rw [if_neg h5] at hq2
    obtain ⟨rfl, f2, P2, T2, X2, q2, M2, L2, O2, D2, hK2⟩ := hq2
    have hO2 := hO.kept f2
    obtain ⟨V, Rw, Tt, q', So, Bo, fo, tw, St, Sh, ss, Nw, Th, hM, -, -⟩ := id hO2
    refine aw_aload_n d_L_law_128 rfl rfl ?_
    refine aw_callV (av := []) (rest := [.int (-4)]) (m_M_node hg hO2) kd_M_node k_456 k_457 ks_M_node rfl hM.1 d_L_law_129 rfl ⟨by decide, by decide⟩ (Nat.le_of_ble_eq_true rfl) ⟨by decide, by decide⟩ rfl (fun v3 ws3 hq3 => ?_)
    unfold qMnode at hq3
    rw [if_neg h5] at hq3
    obtain ⟨rfl, f3, hO3⟩ := hq3
    have hK3 := hK2.kept f3
    refine aw_icmp_eq (tgt := 738) d_L_law_132 (by decide) (fun _ => ?_) (fun h => absurd (rfl) h)
    exact K ws3 _ _ _ _ _ ⟨⟨_, _, _, _, _, _, _, _, hK3⟩, hO3⟩

set_option maxHeartbeats 4000000 in
set_option maxRecDepth 100000 in
theorem law_weight {g : aw_G} (hg : aw_T g) {ws : va_W} {ad : Nat → Nat} {b N i : Nat} {xs : Nat → Int32} {F : List Frame → Array Value → State → (Nat → Prop) → State → Prop} {n x y : Nat} {W : Nat → Nat → Nat} {J : Nat → Nat} (hN : N ≤ 2560) (hi : i + 5 ≤ N) (hB : gB g ws ad n x y W J) (K : ∀ (ws' : va_W) (n x y : Nat) (W : Nat → Nat → Nat) (J : Nat → Nat), gB g ws' ad n x y W J → AW g y_L_law c_L_law 4 ret room_1 (aw_EX b N xs) F 51 304 738 [(0, .ref b), (1, .ref (ad 0)), (2, .ref (ad 40)), (3, .int (nI i))] [] ws') : AW g y_L_law c_L_law 4 ret room_1 (aw_EX b N xs) F 51 304 137 [(0, .ref b), (1, .ref (ad 0)), (2, .ref (ad 40)), (3, .int (nI i))] [] ws := by
  obtain ⟨⟨P, T, X, q, M, L, O, D, hK⟩, hO⟩ := hB
  have hn := hK.2.2.1.1
  have hoS := hK.2.2.2.2.1
  have eD := D_Dc hoS hK.2.2.2.2.2.2.1
  have hC := IC_congr eD hK.2.2.2.2.2.2.2.1
  refine aw_aload_n d_L_law_137 rfl rfl ?_
  refine aw_aload_n d_L_law_138 rfl rfl ?_
  refine aw_iload_n d_L_law_139 rfl rfl ?_
  refine aw_iconst (v := nI 1) d_L_law_140 (by decide) ?_
  refine aw_iaddN d_L_law_141 ?_
  refine aw_sld d_L_law_142 (vpi (by omega) hN) ?_
  refine aw_nmi (z := xs (i + 1)) (by rw [nI_clamp (by omega)]) ?_
  refine aw_aload_n d_L_law_143 rfl rfl ?_
  refine aw_iload_n d_L_law_144 rfl rfl ?_
  refine aw_iconst (v := nI 2) d_L_law_145 (by decide) ?_
  refine aw_iaddN d_L_law_146 ?_
  refine aw_sld d_L_law_147 (vpi (by omega) hN) ?_
  refine aw_nmi (z := xs (i + 2)) (by rw [nI_clamp (by omega)]) ?_
  refine aw_aload_n d_L_law_148 rfl rfl ?_
  refine aw_iload_n d_L_law_149 rfl rfl ?_
  refine aw_iconst (v := nI 3) d_L_law_150 (by decide) ?_
  refine aw_iaddN d_L_law_151 ?_
  refine aw_sld d_L_law_152 (vpi (by omega) hN) ?_
  refine aw_nmi (z := xs (i + 3)) (by rw [nI_clamp (by omega)]) ?_
  refine aw_callV (av := [.int (xs (i + 1)), .int (xs (i + 2)), .int (xs (i + 3))]) (rest := []) (m_W_weight hg hK) kd_W_weight k_238 k_239 ks_W_weight rfl hK.1 d_L_law_153 rfl ⟨by decide, by decide⟩ (Nat.le_of_ble_eq_true rfl) ⟨by decide, by decide⟩ rfl (fun v2 ws2 hq2 => ?_)
  obtain ⟨rfl, f2, P2, T2, X2, q2, M2, L2, O2, D2, hK2⟩ := hq2
  have hO2 := hO.kept f2
  obtain ⟨V, Rw, Tt, q', So, Bo, fo, tw, St, Sh, ss, Nw, Th, hM, -, -⟩ := id hO2
  refine aw_aload_n d_L_law_156 rfl rfl ?_
  refine aw_aload_n d_L_law_157 rfl rfl ?_
  refine aw_iload_n d_L_law_158 rfl rfl ?_
  refine aw_iconst (v := nI 1) d_L_law_159 (by decide) ?_
  refine aw_iaddN d_L_law_160 ?_
  refine aw_sld d_L_law_161 (vpi (by omega) hN) ?_
  refine aw_nmi (z := xs (i + 1)) (by rw [nI_clamp (by omega)]) ?_
  refine aw_aload_n d_L_law_162 rfl rfl ?_
  refine aw_iload_n d_L_law_163 rfl rfl ?_
  refine aw_iconst (v := nI 2) d_L_law_164 (by decide) ?_
  refine aw_iaddN d_L_law_165 ?_
  refine aw_sld d_L_law_166 (vpi (by omega) hN) ?_
  refine aw_nmi (z := xs (i + 2)) (by rw [nI_clamp (by omega)]) ?_
  refine aw_aload_n d_L_law_167 rfl rfl ?_
  refine aw_iload_n d_L_law_168 rfl rfl ?_
  refine aw_iconst (v := nI 3) d_L_law_169 (by decide) ?_
  refine aw_iaddN d_L_law_170 ?_
  refine aw_sld d_L_law_171 (vpi (by omega) hN) ?_
  refine aw_nmi (z := xs (i + 3)) (by rw [nI_clamp (by omega)]) ?_
  refine aw_callV (av := [.int (xs (i + 1)), .int (xs (i + 2)), .int (xs (i + 3))]) (rest := [.int (aWeight n W (xs (i + 1)) (xs (i + 2)) (xs (i + 3)))]) (m_M_weight hg hO2) kd_M_weight k_460 k_461 ks_M_weight rfl hM.1 d_L_law_172 rfl ⟨by decide, by decide⟩ (Nat.le_of_ble_eq_true rfl) ⟨by decide, by decide⟩ rfl (fun v3 ws3 hq3 => ?_)
  obtain ⟨rfl, f3, hO3⟩ := hq3
  have hK3 := hK2.kept f3
  refine aw_icmp_eq (tgt := 738) d_L_law_175 (by decide) (fun _ => ?_) (fun h => absurd (rfl) h)
  exact K ws3 _ _ _ _ _ ⟨⟨_, _, _, _, _, _, _, _, hK3⟩, hO3⟩

set_option maxHeartbeats 4000000 in
set_option maxRecDepth 100000 in
theorem law_jump {g : aw_G} (hg : aw_T g) {ws : va_W} {ad : Nat → Nat} {b N i : Nat} {xs : Nat → Int32} {F : List Frame → Array Value → State → (Nat → Prop) → State → Prop} {n x y : Nat} {W : Nat → Nat → Nat} {J : Nat → Nat} (hN : N ≤ 2560) (hi : i + 5 ≤ N) (hB : gB g ws ad n x y W J) (K : ∀ (ws' : va_W) (n x y : Nat) (W : Nat → Nat → Nat) (J : Nat → Nat), gB g ws' ad n x y W J → AW g y_L_law c_L_law 4 ret room_1 (aw_EX b N xs) F 51 304 738 [(0, .ref b), (1, .ref (ad 0)), (2, .ref (ad 40)), (3, .int (nI i))] [] ws') : AW g y_L_law c_L_law 4 ret room_1 (aw_EX b N xs) F 51 304 180 [(0, .ref b), (1, .ref (ad 0)), (2, .ref (ad 40)), (3, .int (nI i))] [] ws := by
  obtain ⟨⟨P, T, X, q, M, L, O, D, hK⟩, hO⟩ := hB
  have hn := hK.2.2.1.1
  have hoS := hK.2.2.2.2.1
  have eD := D_Dc hoS hK.2.2.2.2.2.2.1
  have hC := IC_congr eD hK.2.2.2.2.2.2.2.1
  refine aw_aload_n d_L_law_180 rfl rfl ?_
  refine aw_aload_n d_L_law_181 rfl rfl ?_
  refine aw_iload_n d_L_law_182 rfl rfl ?_
  refine aw_iconst (v := nI 1) d_L_law_183 (by decide) ?_
  refine aw_iaddN d_L_law_184 ?_
  refine aw_sld d_L_law_185 (vpi (by omega) hN) ?_
  refine aw_nmi (z := xs (i + 1)) (by rw [nI_clamp (by omega)]) ?_
  refine aw_aload_n d_L_law_186 rfl rfl ?_
  refine aw_iload_n d_L_law_187 rfl rfl ?_
  refine aw_iconst (v := nI 2) d_L_law_188 (by decide) ?_
  refine aw_iaddN d_L_law_189 ?_
  refine aw_sld d_L_law_190 (vpi (by omega) hN) ?_
  refine aw_nmi (z := xs (i + 2)) (by rw [nI_clamp (by omega)]) ?_
  refine aw_callV (av := [.int (xs (i + 1)), .int (xs (i + 2))]) (rest := []) (m_W_jump hg hK) kd_W_jump k_246 k_247 ks_W_jump rfl hK.1 d_L_law_191 rfl ⟨by decide, by decide⟩ (Nat.le_of_ble_eq_true rfl) ⟨by decide, by decide⟩ rfl (fun v2 ws2 hq2 => ?_)
  obtain ⟨rfl, f2, P2, T2, X2, q2, M2, L2, O2, D2, hK2⟩ := hq2
  have hO2 := hO.kept f2
  obtain ⟨V, Rw, Tt, q', So, Bo, fo, tw, St, Sh, ss, Nw, Th, hM, -, -⟩ := id hO2
  refine aw_aload_n d_L_law_194 rfl rfl ?_
  refine aw_aload_n d_L_law_195 rfl rfl ?_
  refine aw_iload_n d_L_law_196 rfl rfl ?_
  refine aw_iconst (v := nI 1) d_L_law_197 (by decide) ?_
  refine aw_iaddN d_L_law_198 ?_
  refine aw_sld d_L_law_199 (vpi (by omega) hN) ?_
  refine aw_nmi (z := xs (i + 1)) (by rw [nI_clamp (by omega)]) ?_
  refine aw_aload_n d_L_law_200 rfl rfl ?_
  refine aw_iload_n d_L_law_201 rfl rfl ?_
  refine aw_iconst (v := nI 2) d_L_law_202 (by decide) ?_
  refine aw_iaddN d_L_law_203 ?_
  refine aw_sld d_L_law_204 (vpi (by omega) hN) ?_
  refine aw_nmi (z := xs (i + 2)) (by rw [nI_clamp (by omega)]) ?_
  refine aw_callV (av := [.int (xs (i + 1)), .int (xs (i + 2))]) (rest := [.int (aJump n J (xs (i + 1)) (xs (i + 2)))]) (m_M_jump hg hO2) kd_M_jump k_468 k_469 ks_M_jump rfl hM.1 d_L_law_205 rfl ⟨by decide, by decide⟩ (Nat.le_of_ble_eq_true rfl) ⟨by decide, by decide⟩ rfl (fun v3 ws3 hq3 => ?_)
  obtain ⟨rfl, f3, hO3⟩ := hq3
  have hK3 := hK2.kept f3
  refine aw_icmp_eq (tgt := 738) d_L_law_208 (by decide) (fun _ => ?_) (fun h => absurd (rfl) h)
  exact K ws3 _ _ _ _ _ ⟨⟨_, _, _, _, _, _, _, _, hK3⟩, hO3⟩

set_option maxHeartbeats 4000000 in
set_option maxRecDepth 100000 in
theorem law_keep {g : aw_G} (hg : aw_T g) {ws : va_W} {ad : Nat → Nat} {b N i : Nat} {xs : Nat → Int32} {F : List Frame → Array Value → State → (Nat → Prop) → State → Prop} {n x y : Nat} {W : Nat → Nat → Nat} {J : Nat → Nat} (hN : N ≤ 2560) (hi : i + 5 ≤ N) (hB : gB g ws ad n x y W J) (K : ∀ (ws' : va_W) (n x y : Nat) (W : Nat → Nat → Nat) (J : Nat → Nat), gB g ws' ad n x y W J → AW g y_L_law c_L_law 4 ret room_1 (aw_EX b N xs) F 51 304 738 [(0, .ref b), (1, .ref (ad 0)), (2, .ref (ad 40)), (3, .int (nI i))] [] ws') : AW g y_L_law c_L_law 4 ret room_1 (aw_EX b N xs) F 51 304 213 [(0, .ref b), (1, .ref (ad 0)), (2, .ref (ad 40)), (3, .int (nI i))] [] ws := by
  obtain ⟨⟨P, T, X, q, M, L, O, D, hK⟩, hO⟩ := hB
  have hn := hK.2.2.1.1
  have hoS := hK.2.2.2.2.1
  have eD := D_Dc hoS hK.2.2.2.2.2.2.1
  have hC := IC_congr eD hK.2.2.2.2.2.2.2.1
  by_cases h5 : kb (xs (i + 1)) (xs (i + 2)) = true
  · refine aw_aload_n d_L_law_213 rfl rfl ?_
    refine aw_aload_n d_L_law_214 rfl rfl ?_
    refine aw_iload_n d_L_law_215 rfl rfl ?_
    refine aw_iconst (v := nI 1) d_L_law_216 (by decide) ?_
    refine aw_iaddN d_L_law_217 ?_
    refine aw_sld d_L_law_218 (vpi (by omega) hN) ?_
    refine aw_nmi (z := xs (i + 1)) (by rw [nI_clamp (by omega)]) ?_
    refine aw_aload_n d_L_law_219 rfl rfl ?_
    refine aw_iload_n d_L_law_220 rfl rfl ?_
    refine aw_iconst (v := nI 2) d_L_law_221 (by decide) ?_
    refine aw_iaddN d_L_law_222 ?_
    refine aw_sld d_L_law_223 (vpi (by omega) hN) ?_
    refine aw_nmi (z := xs (i + 2)) (by rw [nI_clamp (by omega)]) ?_
    refine aw_callV (av := [.int (xs (i + 1)), .int (xs (i + 2))]) (rest := []) (m_W_keep hg hK) kd_W_keep k_250 k_251 ks_W_keep rfl hK.1 d_L_law_224 rfl ⟨by decide, by decide⟩ (Nat.le_of_ble_eq_true rfl) ⟨by decide, by decide⟩ rfl (fun v2 ws2 hq2 => ?_)
    unfold qKeep at hq2
    rw [if_pos h5] at hq2
    obtain ⟨rfl, f2, P2, T2, X2, q2, M2, L2, O2, D2, hK2⟩ := hq2
    have hO2 := hO.kept f2
    obtain ⟨V, Rw, Tt, q', So, Bo, fo, tw, St, Sh, ss, Nw, Th, hM, -, -⟩ := id hO2
    refine aw_aload_n d_L_law_227 rfl rfl ?_
    refine aw_aload_n d_L_law_228 rfl rfl ?_
    refine aw_iload_n d_L_law_229 rfl rfl ?_
    refine aw_iconst (v := nI 1) d_L_law_230 (by decide) ?_
    refine aw_iaddN d_L_law_231 ?_
    refine aw_sld d_L_law_232 (vpi (by omega) hN) ?_
    refine aw_nmi (z := xs (i + 1)) (by rw [nI_clamp (by omega)]) ?_
    refine aw_aload_n d_L_law_233 rfl rfl ?_
    refine aw_iload_n d_L_law_234 rfl rfl ?_
    refine aw_iconst (v := nI 2) d_L_law_235 (by decide) ?_
    refine aw_iaddN d_L_law_236 ?_
    refine aw_sld d_L_law_237 (vpi (by omega) hN) ?_
    refine aw_nmi (z := xs (i + 2)) (by rw [nI_clamp (by omega)]) ?_
    refine aw_callV (av := [.int (xs (i + 1)), .int (xs (i + 2))]) (rest := [.int 1]) (m_M_keep hg hO2) kd_M_keep k_472 k_473 ks_M_keep rfl hM.1 d_L_law_238 rfl ⟨by decide, by decide⟩ (Nat.le_of_ble_eq_true rfl) ⟨by decide, by decide⟩ rfl (fun v3 ws3 hq3 => ?_)
    unfold qMkeep at hq3
    rw [if_pos h5] at hq3
    obtain ⟨rfl, f3, hO3⟩ := hq3
    have hK3 := hK2.kept f3
    refine aw_icmp_eq (tgt := 738) d_L_law_241 (by decide) (fun _ => ?_) (fun h => absurd (rfl) h)
    exact K ws3 _ _ _ _ _ ⟨⟨_, _, _, _, _, _, _, _, hK3⟩, hO3⟩
  · refine aw_aload_n d_L_law_213 rfl rfl ?_
    refine aw_aload_n d_L_law_214 rfl rfl ?_
    refine aw_iload_n d_L_law_215 rfl rfl ?_
    refine aw_iconst (v := nI 1) d_L_law_216 (by decide) ?_
    refine aw_iaddN d_L_law_217 ?_
    refine aw_sld d_L_law_218 (vpi (by omega) hN) ?_
    refine aw_nmi (z := xs (i + 1)) (by rw [nI_clamp (by omega)]) ?_
    refine aw_aload_n d_L_law_219 rfl rfl ?_
    refine aw_iload_n d_L_law_220 rfl rfl ?_
    refine aw_iconst (v := nI 2) d_L_law_221 (by decide) ?_
    refine aw_iaddN d_L_law_222 ?_
    refine aw_sld d_L_law_223 (vpi (by omega) hN) ?_
    refine aw_nmi (z := xs (i + 2)) (by rw [nI_clamp (by omega)]) ?_
    refine aw_callV (av := [.int (xs (i + 1)), .int (xs (i + 2))]) (rest := []) (m_W_keep hg hK) kd_W_keep k_250 k_251 ks_W_keep rfl hK.1 d_L_law_224 rfl ⟨by decide, by decide⟩ (Nat.le_of_ble_eq_true rfl) ⟨by decide, by decide⟩ rfl (fun v2 ws2 hq2 => ?_)
    unfold qKeep at hq2
    rw [if_neg h5] at hq2
    obtain ⟨rfl, f2, P2, T2, X2, q2, M2, L2, O2, D2, hK2⟩ := hq2
    have hO2 := hO.kept f2
    obtain ⟨V, Rw, Tt, q', So, Bo, fo, tw, St, Sh, ss, Nw, Th, hM, -, -⟩ := id hO2
    refine aw_aload_n d_L_law_227 rfl rfl ?_
    refine aw_aload_n d_L_law_228 rfl rfl ?_
    refine aw_iload_n d_L_law_229 rfl rfl ?_
    refine aw_iconst (v := nI 1) d_L_law_230 (by decide) ?_
    refine aw_iaddN d_L_law_231 ?_
    refine aw_sld d_L_law_232 (vpi (by omega) hN) ?_
    refine aw_nmi (z := xs (i + 1)) (by rw [nI_clamp (by omega)]) ?_
    refine aw_aload_n d_L_law_233 rfl rfl ?_
    refine aw_iload_n d_L_law_234 rfl rfl ?_
    refine aw_iconst (v := nI 2) d_L_law_235 (by decide) ?_
    refine aw_iaddN d_L_law_236 ?_
    refine aw_sld d_L_law_237 (vpi (by omega) hN) ?_
    refine aw_nmi (z := xs (i + 2)) (by rw [nI_clamp (by omega)]) ?_
    refine aw_callV (av := [.int (xs (i + 1)), .int (xs (i + 2))]) (rest := [.int (-2)]) (m_M_keep hg hO2) kd_M_keep k_472 k_473 ks_M_keep rfl hM.1 d_L_law_238 rfl ⟨by decide, by decide⟩ (Nat.le_of_ble_eq_true rfl) ⟨by decide, by decide⟩ rfl (fun v3 ws3 hq3 => ?_)
    unfold qMkeep at hq3
    rw [if_neg h5] at hq3
    obtain ⟨rfl, f3, hO3⟩ := hq3
    have hK3 := hK2.kept f3
    refine aw_icmp_eq (tgt := 738) d_L_law_241 (by decide) (fun _ => ?_) (fun h => absurd (rfl) h)
    exact K ws3 _ _ _ _ _ ⟨⟨_, _, _, _, _, _, _, _, hK3⟩, hO3⟩

set_option maxHeartbeats 4000000 in
set_option maxRecDepth 100000 in
theorem law_clear {g : aw_G} (hg : aw_T g) {ws : va_W} {ad : Nat → Nat} {b N i : Nat} {xs : Nat → Int32} {F : List Frame → Array Value → State → (Nat → Prop) → State → Prop} {n x y : Nat} {W : Nat → Nat → Nat} {J : Nat → Nat} (hN : N ≤ 2560) (hi : i + 5 ≤ N) (hB : gB g ws ad n x y W J) (K : ∀ (ws' : va_W) (n x y : Nat) (W : Nat → Nat → Nat) (J : Nat → Nat), gB g ws' ad n x y W J → AW g y_L_law c_L_law 4 ret room_1 (aw_EX b N xs) F 51 304 738 [(0, .ref b), (1, .ref (ad 0)), (2, .ref (ad 40)), (3, .int (nI i))] [] ws') : AW g y_L_law c_L_law 4 ret room_1 (aw_EX b N xs) F 51 304 246 [(0, .ref b), (1, .ref (ad 0)), (2, .ref (ad 40)), (3, .int (nI i))] [] ws := by
  obtain ⟨⟨P, T, X, q, M, L, O, D, hK⟩, hO⟩ := hB
  have hn := hK.2.2.1.1
  have hoS := hK.2.2.2.2.1
  have eD := D_Dc hoS hK.2.2.2.2.2.2.1
  have hC := IC_congr eD hK.2.2.2.2.2.2.2.1
  refine aw_aload_n d_L_law_246 rfl rfl ?_
  refine aw_callV (av := []) (rest := []) (m_W_clear hg hK) kd_W_clear k_254 k_255 ks_W_clear rfl hK.1 d_L_law_247 rfl ⟨by decide, by decide⟩ (Nat.le_of_ble_eq_true rfl) ⟨by decide, by decide⟩ rfl (fun v2 ws2 hq2 => ?_)
  obtain ⟨rfl, f2, P2, T2, X2, q2, M2, L2, O2, D2, hK2⟩ := hq2
  have hO2 := hO.kept f2
  obtain ⟨V, Rw, Tt, q', So, Bo, fo, tw, St, Sh, ss, Nw, Th, hM, -, -⟩ := id hO2
  refine aw_aload_n d_L_law_250 rfl rfl ?_
  refine aw_callV (av := []) (rest := [.int (nI n)]) (m_M_clear hg hO2) kd_M_clear k_476 k_477 ks_M_clear rfl hM.1 d_L_law_251 rfl ⟨by decide, by decide⟩ (Nat.le_of_ble_eq_true rfl) ⟨by decide, by decide⟩ rfl (fun v3 ws3 hq3 => ?_)
  obtain ⟨rfl, f3, hO3⟩ := hq3
  have hK3 := hK2.kept f3
  refine aw_icmp_eq (tgt := 738) d_L_law_254 (by decide) (fun _ => ?_) (fun h => absurd (rfl) h)
  exact K ws3 _ _ _ _ _ ⟨⟨_, _, _, _, _, _, _, _, hK3⟩, hO3⟩

set_option maxHeartbeats 4000000 in
set_option maxRecDepth 100000 in
theorem law_row {g : aw_G} (hg : aw_T g) {ws : va_W} {ad : Nat → Nat} {b N i : Nat} {xs : Nat → Int32} {F : List Frame → Array Value → State → (Nat → Prop) → State → Prop} {n x y : Nat} {W : Nat → Nat → Nat} {J : Nat → Nat} (hN : N ≤ 2560) (hi : i + 5 ≤ N) (hB : gB g ws ad n x y W J) (K : ∀ (ws' : va_W) (n x y : Nat) (W : Nat → Nat → Nat) (J : Nat → Nat), gB g ws' ad n x y W J → AW g y_L_law c_L_law 4 ret room_1 (aw_EX b N xs) F 51 304 738 [(0, .ref b), (1, .ref (ad 0)), (2, .ref (ad 40)), (3, .int (nI i))] [] ws') : AW g y_L_law c_L_law 4 ret room_1 (aw_EX b N xs) F 51 304 259 [(0, .ref b), (1, .ref (ad 0)), (2, .ref (ad 40)), (3, .int (nI i))] [] ws := by
  obtain ⟨⟨P, T, X, q, M, L, O, D, hK⟩, hO⟩ := hB
  have hn := hK.2.2.1.1
  have hoS := hK.2.2.2.2.1
  have eD := D_Dc hoS hK.2.2.2.2.2.2.1
  have hC := IC_congr eD hK.2.2.2.2.2.2.2.1
  refine aw_aload_n d_L_law_259 rfl rfl ?_
  refine aw_aload_n d_L_law_260 rfl rfl ?_
  refine aw_iload_n d_L_law_261 rfl rfl ?_
  refine aw_iconst (v := nI 1) d_L_law_262 (by decide) ?_
  refine aw_iaddN d_L_law_263 ?_
  refine aw_sld d_L_law_264 (vpi (by omega) hN) ?_
  refine aw_nmi (z := xs (i + 1)) (by rw [nI_clamp (by omega)]) ?_
  refine aw_aload_n d_L_law_265 rfl rfl ?_
  refine aw_iload_n d_L_law_266 rfl rfl ?_
  refine aw_iconst (v := nI 2) d_L_law_267 (by decide) ?_
  refine aw_iaddN d_L_law_268 ?_
  refine aw_sld d_L_law_269 (vpi (by omega) hN) ?_
  refine aw_nmi (z := xs (i + 2)) (by rw [nI_clamp (by omega)]) ?_
  refine aw_callV (av := [.int (xs (i + 1)), .int (xs (i + 2))]) (rest := []) (m_W_row hg hK) kd_W_row k_258 k_259 ks_W_row rfl hK.1 d_L_law_270 rfl ⟨by decide, by decide⟩ (Nat.le_of_ble_eq_true rfl) ⟨by decide, by decide⟩ rfl (fun v2 ws2 hq2 => ?_)
  obtain ⟨rfl, rfl⟩ := hq2
  have hO2 := hO
  have hK2 := hK
  obtain ⟨V, Rw, Tt, q', So, Bo, fo, tw, St, Sh, ss, Nw, Th, hM, -, -⟩ := id hO2
  refine aw_aload_n d_L_law_273 rfl rfl ?_
  refine aw_aload_n d_L_law_274 rfl rfl ?_
  refine aw_iload_n d_L_law_275 rfl rfl ?_
  refine aw_iconst (v := nI 1) d_L_law_276 (by decide) ?_
  refine aw_iaddN d_L_law_277 ?_
  refine aw_sld d_L_law_278 (vpi (by omega) hN) ?_
  refine aw_nmi (z := xs (i + 1)) (by rw [nI_clamp (by omega)]) ?_
  refine aw_aload_n d_L_law_279 rfl rfl ?_
  refine aw_iload_n d_L_law_280 rfl rfl ?_
  refine aw_iconst (v := nI 2) d_L_law_281 (by decide) ?_
  refine aw_iaddN d_L_law_282 ?_
  refine aw_sld d_L_law_283 (vpi (by omega) hN) ?_
  refine aw_nmi (z := xs (i + 2)) (by rw [nI_clamp (by omega)]) ?_
  refine aw_callV (av := [.int (xs (i + 1)), .int (xs (i + 2))]) (rest := [.int (aRow n x y W J (xs (i + 1)) (xs (i + 2)))]) (m_M_row hg hO2) kd_M_row k_480 k_481 ks_M_row rfl hM.1 d_L_law_284 rfl ⟨by decide, by decide⟩ (Nat.le_of_ble_eq_true rfl) ⟨by decide, by decide⟩ rfl (fun v3 ws3 hq3 => ?_)
  obtain ⟨rfl, f3, hO3⟩ := hq3
  have hK3 := hK2.kept f3
  refine aw_icmp_eq (tgt := 738) d_L_law_287 (by decide) (fun _ => ?_) (fun h => absurd (rfl) h)
  exact K ws3 _ _ _ _ _ ⟨⟨_, _, _, _, _, _, _, _, hK3⟩, hO3⟩

set_option maxHeartbeats 4000000 in
set_option maxRecDepth 100000 in
theorem law_total {g : aw_G} (hg : aw_T g) {ws : va_W} {ad : Nat → Nat} {b N i : Nat} {xs : Nat → Int32} {F : List Frame → Array Value → State → (Nat → Prop) → State → Prop} {n x y : Nat} {W : Nat → Nat → Nat} {J : Nat → Nat} (hN : N ≤ 2560) (hi : i + 5 ≤ N) (hB : gB g ws ad n x y W J) (K : ∀ (ws' : va_W) (n x y : Nat) (W : Nat → Nat → Nat) (J : Nat → Nat), gB g ws' ad n x y W J → AW g y_L_law c_L_law 4 ret room_1 (aw_EX b N xs) F 51 304 738 [(0, .ref b), (1, .ref (ad 0)), (2, .ref (ad 40)), (3, .int (nI i))] [] ws') : AW g y_L_law c_L_law 4 ret room_1 (aw_EX b N xs) F 51 304 292 [(0, .ref b), (1, .ref (ad 0)), (2, .ref (ad 40)), (3, .int (nI i))] [] ws := by
  obtain ⟨⟨P, T, X, q, M, L, O, D, hK⟩, hO⟩ := hB
  have hn := hK.2.2.1.1
  have hoS := hK.2.2.2.2.1
  have eD := D_Dc hoS hK.2.2.2.2.2.2.1
  have hC := IC_congr eD hK.2.2.2.2.2.2.2.1
  refine aw_aload_n d_L_law_292 rfl rfl ?_
  refine aw_aload_n d_L_law_293 rfl rfl ?_
  refine aw_iload_n d_L_law_294 rfl rfl ?_
  refine aw_iconst (v := nI 1) d_L_law_295 (by decide) ?_
  refine aw_iaddN d_L_law_296 ?_
  refine aw_sld d_L_law_297 (vpi (by omega) hN) ?_
  refine aw_nmi (z := xs (i + 1)) (by rw [nI_clamp (by omega)]) ?_
  refine aw_callV (av := [.int (xs (i + 1))]) (rest := []) (m_W_total hg hK) kd_W_total k_262 k_263 ks_W_total rfl hK.1 d_L_law_298 rfl ⟨by decide, by decide⟩ (Nat.le_of_ble_eq_true rfl) ⟨by decide, by decide⟩ rfl (fun v2 ws2 hq2 => ?_)
  obtain ⟨rfl, rfl⟩ := hq2
  have hO2 := hO
  have hK2 := hK
  obtain ⟨V, Rw, Tt, q', So, Bo, fo, tw, St, Sh, ss, Nw, Th, hM, -, -⟩ := id hO2
  refine aw_aload_n d_L_law_301 rfl rfl ?_
  refine aw_aload_n d_L_law_302 rfl rfl ?_
  refine aw_iload_n d_L_law_303 rfl rfl ?_
  refine aw_iconst (v := nI 1) d_L_law_304 (by decide) ?_
  refine aw_iaddN d_L_law_305 ?_
  refine aw_sld d_L_law_306 (vpi (by omega) hN) ?_
  refine aw_nmi (z := xs (i + 1)) (by rw [nI_clamp (by omega)]) ?_
  refine aw_callV (av := [.int (xs (i + 1))]) (rest := [.int (aTotal n x y W J (xs (i + 1)))]) (m_M_total hg hO2) kd_M_total k_491 k_492 ks_M_total rfl hM.1 d_L_law_307 rfl ⟨by decide, by decide⟩ (Nat.le_of_ble_eq_true rfl) ⟨by decide, by decide⟩ rfl (fun v3 ws3 hq3 => ?_)
  obtain ⟨rfl, f3, hO3⟩ := hq3
  have hK3 := hK2.kept f3
  refine aw_icmp_eq (tgt := 738) d_L_law_310 (by decide) (fun _ => ?_) (fun h => absurd (rfl) h)
  exact K ws3 _ _ _ _ _ ⟨⟨_, _, _, _, _, _, _, _, hK3⟩, hO3⟩

set_option maxHeartbeats 4000000 in
set_option maxRecDepth 100000 in
theorem law_closed {g : aw_G} (hg : aw_T g) {ws : va_W} {ad : Nat → Nat} {b N i : Nat} {xs : Nat → Int32} {F : List Frame → Array Value → State → (Nat → Prop) → State → Prop} {n x y : Nat} {W : Nat → Nat → Nat} {J : Nat → Nat} (hN : N ≤ 2560) (hi : i + 5 ≤ N) (hB : gB g ws ad n x y W J) (K : ∀ (ws' : va_W) (n x y : Nat) (W : Nat → Nat → Nat) (J : Nat → Nat), gB g ws' ad n x y W J → AW g y_L_law c_L_law 4 ret room_1 (aw_EX b N xs) F 51 304 738 [(0, .ref b), (1, .ref (ad 0)), (2, .ref (ad 40)), (3, .int (nI i))] [] ws') : AW g y_L_law c_L_law 4 ret room_1 (aw_EX b N xs) F 51 304 315 [(0, .ref b), (1, .ref (ad 0)), (2, .ref (ad 40)), (3, .int (nI i))] [] ws := by
  obtain ⟨⟨P, T, X, q, M, L, O, D, hK⟩, hO⟩ := hB
  have hn := hK.2.2.1.1
  have hoS := hK.2.2.2.2.1
  have eD := D_Dc hoS hK.2.2.2.2.2.2.1
  have hC := IC_congr eD hK.2.2.2.2.2.2.2.1
  refine aw_aload_n d_L_law_315 rfl rfl ?_
  refine aw_callV (av := []) (rest := []) (m_W_closed hg hK) kd_W_closed k_266 k_267 ks_W_closed rfl hK.1 d_L_law_316 rfl ⟨by decide, by decide⟩ (Nat.le_of_ble_eq_true rfl) ⟨by decide, by decide⟩ rfl (fun v2 ws2 hq2 => ?_)
  obtain ⟨rfl, rfl⟩ := hq2
  have hO2 := hO
  have hK2 := hK
  obtain ⟨V, Rw, Tt, q', So, Bo, fo, tw, St, Sh, ss, Nw, Th, hM, -, -⟩ := id hO2
  refine aw_aload_n d_L_law_319 rfl rfl ?_
  refine aw_callV (av := []) (rest := [.int (nI q)]) (m_M_closed hg hC hO2) kd_M_closed k_495 k_496 ks_M_closed rfl hM.1 d_L_law_320 rfl ⟨by decide, by decide⟩ (Nat.le_of_ble_eq_true rfl) ⟨by decide, by decide⟩ rfl (fun v3 ws3 hq3 => ?_)
  obtain ⟨rfl, f3, hO3⟩ := hq3
  have hK3 := hK2.kept f3
  refine aw_icmp_eq (tgt := 738) d_L_law_323 (by decide) (fun _ => ?_) (fun h => absurd (rfl) h)
  exact K ws3 _ _ _ _ _ ⟨⟨_, _, _, _, _, _, _, _, hK3⟩, hO3⟩

set_option maxHeartbeats 4000000 in
set_option maxRecDepth 100000 in
theorem law_closedOf {g : aw_G} (hg : aw_T g) {ws : va_W} {ad : Nat → Nat} {b N i : Nat} {xs : Nat → Int32} {F : List Frame → Array Value → State → (Nat → Prop) → State → Prop} {n x y : Nat} {W : Nat → Nat → Nat} {J : Nat → Nat} (hN : N ≤ 2560) (hi : i + 5 ≤ N) (hB : gB g ws ad n x y W J) (K : ∀ (ws' : va_W) (n x y : Nat) (W : Nat → Nat → Nat) (J : Nat → Nat), gB g ws' ad n x y W J → AW g y_L_law c_L_law 4 ret room_1 (aw_EX b N xs) F 51 304 738 [(0, .ref b), (1, .ref (ad 0)), (2, .ref (ad 40)), (3, .int (nI i))] [] ws') : AW g y_L_law c_L_law 4 ret room_1 (aw_EX b N xs) F 51 304 328 [(0, .ref b), (1, .ref (ad 0)), (2, .ref (ad 40)), (3, .int (nI i))] [] ws := by
  obtain ⟨⟨P, T, X, q, M, L, O, D, hK⟩, hO⟩ := hB
  have hn := hK.2.2.1.1
  have hoS := hK.2.2.2.2.1
  have eD := D_Dc hoS hK.2.2.2.2.2.2.1
  have hC := IC_congr eD hK.2.2.2.2.2.2.2.1
  refine aw_aload_n d_L_law_328 rfl rfl ?_
  refine aw_aload_n d_L_law_329 rfl rfl ?_
  refine aw_iload_n d_L_law_330 rfl rfl ?_
  refine aw_iconst (v := nI 1) d_L_law_331 (by decide) ?_
  refine aw_iaddN d_L_law_332 ?_
  refine aw_sld d_L_law_333 (vpi (by omega) hN) ?_
  refine aw_nmi (z := xs (i + 1)) (by rw [nI_clamp (by omega)]) ?_
  refine aw_callV (av := [.int (xs (i + 1))]) (rest := []) (m_W_closedOf hg hK) kd_W_closedOf k_270 k_271 ks_W_closedOf rfl hK.1 d_L_law_334 rfl ⟨by decide, by decide⟩ (Nat.le_of_ble_eq_true rfl) ⟨by decide, by decide⟩ rfl (fun v2 ws2 hq2 => ?_)
  obtain ⟨rfl, rfl⟩ := hq2
  have hO2 := hO
  have hK2 := hK
  obtain ⟨V, Rw, Tt, q', So, Bo, fo, tw, St, Sh, ss, Nw, Th, hM, -, -⟩ := id hO2
  refine aw_aload_n d_L_law_337 rfl rfl ?_
  refine aw_aload_n d_L_law_338 rfl rfl ?_
  refine aw_iload_n d_L_law_339 rfl rfl ?_
  refine aw_iconst (v := nI 1) d_L_law_340 (by decide) ?_
  refine aw_iaddN d_L_law_341 ?_
  refine aw_sld d_L_law_342 (vpi (by omega) hN) ?_
  refine aw_nmi (z := xs (i + 1)) (by rw [nI_clamp (by omega)]) ?_
  refine aw_callV (av := [.int (xs (i + 1))]) (rest := [.int (if nb n (xs (i + 1)) = true then O (ix (xs (i + 1))) else -1)]) (m_M_closedOf hg hC hO2) kd_M_closedOf k_515 k_516 ks_M_closedOf rfl hM.1 d_L_law_343 rfl ⟨by decide, by decide⟩ (Nat.le_of_ble_eq_true rfl) ⟨by decide, by decide⟩ rfl (fun v3 ws3 hq3 => ?_)
  obtain ⟨rfl, f3, hO3⟩ := hq3
  have hK3 := hK2.kept f3
  refine aw_icmp_eq (tgt := 738) d_L_law_346 (by decide) (fun _ => ?_) (fun h => absurd (rfl) h)
  exact K ws3 _ _ _ _ _ ⟨⟨_, _, _, _, _, _, _, _, hK3⟩, hO3⟩

set_option maxHeartbeats 4000000 in
set_option maxRecDepth 100000 in
theorem law_period {g : aw_G} (hg : aw_T g) {ws : va_W} {ad : Nat → Nat} {b N i : Nat} {xs : Nat → Int32} {F : List Frame → Array Value → State → (Nat → Prop) → State → Prop} {n x y : Nat} {W : Nat → Nat → Nat} {J : Nat → Nat} (hN : N ≤ 2560) (hi : i + 5 ≤ N) (hB : gB g ws ad n x y W J) (K : ∀ (ws' : va_W) (n x y : Nat) (W : Nat → Nat → Nat) (J : Nat → Nat), gB g ws' ad n x y W J → AW g y_L_law c_L_law 4 ret room_1 (aw_EX b N xs) F 51 304 738 [(0, .ref b), (1, .ref (ad 0)), (2, .ref (ad 40)), (3, .int (nI i))] [] ws') : AW g y_L_law c_L_law 4 ret room_1 (aw_EX b N xs) F 51 304 351 [(0, .ref b), (1, .ref (ad 0)), (2, .ref (ad 40)), (3, .int (nI i))] [] ws := by
  obtain ⟨⟨P, T, X, q, M, L, O, D, hK⟩, hO⟩ := hB
  have hn := hK.2.2.1.1
  have hoS := hK.2.2.2.2.1
  have eD := D_Dc hoS hK.2.2.2.2.2.2.1
  have hC := IC_congr eD hK.2.2.2.2.2.2.2.1
  refine aw_aload_n d_L_law_351 rfl rfl ?_
  refine aw_aload_n d_L_law_352 rfl rfl ?_
  refine aw_iload_n d_L_law_353 rfl rfl ?_
  refine aw_iconst (v := nI 1) d_L_law_354 (by decide) ?_
  refine aw_iaddN d_L_law_355 ?_
  refine aw_sld d_L_law_356 (vpi (by omega) hN) ?_
  refine aw_nmi (z := xs (i + 1)) (by rw [nI_clamp (by omega)]) ?_
  refine aw_callV (av := [.int (xs (i + 1))]) (rest := []) (m_W_period hg hK) kd_W_period k_274 k_275 ks_W_period rfl hK.1 d_L_law_357 rfl ⟨by decide, by decide⟩ (Nat.le_of_ble_eq_true rfl) ⟨by decide, by decide⟩ rfl (fun v2 ws2 hq2 => ?_)
  obtain ⟨rfl, rfl⟩ := hq2
  have hO2 := hO
  have hK2 := hK
  obtain ⟨V, Rw, Tt, q', So, Bo, fo, tw, St, Sh, ss, Nw, Th, hM, -, -⟩ := id hO2
  refine aw_aload_n d_L_law_360 rfl rfl ?_
  refine aw_aload_n d_L_law_361 rfl rfl ?_
  refine aw_iload_n d_L_law_362 rfl rfl ?_
  refine aw_iconst (v := nI 1) d_L_law_363 (by decide) ?_
  refine aw_iaddN d_L_law_364 ?_
  refine aw_sld d_L_law_365 (vpi (by omega) hN) ?_
  refine aw_nmi (z := xs (i + 1)) (by rw [nI_clamp (by omega)]) ?_
  refine aw_callV (av := [.int (xs (i + 1))]) (rest := [.int (if nb q (xs (i + 1)) = true then nI (perd X n (L (ix (xs (i + 1)))) 15) else -1)]) (m_M_period hg hC hO2) kd_M_period k_519 k_520 ks_M_period rfl hM.1 d_L_law_366 rfl ⟨by decide, by decide⟩ (Nat.le_of_ble_eq_true rfl) ⟨by decide, by decide⟩ rfl (fun v3 ws3 hq3 => ?_)
  obtain ⟨rfl, f3, hO3⟩ := hq3
  have hK3 := hK2.kept f3
  refine aw_icmp_eq (tgt := 738) d_L_law_369 (by decide) (fun _ => ?_) (fun h => absurd (per_eq hoS hn hC _) h)
  exact K ws3 _ _ _ _ _ ⟨⟨_, _, _, _, _, _, _, _, hK3⟩, hO3⟩

set_option maxHeartbeats 4000000 in
set_option maxRecDepth 100000 in
theorem law_rank {g : aw_G} (hg : aw_T g) {ws : va_W} {ad : Nat → Nat} {b N i : Nat} {xs : Nat → Int32} {F : List Frame → Array Value → State → (Nat → Prop) → State → Prop} {n x y : Nat} {W : Nat → Nat → Nat} {J : Nat → Nat} (hN : N ≤ 2560) (hi : i + 5 ≤ N) (hB : gB g ws ad n x y W J) (K : ∀ (ws' : va_W) (n x y : Nat) (W : Nat → Nat → Nat) (J : Nat → Nat), gB g ws' ad n x y W J → AW g y_L_law c_L_law 4 ret room_1 (aw_EX b N xs) F 51 304 738 [(0, .ref b), (1, .ref (ad 0)), (2, .ref (ad 40)), (3, .int (nI i))] [] ws') : AW g y_L_law c_L_law 4 ret room_1 (aw_EX b N xs) F 51 304 374 [(0, .ref b), (1, .ref (ad 0)), (2, .ref (ad 40)), (3, .int (nI i))] [] ws := by
  obtain ⟨⟨P, T, X, q, M, L, O, D, hK⟩, hO⟩ := hB
  have hn := hK.2.2.1.1
  have hoS := hK.2.2.2.2.1
  have eD := D_Dc hoS hK.2.2.2.2.2.2.1
  have hC := IC_congr eD hK.2.2.2.2.2.2.2.1
  refine aw_aload_n d_L_law_374 rfl rfl ?_
  refine aw_aload_n d_L_law_375 rfl rfl ?_
  refine aw_iload_n d_L_law_376 rfl rfl ?_
  refine aw_iconst (v := nI 1) d_L_law_377 (by decide) ?_
  refine aw_iaddN d_L_law_378 ?_
  refine aw_sld d_L_law_379 (vpi (by omega) hN) ?_
  refine aw_nmi (z := xs (i + 1)) (by rw [nI_clamp (by omega)]) ?_
  refine aw_aload_n d_L_law_380 rfl rfl ?_
  refine aw_iload_n d_L_law_381 rfl rfl ?_
  refine aw_iconst (v := nI 2) d_L_law_382 (by decide) ?_
  refine aw_iaddN d_L_law_383 ?_
  refine aw_sld d_L_law_384 (vpi (by omega) hN) ?_
  refine aw_nmi (z := xs (i + 2)) (by rw [nI_clamp (by omega)]) ?_
  refine aw_callV (av := [.int (xs (i + 1)), .int (xs (i + 2))]) (rest := []) (m_W_rank hg hK) kd_W_rank k_286 k_287 ks_W_rank rfl hK.1 d_L_law_385 rfl ⟨by decide, by decide⟩ (Nat.le_of_ble_eq_true rfl) ⟨by decide, by decide⟩ rfl (fun v2 ws2 hq2 => ?_)
  obtain ⟨rfl, f2, hK2⟩ := hq2
  have hO2 := hO.kept f2
  obtain ⟨V, Rw, Tt, q', So, Bo, fo, tw, St, Sh, ss, Nw, Th, hM, -, -⟩ := id hO2
  refine aw_aload_n d_L_law_388 rfl rfl ?_
  refine aw_aload_n d_L_law_389 rfl rfl ?_
  refine aw_iload_n d_L_law_390 rfl rfl ?_
  refine aw_iconst (v := nI 1) d_L_law_391 (by decide) ?_
  refine aw_iaddN d_L_law_392 ?_
  refine aw_sld d_L_law_393 (vpi (by omega) hN) ?_
  refine aw_nmi (z := xs (i + 1)) (by rw [nI_clamp (by omega)]) ?_
  refine aw_aload_n d_L_law_394 rfl rfl ?_
  refine aw_iload_n d_L_law_395 rfl rfl ?_
  refine aw_iconst (v := nI 2) d_L_law_396 (by decide) ?_
  refine aw_iaddN d_L_law_397 ?_
  refine aw_sld d_L_law_398 (vpi (by omega) hN) ?_
  refine aw_nmi (z := xs (i + 2)) (by rw [nI_clamp (by omega)]) ?_
  refine aw_callV (av := [.int (xs (i + 1)), .int (xs (i + 2))]) (rest := [.long (aRank n x y W J q M (xs (i + 1)) (xs (i + 2)))]) (m_M_rank hg hC hO2) kd_M_rank k_523 k_524 ks_M_rank rfl hM.1 d_L_law_399 rfl ⟨by decide, by decide⟩ (Nat.le_of_ble_eq_true rfl) ⟨by decide, by decide⟩ rfl (fun v3 ws3 hq3 => ?_)
  obtain ⟨rfl, f3, hO3⟩ := hq3
  have hK3 := hK2.kept f3
  refine aw_lcmp d_L_law_402 (aw_nmi (z := nI 0) (by rw [lgc]) ?_)
  refine aw_if_eqN (tgt := 738) d_L_law_403 (by decide) (by omega) (fun h => ?_) (fun h => absurd h (by omega))
  exact K ws3 _ _ _ _ _ ⟨⟨_, _, _, _, _, _, _, _, hK3⟩, hO3⟩

set_option maxHeartbeats 4000000 in
set_option maxRecDepth 100000 in
theorem law_place {g : aw_G} (hg : aw_T g) {ws : va_W} {ad : Nat → Nat} {b N i : Nat} {xs : Nat → Int32} {F : List Frame → Array Value → State → (Nat → Prop) → State → Prop} {n x y : Nat} {W : Nat → Nat → Nat} {J : Nat → Nat} (hN : N ≤ 2560) (hi : i + 5 ≤ N) (hB : gB g ws ad n x y W J) (K : ∀ (ws' : va_W) (n x y : Nat) (W : Nat → Nat → Nat) (J : Nat → Nat), gB g ws' ad n x y W J → AW g y_L_law c_L_law 4 ret room_1 (aw_EX b N xs) F 51 304 738 [(0, .ref b), (1, .ref (ad 0)), (2, .ref (ad 40)), (3, .int (nI i))] [] ws') : AW g y_L_law c_L_law 4 ret room_1 (aw_EX b N xs) F 51 304 408 [(0, .ref b), (1, .ref (ad 0)), (2, .ref (ad 40)), (3, .int (nI i))] [] ws := by
  obtain ⟨⟨P, T, X, q, M, L, O, D, hK⟩, hO⟩ := hB
  have hn := hK.2.2.1.1
  have hoS := hK.2.2.2.2.1
  have eD := D_Dc hoS hK.2.2.2.2.2.2.1
  have hC := IC_congr eD hK.2.2.2.2.2.2.2.1
  refine aw_aload_n d_L_law_408 rfl rfl ?_
  refine aw_aload_n d_L_law_409 rfl rfl ?_
  refine aw_iload_n d_L_law_410 rfl rfl ?_
  refine aw_iconst (v := nI 1) d_L_law_411 (by decide) ?_
  refine aw_iaddN d_L_law_412 ?_
  refine aw_sld d_L_law_413 (vpi (by omega) hN) ?_
  refine aw_nmi (z := xs (i + 1)) (by rw [nI_clamp (by omega)]) ?_
  refine aw_callV (av := [.int (xs (i + 1))]) (rest := []) (m_W_place hg hK) kd_W_place k_318 k_319 ks_W_place rfl hK.1 d_L_law_414 rfl ⟨by decide, by decide⟩ (Nat.le_of_ble_eq_true rfl) ⟨by decide, by decide⟩ rfl (fun v2 ws2 hq2 => ?_)
  obtain ⟨rfl, f2, hK2⟩ := hq2
  have hO2 := hO.kept f2
  obtain ⟨V, Rw, Tt, q', So, Bo, fo, tw, St, Sh, ss, Nw, Th, hM, -, -⟩ := id hO2
  refine aw_aload_n d_L_law_417 rfl rfl ?_
  refine aw_aload_n d_L_law_418 rfl rfl ?_
  refine aw_iload_n d_L_law_419 rfl rfl ?_
  refine aw_iconst (v := nI 1) d_L_law_420 (by decide) ?_
  refine aw_iaddN d_L_law_421 ?_
  refine aw_sld d_L_law_422 (vpi (by omega) hN) ?_
  refine aw_nmi (z := xs (i + 1)) (by rw [nI_clamp (by omega)]) ?_
  refine aw_callV (av := [.int (xs (i + 1))]) (rest := [.int (aPlace n x y W J q M (xs (i + 1)))]) (m_M_place hg hC hO2) kd_M_place k_548 k_549 ks_M_place rfl hM.1 d_L_law_423 rfl ⟨by decide, by decide⟩ (Nat.le_of_ble_eq_true rfl) ⟨by decide, by decide⟩ rfl (fun v3 ws3 hq3 => ?_)
  obtain ⟨rfl, f3, hO3⟩ := hq3
  have hK3 := hK2.kept f3
  refine aw_icmp_eq (tgt := 738) d_L_law_426 (by decide) (fun _ => ?_) (fun h => absurd (rfl) h)
  exact K ws3 _ _ _ _ _ ⟨⟨_, _, _, _, _, _, _, _, hK3⟩, hO3⟩

set_option maxHeartbeats 4000000 in
set_option maxRecDepth 100000 in
theorem law_reach {g : aw_G} (hg : aw_T g) {ws : va_W} {ad : Nat → Nat} {b N i : Nat} {xs : Nat → Int32} {F : List Frame → Array Value → State → (Nat → Prop) → State → Prop} {n x y : Nat} {W : Nat → Nat → Nat} {J : Nat → Nat} (hN : N ≤ 2560) (hi : i + 5 ≤ N) (hB : gB g ws ad n x y W J) (K : ∀ (ws' : va_W) (n x y : Nat) (W : Nat → Nat → Nat) (J : Nat → Nat), gB g ws' ad n x y W J → AW g y_L_law c_L_law 4 ret room_1 (aw_EX b N xs) F 51 304 738 [(0, .ref b), (1, .ref (ad 0)), (2, .ref (ad 40)), (3, .int (nI i))] [] ws') : AW g y_L_law c_L_law 4 ret room_1 (aw_EX b N xs) F 51 304 431 [(0, .ref b), (1, .ref (ad 0)), (2, .ref (ad 40)), (3, .int (nI i))] [] ws := by
  obtain ⟨⟨P, T, X, q, M, L, O, D, hK⟩, hO⟩ := hB
  have hn := hK.2.2.1.1
  have hoS := hK.2.2.2.2.1
  have eD := D_Dc hoS hK.2.2.2.2.2.2.1
  have hC := IC_congr eD hK.2.2.2.2.2.2.2.1
  refine aw_aload_n d_L_law_431 rfl rfl ?_
  refine aw_aload_n d_L_law_432 rfl rfl ?_
  refine aw_iload_n d_L_law_433 rfl rfl ?_
  refine aw_iconst (v := nI 1) d_L_law_434 (by decide) ?_
  refine aw_iaddN d_L_law_435 ?_
  refine aw_sld d_L_law_436 (vpi (by omega) hN) ?_
  refine aw_nmi (z := xs (i + 1)) (by rw [nI_clamp (by omega)]) ?_
  refine aw_aload_n d_L_law_437 rfl rfl ?_
  refine aw_iload_n d_L_law_438 rfl rfl ?_
  refine aw_iconst (v := nI 2) d_L_law_439 (by decide) ?_
  refine aw_iaddN d_L_law_440 ?_
  refine aw_sld d_L_law_441 (vpi (by omega) hN) ?_
  refine aw_nmi (z := xs (i + 2)) (by rw [nI_clamp (by omega)]) ?_
  refine aw_aload_n d_L_law_442 rfl rfl ?_
  refine aw_iload_n d_L_law_443 rfl rfl ?_
  refine aw_iconst (v := nI 3) d_L_law_444 (by decide) ?_
  refine aw_iaddN d_L_law_445 ?_
  refine aw_sld d_L_law_446 (vpi (by omega) hN) ?_
  refine aw_nmi (z := xs (i + 3)) (by rw [nI_clamp (by omega)]) ?_
  refine aw_callV (av := [.int (xs (i + 1)), .int (xs (i + 2)), .int (xs (i + 3))]) (rest := []) (m_W_reach hg hK) kd_W_reach k_326 k_327 ks_W_reach rfl hK.1 d_L_law_447 rfl ⟨by decide, by decide⟩ (Nat.le_of_ble_eq_true rfl) ⟨by decide, by decide⟩ rfl (fun v2 ws2 hq2 => ?_)
  obtain ⟨rfl, f2, hK2⟩ := hq2
  have hO2 := hO.kept f2
  obtain ⟨V, Rw, Tt, q', So, Bo, fo, tw, St, Sh, ss, Nw, Th, hM, -, -⟩ := id hO2
  refine aw_aload_n d_L_law_450 rfl rfl ?_
  refine aw_aload_n d_L_law_451 rfl rfl ?_
  refine aw_iload_n d_L_law_452 rfl rfl ?_
  refine aw_iconst (v := nI 1) d_L_law_453 (by decide) ?_
  refine aw_iaddN d_L_law_454 ?_
  refine aw_sld d_L_law_455 (vpi (by omega) hN) ?_
  refine aw_nmi (z := xs (i + 1)) (by rw [nI_clamp (by omega)]) ?_
  refine aw_aload_n d_L_law_456 rfl rfl ?_
  refine aw_iload_n d_L_law_457 rfl rfl ?_
  refine aw_iconst (v := nI 2) d_L_law_458 (by decide) ?_
  refine aw_iaddN d_L_law_459 ?_
  refine aw_sld d_L_law_460 (vpi (by omega) hN) ?_
  refine aw_nmi (z := xs (i + 2)) (by rw [nI_clamp (by omega)]) ?_
  refine aw_aload_n d_L_law_461 rfl rfl ?_
  refine aw_iload_n d_L_law_462 rfl rfl ?_
  refine aw_iconst (v := nI 3) d_L_law_463 (by decide) ?_
  refine aw_iaddN d_L_law_464 ?_
  refine aw_sld d_L_law_465 (vpi (by omega) hN) ?_
  refine aw_nmi (z := xs (i + 3)) (by rw [nI_clamp (by omega)]) ?_
  refine aw_callV (av := [.int (xs (i + 1)), .int (xs (i + 2)), .int (xs (i + 3))]) (rest := [.long (aReach n x y W J D (xs (i + 1)) (xs (i + 2)) (xs (i + 3)))]) (m_M_reach hg hO2) kd_M_reach k_552 k_553 ks_M_reach rfl hM.1 d_L_law_466 rfl ⟨by decide, by decide⟩ (Nat.le_of_ble_eq_true rfl) ⟨by decide, by decide⟩ rfl (fun v3 ws3 hq3 => ?_)
  obtain ⟨rfl, f3, hO3⟩ := hq3
  have hK3 := hK2.kept f3
  refine aw_lcmp d_L_law_469 (aw_nmi (z := nI 0) (by rw [show _ = _ from aReach_congr eD _ _ _, lgc]) ?_)
  refine aw_if_eqN (tgt := 738) d_L_law_470 (by decide) (by omega) (fun h => ?_) (fun h => absurd h (by omega))
  exact K ws3 _ _ _ _ _ ⟨⟨_, _, _, _, _, _, _, _, hK3⟩, hO3⟩

set_option maxHeartbeats 4000000 in
set_option maxRecDepth 100000 in
theorem law_hit {g : aw_G} (hg : aw_T g) {ws : va_W} {ad : Nat → Nat} {b N i : Nat} {xs : Nat → Int32} {F : List Frame → Array Value → State → (Nat → Prop) → State → Prop} {n x y : Nat} {W : Nat → Nat → Nat} {J : Nat → Nat} (hN : N ≤ 2560) (hi : i + 5 ≤ N) (hB : gB g ws ad n x y W J) (K : ∀ (ws' : va_W) (n x y : Nat) (W : Nat → Nat → Nat) (J : Nat → Nat), gB g ws' ad n x y W J → AW g y_L_law c_L_law 4 ret room_1 (aw_EX b N xs) F 51 304 738 [(0, .ref b), (1, .ref (ad 0)), (2, .ref (ad 40)), (3, .int (nI i))] [] ws') : AW g y_L_law c_L_law 4 ret room_1 (aw_EX b N xs) F 51 304 475 [(0, .ref b), (1, .ref (ad 0)), (2, .ref (ad 40)), (3, .int (nI i))] [] ws := by
  obtain ⟨⟨P, T, X, q, M, L, O, D, hK⟩, hO⟩ := hB
  have hn := hK.2.2.1.1
  have hoS := hK.2.2.2.2.1
  have eD := D_Dc hoS hK.2.2.2.2.2.2.1
  have hC := IC_congr eD hK.2.2.2.2.2.2.2.1
  refine aw_aload_n d_L_law_475 rfl rfl ?_
  refine aw_aload_n d_L_law_476 rfl rfl ?_
  refine aw_iload_n d_L_law_477 rfl rfl ?_
  refine aw_iconst (v := nI 1) d_L_law_478 (by decide) ?_
  refine aw_iaddN d_L_law_479 ?_
  refine aw_sld d_L_law_480 (vpi (by omega) hN) ?_
  refine aw_nmi (z := xs (i + 1)) (by rw [nI_clamp (by omega)]) ?_
  refine aw_aload_n d_L_law_481 rfl rfl ?_
  refine aw_iload_n d_L_law_482 rfl rfl ?_
  refine aw_iconst (v := nI 2) d_L_law_483 (by decide) ?_
  refine aw_iaddN d_L_law_484 ?_
  refine aw_sld d_L_law_485 (vpi (by omega) hN) ?_
  refine aw_nmi (z := xs (i + 2)) (by rw [nI_clamp (by omega)]) ?_
  refine aw_aload_n d_L_law_486 rfl rfl ?_
  refine aw_iload_n d_L_law_487 rfl rfl ?_
  refine aw_iconst (v := nI 3) d_L_law_488 (by decide) ?_
  refine aw_iaddN d_L_law_489 ?_
  refine aw_sld d_L_law_490 (vpi (by omega) hN) ?_
  refine aw_nmi (z := xs (i + 3)) (by rw [nI_clamp (by omega)]) ?_
  refine aw_callV (av := [.int (xs (i + 1)), .int (xs (i + 2)), .int (xs (i + 3))]) (rest := []) (m_W_hit hg hK) kd_W_hit k_339 k_340 ks_W_hit rfl hK.1 d_L_law_491 rfl ⟨by decide, by decide⟩ (Nat.le_of_ble_eq_true rfl) ⟨by decide, by decide⟩ rfl (fun v2 ws2 hq2 => ?_)
  obtain ⟨rfl, f2, hK2⟩ := hq2
  have hO2 := hO.kept f2
  obtain ⟨V, Rw, Tt, q', So, Bo, fo, tw, St, Sh, ss, Nw, Th, hM, -, -⟩ := id hO2
  refine aw_aload_n d_L_law_494 rfl rfl ?_
  refine aw_aload_n d_L_law_495 rfl rfl ?_
  refine aw_iload_n d_L_law_496 rfl rfl ?_
  refine aw_iconst (v := nI 1) d_L_law_497 (by decide) ?_
  refine aw_iaddN d_L_law_498 ?_
  refine aw_sld d_L_law_499 (vpi (by omega) hN) ?_
  refine aw_nmi (z := xs (i + 1)) (by rw [nI_clamp (by omega)]) ?_
  refine aw_aload_n d_L_law_500 rfl rfl ?_
  refine aw_iload_n d_L_law_501 rfl rfl ?_
  refine aw_iconst (v := nI 2) d_L_law_502 (by decide) ?_
  refine aw_iaddN d_L_law_503 ?_
  refine aw_sld d_L_law_504 (vpi (by omega) hN) ?_
  refine aw_nmi (z := xs (i + 2)) (by rw [nI_clamp (by omega)]) ?_
  refine aw_aload_n d_L_law_505 rfl rfl ?_
  refine aw_iload_n d_L_law_506 rfl rfl ?_
  refine aw_iconst (v := nI 3) d_L_law_507 (by decide) ?_
  refine aw_iaddN d_L_law_508 ?_
  refine aw_sld d_L_law_509 (vpi (by omega) hN) ?_
  refine aw_nmi (z := xs (i + 3)) (by rw [nI_clamp (by omega)]) ?_
  refine aw_callV (av := [.int (xs (i + 1)), .int (xs (i + 2)), .int (xs (i + 3))]) (rest := [.long (aHit n x y W J X D (xs (i + 1)) (xs (i + 2)) (xs (i + 3)))]) (m_M_hit hg hO2) kd_M_hit k_560 k_561 ks_M_hit rfl hM.1 d_L_law_510 rfl ⟨by decide, by decide⟩ (Nat.le_of_ble_eq_true rfl) ⟨by decide, by decide⟩ rfl (fun v3 ws3 hq3 => ?_)
  obtain ⟨rfl, f3, hO3⟩ := hq3
  have hK3 := hK2.kept f3
  refine aw_lcmp d_L_law_513 (aw_nmi (z := nI 0) (by rw [show _ = _ from aHit_congr hoS.eX eD _ _ _, lgc]) ?_)
  refine aw_if_eqN (tgt := 738) d_L_law_514 (by decide) (by omega) (fun h => ?_) (fun h => absurd h (by omega))
  exact K ws3 _ _ _ _ _ ⟨⟨_, _, _, _, _, _, _, _, hK3⟩, hO3⟩

set_option maxHeartbeats 4000000 in
set_option maxRecDepth 100000 in
theorem law_back {g : aw_G} (hg : aw_T g) {ws : va_W} {ad : Nat → Nat} {b N i : Nat} {xs : Nat → Int32} {F : List Frame → Array Value → State → (Nat → Prop) → State → Prop} {n x y : Nat} {W : Nat → Nat → Nat} {J : Nat → Nat} (hN : N ≤ 2560) (hi : i + 5 ≤ N) (hB : gB g ws ad n x y W J) (K : ∀ (ws' : va_W) (n x y : Nat) (W : Nat → Nat → Nat) (J : Nat → Nat), gB g ws' ad n x y W J → AW g y_L_law c_L_law 4 ret room_1 (aw_EX b N xs) F 51 304 738 [(0, .ref b), (1, .ref (ad 0)), (2, .ref (ad 40)), (3, .int (nI i))] [] ws') : AW g y_L_law c_L_law 4 ret room_1 (aw_EX b N xs) F 51 304 519 [(0, .ref b), (1, .ref (ad 0)), (2, .ref (ad 40)), (3, .int (nI i))] [] ws := by
  obtain ⟨⟨P, T, X, q, M, L, O, D, hK⟩, hO⟩ := hB
  have hn := hK.2.2.1.1
  have hoS := hK.2.2.2.2.1
  have eD := D_Dc hoS hK.2.2.2.2.2.2.1
  have hC := IC_congr eD hK.2.2.2.2.2.2.2.1
  refine aw_aload_n d_L_law_519 rfl rfl ?_
  refine aw_aload_n d_L_law_520 rfl rfl ?_
  refine aw_iload_n d_L_law_521 rfl rfl ?_
  refine aw_iconst (v := nI 1) d_L_law_522 (by decide) ?_
  refine aw_iaddN d_L_law_523 ?_
  refine aw_sld d_L_law_524 (vpi (by omega) hN) ?_
  refine aw_nmi (z := xs (i + 1)) (by rw [nI_clamp (by omega)]) ?_
  refine aw_aload_n d_L_law_525 rfl rfl ?_
  refine aw_iload_n d_L_law_526 rfl rfl ?_
  refine aw_iconst (v := nI 2) d_L_law_527 (by decide) ?_
  refine aw_iaddN d_L_law_528 ?_
  refine aw_sld d_L_law_529 (vpi (by omega) hN) ?_
  refine aw_nmi (z := xs (i + 2)) (by rw [nI_clamp (by omega)]) ?_
  refine aw_callV (av := [.int (xs (i + 1)), .int (xs (i + 2))]) (rest := []) (m_W_back hg hK) kd_W_back k_348 k_349 ks_W_back rfl hK.1 d_L_law_530 rfl ⟨by decide, by decide⟩ (Nat.le_of_ble_eq_true rfl) ⟨by decide, by decide⟩ rfl (fun v2 ws2 hq2 => ?_)
  obtain ⟨rfl, f2, hK2⟩ := hq2
  have hO2 := hO.kept f2
  obtain ⟨V, Rw, Tt, q', So, Bo, fo, tw, St, Sh, ss, Nw, Th, hM, -, -⟩ := id hO2
  refine aw_aload_n d_L_law_533 rfl rfl ?_
  refine aw_aload_n d_L_law_534 rfl rfl ?_
  refine aw_iload_n d_L_law_535 rfl rfl ?_
  refine aw_iconst (v := nI 1) d_L_law_536 (by decide) ?_
  refine aw_iaddN d_L_law_537 ?_
  refine aw_sld d_L_law_538 (vpi (by omega) hN) ?_
  refine aw_nmi (z := xs (i + 1)) (by rw [nI_clamp (by omega)]) ?_
  refine aw_aload_n d_L_law_539 rfl rfl ?_
  refine aw_iload_n d_L_law_540 rfl rfl ?_
  refine aw_iconst (v := nI 2) d_L_law_541 (by decide) ?_
  refine aw_iaddN d_L_law_542 ?_
  refine aw_sld d_L_law_543 (vpi (by omega) hN) ?_
  refine aw_nmi (z := xs (i + 2)) (by rw [nI_clamp (by omega)]) ?_
  refine aw_callV (av := [.int (xs (i + 1)), .int (xs (i + 2))]) (rest := [.long (aBack n x y W J q M O (xs (i + 1)) (xs (i + 2)))]) (m_M_back hg hC hO2) kd_M_back k_564 k_565 ks_M_back rfl hM.1 d_L_law_544 rfl ⟨by decide, by decide⟩ (Nat.le_of_ble_eq_true rfl) ⟨by decide, by decide⟩ rfl (fun v3 ws3 hq3 => ?_)
  obtain ⟨rfl, f3, hO3⟩ := hq3
  have hK3 := hK2.kept f3
  refine aw_lcmp d_L_law_547 (aw_nmi (z := nI 0) (by rw [lgc]) ?_)
  refine aw_if_eqN (tgt := 738) d_L_law_548 (by decide) (by omega) (fun h => ?_) (fun h => absurd h (by omega))
  exact K ws3 _ _ _ _ _ ⟨⟨_, _, _, _, _, _, _, _, hK3⟩, hO3⟩

set_option maxHeartbeats 4000000 in
set_option maxRecDepth 100000 in
theorem law_end {g : aw_G} (hg : aw_T g) {ws : va_W} {ad : Nat → Nat} {b N i : Nat} {xs : Nat → Int32} {F : List Frame → Array Value → State → (Nat → Prop) → State → Prop} {n x y : Nat} {W : Nat → Nat → Nat} {J : Nat → Nat} (hN : N ≤ 2560) (hi : i + 5 ≤ N) (hB : gB g ws ad n x y W J) (K : ∀ (ws' : va_W) (n x y : Nat) (W : Nat → Nat → Nat) (J : Nat → Nat), gB g ws' ad n x y W J → AW g y_L_law c_L_law 4 ret room_1 (aw_EX b N xs) F 51 304 738 [(0, .ref b), (1, .ref (ad 0)), (2, .ref (ad 40)), (3, .int (nI i))] [] ws') : AW g y_L_law c_L_law 4 ret room_1 (aw_EX b N xs) F 51 304 553 [(0, .ref b), (1, .ref (ad 0)), (2, .ref (ad 40)), (3, .int (nI i))] [] ws := by
  obtain ⟨⟨P, T, X, q, M, L, O, D, hK⟩, hO⟩ := hB
  have hn := hK.2.2.1.1
  have hoS := hK.2.2.2.2.1
  have eD := D_Dc hoS hK.2.2.2.2.2.2.1
  have hC := IC_congr eD hK.2.2.2.2.2.2.2.1
  refine aw_aload_n d_L_law_553 rfl rfl ?_
  refine aw_aload_n d_L_law_554 rfl rfl ?_
  refine aw_iload_n d_L_law_555 rfl rfl ?_
  refine aw_iconst (v := nI 1) d_L_law_556 (by decide) ?_
  refine aw_iaddN d_L_law_557 ?_
  refine aw_sld d_L_law_558 (vpi (by omega) hN) ?_
  refine aw_nmi (z := xs (i + 1)) (by rw [nI_clamp (by omega)]) ?_
  refine aw_aload_n d_L_law_559 rfl rfl ?_
  refine aw_iload_n d_L_law_560 rfl rfl ?_
  refine aw_iconst (v := nI 2) d_L_law_561 (by decide) ?_
  refine aw_iaddN d_L_law_562 ?_
  refine aw_sld d_L_law_563 (vpi (by omega) hN) ?_
  refine aw_nmi (z := xs (i + 2)) (by rw [nI_clamp (by omega)]) ?_
  refine aw_aload_n d_L_law_564 rfl rfl ?_
  refine aw_iload_n d_L_law_565 rfl rfl ?_
  refine aw_iconst (v := nI 3) d_L_law_566 (by decide) ?_
  refine aw_iaddN d_L_law_567 ?_
  refine aw_sld d_L_law_568 (vpi (by omega) hN) ?_
  refine aw_nmi (z := xs (i + 3)) (by rw [nI_clamp (by omega)]) ?_
  refine aw_callV (av := [.int (xs (i + 1)), .int (xs (i + 2)), .int (xs (i + 3))]) (rest := []) (m_W_end hg hK) kd_W_end k_352 k_353 ks_W_end rfl hK.1 d_L_law_569 rfl ⟨by decide, by decide⟩ (Nat.le_of_ble_eq_true rfl) ⟨by decide, by decide⟩ rfl (fun v2 ws2 hq2 => ?_)
  obtain ⟨rfl, f2, hK2⟩ := hq2
  have hO2 := hO.kept f2
  obtain ⟨V, Rw, Tt, q', So, Bo, fo, tw, St, Sh, ss, Nw, Th, hM, -, -⟩ := id hO2
  refine aw_aload_n d_L_law_572 rfl rfl ?_
  refine aw_aload_n d_L_law_573 rfl rfl ?_
  refine aw_iload_n d_L_law_574 rfl rfl ?_
  refine aw_iconst (v := nI 1) d_L_law_575 (by decide) ?_
  refine aw_iaddN d_L_law_576 ?_
  refine aw_sld d_L_law_577 (vpi (by omega) hN) ?_
  refine aw_nmi (z := xs (i + 1)) (by rw [nI_clamp (by omega)]) ?_
  refine aw_aload_n d_L_law_578 rfl rfl ?_
  refine aw_iload_n d_L_law_579 rfl rfl ?_
  refine aw_iconst (v := nI 2) d_L_law_580 (by decide) ?_
  refine aw_iaddN d_L_law_581 ?_
  refine aw_sld d_L_law_582 (vpi (by omega) hN) ?_
  refine aw_nmi (z := xs (i + 2)) (by rw [nI_clamp (by omega)]) ?_
  refine aw_aload_n d_L_law_583 rfl rfl ?_
  refine aw_iload_n d_L_law_584 rfl rfl ?_
  refine aw_iconst (v := nI 3) d_L_law_585 (by decide) ?_
  refine aw_iaddN d_L_law_586 ?_
  refine aw_sld d_L_law_587 (vpi (by omega) hN) ?_
  refine aw_nmi (z := xs (i + 3)) (by rw [nI_clamp (by omega)]) ?_
  refine aw_callV (av := [.int (xs (i + 1)), .int (xs (i + 2)), .int (xs (i + 3))]) (rest := [.long (aEnd n x y W J D q M (xs (i + 1)) (xs (i + 2)) (xs (i + 3)))]) (m_M_end hg hC hO2) kd_M_end k_568 k_569 ks_M_end rfl hM.1 d_L_law_588 rfl ⟨by decide, by decide⟩ (Nat.le_of_ble_eq_true rfl) ⟨by decide, by decide⟩ rfl (fun v3 ws3 hq3 => ?_)
  obtain ⟨rfl, f3, hO3⟩ := hq3
  have hK3 := hK2.kept f3
  refine aw_lcmp d_L_law_591 (aw_nmi (z := nI 0) (by rw [show _ = _ from aEnd_congr eD _ _ _ _ _, lgc]) ?_)
  refine aw_if_eqN (tgt := 738) d_L_law_592 (by decide) (by omega) (fun h => ?_) (fun h => absurd h (by omega))
  exact K ws3 _ _ _ _ _ ⟨⟨_, _, _, _, _, _, _, _, hK3⟩, hO3⟩

set_option maxHeartbeats 4000000 in
set_option maxRecDepth 100000 in
theorem law_after {g : aw_G} (hg : aw_T g) {ws : va_W} {ad : Nat → Nat} {b N i : Nat} {xs : Nat → Int32} {F : List Frame → Array Value → State → (Nat → Prop) → State → Prop} {n x y : Nat} {W : Nat → Nat → Nat} {J : Nat → Nat} (hN : N ≤ 2560) (hi : i + 5 ≤ N) (hB : gB g ws ad n x y W J) (K : ∀ (ws' : va_W) (n x y : Nat) (W : Nat → Nat → Nat) (J : Nat → Nat), gB g ws' ad n x y W J → AW g y_L_law c_L_law 4 ret room_1 (aw_EX b N xs) F 51 304 738 [(0, .ref b), (1, .ref (ad 0)), (2, .ref (ad 40)), (3, .int (nI i))] [] ws') : AW g y_L_law c_L_law 4 ret room_1 (aw_EX b N xs) F 51 304 597 [(0, .ref b), (1, .ref (ad 0)), (2, .ref (ad 40)), (3, .int (nI i))] [] ws := by
  obtain ⟨⟨P, T, X, q, M, L, O, D, hK⟩, hO⟩ := hB
  have hn := hK.2.2.1.1
  have hoS := hK.2.2.2.2.1
  have eD := D_Dc hoS hK.2.2.2.2.2.2.1
  have hC := IC_congr eD hK.2.2.2.2.2.2.2.1
  refine aw_aload_n d_L_law_597 rfl rfl ?_
  refine aw_aload_n d_L_law_598 rfl rfl ?_
  refine aw_iload_n d_L_law_599 rfl rfl ?_
  refine aw_iconst (v := nI 1) d_L_law_600 (by decide) ?_
  refine aw_iaddN d_L_law_601 ?_
  refine aw_sld d_L_law_602 (vpi (by omega) hN) ?_
  refine aw_nmi (z := xs (i + 1)) (by rw [nI_clamp (by omega)]) ?_
  refine aw_aload_n d_L_law_603 rfl rfl ?_
  refine aw_iload_n d_L_law_604 rfl rfl ?_
  refine aw_iconst (v := nI 2) d_L_law_605 (by decide) ?_
  refine aw_iaddN d_L_law_606 ?_
  refine aw_sld d_L_law_607 (vpi (by omega) hN) ?_
  refine aw_nmi (z := xs (i + 2)) (by rw [nI_clamp (by omega)]) ?_
  refine aw_aload_n d_L_law_608 rfl rfl ?_
  refine aw_iload_n d_L_law_609 rfl rfl ?_
  refine aw_iconst (v := nI 3) d_L_law_610 (by decide) ?_
  refine aw_iaddN d_L_law_611 ?_
  refine aw_sld d_L_law_612 (vpi (by omega) hN) ?_
  refine aw_nmi (z := xs (i + 3)) (by rw [nI_clamp (by omega)]) ?_
  refine aw_aload_n d_L_law_613 rfl rfl ?_
  refine aw_iload_n d_L_law_614 rfl rfl ?_
  refine aw_iconst (v := nI 4) d_L_law_615 (by decide) ?_
  refine aw_iaddN d_L_law_616 ?_
  refine aw_sld d_L_law_617 (vpi (by omega) hN) ?_
  refine aw_nmi (z := xs (i + 4)) (by rw [nI_clamp (by omega)]) ?_
  refine aw_callV (av := [.int (xs (i + 1)), .int (xs (i + 2)), .int (xs (i + 3)), .int (xs (i + 4))]) (rest := []) (m_W_after hg hK) kd_W_after k_356 k_357 ks_W_after rfl hK.1 d_L_law_618 rfl ⟨by decide, by decide⟩ (Nat.le_of_ble_eq_true rfl) ⟨by decide, by decide⟩ rfl (fun v2 ws2 hq2 => ?_)
  obtain ⟨rfl, f2, hK2⟩ := hq2
  have hO2 := hO.kept f2
  obtain ⟨V, Rw, Tt, q', So, Bo, fo, tw, St, Sh, ss, Nw, Th, hM, -, -⟩ := id hO2
  refine aw_aload_n d_L_law_621 rfl rfl ?_
  refine aw_aload_n d_L_law_622 rfl rfl ?_
  refine aw_iload_n d_L_law_623 rfl rfl ?_
  refine aw_iconst (v := nI 1) d_L_law_624 (by decide) ?_
  refine aw_iaddN d_L_law_625 ?_
  refine aw_sld d_L_law_626 (vpi (by omega) hN) ?_
  refine aw_nmi (z := xs (i + 1)) (by rw [nI_clamp (by omega)]) ?_
  refine aw_aload_n d_L_law_627 rfl rfl ?_
  refine aw_iload_n d_L_law_628 rfl rfl ?_
  refine aw_iconst (v := nI 2) d_L_law_629 (by decide) ?_
  refine aw_iaddN d_L_law_630 ?_
  refine aw_sld d_L_law_631 (vpi (by omega) hN) ?_
  refine aw_nmi (z := xs (i + 2)) (by rw [nI_clamp (by omega)]) ?_
  refine aw_aload_n d_L_law_632 rfl rfl ?_
  refine aw_iload_n d_L_law_633 rfl rfl ?_
  refine aw_iconst (v := nI 3) d_L_law_634 (by decide) ?_
  refine aw_iaddN d_L_law_635 ?_
  refine aw_sld d_L_law_636 (vpi (by omega) hN) ?_
  refine aw_nmi (z := xs (i + 3)) (by rw [nI_clamp (by omega)]) ?_
  refine aw_aload_n d_L_law_637 rfl rfl ?_
  refine aw_iload_n d_L_law_638 rfl rfl ?_
  refine aw_iconst (v := nI 4) d_L_law_639 (by decide) ?_
  refine aw_iaddN d_L_law_640 ?_
  refine aw_sld d_L_law_641 (vpi (by omega) hN) ?_
  refine aw_nmi (z := xs (i + 4)) (by rw [nI_clamp (by omega)]) ?_
  refine aw_callV (av := [.int (xs (i + 1)), .int (xs (i + 2)), .int (xs (i + 3)), .int (xs (i + 4))]) (rest := [.long (aAfter n x y W J (xs (i + 1)) (xs (i + 2)) (xs (i + 3)) (xs (i + 4)))]) (m_M_after hg hO2) kd_M_after k_572 k_573 ks_M_after rfl hM.1 d_L_law_642 rfl ⟨by decide, by decide⟩ (Nat.le_of_ble_eq_true rfl) ⟨by decide, by decide⟩ rfl (fun v3 ws3 hq3 => ?_)
  obtain ⟨rfl, f3, hO3⟩ := hq3
  have hK3 := hK2.kept f3
  refine aw_lcmp d_L_law_645 (aw_nmi (z := nI 0) (by rw [lgc]) ?_)
  refine aw_if_eqN (tgt := 738) d_L_law_646 (by decide) (by omega) (fun h => ?_) (fun h => absurd h (by omega))
  exact K ws3 _ _ _ _ _ ⟨⟨_, _, _, _, _, _, _, _, hK3⟩, hO3⟩

set_option maxHeartbeats 4000000 in
set_option maxRecDepth 100000 in
theorem law_walks {g : aw_G} (hg : aw_T g) {ws : va_W} {ad : Nat → Nat} {b N i : Nat} {xs : Nat → Int32} {F : List Frame → Array Value → State → (Nat → Prop) → State → Prop} {n x y : Nat} {W : Nat → Nat → Nat} {J : Nat → Nat} (hN : N ≤ 2560) (hi : i + 5 ≤ N) (hB : gB g ws ad n x y W J) (K : ∀ (ws' : va_W) (n x y : Nat) (W : Nat → Nat → Nat) (J : Nat → Nat), gB g ws' ad n x y W J → AW g y_L_law c_L_law 4 ret room_1 (aw_EX b N xs) F 51 304 738 [(0, .ref b), (1, .ref (ad 0)), (2, .ref (ad 40)), (3, .int (nI i))] [] ws') : AW g y_L_law c_L_law 4 ret room_1 (aw_EX b N xs) F 51 304 651 [(0, .ref b), (1, .ref (ad 0)), (2, .ref (ad 40)), (3, .int (nI i))] [] ws := by
  obtain ⟨⟨P, T, X, q, M, L, O, D, hK⟩, hO⟩ := hB
  have hn := hK.2.2.1.1
  have hoS := hK.2.2.2.2.1
  have eD := D_Dc hoS hK.2.2.2.2.2.2.1
  have hC := IC_congr eD hK.2.2.2.2.2.2.2.1
  refine aw_aload_n d_L_law_651 rfl rfl ?_
  refine aw_aload_n d_L_law_652 rfl rfl ?_
  refine aw_iload_n d_L_law_653 rfl rfl ?_
  refine aw_iconst (v := nI 1) d_L_law_654 (by decide) ?_
  refine aw_iaddN d_L_law_655 ?_
  refine aw_sld d_L_law_656 (vpi (by omega) hN) ?_
  refine aw_nmi (z := xs (i + 1)) (by rw [nI_clamp (by omega)]) ?_
  refine aw_aload_n d_L_law_657 rfl rfl ?_
  refine aw_iload_n d_L_law_658 rfl rfl ?_
  refine aw_iconst (v := nI 2) d_L_law_659 (by decide) ?_
  refine aw_iaddN d_L_law_660 ?_
  refine aw_sld d_L_law_661 (vpi (by omega) hN) ?_
  refine aw_nmi (z := xs (i + 2)) (by rw [nI_clamp (by omega)]) ?_
  refine aw_aload_n d_L_law_662 rfl rfl ?_
  refine aw_iload_n d_L_law_663 rfl rfl ?_
  refine aw_iconst (v := nI 3) d_L_law_664 (by decide) ?_
  refine aw_iaddN d_L_law_665 ?_
  refine aw_sld d_L_law_666 (vpi (by omega) hN) ?_
  refine aw_nmi (z := xs (i + 3)) (by rw [nI_clamp (by omega)]) ?_
  refine aw_callV (av := [.int (xs (i + 1)), .int (xs (i + 2)), .int (xs (i + 3))]) (rest := []) (m_W_walks hg hK) kd_W_walks k_380 k_381 ks_W_walks rfl hK.1 d_L_law_667 rfl ⟨by decide, by decide⟩ (Nat.le_of_ble_eq_true rfl) ⟨by decide, by decide⟩ rfl (fun v2 ws2 hq2 => ?_)
  obtain ⟨rfl, f2, hK2⟩ := hq2
  have hO2 := hO.kept f2
  obtain ⟨V, Rw, Tt, q', So, Bo, fo, tw, St, Sh, ss, Nw, Th, hM, -, -⟩ := id hO2
  refine aw_aload_n d_L_law_670 rfl rfl ?_
  refine aw_aload_n d_L_law_671 rfl rfl ?_
  refine aw_iload_n d_L_law_672 rfl rfl ?_
  refine aw_iconst (v := nI 1) d_L_law_673 (by decide) ?_
  refine aw_iaddN d_L_law_674 ?_
  refine aw_sld d_L_law_675 (vpi (by omega) hN) ?_
  refine aw_nmi (z := xs (i + 1)) (by rw [nI_clamp (by omega)]) ?_
  refine aw_aload_n d_L_law_676 rfl rfl ?_
  refine aw_iload_n d_L_law_677 rfl rfl ?_
  refine aw_iconst (v := nI 2) d_L_law_678 (by decide) ?_
  refine aw_iaddN d_L_law_679 ?_
  refine aw_sld d_L_law_680 (vpi (by omega) hN) ?_
  refine aw_nmi (z := xs (i + 2)) (by rw [nI_clamp (by omega)]) ?_
  refine aw_aload_n d_L_law_681 rfl rfl ?_
  refine aw_iload_n d_L_law_682 rfl rfl ?_
  refine aw_iconst (v := nI 3) d_L_law_683 (by decide) ?_
  refine aw_iaddN d_L_law_684 ?_
  refine aw_sld d_L_law_685 (vpi (by omega) hN) ?_
  refine aw_nmi (z := xs (i + 3)) (by rw [nI_clamp (by omega)]) ?_
  refine aw_callV (av := [.int (xs (i + 1)), .int (xs (i + 2)), .int (xs (i + 3))]) (rest := [.long (aWalks n W (xs (i + 1)) (xs (i + 2)) (xs (i + 3)))]) (m_M_walks hg hO2) kd_M_walks k_576 k_577 ks_M_walks rfl hM.1 d_L_law_686 rfl ⟨by decide, by decide⟩ (Nat.le_of_ble_eq_true rfl) ⟨by decide, by decide⟩ rfl (fun v3 ws3 hq3 => ?_)
  obtain ⟨rfl, f3, hO3⟩ := hq3
  have hK3 := hK2.kept f3
  refine aw_lcmp d_L_law_689 (aw_nmi (z := nI 0) (by rw [lgc]) ?_)
  refine aw_if_eqN (tgt := 738) d_L_law_690 (by decide) (by omega) (fun h => ?_) (fun h => absurd h (by omega))
  exact K ws3 _ _ _ _ _ ⟨⟨_, _, _, _, _, _, _, _, hK3⟩, hO3⟩

set_option maxHeartbeats 4000000 in
set_option maxRecDepth 100000 in
theorem law_drawn {g : aw_G} (hg : aw_T g) {ws : va_W} {ad : Nat → Nat} {b N i : Nat} {xs : Nat → Int32} {F : List Frame → Array Value → State → (Nat → Prop) → State → Prop} {n x y : Nat} {W : Nat → Nat → Nat} {J : Nat → Nat} (hN : N ≤ 2560) (hi : i + 5 ≤ N) (hB : gB g ws ad n x y W J) (K : ∀ (ws' : va_W) (n x y : Nat) (W : Nat → Nat → Nat) (J : Nat → Nat), gB g ws' ad n x y W J → AW g y_L_law c_L_law 4 ret room_1 (aw_EX b N xs) F 51 304 738 [(0, .ref b), (1, .ref (ad 0)), (2, .ref (ad 40)), (3, .int (nI i))] [] ws') : AW g y_L_law c_L_law 4 ret room_1 (aw_EX b N xs) F 51 304 695 [(0, .ref b), (1, .ref (ad 0)), (2, .ref (ad 40)), (3, .int (nI i))] [] ws := by
  obtain ⟨⟨P, T, X, q, M, L, O, D, hK⟩, hO⟩ := hB
  have hn := hK.2.2.1.1
  have hoS := hK.2.2.2.2.1
  have eD := D_Dc hoS hK.2.2.2.2.2.2.1
  have hC := IC_congr eD hK.2.2.2.2.2.2.2.1
  refine aw_aload_n d_L_law_695 rfl rfl ?_
  refine aw_aload_n d_L_law_696 rfl rfl ?_
  refine aw_iload_n d_L_law_697 rfl rfl ?_
  refine aw_iconst (v := nI 1) d_L_law_698 (by decide) ?_
  refine aw_iaddN d_L_law_699 ?_
  refine aw_sld d_L_law_700 (vpi (by omega) hN) ?_
  refine aw_nmi (z := xs (i + 1)) (by rw [nI_clamp (by omega)]) ?_
  refine aw_aload_n d_L_law_701 rfl rfl ?_
  refine aw_iload_n d_L_law_702 rfl rfl ?_
  refine aw_iconst (v := nI 2) d_L_law_703 (by decide) ?_
  refine aw_iaddN d_L_law_704 ?_
  refine aw_sld d_L_law_705 (vpi (by omega) hN) ?_
  refine aw_nmi (z := xs (i + 2)) (by rw [nI_clamp (by omega)]) ?_
  refine aw_aload_n d_L_law_706 rfl rfl ?_
  refine aw_iload_n d_L_law_707 rfl rfl ?_
  refine aw_iconst (v := nI 3) d_L_law_708 (by decide) ?_
  refine aw_iaddN d_L_law_709 ?_
  refine aw_sld d_L_law_710 (vpi (by omega) hN) ?_
  refine aw_nmi (z := xs (i + 3)) (by rw [nI_clamp (by omega)]) ?_
  refine aw_callV (av := [.int (xs (i + 1)), .int (xs (i + 2)), .int (xs (i + 3))]) (rest := []) (m_W_drawn hg hK) kd_W_drawn k_388 k_389 ks_W_drawn rfl hK.1 d_L_law_711 rfl ⟨by decide, by decide⟩ (Nat.le_of_ble_eq_true rfl) ⟨by decide, by decide⟩ rfl (fun v2 ws2 hq2 => ?_)
  obtain ⟨rfl, rfl⟩ := hq2
  have hO2 := hO
  have hK2 := hK
  obtain ⟨V, Rw, Tt, q', So, Bo, fo, tw, St, Sh, ss, Nw, Th, hM, -, -⟩ := id hO2
  refine aw_aload_n d_L_law_714 rfl rfl ?_
  refine aw_aload_n d_L_law_715 rfl rfl ?_
  refine aw_iload_n d_L_law_716 rfl rfl ?_
  refine aw_iconst (v := nI 1) d_L_law_717 (by decide) ?_
  refine aw_iaddN d_L_law_718 ?_
  refine aw_sld d_L_law_719 (vpi (by omega) hN) ?_
  refine aw_nmi (z := xs (i + 1)) (by rw [nI_clamp (by omega)]) ?_
  refine aw_aload_n d_L_law_720 rfl rfl ?_
  refine aw_iload_n d_L_law_721 rfl rfl ?_
  refine aw_iconst (v := nI 2) d_L_law_722 (by decide) ?_
  refine aw_iaddN d_L_law_723 ?_
  refine aw_sld d_L_law_724 (vpi (by omega) hN) ?_
  refine aw_nmi (z := xs (i + 2)) (by rw [nI_clamp (by omega)]) ?_
  refine aw_aload_n d_L_law_725 rfl rfl ?_
  refine aw_iload_n d_L_law_726 rfl rfl ?_
  refine aw_iconst (v := nI 3) d_L_law_727 (by decide) ?_
  refine aw_iaddN d_L_law_728 ?_
  refine aw_sld d_L_law_729 (vpi (by omega) hN) ?_
  refine aw_nmi (z := xs (i + 3)) (by rw [nI_clamp (by omega)]) ?_
  refine aw_callV (av := [.int (xs (i + 1)), .int (xs (i + 2)), .int (xs (i + 3))]) (rest := [.int (aDrawn n x y W J (xs (i + 1)) (xs (i + 2)) (xs (i + 3)))]) (m_M_drawn hg hO2) kd_M_drawn k_580 k_581 ks_M_drawn rfl hM.1 d_L_law_730 rfl ⟨by decide, by decide⟩ (Nat.le_of_ble_eq_true rfl) ⟨by decide, by decide⟩ rfl (fun v3 ws3 hq3 => ?_)
  obtain ⟨rfl, f3, hO3⟩ := hq3
  have hK3 := hK2.kept f3
  refine aw_icmp_eq (tgt := 738) d_L_law_733 (by decide) (fun _ => ?_) (fun h => absurd (rfl) h)
  exact K ws3 _ _ _ _ _ ⟨⟨_, _, _, _, _, _, _, _, hK3⟩, hO3⟩
