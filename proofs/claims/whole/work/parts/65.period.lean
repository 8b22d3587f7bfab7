-- periods: lengths up to 15 say all
section PD
variable {X : Nat → Nat} {n : Nat}
theorem perd_dvd {v : Nat} : ∀ {k j : Nat}, 1 ≤ j → j ≤ k → (itX X n (2 ^ v) j).testBit v = true → perd X n v k ∣ j
  | 0, j, h1, h2, _ => by omega
  | k + 1, j, h1, h2, h3 => by
    rw [perd]
    by_cases e : j = k + 1
    · subst e
      rw [if_pos h3]
      exact Nat.gcd_dvd_right _ _
    · have := perd_dvd (k := k) h1 (by omega) h3
      split
      · exact Nat.dvd_trans (Nat.gcd_dvd_left _ _) this
      · exact this
theorem perd_of {v d : Nat} : ∀ {k : Nat}, (∀ j, 1 ≤ j → j ≤ k → (itX X n (2 ^ v) j).testBit v = true → d ∣ j) → d ∣ perd X n v k
  | 0, _ => Nat.dvd_zero d
  | k + 1, h => by
    rw [perd]
    have := perd_of (k := k) (fun j h1 h2 => h j h1 (by omega))
    split
    · rename_i q
      exact Nat.dvd_gcd this (h (k + 1) (by omega) (Nat.le_refl _) q)
    · exact this
theorem itX_add (m i : Nat) : ∀ j, itX X n m (i + j) = itX X n (itX X n m i) j
  | 0 => rfl
  | j + 1 => by
    rw [← Nat.add_assoc, itX, itX_add m i j, itX]
theorem itX_mono {m m' : Nat} (h : ∀ k, m.testBit k = true → m'.testBit k = true) : ∀ j k, (itX X n m j).testBit k = true → (itX X n m' j).testBit k = true
  | 0, k, hk => h k hk
  | j + 1, k, hk => by
    rw [itX, nxO_bit] at hk ⊢
    obtain ⟨u, h1, h2, h3⟩ := hk
    exact ⟨u, h1, itX_mono h j u h2, h3⟩
theorem wk_tr {a b c i j : Nat} (h1 : (itX X n (2 ^ a) i).testBit b = true) (h2 : (itX X n (2 ^ b) j).testBit c = true) : (itX X n (2 ^ a) (i + j)).testBit c = true := by
  rw [itX_add]
  refine itX_mono (fun k hk => ?_) j c h2
  rw [pow_bit, decide_eq_true_eq] at hk
  rw [← hk]; exact h1
theorem wk_1 {a b c i : Nat} (hb : b < n) (h1 : (itX X n (2 ^ a) i).testBit b = true) (h2 : (X b).testBit c = true) : (itX X n (2 ^ a) (i + 1)).testBit c = true := by
  rw [itX, nxO_bit]
  exact ⟨b, hb, h1, h2⟩
theorem bh_wk (h : okX n X) {u : Nat} (hu : u < n) : ∀ {k v : Nat}, (bh X n 0 (2 ^ u) k).testBit v = true → ∃ d, d ≤ k ∧ (itX X n (2 ^ u) d).testBit v = true
  | 0, v, hv => ⟨0, Nat.le_refl 0, hv⟩
  | k + 1, v, hv => by
    have hn := h.1
    rw [bh, or_bits] at hv
    rcases hv with hv | hv
    · obtain ⟨d, h1, h2⟩ := bh_wk h hu hv
      exact ⟨d, by omega, h2⟩
    · rw [an_bits (nxO_lt h.lt) (by decide), nxO_bit] at hv
      obtain ⟨⟨w, w1, w2, w3⟩, -⟩ := hv
      obtain ⟨d, h1, h2⟩ := bh_wk h hu w2
      exact ⟨d + 1, by omega, wk_1 w1 h2 w3⟩
theorem Dm_wk (h : okX n X) {u v : Nat} (hu : u < n) (hv : (Dm X n u).testBit v = true) : ∃ d, d ≤ 5 ∧ (itX X n (2 ^ u) d).testBit v = true := by
  obtain ⟨d, h1, h2⟩ := bh_wk h hu hv
  exact ⟨d, by have := h.1; omega, h2⟩
theorem wk_Dm (h : okX n X) {u : Nat} (hu : u < n) : ∀ {k v : Nat}, (itX X n (2 ^ u) k).testBit v = true → (Dm X n u).testBit v = true
  | 0, v, hv => by
    rw [itX, pow_bit, decide_eq_true_eq] at hv
    rw [← hv]; exact Dm_rf
  | k + 1, v, hv => by
    rw [itX, nxO_bit] at hv
    obtain ⟨w, w1, w2, w3⟩ := hv
    exact Dm_step h hu (wk_Dm h hu w2) w3
theorem per_all (h : okX n X) {l : Nat} (hl : l < n) (hc : ∀ w, (Dm X n l).testBit w = true → (Dm X n w).testBit l = true) : ∀ (k b r : Nat), (itX X n (2 ^ l) k).testBit b = true → r ≤ 5 → (itX X n (2 ^ b) r).testBit l = true → perd X n l 15 ∣ k + r
  | 0, b, r, h1, hr, h2 => by
    rw [itX, pow_bit, decide_eq_true_eq] at h1
    subst h1
    by_cases e : r = 0
    · rw [e]; exact Nat.dvd_zero _
    · rw [Nat.zero_add]; exact perd_dvd (by omega) (by omega) h2
  | k + 1, b, r, h1, hr, h2 => by
    rw [itX, nxO_bit] at h1
    obtain ⟨a, a1, a2, a3⟩ := h1
    have ha := wk_Dm h hl a2
    obtain ⟨r', r1, r2⟩ := Dm_wk h a1 (hc a ha)
    obtain ⟨d, d1, d2⟩ := Dm_wk h hl ha
    have i1 := per_all h hl hc k a r' a2 r1 r2
    have i2 : perd X n l 15 ∣ d + r' := by
      by_cases e : d + r' = 0
      · rw [e]; exact Nat.dvd_zero _
      · exact perd_dvd (by omega) (by omega) (wk_tr d2 r2)
    have i3 : perd X n l 15 ∣ d + 1 + r := perd_dvd (by omega) (by omega) (wk_tr (wk_1 a1 d2 a3) h2)
    have i4 : perd X n l 15 ∣ (d + r') + (k + 1 + r) := by
      have := Nat.dvd_add i1 i3
      rw [show k + r' + (d + 1 + r) = (d + r') + (k + 1 + r) by omega] at this
      exact this
    exact (Nat.dvd_add_right i2).mp i4
theorem perd_60 (h : okX n X) {l : Nat} (hl : l < n) (hc : ∀ w, (Dm X n l).testBit w = true → (Dm X n w).testBit l = true) : perd X n l 60 = perd X n l 15 :=
  Nat.dvd_antisymm (perd_of (fun j h1 h2 h3 => perd_dvd h1 (by omega) h3)) (perd_of (fun j h1 h2 h3 => per_all h hl hc j l 0 h3 (by omega) (by rw [itX, pow_bit]; simp)))
-- the class's own sets and the ones of the graph agree
variable {Y : Nat → Nat}
theorem nxO_congr (e : ∀ u, u < n → X u = Y u) (m : Nat) : ∀ {k : Nat}, k ≤ n → nxO X m k = nxO Y m k
  | 0, _ => rfl
  | k + 1, hk => by rw [nxO, nxO, nxO_congr e m (k := k) (by omega), e k (by omega)]
theorem itX_congr (e : ∀ u, u < n → X u = Y u) (m : Nat) : ∀ k, itX X n m k = itX Y n m k
  | 0 => rfl
  | k + 1 => by rw [itX, itX, itX_congr e m k, nxO_congr e _ (Nat.le_refl n)]
theorem perd_congr (e : ∀ u, u < n → X u = Y u) (v : Nat) : ∀ k, perd X n v k = perd Y n v k
  | 0 => rfl
  | k + 1 => by rw [perd, perd, perd_congr e v k, itX_congr e]
theorem bh_congr (e : ∀ u, u < n → X u = Y u) (av m : Nat) : ∀ k, bh X n av m k = bh Y n av m k
  | 0 => rfl
  | k + 1 => by rw [bh, bh, bh_congr e av m k, nxO_congr e _ (Nat.le_refl n)]
variable {D E : Nat → Nat}
theorem lead_congr (e : ∀ u, u < n → D u = E u) (m : Nat) : lead D n m = lead E n m := mk_congr (fun i hi => by rw [e i hi])
theorem ldB_congr (e : ∀ u, u < n → D u = E u) {v : Nat} (hv : v < n) : ldB D n v = ldB E n v := by
  unfold ldB clB
  rw [e v hv, lead_congr e]
theorem cntB_congr {p q : Nat → Bool} : ∀ {k : Nat}, (∀ i, i < k → p i = q i) → cntB p k = cntB q k
  | 0, _ => rfl
  | k + 1, h => by rw [cntB, cntB, cntB_congr (fun i hi => h i (by omega)), h k (by omega)]
theorem IC_congr (e : ∀ u, u < n → D u = E u) {q : Nat} {M L : Nat → Nat} {O : Nat → Int32} (C : IC n D n q M L O) : IC n E n q M L O := by
  have c : ∀ l, l ≤ n → cntB (ldB D n) l = cntB (ldB E n) l := fun l hl => cntB_congr (fun i hi => ldB_congr e (by omega))
  obtain ⟨h1, h2, h3, h4⟩ := C
  refine ⟨by rw [← c n (Nat.le_refl n)]; exact h1, fun l hl q => ?_, fun l hl q w hw => ?_, fun w hw h => h4 w hw (fun l hl q => ?_)⟩
  · rw [← ldB_congr e hl] at q
    rw [← c l (by omega), ← e l hl]
    exact h2 l hl q
  · rw [← ldB_congr e hl] at q
    rw [← e l hl] at hw
    rw [← c l (by omega)]
    exact h3 l hl q w hw
  · rw [ldB_congr e hl] at q
    rw [e l hl]
    exact h l hl q
theorem uG_congr (e : ∀ u, u < n → D u = E u) (G : Nat) : uG D n G = uG E n G := by unfold uG; rw [lead_congr e]
variable {x y : Nat} {W : Nat → Nat → Nat} {J : Nat → Nat}
theorem chG_congr (e : ∀ u, u < n → D u = E u) (u G p : Nat) : chG n x y W J D u G p = chG n x y W J E u G p := by unfold chG; rw [uG_congr e]
theorem aReach_congr (e : ∀ u, u < n → D u = E u) (u v p : Int32) : aReach n x y W J D u v p = aReach n x y W J E u v p := by unfold aReach; rw [chG_congr e]
theorem aEnd_congr (e : ∀ u, u < n → D u = E u) (q : Nat) (M : Nat → Nat) (u s p : Int32) : aEnd n x y W J D q M u s p = aEnd n x y W J E q M u s p := by unfold aEnd; rw [chG_congr e]
theorem aHit_congr (eX : ∀ u, u < n → X u = Y u) (e : ∀ u, u < n → D u = E u) (u v p : Int32) : aHit n x y W J X D u v p = aHit n x y W J Y E u v p := by
  unfold aHit hU
  rw [bh_congr eX, lead_congr e]
variable {P : Nat → Nat → Nat} {T : Nat → Nat}
theorem okS.eX (h : okS n x y W J P T X) : ∀ u, u < n → X u = Xc n x y W J u := fun u hu => (h u hu).2.2
theorem D_Dc (h : okS n x y W J P T X) (hD : ∀ u, u < n → D u = Dm X n u) : ∀ u, u < n → D u = Dc n x y W J u := fun u hu => (hD u hu).trans (by unfold Dc Dm; exact bh_congr h.eX 0 (2 ^ u) n)
/-- the class's period is the reference's -/
theorem per_eq (h : okS n x y W J P T X) (hn : n ≤ 5) {q : Nat} {M L : Nat → Nat} {O : Nat → Int32} (C : IC n (Dc n x y W J) n q M L O) (a : Int32) : (if nb q a = true then nI (perd X n (L (ix a)) 15) else -1) = (if nb q a = true then nI (perd (Xc n x y W J) n (L (ix a)) 60) else -1) := by
  by_cases e : nb q a = true
  · rw [if_pos e, if_pos e]
    obtain ⟨i, hi, rfl⟩ := nb_true (IC_q C hn) e
    have hq := IC_q C hn
    obtain ⟨l, hl, l2, -, -, eL⟩ := IC_set C hi
    rw [ix_nI (by omega), eL, perd_congr h.eX, perd_60 (Xc_ok hn) hl (fun w hw => (clB_iff (Dc_ok hn) hl).mp ((ldB_iff (Dc_ok hn) hl).mp l2).1 w hw)]
  · rw [if_neg e, if_neg e]
end PD
