-- the whole class between two calls
/-- what is beside the graph, of any content -/
def gRest (g : aw_G) (ws : va_W) (ad : Nat → Nat) : Prop := (∃ (m : Nat) (P : Nat → Nat → Nat) (T X : Nat → Nat), gS g ws ad m P T X) ∧ (∃ (q m : Nat) (M L D : Nat → Nat) (O : Nat → Int32), gC g ws ad q M L O m D) ∧ (∃ (m : Nat) (Z : Nat → Nat → Int), gE g ws ad m Z) ∧ (∃ (p q m : Nat) (A B : Nat → Int) (Z : Nat → Nat → Int), gP g ws ad p q A B m Z) ∧ ∃ A : Nat → Int, gH g ws ad A
def gK (g : aw_G) (ws : va_W) (ad : Nat → Nat) (n x y : Nat) (W : Nat → Nat → Nat) (J : Nat → Nat) (P : Nat → Nat → Nat) (T X : Nat → Nat) (q : Nat) (M L : Nat → Nat) (O : Nat → Int32) (D : Nat → Nat) : Prop :=
  gW ws ad ∧ gG g ws ad n x y W J ∧ okG n x y W J ∧ gS g ws ad n P T X ∧ okS n x y W J P T X ∧ gC g ws ad q M L O n D ∧ (∀ u, u < n → D u = Dm X n u) ∧ IC n D n q M L O ∧ (∃ (m : Nat) (Z : Nat → Nat → Int), gE g ws ad m Z) ∧ (∃ (p q m : Nat) (A B : Nat → Int) (Z : Nat → Nat → Int), gP g ws ad p q A B m Z) ∧ ∃ A : Nat → Int, gH g ws ad A
theorem gK.rest {g : aw_G} {ws : va_W} {ad : Nat → Nat} {n x y : Nat} {W : Nat → Nat → Nat} {J : Nat → Nat} {P : Nat → Nat → Nat} {T X : Nat → Nat} {q : Nat} {M L : Nat → Nat} {O : Nat → Int32} {D : Nat → Nat} (h : gK g ws ad n x y W J P T X q M L O D) : gRest g ws ad :=
  ⟨⟨_, _, _, _, h.2.2.2.1⟩, ⟨_, _, _, _, _, _, h.2.2.2.2.2.1⟩, h.2.2.2.2.2.2.2.2.1, h.2.2.2.2.2.2.2.2.2.1, h.2.2.2.2.2.2.2.2.2.2⟩
theorem gRest.kept {g : aw_G} {ws ws' : va_W} {ad : Nat → Nat} (h : gRest g ws ad) {hi : Nat} (f : fr 1 hi ws ws') (hh : hi ≤ 9) : gRest g ws' ad := by
  obtain ⟨⟨m, P, T, X, h1⟩, ⟨q, m2, M, L, D, O, h2⟩, ⟨m3, Z, h3⟩, ⟨p, q4, m4, A, B, Z4, h4⟩, ⟨A5, h5⟩⟩ := h
  exact ⟨⟨m, P, T, X, h1.kept f (by omega)⟩, ⟨q, m2, M, L, D, O, h2.kept f (by omega)⟩, ⟨m3, Z, h3.kept f (by omega)⟩, ⟨p, q4, m4, A, B, Z4, h4.kept f (by omega)⟩, ⟨A5, (f.1 39 (by omega)).trans h5⟩⟩
def qMut (g : aw_G) (ad : Nat → Nat) (ws : va_W) (r0 : Option Value) (n x y : Nat) (W : Nat → Nat → Nat) (J : Nat → Nat) : Option Value → va_W → Prop := fun r ws' => r = r0 ∧ fr 0 40 ws ws' ∧ ∃ (P : Nat → Nat → Nat) (T X : Nat → Nat) (q : Nat) (M L : Nat → Nat) (O : Nat → Int32) (D : Nat → Nat), gK g ws' ad n x y W J P T X q M L O D
def qQry (g : aw_G) (ad : Nat → Nat) (ws : va_W) (v0 : Value) (n x y : Nat) (W : Nat → Nat → Nat) (J : Nat → Nat) (P : Nat → Nat → Nat) (T X : Nat → Nat) (q : Nat) (M L : Nat → Nat) (O : Nat → Int32) (D : Nat → Nat) : Option Value → va_W → Prop := fun r ws' => r = some v0 ∧ fr 0 40 ws ws' ∧ gK g ws' ad n x y W J P T X q M L O D
theorem okS.X {n x y : Nat} {W : Nat → Nat → Nat} {J : Nat → Nat} {P : Nat → Nat → Nat} {T X : Nat → Nat} (h : okS n x y W J P T X) (hn : n ≤ 5) : okX n X := ⟨hn, fun u hu => by
  rw [(h u hu).2.2]
  refine ⟨mk_32 _ hn, fun j hj => ?_⟩
  rw [mk_bit] at hj
  simp at hj
  exact hj.1⟩
theorem okS.P4 {n x y : Nat} {W : Nat → Nat → Nat} {J : Nat → Nat} {P : Nat → Nat → Nat} {T X : Nat → Nat} (h : okS n x y W J P T X) (hg : okG n x y W J) {i j : Nat} (hi : i < n) (hj : j < n) : P i j ≤ 400 ∧ T i ≤ 400 := by
  obtain ⟨h1, h2, -⟩ := h i hi
  obtain ⟨-, n4, -⟩ := nr_ok hg hi
  rw [h1 j hj, h2]
  exact ⟨Nat.le_trans (nr_le hj) n4, n4⟩
/-- is there such a node (set, place) -/
def nb (n : Nat) (x : Int32) : Bool := decide (¬ x < 0 ∧ ¬ nI n ≤ x)
theorem nb_true {n : Nat} {x : Int32} (hn : n ≤ 5) (h : nb n x = true) : ∃ j, j < n ∧ x = nI j := by
  unfold nb at h
  rw [decide_eq_true_eq] at h
  rcases pk_ix x (n := n) (by omega) with q | q | q
  · exact absurd q h.1
  · exact absurd q h.2
  · exact q
def pb (x : Int32) : Bool := decide (x = 0 ∨ x = 1)
theorem pb_true {x : Int32} (h : pb x = true) : ∃ j, j < 2 ∧ x = nI j := by
  unfold pb at h
  rw [decide_eq_true_eq] at h
  rcases h with h | h
  · exact ⟨0, by decide, h⟩
  · exact ⟨1, by decide, h⟩
/-- is it in 0 .. m -/
def ib (m : Nat) (x : Int32) : Bool := decide (¬ x < 0 ∧ x ≤ nI m)
theorem ib_true {m : Nat} {x : Int32} (hm : m < 2 ^ 30) (h : ib m x = true) : ∃ j, j ≤ m ∧ x = nI j := by
  unfold ib at h
  rw [decide_eq_true_eq] at h
  exact nI_of2 (nI_toInt (by omega)) h.1 h.2
theorem ib_lt {m : Nat} {x : Int32} (h : x < 0) : ib m x = false := by unfold ib; simp [h]
theorem ib_gt {m : Nat} {x : Int32} (h : ¬ x ≤ nI m) : ib m x = false := by unfold ib; simp [h]
theorem ib_in {m : Nat} {x : Int32} (h1 : ¬ x < 0) (h2 : x ≤ nI m) : ib m x = true := by unfold ib; simp [h1, h2]
def ix (x : Int32) : Nat := x.toNatClampNeg
theorem ix_nI {j : Nat} (h : j < 2 ^ 31) : ix (nI j) = j := nI_clamp h
-- the answers of the calls that read or change the graph
def nodeW (n : Nat) (W : Nat → Nat → Nat) : Nat → Nat → Nat := fun i j => if (i = n ∧ j ≤ n) ∨ (j = n ∧ i ≤ n) then 0 else W i j
def aWeight (n : Nat) (W : Nat → Nat → Nat) (u v w : Int32) : Int32 := if nb n u = true ∧ nb n v = true then (if ib 2 w = true then nI (W (ix u) (ix v)) else -2) else -1
def wWeight (n : Nat) (W : Nat → Nat → Nat) (u v w : Int32) : Nat → Nat → Nat := if nb n u = true ∧ nb n v = true ∧ ib 2 w = true then fup2 W (ix u) (ix v) (ix w) else W
def aJump (n : Nat) (J : Nat → Nat) (v w : Int32) : Int32 := if nb n v = true then (if ib 2 w = true then nI (J (ix v)) else -2) else -1
def jJump (n : Nat) (J : Nat → Nat) (v w : Int32) : Nat → Nat := if nb n v = true ∧ ib 2 w = true then fup J (ix v) (ix w) else J
def kb (x y : Int32) : Bool := decide (¬ y < 1 ∧ ¬ 4 < y ∧ ¬ x < 0 ∧ x ≤ y)
theorem kb_true {x y : Int32} (h : kb x y = true) : ∃ a b, a ≤ b ∧ 1 ≤ b ∧ b ≤ 4 ∧ x = nI a ∧ y = nI b := by
  unfold kb at h
  rw [decide_eq_true_eq] at h
  obtain ⟨h1, h2, h3, h4⟩ := h
  have h0 : ¬ y < 0 := fun q => h1 (Int32.lt_trans q (by decide))
  obtain ⟨b, hb, rfl⟩ := nI_of h0
  obtain ⟨a, ha, rfl⟩ := nI_of h3
  have e1 : (1 : Int32) = nI 1 := rfl
  have e4 : (4 : Int32) = nI 4 := rfl
  rw [e1, nI_ltI hb (by decide)] at h1
  rw [e4, nI_ltI (by decide) hb] at h2
  rw [nI_leI ha hb] at h4
  exact ⟨a, b, h4, by omega, by omega, rfl, rfl⟩
def aRow (n x y : Nat) (W : Nat → Nat → Nat) (J : Nat → Nat) (u v : Int32) : Int32 := if nb n u = true ∧ nb n v = true then nI (nr n x y W J (ix u) (ix v)) else -1
def aTotal (n x y : Nat) (W : Nat → Nat → Nat) (J : Nat → Nat) (u : Int32) : Int32 := if nb n u = true then nI (tt n x y W J (ix u)) else -1
