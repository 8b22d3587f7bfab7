-- what the cells of the world are: places 0..39 the class's, 40..50 the reference's
abbrev gW (ws : va_W) (ad : Nat → Nat) : Prop := ws[0]? = some (ad 0, .inr (0, [.ref (ad 1), .ref (ad 9), .ref (ad 18), .ref (ad 23), .ref (ad 30), .ref (ad 39)]))
/-- the graph: n nodes, keep x of y, weights, jumps -/
def gG (g : aw_G) (ws : va_W) (ad : Nat → Nat) (n x y : Nat) (W : Nat → Nat → Nat) (J : Nat → Nat) : Prop :=
  ws[1]? = some (ad 1, .inr (1, [.int (nI n), .int (nI x), .int (nI y), .ref (ad 2), .ref (ad 8)])) ∧ ws[2]? = some (ad 2, aGI g (fun i => ad (3 + i))) ∧ (∀ i, i < 5 → ws[3 + i]? = some (ad (3 + i), aI g 5 (W i))) ∧ ws[8]? = some (ad 8, aI g 5 J)
/-- the steps: size, parts, totals, next -/
def gS (g : aw_G) (ws : va_W) (ad : Nat → Nat) (n : Nat) (P : Nat → Nat → Nat) (T X : Nat → Nat) : Prop :=
  ws[9]? = some (ad 9, .inr (2, [.int (nI n), .ref (ad 10), .ref (ad 16), .ref (ad 17)])) ∧ ws[10]? = some (ad 10, aGI g (fun i => ad (11 + i))) ∧ (∀ i, i < 5 → ws[11 + i]? = some (ad (11 + i), aI g 5 (P i))) ∧ ws[16]? = some (ad 16, aI g 5 T) ∧ ws[17]? = some (ad 17, aI g 5 X)
/-- the closed sets: number, members, least nodes, sets of nodes, size, leads -/
def gC (g : aw_G) (ws : va_W) (ad : Nat → Nat) (q : Nat) (M L : Nat → Nat) (O : Nat → Int32) (n : Nat) (D : Nat → Nat) : Prop :=
  ws[18]? = some (ad 18, .inr (3, [.int (nI q), .ref (ad 19), .ref (ad 20), .ref (ad 21), .int (nI n), .ref (ad 22)])) ∧ ws[19]? = some (ad 19, aI g 5 M) ∧ ws[20]? = some (ad 20, aI g 5 L) ∧ ws[21]? = some (ad 21, aR g 5 O) ∧ ws[22]? = some (ad 22, aI g 5 D)
/-- the equations: size, cells -/
def gE (g : aw_G) (ws : va_W) (ad : Nat → Nat) (n : Nat) (Z : Nat → Nat → Int) : Prop :=
  ws[23]? = some (ad 23, .inr (4, [.int (nI n), .ref (ad 24)])) ∧ ws[24]? = some (ad 24, aGL g (fun i => ad (25 + i))) ∧ (∀ i, i < 5 → ws[25 + i]? = some (ad (25 + i), aL g 5 (Z i)))
/-- the spread: now, next (they change places: p, q are 31, 32 or 32, 31), size, factors -/
def gP (g : aw_G) (ws : va_W) (ad : Nat → Nat) (p q : Nat) (A B : Nat → Int) (n : Nat) (Z : Nat → Nat → Int) : Prop :=
  ((p = 31 ∧ q = 32) ∨ (p = 32 ∧ q = 31)) ∧ ws[30]? = some (ad 30, .inr (5, [.ref (ad p), .ref (ad q), .int (nI n), .ref (ad 33)])) ∧ ws[p]? = some (ad p, aL g 5 A) ∧ ws[q]? = some (ad q, aL g 5 B) ∧ ws[33]? = some (ad 33, aGL g (fun i => ad (34 + i))) ∧ (∀ i, i < 5 → ws[34 + i]? = some (ad (34 + i), aL g 5 (Z i)))
abbrev gH (g : aw_G) (ws : va_W) (ad : Nat → Nat) (A : Nat → Int) : Prop := ws[39]? = some (ad 39, aL g 5 A)
/-- a world that is the same outside the places lo .. hi - 1 -/
def fr (lo hi : Nat) (ws ws' : va_W) : Prop := (∀ k, (k < lo ∨ hi ≤ k) → ws'[k]? = ws[k]?) ∧ ws'.length = ws.length
theorem fr.rf {lo hi : Nat} {ws : va_W} : fr lo hi ws ws := ⟨fun _ _ => rfl, rfl⟩
theorem fr.tr {lo hi : Nat} {a b c : va_W} (h1 : fr lo hi a b) (h2 : fr lo hi b c) : fr lo hi a c := ⟨fun k hk => (h2.1 k hk).trans (h1.1 k hk), h2.2.trans h1.2⟩
theorem fr.wide {lo hi lo' hi' : Nat} {a b : va_W} (h : fr lo hi a b) (h1 : lo' ≤ lo) (h2 : hi ≤ hi') : fr lo' hi' a b := ⟨fun k hk => h.1 k (by omega), h.2⟩
theorem fr.one {lo hi q : Nat} {a b : va_W} (e : ∀ j, j ≠ q → b[j]? = a[j]?) (l : b.length = a.length) (h1 : lo ≤ q) (h2 : q < hi) : fr lo hi a b := ⟨fun k hk => e k (by omega), l⟩
theorem gG.kept {g : aw_G} {ws ws' : va_W} {ad : Nat → Nat} {n x y : Nat} {W : Nat → Nat → Nat} {J : Nat → Nat} {lo hi : Nat} (h : gG g ws ad n x y W J) (f : fr lo hi ws ws') (hlo : 9 ≤ lo ∨ hi ≤ 1) : gG g ws' ad n x y W J :=
  ⟨(f.1 1 (by omega)).trans h.1, (f.1 2 (by omega)).trans h.2.1, fun i hi => (f.1 _ (by omega)).trans (h.2.2.1 i hi), (f.1 8 (by omega)).trans h.2.2.2⟩
theorem gS.kept {g : aw_G} {ws ws' : va_W} {ad : Nat → Nat} {n : Nat} {P : Nat → Nat → Nat} {T X : Nat → Nat} {lo hi : Nat} (h : gS g ws ad n P T X) (f : fr lo hi ws ws') (hlo : 18 ≤ lo ∨ hi ≤ 9) : gS g ws' ad n P T X :=
  ⟨(f.1 9 (by omega)).trans h.1, (f.1 10 (by omega)).trans h.2.1, fun i hi => (f.1 _ (by omega)).trans (h.2.2.1 i hi), (f.1 16 (by omega)).trans h.2.2.2.1, (f.1 17 (by omega)).trans h.2.2.2.2⟩
theorem gC.kept {g : aw_G} {ws ws' : va_W} {ad : Nat → Nat} {q : Nat} {M L : Nat → Nat} {O : Nat → Int32} {n : Nat} {D : Nat → Nat} {lo hi : Nat} (h : gC g ws ad q M L O n D) (f : fr lo hi ws ws') (hlo : 23 ≤ lo ∨ hi ≤ 18) : gC g ws' ad q M L O n D :=
  ⟨(f.1 18 (by omega)).trans h.1, (f.1 19 (by omega)).trans h.2.1, (f.1 20 (by omega)).trans h.2.2.1, (f.1 21 (by omega)).trans h.2.2.2.1, (f.1 22 (by omega)).trans h.2.2.2.2⟩
theorem gE.kept {g : aw_G} {ws ws' : va_W} {ad : Nat → Nat} {n : Nat} {Z : Nat → Nat → Int} {lo hi : Nat} (h : gE g ws ad n Z) (f : fr lo hi ws ws') (hlo : 30 ≤ lo ∨ hi ≤ 23) : gE g ws' ad n Z :=
  ⟨(f.1 23 (by omega)).trans h.1, (f.1 24 (by omega)).trans h.2.1, fun i hi => (f.1 _ (by omega)).trans (h.2.2 i hi)⟩
theorem gP.kept {g : aw_G} {ws ws' : va_W} {ad : Nat → Nat} {p q : Nat} {A B : Nat → Int} {n : Nat} {Z : Nat → Nat → Int} {lo hi : Nat} (h : gP g ws ad p q A B n Z) (f : fr lo hi ws ws') (hlo : 39 ≤ lo ∨ hi ≤ 30) : gP g ws' ad p q A B n Z :=
  ⟨h.1, (f.1 30 (by omega)).trans h.2.1, (f.1 p (by have := h.1; omega)).trans h.2.2.1, (f.1 q (by have := h.1; omega)).trans h.2.2.2.1, (f.1 33 (by omega)).trans h.2.2.2.2.1, fun i hi => (f.1 _ (by omega)).trans (h.2.2.2.2.2 i hi)⟩
