-- one cell of an object's world changed
section PUTS
variable {g : aw_G} {ws ws' : va_W} {ad : Nat → Nat}
theorem gG.putW {n x y : Nat} {W : Nat → Nat → Nat} {J : Nat → Nat} {r c z : Nat} (h : gG g ws ad n x y W J) (hr : r < 5) (e1 : ws'[3 + r]? = some (ad (3 + r), aI g 5 (fup (W r) c z))) (e2 : ∀ j, j ≠ 3 + r → ws'[j]? = ws[j]?) : gG g ws' ad n x y (fup2 W r c z) J :=
  ⟨(e2 1 (by omega)).trans h.1, (e2 2 (by omega)).trans h.2.1, fam_putI h.2.2.1 e1 e2, (e2 8 (by omega)).trans h.2.2.2⟩
theorem gG.putJ {n x y : Nat} {W : Nat → Nat → Nat} {J J' : Nat → Nat} (h : gG g ws ad n x y W J) (e1 : ws'[8]? = some (ad 8, aI g 5 J')) (e2 : ∀ j, j ≠ 8 → ws'[j]? = ws[j]?) : gG g ws' ad n x y W J' :=
  ⟨(e2 1 (by omega)).trans h.1, (e2 2 (by omega)).trans h.2.1, fun i hi => (e2 _ (by omega)).trans (h.2.2.1 i hi), e1⟩
theorem gG.putO {n x y n' x' y' : Nat} {W : Nat → Nat → Nat} {J : Nat → Nat} (h : gG g ws ad n x y W J) (e1 : ws'[1]? = some (ad 1, .inr (1, [.int (nI n'), .int (nI x'), .int (nI y'), .ref (ad 2), .ref (ad 8)]))) (e2 : ∀ j, j ≠ 1 → ws'[j]? = ws[j]?) : gG g ws' ad n' x' y' W J :=
  ⟨e1, (e2 2 (by omega)).trans h.2.1, fun i hi => (e2 _ (by omega)).trans (h.2.2.1 i hi), (e2 8 (by omega)).trans h.2.2.2⟩
theorem gS.putP {n : Nat} {P : Nat → Nat → Nat} {T X : Nat → Nat} {r c z : Nat} (h : gS g ws ad n P T X) (hr : r < 5) (e1 : ws'[11 + r]? = some (ad (11 + r), aI g 5 (fup (P r) c z))) (e2 : ∀ j, j ≠ 11 + r → ws'[j]? = ws[j]?) : gS g ws' ad n (fup2 P r c z) T X :=
  ⟨(e2 9 (by omega)).trans h.1, (e2 10 (by omega)).trans h.2.1, fam_putI h.2.2.1 e1 e2, (e2 16 (by omega)).trans h.2.2.2.1, (e2 17 (by omega)).trans h.2.2.2.2⟩
theorem gS.putT {n : Nat} {P : Nat → Nat → Nat} {T X T' : Nat → Nat} (h : gS g ws ad n P T X) (e1 : ws'[16]? = some (ad 16, aI g 5 T')) (e2 : ∀ j, j ≠ 16 → ws'[j]? = ws[j]?) : gS g ws' ad n P T' X :=
  ⟨(e2 9 (by omega)).trans h.1, (e2 10 (by omega)).trans h.2.1, fun i hi => (e2 _ (by omega)).trans (h.2.2.1 i hi), e1, (e2 17 (by omega)).trans h.2.2.2.2⟩
theorem gS.putX {n : Nat} {P : Nat → Nat → Nat} {T X X' : Nat → Nat} (h : gS g ws ad n P T X) (e1 : ws'[17]? = some (ad 17, aI g 5 X')) (e2 : ∀ j, j ≠ 17 → ws'[j]? = ws[j]?) : gS g ws' ad n P T X' :=
  ⟨(e2 9 (by omega)).trans h.1, (e2 10 (by omega)).trans h.2.1, fun i hi => (e2 _ (by omega)).trans (h.2.2.1 i hi), (e2 16 (by omega)).trans h.2.2.2.1, e1⟩
theorem gS.putO {n n' : Nat} {P : Nat → Nat → Nat} {T X : Nat → Nat} (h : gS g ws ad n P T X) (e1 : ws'[9]? = some (ad 9, .inr (2, [.int (nI n'), .ref (ad 10), .ref (ad 16), .ref (ad 17)]))) (e2 : ∀ j, j ≠ 9 → ws'[j]? = ws[j]?) : gS g ws' ad n' P T X :=
  ⟨e1, (e2 10 (by omega)).trans h.2.1, fun i hi => (e2 _ (by omega)).trans (h.2.2.1 i hi), (e2 16 (by omega)).trans h.2.2.2.1, (e2 17 (by omega)).trans h.2.2.2.2⟩
theorem gE.putZ {n : Nat} {Z : Nat → Nat → Int} {r c : Nat} {z : Int} (h : gE g ws ad n Z) (hr : r < 5) (e1 : ws'[25 + r]? = some (ad (25 + r), aL g 5 (fup (Z r) c z))) (e2 : ∀ j, j ≠ 25 + r → ws'[j]? = ws[j]?) : gE g ws' ad n (fup2 Z r c z) :=
  ⟨(e2 23 (by omega)).trans h.1, (e2 24 (by omega)).trans h.2.1, fam_putL h.2.2 e1 e2⟩
theorem gE.putO {n n' : Nat} {Z : Nat → Nat → Int} (h : gE g ws ad n Z) (e1 : ws'[23]? = some (ad 23, .inr (4, [.int (nI n'), .ref (ad 24)]))) (e2 : ∀ j, j ≠ 23 → ws'[j]? = ws[j]?) : gE g ws' ad n' Z :=
  ⟨e1, (e2 24 (by omega)).trans h.2.1, fun i hi => (e2 _ (by omega)).trans (h.2.2 i hi)⟩
theorem gP.putZ {p q n : Nat} {A B : Nat → Int} {Z : Nat → Nat → Int} {r c : Nat} {z : Int} (h : gP g ws ad p q A B n Z) (hr : r < 5) (e1 : ws'[34 + r]? = some (ad (34 + r), aL g 5 (fup (Z r) c z))) (e2 : ∀ j, j ≠ 34 + r → ws'[j]? = ws[j]?) : gP g ws' ad p q A B n (fup2 Z r c z) :=
  ⟨h.1, (e2 30 (by omega)).trans h.2.1, (e2 p (by have := h.1; omega)).trans h.2.2.1, (e2 q (by have := h.1; omega)).trans h.2.2.2.1, (e2 33 (by omega)).trans h.2.2.2.2.1, fam_putL h.2.2.2.2.2 e1 e2⟩
theorem gP.putA {p q n : Nat} {A A' B : Nat → Int} {Z : Nat → Nat → Int} (h : gP g ws ad p q A B n Z) (e1 : ws'[p]? = some (ad p, aL g 5 A')) (e2 : ∀ j, j ≠ p → ws'[j]? = ws[j]?) : gP g ws' ad p q A' B n Z :=
  ⟨h.1, (e2 30 (by have := h.1; omega)).trans h.2.1, e1, (e2 q (by have := h.1; omega)).trans h.2.2.2.1, (e2 33 (by have := h.1; omega)).trans h.2.2.2.2.1, fun i hi => (e2 _ (by have := h.1; omega)).trans (h.2.2.2.2.2 i hi)⟩
theorem gP.putB {p q n : Nat} {A B B' : Nat → Int} {Z : Nat → Nat → Int} (h : gP g ws ad p q A B n Z) (e1 : ws'[q]? = some (ad q, aL g 5 B')) (e2 : ∀ j, j ≠ q → ws'[j]? = ws[j]?) : gP g ws' ad p q A B' n Z :=
  ⟨h.1, (e2 30 (by have := h.1; omega)).trans h.2.1, (e2 p (by have := h.1; omega)).trans h.2.2.1, e1, (e2 33 (by have := h.1; omega)).trans h.2.2.2.2.1, fun i hi => (e2 _ (by have := h.1; omega)).trans (h.2.2.2.2.2 i hi)⟩
theorem gP.putO {p q n n' : Nat} {A B : Nat → Int} {Z : Nat → Nat → Int} (h : gP g ws ad p q A B n Z) (e1 : ws'[30]? = some (ad 30, .inr (5, [.ref (ad p), .ref (ad q), .int (nI n'), .ref (ad 33)]))) (e2 : ∀ j, j ≠ 30 → ws'[j]? = ws[j]?) : gP g ws' ad p q A B n' Z :=
  ⟨h.1, e1, (e2 p (by have := h.1; omega)).trans h.2.2.1, (e2 q (by have := h.1; omega)).trans h.2.2.2.1, (e2 33 (by omega)).trans h.2.2.2.2.1, fun i hi => (e2 _ (by omega)).trans (h.2.2.2.2.2 i hi)⟩
theorem gC.putM {q n : Nat} {M L D M' : Nat → Nat} {O : Nat → Int32} (h : gC g ws ad q M L O n D) (e1 : ws'[19]? = some (ad 19, aI g 5 M')) (e2 : ∀ j, j ≠ 19 → ws'[j]? = ws[j]?) : gC g ws' ad q M' L O n D :=
  ⟨(e2 18 (by omega)).trans h.1, e1, (e2 20 (by omega)).trans h.2.2.1, (e2 21 (by omega)).trans h.2.2.2.1, (e2 22 (by omega)).trans h.2.2.2.2⟩
theorem gC.putL {q n : Nat} {M L D L' : Nat → Nat} {O : Nat → Int32} (h : gC g ws ad q M L O n D) (e1 : ws'[20]? = some (ad 20, aI g 5 L')) (e2 : ∀ j, j ≠ 20 → ws'[j]? = ws[j]?) : gC g ws' ad q M L' O n D :=
  ⟨(e2 18 (by omega)).trans h.1, (e2 19 (by omega)).trans h.2.1, e1, (e2 21 (by omega)).trans h.2.2.2.1, (e2 22 (by omega)).trans h.2.2.2.2⟩
theorem gC.putS {q n : Nat} {M L D : Nat → Nat} {O O' : Nat → Int32} (h : gC g ws ad q M L O n D) (e1 : ws'[21]? = some (ad 21, aR g 5 O')) (e2 : ∀ j, j ≠ 21 → ws'[j]? = ws[j]?) : gC g ws' ad q M L O' n D :=
  ⟨(e2 18 (by omega)).trans h.1, (e2 19 (by omega)).trans h.2.1, (e2 20 (by omega)).trans h.2.2.1, e1, (e2 22 (by omega)).trans h.2.2.2.2⟩
theorem gC.putD {q n : Nat} {M L D D' : Nat → Nat} {O : Nat → Int32} (h : gC g ws ad q M L O n D) (e1 : ws'[22]? = some (ad 22, aI g 5 D')) (e2 : ∀ j, j ≠ 22 → ws'[j]? = ws[j]?) : gC g ws' ad q M L O n D' :=
  ⟨(e2 18 (by omega)).trans h.1, (e2 19 (by omega)).trans h.2.1, (e2 20 (by omega)).trans h.2.2.1, (e2 21 (by omega)).trans h.2.2.2.1, e1⟩
theorem gC.putO {q n q' n' : Nat} {M L D : Nat → Nat} {O : Nat → Int32} (h : gC g ws ad q M L O n D) (e1 : ws'[18]? = some (ad 18, .inr (3, [.int (nI q'), .ref (ad 19), .ref (ad 20), .ref (ad 21), .int (nI n'), .ref (ad 22)]))) (e2 : ∀ j, j ≠ 18 → ws'[j]? = ws[j]?) : gC g ws' ad q' M L O n' D :=
  ⟨e1, (e2 19 (by omega)).trans h.2.1, (e2 20 (by omega)).trans h.2.2.1, (e2 21 (by omega)).trans h.2.2.2.1, (e2 22 (by omega)).trans h.2.2.2.2⟩
end PUTS
