-- determinants as the class expands them
def eqZ (P : Nat → Nat → Nat) (T : Nat → Nat) (U : Nat) (u v : Nat) : Int := (if u = v then (if (U.testBit u && U.testBit v) = true then (T u : Int) else 1) else 0) - (if (U.testBit u && U.testBit v) = true then (P u v : Int) else 0)
/-- steps from u right into the goal -/
def gsum (P : Nat → Nat → Nat) (G u n : Nat) : Nat := sN (fun v => if G.testBit v = true then P u v else 0) n
def sg (used : Nat) : Nat → Int
  | 0 => 1
  | c + 1 => if used.testBit c = true then sg used c else - sg used c
def exD (Z : Nat → Nat → Int) (n : Nat) : Nat → Nat → Nat → Int
  | 0, _, _ => 1
  | k + 1, line, used => sZ (fun c => if used.testBit c = true then 0 else sg used c * Z line c * exD Z n k (line + 1) (used ||| 2 ^ c)) n
theorem exD_congr {Z Y : Nat → Nat → Int} {n : Nat} : ∀ (k line used : Nat), line + k ≤ n → (∀ i j, i < n → j < n → Z i j = Y i j) → exD Z n k line used = exD Y n k line used
  | 0, _, _, _, _ => rfl
  | k + 1, line, used, h, e => by
    rw [exD, exD]
    refine sZ_congr (fun c hc => ?_)
    rw [e line c (by omega) hc, exD_congr k (line + 1) (used ||| 2 ^ c) (by omega) e]
/-- rows of numbers, one step on -/
def mv (Z : Nat → Nat → Int) (n : Nat) (A : Nat → Int) : Nat → Int := fun v => sZ (fun u => A u * Z u v) n
def itM (Z : Nat → Nat → Int) (n : Nat) (A : Nat → Int) : Nat → (Nat → Int)
  | 0 => A
  | k + 1 => mv Z n (itM Z n A k)
theorem mv_congr {Z : Nat → Nat → Int} {n : Nat} {A B : Nat → Int} (h : ∀ u, u < n → A u = B u) (v : Nat) : mv Z n A v = mv Z n B v := sZ_congr (fun u hu => by rw [h u hu])
