-- step maps, their rounds, and their small determinants
/-- a determinant that leaves out what stands at a zero -/
def exE (Z : Nat → Nat → Int) (n : Nat) : Nat → Nat → Nat → Int
  | 0, _, _ => 1
  | k + 1, line, used => sZ (fun c => if used.testBit c = true then 0 else if Z line c = 0 then 0 else sg used c * Z line c * exE Z n k (line + 1) (used ||| 2 ^ c)) n
theorem exE_eq {Z : Nat → Nat → Int} {n : Nat} : ∀ (k line used : Nat), exE Z n k line used = exD Z n k line used
  | 0, _, _ => rfl
  | k + 1, line, used => by
    rw [exE, exD]
    refine sZ_congr (fun c _ => ?_)
    rw [exE_eq k (line + 1) (used ||| 2 ^ c)]
    by_cases h : used.testBit c = true
    · rw [if_pos h, if_pos h]
    · rw [if_neg h, if_neg h]
      by_cases h2 : Z line c = 0
      · rw [if_pos h2, h2, Int.mul_zero, Int.zero_mul]
      · rw [if_neg h2]
/-- row i of a step map: it stands at i and goes to w -/
def RU (U i w j : Nat) : Int := (if i = j then 1 else 0) - (if U.testBit i = true ∧ U.testBit w = true ∧ w = j then 1 else 0)
/-- where the steps lead: to the first that is not in U -/
def rch (U : Nat) (f : Nat → Nat) : Nat → Nat → Nat
  | 0, v => v
  | k + 1, v => if U.testBit v = true then rch U f k (f v) else v
def acyc (n U : Nat) (f : Nat → Nat) : Bool := (List.range n).all (fun v => !(U.testBit (rch U f 5 v)))
/-- every step map of the nodes of U -/
def allF (n U : Nat) (p : (Nat → Nat) → Bool) : Nat → Nat → (Nat → Nat) → Bool
  | 0, _, f => p f
  | k + 1, r, f => if U.testBit r = true then (List.range n).all (fun w => allF n U p k (r + 1) (fup f r w)) else allF n U p k (r + 1) (fup f r 0)
def p1 (n U : Nat) (f : Nat → Nat) : Bool := exE (fun i j => RU U i (f i) j) n n 0 0 == (if acyc n U f then 1 else 0)
set_option maxRecDepth 100000 in
theorem leaf1_4 : (List.range 16).all (fun U => U == 15 || allF 4 U (p1 4 U) 4 0 (fun _ => 0)) = true := by decide +kernel
theorem leaf1_3 : (List.range 8).all (fun U => U == 7 || allF 3 U (p1 3 U) 3 0 (fun _ => 0)) = true := by decide +kernel
theorem leaf1_2 : (List.range 4).all (fun U => U == 3 || allF 2 U (p1 2 U) 2 0 (fun _ => 0)) = true := by decide +kernel
theorem leaf1_1 : (List.range 2).all (fun U => U == 1 || allF 1 U (p1 1 U) 1 0 (fun _ => 0)) = true := by decide +kernel
set_option maxRecDepth 100000 in
theorem leaf1_5 : (List.range 32).all (fun U => U == 31 || allF 5 U (p1 5 U) 5 0 (fun _ => 0)) = true := by decide +kernel
