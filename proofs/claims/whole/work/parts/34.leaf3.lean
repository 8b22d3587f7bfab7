/-- the same with 1 in column a, for how many steps it takes: each place w at which the way from a can be cut counts 1 -/
def R3 (U a i w j : Nat) : Int := if j = a then (if U.testBit i = true then 1 else 0) else RU U i w j
def cut3 (n U a : Nat) (f : Nat → Nat) (w : Nat) : Bool := U.testBit w && acyc n (an U (2 ^ w)) f && (rch (an U (2 ^ w)) f 5 a == w)
def n3 (n U a : Nat) (f : Nat → Nat) : Nat := sN (fun w => if cut3 n U a f w then 1 else 0) n
def p3 (n U a : Nat) (f : Nat → Nat) : Bool := exE (fun i j => R3 U a i (f i) j) n n 0 0 == (n3 n U a f : Int)
set_option maxRecDepth 100000 in
theorem leaf3_4 : (List.range 16).all (fun U => U == 15 || (List.range 4).all (fun a => !(U.testBit a) || allF 4 U (p3 4 U a) 4 0 (fun _ => 0))) = true := by decide +kernel
theorem leaf3_3 : (List.range 8).all (fun U => U == 7 || (List.range 3).all (fun a => !(U.testBit a) || allF 3 U (p3 3 U a) 3 0 (fun _ => 0))) = true := by decide +kernel
theorem leaf3_2 : (List.range 4).all (fun U => U == 3 || (List.range 2).all (fun a => !(U.testBit a) || allF 2 U (p3 2 U a) 2 0 (fun _ => 0))) = true := by decide +kernel
theorem leaf3_1 : (List.range 2).all (fun U => U == 1 || (List.range 1).all (fun a => !(U.testBit a) || allF 1 U (p3 1 U a) 1 0 (fun _ => 0))) = true := by decide +kernel
/-- steps into the goal G lead back to a -/
def rho (G a w : Nat) : Nat := if G.testBit w = true then a else w
def p2 (n U a G : Nat) (f : Nat → Nat) : Bool := acyc n U (fun i => rho G a (f i)) == (acyc n U f && !(G.testBit (rch U f 5 a)))
set_option maxRecDepth 100000 in
theorem leaf2_1 : (List.range 2).all (fun U => (List.range 1).all (fun a => !(U.testBit a) || (List.range 2).all (fun G => !(G &&& U == 0) || allF 1 U (p2 1 U a G) 1 0 (fun _ => 0)))) = true := by decide +kernel
set_option maxRecDepth 100000 in
theorem leaf2_2 : (List.range 4).all (fun U => (List.range 2).all (fun a => !(U.testBit a) || (List.range 4).all (fun G => !(G &&& U == 0) || allF 2 U (p2 2 U a G) 2 0 (fun _ => 0)))) = true := by decide +kernel
set_option maxRecDepth 100000 in
theorem leaf2_3 : (List.range 8).all (fun U => (List.range 3).all (fun a => !(U.testBit a) || (List.range 8).all (fun G => !(G &&& U == 0) || allF 3 U (p2 3 U a G) 3 0 (fun _ => 0)))) = true := by decide +kernel
set_option maxRecDepth 100000 in
theorem leaf2_4 : (List.range 16).all (fun U => (List.range 4).all (fun a => !(U.testBit a) || (List.range 16).all (fun G => !(G &&& U == 0) || allF 4 U (p2 4 U a G) 4 0 (fun _ => 0)))) = true := by decide +kernel
