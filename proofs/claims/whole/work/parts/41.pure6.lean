-- shares, chances, numbers of steps: as the class reckons them
theorem eqZ_b {P : Nat → Nat → Nat} {T : Nat → Nat} {U i j : Nat} (h : P i j ≤ 400 ∧ T i ≤ 400) : -2 ^ 62 ≤ eqZ P T U i j ∧ eqZ P T U i j ≤ 2 ^ 62 := by
  unfold eqZ
  split <;> split <;> (try split) <;> omega
theorem gsum_b {P : Nat → Nat → Nat} {G i n : Nat} (hn : n ≤ 5) (h : ∀ j, j < n → P i j ≤ 400) : gsum P G i n ≤ 2000 := by
  have := sN_le (f := fun v => if G.testBit v = true then P i v else 0) (b := 400) (n := n) (fun j hj => by
    split
    · exact h j hj
    · omega)
  unfold gsum
  omega
/-- forests, and forests in which a goes to G, of a graph -/
def Fo (n x y : Nat) (W : Nat → Nat → Nat) (J : Nat → Nat) (U : Nat) : Nat := fsU (nr n x y W J) n U (FA n U) n 0 (fun _ => 0)
def Fg (n x y : Nat) (W : Nat → Nat → Nat) (J : Nat → Nat) (U a G : Nat) : Nat := fsU (nr n x y W J) n U (FG n U a G) n 0 (fun _ => 0)
def F3 (n x y : Nat) (W : Nat → Nat → Nat) (J : Nat → Nat) (U a : Nat) : Nat := fsU (nr n x y W J) n U (n3 n U a) n 0 (fun _ => 0)
def shG (n x y : Nat) (W : Nat → Nat → Nat) (J : Nat → Nat) (m v : Nat) : Nat := if m.testBit v = true then tt n x y W J v * Fo n x y W J (an m (2 ^ v)) else 0
/-- a proper part of the nodes -/
def okU (n U : Nat) : Prop := U < 2 ^ n ∧ U ≠ 2 ^ n - 1
theorem full_bit : ∀ n, n ≤ 5 → ∀ v, v < n → (2 ^ n - 1).testBit v = true := by decide +kernel
theorem bits_lt : ∀ n, n ≤ 5 → ∀ U, U < 32 → (∀ k, k < 5 → U.testBit k = true → k < n) → U < 2 ^ n := by decide +kernel
theorem okU_of {n U o : Nat} (hn : n ≤ 5) (hU : U < 32) (hb : ∀ k, U.testBit k = true → k < n) (ho : o < n) (hoU : U.testBit o = false) : okU n U :=
  ⟨bits_lt n hn U hU (fun k _ hk => hb k hk), fun e => by rw [e, full_bit n hn o ho] at hoU; cases hoU⟩
section CLS
variable {n x y : Nat} {W P : Nat → Nat → Nat} {J T X : Nat → Nat}
theorem okS.sum (h : okS n x y W J P T X) {i : Nat} (hi : i < n) : T i = sN (P i) n := by
  obtain ⟨h1, h2, -⟩ := h i hi
  rw [h2]
  exact (sN_congr h1).symm
theorem detF (h : okS n x y W J P T X) (hn : n ≤ 5) {U : Nat} (h0 : 0 < n) (hU : okU n U) {Z : Nat → Nat → Int} (hZ : ∀ i j, i < n → j < n → Z i j = eqZ P T U i j) : exD Z n n 0 0 = (Fo n x y W J U : Int) := by
  rw [exD_congr n 0 0 (by omega) hZ, det1 h0 hn hU.1 hU.2 (fun i hi _ => h.sum hi) (fun _ => 0)]
  unfold Fo
  rw [fs_congr (Q := nr n x y W J) (fun i w hi _ hw => (h i hi).1 w hw) (fun _ => rfl) n 0 _ (by omega)]
theorem detG (h : okS n x y W J P T X) (hn : n ≤ 5) {U a G : Nat} (hU : okU n U) (ha : a < n) (hUa : U.testBit a = true) (hG : G < 2 ^ n) (hGU : G &&& U = 0) {Z Y : Nat → Nat → Int} (hY : ∀ i j, i < n → j < n → Y i j = eqZ P T U i j) (hZ : ∀ i j, i < n → j < n → Z i j = if j = a then (if U.testBit i = true then (gsum P G i n : Int) else 0) else Y i j) : exD Z n n 0 0 = (Fg n x y W J U a G : Int) := by
  rw [exD_congr (Y := setc (eqZ P T U) a (fun i => if U.testBit i = true then (gsum P G i n : Int) else 0)) n 0 0 (by omega) (fun i j hi hj => by
    rw [hZ i j hi hj]
    unfold setc
    split
    · rfl
    · exact hY i j hi hj), det2 hn hU.1 hU.2 ha hUa hG hGU (fun i hi _ => h.sum hi) (fun _ => 0)]
  unfold Fg
  rw [fs_congr (Q := nr n x y W J) (fun i w hi _ hw => (h i hi).1 w hw) (fun _ => rfl) n 0 _ (by omega)]
theorem detT (h : okS n x y W J P T X) (hn : n ≤ 5) {U a : Nat} (hU : okU n U) (ha : a < n) (hUa : U.testBit a = true) {Z Y : Nat → Nat → Int} (hY : ∀ i j, i < n → j < n → Y i j = eqZ P T U i j) (hZ : ∀ i j, i < n → j < n → Z i j = if j = a then (if U.testBit i = true then (T i : Int) else 0) else Y i j) : exD Z n n 0 0 = (F3 n x y W J U a : Int) := by
  rw [exD_congr (Y := setc (eqZ P T U) a (fun i => if U.testBit i = true then (T i : Int) else 0)) n 0 0 (by omega) (fun i j hi hj => by
    rw [hZ i j hi hj]
    unfold setc
    split
    · rfl
    · exact hY i j hi hj), det3 hn hU.1 hU.2 ha hUa (fun i hi _ => h.sum hi) (fun _ => 0)]
  unfold F3
  rw [fs_congr (Q := nr n x y W J) (fun i w hi _ hw => (h i hi).1 w hw) (fun _ => rfl) n 0 _ (by omega)]
theorem nr4 (hok : okG n x y W J) {U : Nat} : ∀ i, i < n → U.testBit i = true → sN (nr n x y W J i) n ≤ 400 := fun i hi _ => (nr_ok hok hi).2.1
theorem Fo_le (hok : okG n x y W J) {U : Nat} (hU : okU n U) : Fo n x y W J U ≤ 400 ^ 4 := by
  have := fs_bound (P := nr n x y W J) (G := FA n U) (L := 1) hok.1 hU.1 hU.2 (fun f => FA_le f) (nr4 hok) (fun _ => 0)
  unfold Fo; omega
theorem Fg_le (hok : okG n x y W J) {U a G : Nat} (hU : okU n U) : Fg n x y W J U a G ≤ 400 ^ 4 := by
  have := fs_bound (P := nr n x y W J) (G := FG n U a G) (L := 1) hok.1 hU.1 hU.2 (fun f => FG_le f) (nr4 hok) (fun _ => 0)
  unfold Fg; omega
theorem F3_le (hok : okG n x y W J) {U a : Nat} (hU : okU n U) : F3 n x y W J U a ≤ 400 ^ 4 * 5 := by
  have := fs_bound (P := nr n x y W J) (G := n3 n U a) (L := 5) hok.1 hU.1 hU.2 (fun f => n3_le f hok.1) (nr4 hok) (fun _ => 0)
  unfold F3; omega
theorem shG_le (hok : okG n x y W J) {m v : Nat} (hv : v < n) (hm : m < 32) (hb : ∀ k, m.testBit k = true → k < n) : shG n x y W J m v ≤ 400 ^ 5 := by
  unfold shG
  split
  · have hU : okU n (an m (2 ^ v)) := okU_of hok.1 (an_lt _ hm _ (pow_32 (by have := hok.1; omega))) (fun k hk => hb k ((an_bits hm (pow_32 (by have := hok.1; omega))).mp hk).1) hv (by
      cases q : (an m (2 ^ v)).testBit v with
      | false => rfl
      | true =>
        have := ((an_bits hm (pow_32 (by have := hok.1; omega))).mp q).2
        rw [pow_bit] at this
        simp at this)
    have h1 := Fo_le hok hU
    have h2 := (nr_ok hok hv).2.1
    have h3 : tt n x y W J v * Fo n x y W J (an m (2 ^ v)) ≤ 400 * 400 ^ 4 := Nat.mul_le_mul h2 h1
    omega
  · exact Nat.zero_le _
theorem an_self {m v : Nat} (hm : m < 32) (hv : v < 5) : (an m (2 ^ v)).testBit v = false := by
  cases q : (an m (2 ^ v)).testBit v with
  | false => rfl
  | true =>
    have := ((an_bits hm (pow_32 hv)).mp q).2
    rw [pow_bit] at this
    simp at this
theorem okU_an (hn : n ≤ 5) {m v : Nat} (hv : v < n) (hm : m < 32) (hb : ∀ k, m.testBit k = true → k < n) : okU n (an m (2 ^ v)) :=
  okU_of hn (an_lt _ hm _ (pow_32 (by omega))) (fun k hk => hb k ((an_bits hm (pow_32 (by omega))).mp hk).1) hv (an_self hm (by omega))
/-- where all of U lead out of it -/
theorem Fo_pos (h : okS n x y W J P T X) (hn : n ≤ 5) {U : Nat} (ho : ∀ v, v < n → U.testBit v = true → ∃ w, (Dm X n v).testBit w = true ∧ U.testBit w = false) : 0 < Fo n x y W J U := by
  obtain ⟨f, hf, ha⟩ := forest_ex (P := nr n x y W J) (h.X hn) (fun u v hu hv => by
    rw [(h u hu).2.2, mk_bit] at hv
    simp at hv
    exact hv.2) ho
  unfold Fo
  exact fs_pos hf (fun f' e => by
    unfold FA
    rw [e.acyc, ha]
    decide) n 0 _ (by omega) (fun i hi => absurd hi (Nat.not_lt_zero i))
end CLS
def aRank (n x y : Nat) (W : Nat → Nat → Nat) (J : Nat → Nat) (q : Nat) (M : Nat → Nat) (v p : Int32) : Int64 := if nb n v = true then (if pb p = true then (if q = 1 then lI (fracN (shG n x y W J (M 0) (ix v)) (sN (shG n x y W J (M 0)) n) (ix p) : Int) else -3) else -2) else -1
/-- how many are ahead of v -/
def ahd (f : Nat → Nat) (v : Nat) : Nat → Nat
  | 0 => 0
  | k + 1 => ahd f v k + (if f v < f k ∨ (f k = f v ∧ k < v) then 1 else 0)
def fnd (f : Nat → Nat) (n k : Nat) : Nat → Nat → Option Nat
  | 0, _ => none
  | m + 1, v => if ahd f v n = k then some v else fnd f n k m (v + 1)
def aPlace (n x y : Nat) (W : Nat → Nat → Nat) (J : Nat → Nat) (q : Nat) (M : Nat → Nat) (k : Int32) : Int32 := if nb n k = true then (if q = 1 then (match fnd (shG n x y W J (M 0)) n (ix k) n 0 with | some v => nI v | none => -1) else -3) else -1
/-- the nodes whose chance to come to G is to be found -/
def uG (D : Nat → Nat) (n G : Nat) : Nat := an (lead D n G) G
def chG (n x y : Nat) (W : Nat → Nat → Nat) (J : Nat → Nat) (D : Nat → Nat) (u G p : Nat) : Nat := if G.testBit u = true then fracN 1 1 p else if (uG D n G).testBit u = true then fracN (Fg n x y W J (uG D n G) u G) (Fo n x y W J (uG D n G)) p else fracN 0 1 p
def aReach (n x y : Nat) (W : Nat → Nat → Nat) (J : Nat → Nat) (D : Nat → Nat) (u v p : Int32) : Int64 := if nb n u = true ∧ nb n v = true then (if pb p = true then lI (chG n x y W J D (ix u) (2 ^ ix v) (ix p) : Int) else -2) else -1
def aEnd (n x y : Nat) (W : Nat → Nat → Nat) (J : Nat → Nat) (D : Nat → Nat) (q : Nat) (M : Nat → Nat) (u s p : Int32) : Int64 := if nb n u = true ∧ nb q s = true then (if pb p = true then lI (chG n x y W J D (ix u) (M (ix s)) (ix p) : Int) else -2) else -1
def aBack (n x y : Nat) (W : Nat → Nat → Nat) (J : Nat → Nat) (q : Nat) (M : Nat → Nat) (O : Nat → Int32) (v p : Int32) : Int64 := if nb n v = true then (if pb p = true then (if nb q (O (ix v)) = true then lI (fracN (sN (shG n x y W J (M (ix (O (ix v))))) n) (shG n x y W J (M (ix (O (ix v)))) (ix v)) (ix p) : Int) else -3) else -2) else -1
def hU (X : Nat → Nat) (n u v : Nat) : Nat := bh X n (2 ^ v) (2 ^ u) n
def aHit (n x y : Nat) (W : Nat → Nat → Nat) (J : Nat → Nat) (X D : Nat → Nat) (u v p : Int32) : Int64 := if nb n u = true ∧ nb n v = true then (if pb p = true then (if ix u = ix v then lI (fracN 0 1 (ix p) : Int) else if an (hU X n (ix u) (ix v)) (lead D n (2 ^ ix v)) = 0 then lI (fracN (F3 n x y W J (hU X n (ix u) (ix v)) (ix u)) (Fo n x y W J (hU X n (ix u) (ix v))) (ix p) : Int) else -3) else -2) else -1
