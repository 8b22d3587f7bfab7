-- arrays of the world in canonical words; sums; longs out of Int
abbrev cI (g : aw_G) : ClassId := (g.2.2.getD 0 (0, .int)).1
abbrev cJ (g : aw_G) : ClassId := (g.2.2.getD 1 (0, .int)).1
abbrev cII (g : aw_G) : ClassId := (g.2.2.getD 2 (0, .int)).1
abbrev cJJ (g : aw_G) : ClassId := (g.2.2.getD 3 (0, .int)).1
def aw_T (g : aw_G) : Prop := g.2.2 = [(cI g, .int), (cJ g, .long), (cII g, .array .int), (cJJ g, .array .long)]
theorem aw_T0 {g : aw_G} (h : aw_T g) : g.2.2[0]? = some (cI g, .int) := by
  have e := congrArg (fun l : List (ClassId × FieldType) => l[0]?) h
  exact e
theorem aw_T1 {g : aw_G} (h : aw_T g) : g.2.2[1]? = some (cJ g, .long) := by
  have e := congrArg (fun l : List (ClassId × FieldType) => l[1]?) h
  exact e
theorem aw_T2 {g : aw_G} (h : aw_T g) : g.2.2[2]? = some (cII g, .array .int) := by
  have e := congrArg (fun l : List (ClassId × FieldType) => l[2]?) h
  exact e
theorem aw_T3 {g : aw_G} (h : aw_T g) : g.2.2[3]? = some (cJJ g, .array .long) := by
  have e := congrArg (fun l : List (ClassId × FieldType) => l[3]?) h
  exact e
abbrev aI (g : aw_G) (n : Nat) (f : Nat → Nat) : va_E := .inl (cI g, n, .inl (fun j => nI (f j)))
abbrev aR (g : aw_G) (n : Nat) (f : Nat → Int32) : va_E := .inl (cI g, n, .inl f)
abbrev aL (g : aw_G) (n : Nat) (f : Nat → Int) : va_E := .inl (cJ g, n, .inr (.inl (fun j => lI (f j))))
abbrev aGI (g : aw_G) (r : Nat → Nat) : va_E := aw_grid (cII g) 5 r
abbrev aGL (g : aw_G) (r : Nat → Nat) : va_E := aw_grid (cJJ g) 5 r
theorem fup_nI (f : Nat → Nat) (k x : Nat) : fup (fun j => nI (f j)) k (nI x) = fun j => nI (fup f k x j) := by
  funext j
  unfold fup
  split <;> rfl
theorem fup_lI (f : Nat → Int) (k : Nat) (x : Int) : fup (fun j => lI (f j)) k (lI x) = fun j => lI (fup f k x j) := by
  funext j
  unfold fup
  split <;> rfl
theorem lI_add (a b : Int) : lI a + lI b = lI (a + b) := (Int64.ofInt_add a b).symm
theorem lI_mul (a b : Int) : lI a * lI b = lI (a * b) := (Int64.ofInt_mul a b).symm
theorem lI_sub (a b : Int) : lI a - lI b = lI (a - b) := (Int64.ofInt_sub a b).symm
theorem lI_neg (a : Int) : -lI a = lI (-a) := (Int64.ofInt_neg a).symm
theorem lI_N (n : Nat) : lI (n : Int) = lN n := by
  unfold lI lN
  exact Int64.ofInt_eq_ofNat
theorem nI_lI {n : Nat} (h : n < 2 ^ 31) : (nI n).toInt64 = lI n := by rw [nI_l h, lI_N]
/-- sums of the first n -/
def sN (f : Nat → Nat) : Nat → Nat
  | 0 => 0
  | k + 1 => sN f k + f k
def sZ (f : Nat → Int) : Nat → Int
  | 0 => 0
  | k + 1 => sZ f k + f k
theorem sN_congr {f h : Nat → Nat} : ∀ {n : Nat}, (∀ i, i < n → f i = h i) → sN f n = sN h n
  | 0, _ => rfl
  | n + 1, e => by rw [sN, sN, sN_congr (fun i hi => e i (by omega)), e n (by omega)]
theorem sZ_congr {f h : Nat → Int} : ∀ {n : Nat}, (∀ i, i < n → f i = h i) → sZ f n = sZ h n
  | 0, _ => rfl
  | n + 1, e => by rw [sZ, sZ, sZ_congr (fun i hi => e i (by omega)), e n (by omega)]
theorem sN_le {f : Nat → Nat} {b : Nat} : ∀ {n : Nat}, (∀ i, i < n → f i ≤ b) → sN f n ≤ n * b
  | 0, _ => by rw [sN]; omega
  | n + 1, e => by
    have h1 := sN_le (n := n) (fun i hi => e i (by omega))
    have h2 := e n (by omega)
    rw [sN, Nat.add_mul]
    omega
theorem sN_mem {f : Nat → Nat} : ∀ {n i : Nat}, i < n → f i ≤ sN f n
  | 0, i, h => absurd h (Nat.not_lt_zero i)
  | n + 1, i, h => by
    rw [sN]
    by_cases e : i = n
    · subst e; omega
    · have := sN_mem (f := f) (n := n) (i := i) (by omega)
      omega
theorem sN_pos {f : Nat → Nat} : ∀ {n : Nat}, 0 < sN f n → ∃ i, i < n ∧ 0 < f i
  | 0, h => by rw [sN] at h; omega
  | n + 1, h => by
    rw [sN] at h
    by_cases e : 0 < f n
    · exact ⟨n, by omega, e⟩
    · obtain ⟨i, hi, hp⟩ := sN_pos (f := f) (n := n) (by omega)
      exact ⟨i, by omega, hp⟩
section AWB
variable {g : aw_G} {y : MethodName} {cc : ByteArray} {nL : Nat} {ret : Option FieldType} {R : Room} {E : (Nat → Prop) → State → Array Value → Prop} {F : List Frame → Array Value → State → (Nat → Prop) → State → Prop} {kc ks pc : Nat} {lv : List (Nat × Value)} {st : List Value} {ws : va_W}
theorem aw_ialdA {a n q0 j : Nat} {f : Nat → Nat} (hd : decode cc pc = .ok (.iaload, 1)) (he : ws[q0]? = some (a, aI g n f)) (hg : aw_T g) (hj : j < n) (hn : n < 2 ^ 31) (k : AW g y cc nL ret R E F kc ks (pc + 1) lv (.int (nI (f j)) :: st) ws) : AW g y cc nL ret R E F kc ks pc lv (.int (nI j) :: .ref a :: st) ws :=
  aw_ialdN hd he (aw_T0 hg) hj hn k
theorem aw_iastA {a n q0 j x : Nat} {f : Nat → Nat} (hd : decode cc pc = .ok (.iastore, 1)) (he : ws[q0]? = some (a, aI g n f)) (hg : aw_T g) (hj : j < n) (hn : n < 2 ^ 31) (k : ∀ ws' : va_W, ws'[q0]? = some (a, aI g n (fup f j x)) → (∀ j, j ≠ q0 → ws'[j]? = ws[j]?) → ws'.length = ws.length → AW g y cc nL ret R E F kc ks (pc + 1) lv st ws') : AW g y cc nL ret R E F kc ks pc lv (.int (nI x) :: .int (nI j) :: .ref a :: st) ws :=
  aw_iastN hd he (aw_T0 hg) hj hn (fun ws' e1 e2 e3 => k ws' (by rw [e1, fup_nI]) e2 e3)
theorem aw_ialdR {a n q0 j : Nat} {f : Nat → Int32} (hd : decode cc pc = .ok (.iaload, 1)) (he : ws[q0]? = some (a, aR g n f)) (hg : aw_T g) (hj : j < n) (hn : n < 2 ^ 31) (k : AW g y cc nL ret R E F kc ks (pc + 1) lv (.int (f j) :: st) ws) : AW g y cc nL ret R E F kc ks pc lv (.int (nI j) :: .ref a :: st) ws :=
  aw_ialdN hd he (aw_T0 hg) hj hn k
theorem aw_iastR {a n q0 j : Nat} {x : Int32} {f : Nat → Int32} (hd : decode cc pc = .ok (.iastore, 1)) (he : ws[q0]? = some (a, aR g n f)) (hg : aw_T g) (hj : j < n) (hn : n < 2 ^ 31) (k : ∀ ws' : va_W, ws'[q0]? = some (a, aR g n (fup f j x)) → (∀ j, j ≠ q0 → ws'[j]? = ws[j]?) → ws'.length = ws.length → AW g y cc nL ret R E F kc ks (pc + 1) lv st ws') : AW g y cc nL ret R E F kc ks pc lv (.int x :: .int (nI j) :: .ref a :: st) ws :=
  aw_iastN hd he (aw_T0 hg) hj hn k
theorem aw_laldA {a n q0 j : Nat} {f : Nat → Int} (hd : decode cc pc = .ok (.laload, 1)) (he : ws[q0]? = some (a, aL g n f)) (hg : aw_T g) (hj : j < n) (hn : n < 2 ^ 31) (k : AW g y cc nL ret R E F kc ks (pc + 1) lv (.long (lI (f j)) :: st) ws) : AW g y cc nL ret R E F kc ks pc lv (.int (nI j) :: .ref a :: st) ws :=
  aw_laldN hd he (aw_T1 hg) hj hn k
theorem aw_lastA {a n q0 j : Nat} {x : Int} {f : Nat → Int} (hd : decode cc pc = .ok (.lastore, 1)) (he : ws[q0]? = some (a, aL g n f)) (hg : aw_T g) (hj : j < n) (hn : n < 2 ^ 31) (k : ∀ ws' : va_W, ws'[q0]? = some (a, aL g n (fup f j x)) → (∀ j, j ≠ q0 → ws'[j]? = ws[j]?) → ws'.length = ws.length → AW g y cc nL ret R E F kc ks (pc + 1) lv st ws') : AW g y cc nL ret R E F kc ks pc lv (.long (lI x) :: .int (nI j) :: .ref a :: st) ws :=
  aw_lastN hd he (aw_T1 hg) hj hn (fun ws' e1 e2 e3 => k ws' (by rw [e1, fup_lI]) e2 e3)
theorem aw_aaldI {a q0 j : Nat} {r : Nat → Nat} (hd : decode cc pc = .ok (.aaload, 1)) (he : ws[q0]? = some (a, aGI g r)) (hg : aw_T g) (hj : j < 5) (k : AW g y cc nL ret R E F kc ks (pc + 1) lv (.ref (r j) :: st) ws) : AW g y cc nL ret R E F kc ks pc lv (.int (nI j) :: .ref a :: st) ws :=
  aw_aaldN hd he (aw_T2 hg) hj (by decide) (if_pos hj) k
theorem aw_aaldL {a q0 j : Nat} {r : Nat → Nat} (hd : decode cc pc = .ok (.aaload, 1)) (he : ws[q0]? = some (a, aGL g r)) (hg : aw_T g) (hj : j < 5) (k : AW g y cc nL ret R E F kc ks (pc + 1) lv (.ref (r j) :: st) ws) : AW g y cc nL ret R E F kc ks pc lv (.int (nI j) :: .ref a :: st) ws :=
  aw_aaldN hd he (aw_T3 hg) hj (by decide) (if_pos hj) k
end AWB
/-- a method that only reads -/
def aw_R (v0 : Value) (ws : va_W) : Option Value → va_W → Prop := fun v ws' => v = some v0 ∧ ws = ws'
