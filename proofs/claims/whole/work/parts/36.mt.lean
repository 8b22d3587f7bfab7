-- a determinant is linear in its rows: a sum over all step maps
theorem sZ_add (f h : Nat → Int) : ∀ n, sZ (fun i => f i + h i) n = sZ f n + sZ h n
  | 0 => rfl
  | n + 1 => by rw [sZ, sZ, sZ, sZ_add f h n]; omega
theorem sZ_mulL (c : Int) (f : Nat → Int) : ∀ n, sZ (fun i => c * f i) n = c * sZ f n
  | 0 => by simp [sZ]
  | n + 1 => by rw [sZ, sZ, sZ_mulL c f n, Int.mul_add]
theorem sZ_mulR (c : Int) (f : Nat → Int) : ∀ n, sZ (fun i => f i * c) n = sZ f n * c
  | 0 => by simp [sZ]
  | n + 1 => by rw [sZ, sZ, sZ_mulR c f n, Int.add_mul]
theorem sZ_zero : ∀ n, sZ (fun _ => 0) n = 0
  | 0 => rfl
  | n + 1 => by rw [sZ, sZ_zero n]; rfl
theorem sZ_swap (f : Nat → Nat → Int) (m : Nat) : ∀ n, sZ (fun c => sZ (fun w => f c w) m) n = sZ (fun w => sZ (fun c => f c w) n) m
  | 0 => by
    show 0 = sZ (fun _ => 0) m
    rw [sZ_zero]
  | n + 1 => by
    rw [sZ, sZ_swap f m n, ← sZ_add]
    rfl
theorem sZ_pick {x : Nat → Int} {j : Nat} : ∀ {n : Nat}, j < n → sZ (fun w => if w = j then x w else 0) n = x j
  | 0, h => absurd h (Nat.not_lt_zero j)
  | n + 1, h => by
    rw [sZ]
    by_cases e : n = j
    · subst e
      rw [if_pos rfl, sZ_congr (h := fun _ => 0) (fun i hi => if_neg (by omega)), sZ_zero]
      omega
    · rw [if_neg e, sZ_pick (by omega)]
      omega
theorem exD_rows {Z Y : Nat → Nat → Int} {n : Nat} : ∀ (k line used : Nat), line + k ≤ n → (∀ i j, line ≤ i → i < n → j < n → Z i j = Y i j) → exD Z n k line used = exD Y n k line used
  | 0, _, _, _, _ => rfl
  | k + 1, line, used, h, e => by
    rw [exD, exD]
    refine sZ_congr (fun c hc => ?_)
    rw [e line c (Nat.le_refl _) (by omega) hc, exD_rows k (line + 1) (used ||| 2 ^ c) (by omega) (fun i j hi => e i j (by omega))]
def setr (Z : Nat → Nat → Int) (r : Nat) (f : Nat → Int) : Nat → Nat → Int := fun i j => if i = r then f j else Z i j
theorem exD_lin {Z : Nat → Nat → Int} {n m r : Nat} {a : Nat → Int} {R : Nat → Nat → Int} : ∀ (k line used : Nat), line + k ≤ n → line ≤ r → r < line + k → (∀ c, c < n → Z r c = sZ (fun w => a w * R w c) m) → exD Z n k line used = sZ (fun w => a w * exD (setr Z r (R w)) n k line used) m
  | 0, _, _, _, _, h2, _ => by omega
  | k + 1, line, used, h, h1, h2, e => by
    have key : ∀ c, c < n → (if used.testBit c = true then 0 else sg used c * Z line c * exD Z n k (line + 1) (used ||| 2 ^ c)) = sZ (fun w => a w * (if used.testBit c = true then 0 else sg used c * setr Z r (R w) line c * exD (setr Z r (R w)) n k (line + 1) (used ||| 2 ^ c))) m := by
      intro c hc
      by_cases hu : used.testBit c = true
      · rw [if_pos hu, sZ_congr (h := fun _ => 0) (fun w _ => by rw [if_pos hu, Int.mul_zero]), sZ_zero]
      · rw [if_neg hu]
        by_cases er : r = line
        · subst er
          have e1 : ∀ w, exD (setr Z r (R w)) n k (r + 1) (used ||| 2 ^ c) = exD Z n k (r + 1) (used ||| 2 ^ c) := fun w => exD_rows k _ _ (by omega) (fun i j hi _ _ => by unfold setr; rw [if_neg (by omega)])
          rw [sZ_congr (h := fun w => (sg used c * exD Z n k (r + 1) (used ||| 2 ^ c)) * (a w * R w c)) (fun w _ => by
            rw [if_neg hu, e1 w]
            unfold setr
            rw [if_pos rfl]
            grind), sZ_mulL, e c hc]
          grind
        · have e1 := exD_lin k (line + 1) (used ||| 2 ^ c) (by omega) (by omega) (by omega) e
          rw [sZ_congr (h := fun w => (sg used c * Z line c) * (a w * exD (setr Z r (R w)) n k (line + 1) (used ||| 2 ^ c))) (fun w _ => by
            rw [if_neg hu]
            have e2 : setr Z r (R w) line c = Z line c := by unfold setr; rw [if_neg (by omega)]
            rw [e2]
            grind), sZ_mulL, ← e1]
    rw [exD, sZ_congr key, sZ_swap]
    refine sZ_congr (fun w _ => ?_)
    rw [sZ_mulL, exD]
/-- the sum over all step maps -/
def nst (a : Nat → Nat → Int) (n : Nat) (G : (Nat → Nat) → Int) : Nat → Nat → (Nat → Nat) → Int
  | 0, _, f => G f
  | k + 1, r, f => sZ (fun w => a r w * nst a n G k (r + 1) (fup f r w)) n
theorem nst_congr {a b : Nat → Nat → Int} {n : Nat} {G H : (Nat → Nat) → Int} (ha : ∀ r w, r < n → w < n → a r w = b r w) (hG : ∀ f, (∀ i, i < n → f i < n) → G f = H f) : ∀ (k r : Nat) (f : Nat → Nat), r + k = n → (∀ i, i < r → f i < n) → nst a n G k r f = nst b n H k r f
  | 0, r, f, h, hf => hG f (fun i hi => hf i (by omega))
  | k + 1, r, f, h, hf => by
    rw [nst, nst]
    refine sZ_congr (fun w hw => ?_)
    rw [ha r w (by omega) hw, nst_congr ha hG k (r + 1) (fup f r w) (by omega) (fun i hi => by
      unfold fup
      split
      · exact hw
      · exact hf i (by omega))]
theorem exD_nst {Z : Nat → Nat → Int} {n : Nat} {a : Nat → Nat → Int} {R : Nat → Nat → Nat → Int} (e : ∀ r c, r < n → c < n → Z r c = sZ (fun w => a r w * R r w c) n) : ∀ (k r : Nat) (f : Nat → Nat), r + k = n → exD (fun i j => if i < r then R i (f i) j else Z i j) n n 0 0 = nst a n (fun f => exD (fun i j => R i (f i) j) n n 0 0) k r f
  | 0, r, f, h => by
    rw [nst]
    exact exD_congr n 0 0 (by omega) (fun i j hi _ => by rw [if_pos (by omega)])
  | k + 1, r, f, h => by
    rw [nst, exD_lin (r := r) (m := n) (a := a r) (R := R r) n 0 0 (by omega) (by omega) (by omega) (fun c hc => by rw [if_neg (by omega)]; exact e r c (by omega) hc)]
    refine sZ_congr (fun w _ => ?_)
    rw [← exD_nst e k (r + 1) (fup f r w) (by omega)]
    congr 1
    refine exD_congr n 0 0 (by omega) (fun i j hi _ => ?_)
    unfold setr
    by_cases e1 : i = r
    · subst e1; rw [if_pos rfl, if_pos (by omega), fup_s]
    · rw [if_neg e1]
      show (if i < r then R i (f i) j else Z i j) = _
      by_cases e2 : i < r
      · rw [if_pos e2, if_pos (by omega), fup_n e1]
      · rw [if_neg e2, if_neg (by omega)]
theorem exD_all {Z : Nat → Nat → Int} {n : Nat} {a : Nat → Nat → Int} {R : Nat → Nat → Nat → Int} (e : ∀ r c, r < n → c < n → Z r c = sZ (fun w => a r w * R r w c) n) : exD Z n n 0 0 = nst a n (fun f => exD (fun i j => R i (f i) j) n n 0 0) n 0 (fun _ => 0) := by
  rw [← exD_nst e n 0 (fun _ => 0) (by omega)]
  exact exD_congr n 0 0 (by omega) (fun i j _ _ => by rw [if_neg (by omega)])
-- and in a column
def setc (Z : Nat → Nat → Int) (a : Nat) (b : Nat → Int) : Nat → Nat → Int := fun i j => if j = a then b i else Z i j
def cu (used : Nat) : Nat → Nat
  | 0 => 0
  | k + 1 => cu used k + (if used.testBit k = true then 0 else 1)
theorem cu_congr {u v : Nat} : ∀ {n : Nat}, (∀ i, i < n → u.testBit i = v.testBit i) → cu u n = cu v n
  | 0, _ => rfl
  | n + 1, h => by rw [cu, cu, cu_congr (fun i hi => h i (by omega)), h n (by omega)]
theorem cu_or {used c : Nat} : ∀ {n : Nat}, c < n → used.testBit c = false → cu (used ||| 2 ^ c) n + 1 = cu used n
  | 0, h, _ => absurd h (Nat.not_lt_zero c)
  | n + 1, h, hu => by
    rw [cu, cu]
    by_cases e : n = c
    · subst e
      rw [cu_congr (v := used) (fun i hi => by rw [Nat.testBit_or, Nat.testBit_two_pow]; simp [show ¬ n = i by omega]), Nat.testBit_or, Nat.testBit_two_pow, hu]
      simp
    · have ih := cu_or (used := used) (c := c) (n := n) (by omega) hu
      rw [Nat.testBit_or, Nat.testBit_two_pow]
      have : decide (c = n) = false := by simp; omega
      rw [this, Bool.or_false]
      omega
theorem or_mono {used c a : Nat} (h : used.testBit a = true) : (used ||| 2 ^ c).testBit a = true := by rw [Nat.testBit_or, h]; rfl
theorem exD_free {Z : Nat → Nat → Int} {n a : Nat} {b c : Nat → Int} : ∀ (k line used : Nat), used.testBit a = true → exD (setc Z a b) n k line used = exD (setc Z a c) n k line used
  | 0, _, _, _ => rfl
  | k + 1, line, used, h => by
    rw [exD, exD]
    refine sZ_congr (fun x _ => ?_)
    rw [exD_free k (line + 1) (used ||| 2 ^ x) (or_mono h)]
    by_cases hx : used.testBit x = true
    · rw [if_pos hx, if_pos hx]
    · rw [if_neg hx, if_neg hx]
      have e : x ≠ a := fun q => hx (by rw [q]; exact h)
      unfold setc
      rw [if_neg e, if_neg e]
theorem exD_col {Z : Nat → Nat → Int} {n a : Nat} {b c : Nat → Int} (ha : a < n) : ∀ (k line used : Nat), cu used n = k → used.testBit a = false → exD (setc Z a (fun i => b i - c i)) n k line used = exD (setc Z a b) n k line used - exD (setc Z a c) n k line used
  | 0, line, used, h, hu => by
    have h1 := cu_or ha hu
    omega
  | k + 1, line, used, h, hu => by
    rw [exD, exD, exD, Int.sub_eq_add_neg, ← Int.neg_one_mul (sZ _ n), ← sZ_mulL, ← sZ_add]
    refine sZ_congr (fun x hx => ?_)
    by_cases hxu : used.testBit x = true
    · rw [if_pos hxu, if_pos hxu, if_pos hxu]; rfl
    · rw [if_neg hxu, if_neg hxu, if_neg hxu]
      have hxf : used.testBit x = false := by cases q : used.testBit x with
        | false => rfl
        | true => exact absurd q hxu
      by_cases e : x = a
      · subst e
        have hb : (used ||| 2 ^ x).testBit x = true := by rw [Nat.testBit_or, Nat.testBit_two_pow]; simp
        rw [exD_free (c := b) k (line + 1) _ hb, exD_free (b := c) (c := b) k (line + 1) _ hb]
        have e1 : ∀ z : Nat → Int, setc Z x z line x = z line := fun z => by unfold setc; rw [if_pos rfl]
        rw [e1, e1, e1]
        grind
      · have h1 := cu_or hx hxf
        have hb : (used ||| 2 ^ x).testBit a = false := by rw [Nat.testBit_or, Nat.testBit_two_pow, hu]; simp [e]
        rw [exD_col ha k (line + 1) (used ||| 2 ^ x) (by omega) hb]
        have e1 : ∀ z : Nat → Int, setc Z a z line x = Z line x := fun z => by unfold setc; rw [if_neg e]
        rw [e1, e1, e1]
        grind
theorem cu_0 : ∀ n, cu 0 n = n
  | 0 => rfl
  | n + 1 => by rw [cu, cu_0 n]; simp
