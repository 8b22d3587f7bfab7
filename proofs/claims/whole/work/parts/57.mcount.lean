-- the reference's count of step maps, as a sum
def mnP (U n : Nat) : Nat → Nat
  | 0 => 1
  | k + 1 => mnP U n k * (if U.testBit k = true then n else 1)
def mny (U n : Nat) : Nat → Nat → Nat
  | 0, _ => 1
  | k + 1, r => (if U.testBit r = true then n else 1) * mny U n k (r + 1)
theorem mnP_mny {U n : Nat} : ∀ k r, mnP U n (r + k) = mnP U n r * mny U n k r
  | 0, r => by rw [mny, Nat.mul_one]; rfl
  | k + 1, r => by
    have := mnP_mny (U := U) (n := n) k (r + 1)
    rw [show r + (k + 1) = r + 1 + k by omega, this, mny, mnP, Nat.mul_assoc]
theorem mnP_le {U n : Nat} (hn : n ≤ 5) : ∀ k, mnP U n k ≤ 5 ^ k
  | 0 => Nat.le_refl 1
  | k + 1 => by
    rw [mnP, Nat.pow_succ]
    refine Nat.mul_le_mul (mnP_le hn k) ?_
    split <;> omega
/-- what the map with number p adds -/
def cS (P : Nat → Nat → Nat) (n U : Nat) (G : (Nat → Nat) → Nat) : Nat → Nat → Nat → (Nat → Nat) → Nat → Nat
  | 0, _, _, f, w => w * G f
  | k + 1, r, p, f, w => if U.testBit r = true then cS P n U G k (r + 1) (p / n) (fup f r (p % n)) (w * P r (p % n)) else cS P n U G k (r + 1) p f w
theorem sN_split (f : Nat → Nat) (a : Nat) : ∀ b, sN f (a + b) = sN f a + sN (fun i => f (a + i)) b
  | 0 => rfl
  | b + 1 => by
    rw [← Nat.add_assoc, sN, sN_split f a b, sN, Nat.add_assoc]
theorem sN_dig (n : Nat) (h0 : 0 < n) (h : Nat → Nat → Nat) : ∀ M, sN (fun p => h (p / n) (p % n)) (n * M) = sN (fun q => sN (fun d => h q d) n) M
  | 0 => rfl
  | M + 1 => by
    rw [Nat.mul_succ, sN_split, sN_dig n h0 h M, sN]
    congr 1
    refine sN_congr (fun i hi => ?_)
    rw [Nat.mul_add_div h0, Nat.div_eq_of_lt hi, Nat.add_zero, Nat.mul_add_mod, Nat.mod_eq_of_lt hi]
theorem sN_swap (h : Nat → Nat → Nat) (m : Nat) : ∀ n, sN (fun c => sN (fun d => h c d) m) n = sN (fun d => sN (fun c => h c d) n) m
  | 0 => by
    induction m with
    | zero => rfl
    | succ m ih => exact ih
  | n + 1 => by
    rw [sN, sN_swap h m n, ← sN_add]
    exact sN_congr (fun d _ => rfl)
theorem cS_sum {P : Nat → Nat → Nat} {n U : Nat} {G : (Nat → Nat) → Nat} (h0 : 0 < n) : ∀ (k r : Nat) (f : Nat → Nat) (w : Nat), sN (fun p => cS P n U G k r p f w) (mny U n k r) = w * fsU P n U G k r f
  | 0, r, f, w => by rw [mny, sN, sN, fsU, Nat.zero_add]; rfl
  | k + 1, r, f, w => by
    rw [mny, fsU]
    by_cases q : U.testBit r = true
    · rw [if_pos q, if_pos q, ← sN_mul]
      have e : sN (fun p => cS P n U G (k + 1) r p f w) (n * mny U n k (r + 1)) = sN (fun p => (fun a d => cS P n U G k (r + 1) a (fup f r d) (w * P r d)) (p / n) (p % n)) (n * mny U n k (r + 1)) := sN_congr (fun p _ => by rw [cS, if_pos q])
      rw [e, sN_dig n h0 (fun a d => cS P n U G k (r + 1) a (fup f r d) (w * P r d)), sN_swap]
      refine sN_congr (fun d _ => ?_)
      rw [cS_sum h0 k (r + 1), Nat.mul_assoc]
    · rw [if_neg q, if_neg q, Nat.one_mul]
      rw [sN_congr (h := fun p => cS P n U G k (r + 1) p f w) (fun p _ => by rw [cS, if_neg q]), cS_sum h0 k (r + 1)]
/-- only what a map does at U matters -/
theorem cS_agr {P : Nat → Nat → Nat} {n U : Nat} {G : (Nat → Nat) → Nat} (h0 : 0 < n) (hG : ∀ f h, agr n U n f h → G f = G h) : ∀ (k r p : Nat) (f h : Nat → Nat) (w : Nat), r + k = n → agr n U r f h → cS P n U G k r p f w = cS P n U G k r p h w
  | 0, r, p, f, h, w, hr, ha => by
    have : r = n := by omega
    subst this
    rw [cS, cS, hG f h ha]
  | k + 1, r, p, f, h, w, hr, ha => by
    rw [cS, cS]
    by_cases q : U.testBit r = true
    · rw [if_pos q, if_pos q]
      refine cS_agr h0 hG k (r + 1) _ _ _ _ (by omega) (fun i hi hu => ?_)
      by_cases e : i = r
      · subst e; rw [fup_at, fup_at]; exact ⟨rfl, Nat.mod_lt _ h0⟩
      · rw [fup_ne e, fup_ne e]; exact ha i (by omega) hu
    · rw [if_neg q, if_neg q]
      refine cS_agr h0 hG k (r + 1) _ _ _ _ (by omega) (fun i hi hu => ?_)
      by_cases e : i = r
      · subst e; exact absurd hu q
      · exact ha i (by omega) hu
theorem FA_agr {n U : Nat} (f h : Nat → Nat) (e : agr n U n f h) : FA n U f = FA n U h := by unfold FA; rw [e.acyc]
theorem FG_agr {n U a G : Nat} (ha : a < n) (f h : Nat → Nat) (e : agr n U n f h) : FG n U a G f = FG n U a G h := by unfold FG; rw [e.acyc, e.rch ha]
/-- chances of steps that stay in `over` -/
def Pov (P : Nat → Nat → Nat) (ov : Nat) : Nat → Nat → Nat := fun i j => if ov.testBit j = true then P i j else 0
def rtI (U : Nat) (f : Nat → Nat) (v : Nat) : Int32 := if U.testBit (rch U f 5 v) = true then -1 else nI (rch U f 5 v)
/-- a map of U into ov -/
def into (n U ov : Nat) (f : Nat → Nat) : Prop := ∀ i, i < n → U.testBit i = true → f i < n ∧ ov.testBit (f i) = true
theorem rch_0 {U : Nat} {f : Nat → Nat} {k v : Nat} (h : U.testBit v = false) : rch U f k v = v := by
  cases k with
  | zero => rfl
  | succ k => rw [rch, if_neg (by rw [h]; decide)]
theorem rch_1 {U : Nat} {f : Nat → Nat} {k v : Nat} (h : U.testBit v = true) : rch U f (k + 1) v = rch U f k (f v) := by rw [rch, if_pos h]
theorem rch_ov {n U ov : Nat} {f : Nat → Nat} (h : into n U ov f) : ∀ (k v : Nat), v < n → ov.testBit v = true → rch U f k v < n ∧ ov.testBit (rch U f k v) = true
  | 0, v, hv, ho => ⟨hv, ho⟩
  | k + 1, v, hv, ho => by
    by_cases q : U.testBit v = true
    · rw [rch_1 q]; exact rch_ov h k (f v) (h v hv q).1 (h v hv q).2
    · rw [rch_0 (tb_ne q)]; exact ⟨hv, ho⟩
theorem acyc_iff {n U : Nat} {f : Nat → Nat} : acyc n U f = true ↔ ∀ v, v < n → U.testBit v = true → U.testBit (rch U f 5 v) = false := by
  unfold acyc
  rw [List.all_eq_true]
  constructor
  · intro h v hv _
    have := h v (List.mem_range.mpr hv)
    simpa using this
  · intro h v hv
    have hv := List.mem_range.mp hv
    cases q : U.testBit v with
    | true => rw [h v hv q]; rfl
    | false => rw [rch_0 q, q]; rfl
theorem an_tb {ov ro v : Nat} (ho : ov < 32) (hr : ro < 32) : (an ov ro).testBit v = true ↔ ov.testBit v = true ∧ ro.testBit v = false := an_bits ho hr
