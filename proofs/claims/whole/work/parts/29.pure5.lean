-- drawing; walks; chances behind some steps
def pkF (f : Nat → Nat) (t : Nat) : Nat → Nat → Nat
  | 0, v => v
  | k + 1, v => if t < sN f (v + 1) then v else pkF f t k (v + 1)
theorem pkF_ok {f : Nat → Nat} {t n : Nat} (hn : t < sN f n) : ∀ {k v : Nat}, v + k = n → sN f v ≤ t → pkF f t k v < n ∧ sN f (pkF f t k v) ≤ t ∧ t < sN f (pkF f t k v + 1)
  | 0, v, h, h1 => by
    have : v = n := by omega
    subst this; omega
  | k + 1, v, h, h1 => by
    rw [pkF]
    by_cases e : t < sN f (v + 1)
    · rw [if_pos e]; exact ⟨by omega, h1, e⟩
    · rw [if_neg e]; exact pkF_ok hn (by omega) (by omega)
theorem pkF_eq {f : Nat → Nat} {t n v : Nat} (hv : v < n) (h1 : sN f v ≤ t) (h2 : t < sN f (v + 1)) : pkF f t n 0 = v := by
  have hn : t < sN f n := Nat.lt_of_lt_of_le h2 (sN_mono f (by omega))
  obtain ⟨-, a, b⟩ := pkF_ok hn (k := n) (v := 0) (by omega) (Nat.zero_le t)
  exact pick_uniq a b h1 h2
/-- half of a seed, as the machine moves it -/
def hz (z : Int32) : Nat := z.toBitVec.toNat / 2
theorem hz_lt (z : Int32) : hz z < 2 ^ 31 := by
  unfold hz
  have := z.toBitVec.isLt
  omega
theorem hz_eq (z : Int32) : (z.toUInt32 >>> ((nI 1).toUInt32 &&& Int32.toUInt32 31)).toInt32 = nI (hz z) := by
  apply Int32.toBitVec.inj
  apply BitVec.eq_of_toNat_eq
  rw [pk_ushr z (nI 1) 1 (by decide), pk_tn (by have := hz_lt z; omega)]
  rfl
/-- the next seed -/
def nz (z : Int32) : Int32 := z * 1664525 + 1013904223
/-- the node at which a drawn walk is behind k steps -/
def dwG (F : Nat → Int32 → Nat) (N : Int32 → Int32) : Nat → Nat → Int32 → Nat
  | 0, a, _ => a
  | k + 1, a, z => dwG F N k (F a (N z)) (N z)
theorem dwG_congr {F H : Nat → Int32 → Nat} {N : Int32 → Int32} {p : Nat → Prop} (h : ∀ a z, p a → F a z = H a z ∧ p (H a z)) : ∀ {k a : Nat} {z : Int32}, p a → dwG F N k a z = dwG H N k a z
  | 0, _, _, _ => rfl
  | k + 1, a, z, ha => by
    rw [dwG, dwG, (h a (N z) ha).1]
    exact dwG_congr h (h a (N z) ha).2
def drF (N : Nat → Nat → Nat) (T : Nat → Nat) (n : Nat) (a : Nat) (z : Int32) : Nat := pkF (N a) (hz z % T a) n 0
def dwS (N : Nat → Nat → Nat) (T : Nat → Nat) (n k a : Nat) (z : Int32) : Nat := dwG (drF N T n) nz k a z
theorem dwS_succ {N : Nat → Nat → Nat} {T : Nat → Nat} {n k a : Nat} {z : Int32} : dwS N T n (k + 1) a z = dwS N T n k (drF N T n a (nz z)) (nz z) := by
  unfold dwS
  rw [dwG]
theorem dwS_congr {N P : Nat → Nat → Nat} {T U : Nat → Nat} {n k a : Nat} {z : Int32} (ha : a < n) (h : ∀ u, u < n → (∀ v, v < n → N u v = P u v) ∧ T u = U u ∧ 0 < U u ∧ sN (P u) n = U u) : dwS N T n k a z = dwS P U n k a z := by
  unfold dwS
  refine dwG_congr (p := fun a => a < n) (fun a z ha => ?_) ha
  obtain ⟨e1, e2, e3, e4⟩ := h a ha
  have hl := Nat.mod_lt (hz z) e3
  unfold drF
  rw [e2]
  obtain ⟨q1, q2, q3⟩ := pkF_ok (f := P a) (t := hz z % U a) (n := n) (by rw [e4]; exact hl) (k := n) (v := 0) (by omega) (Nat.zero_le _)
  exact ⟨pkF_eq q1 (by rw [sN_congr (h := P a) (fun i hi => e1 i (by omega))]; exact q2) (by rw [sN_congr (h := P a) (fun i hi => e1 i (by omega))]; exact q3), q1⟩
/-- numbers instead of Ints -/
def mvN (Z : Nat → Nat → Nat) (n : Nat) (A : Nat → Nat) : Nat → Nat := fun v => sN (fun u => A u * Z u v) n
def itN (Z : Nat → Nat → Nat) (n : Nat) (A : Nat → Nat) : Nat → (Nat → Nat)
  | 0 => A
  | k + 1 => mvN Z n (itN Z n A k)
def dlN (u : Nat) : Nat → Nat := fun v => if v = u then 1 else 0
theorem sZ_cast (f : Nat → Nat) : ∀ n, sZ (fun i => (f i : Int)) n = (sN f n : Int)
  | 0 => rfl
  | n + 1 => by rw [sZ, sN, sZ_cast f n, Int.natCast_add]
theorem mv_cast {Z : Nat → Nat → Int} {Y : Nat → Nat → Nat} {n : Nat} {A : Nat → Int} {B : Nat → Nat} (hA : ∀ u, u < n → A u = (B u : Int)) {v : Nat} (hZ : ∀ u, u < n → Z u v = (Y u v : Int)) : mv Z n A v = (mvN Y n B v : Int) := by
  unfold mv mvN
  rw [← sZ_cast]
  refine sZ_congr (fun u hu => ?_)
  rw [hA u hu, hZ u hu, Int.natCast_mul]
theorem itM_cast {Z : Nat → Nat → Int} {Y : Nat → Nat → Nat} {n u : Nat} (hZ : ∀ i j, i < n → j < n → Z i j = (Y i j : Int)) : ∀ {k v : Nat}, v < n → itM Z n (dl u) k v = (itN Y n (dlN u) k v : Int)
  | 0, v, _ => by
    show dl u v = (dlN u v : Int)
    unfold dl dlN
    split <;> rfl
  | k + 1, v, hv => mv_cast (fun i hi => itM_cast hZ hi) (fun i hi => hZ i v hi hv)
theorem itN_congr {Z Y : Nat → Nat → Nat} {n : Nat} {A : Nat → Nat} (h : ∀ i j, i < n → j < n → Z i j = Y i j) : ∀ {k v : Nat}, v < n → itN Z n A k v = itN Y n A k v
  | 0, _, _ => rfl
  | k + 1, v, hv => sN_congr (fun i hi => by rw [itN_congr h hi, h i v hi hv])
theorem itN_le {Z : Nat → Nat → Nat} {n c : Nat} {u : Nat} (hn : n ≤ 5) (h : ∀ i j, i < n → j < n → Z i j ≤ c) : ∀ {k v : Nat}, v < n → itN Z n (dlN u) k v ≤ (5 * c) ^ k
  | 0, v, _ => by
    show dlN u v ≤ (5 * c) ^ 0
    unfold dlN
    split
    · exact Nat.le_refl 1
    · exact Nat.zero_le _
  | k + 1, v, hv => by
    have h1 := sN_le (f := fun i => itN Z n (dlN u) k i * Z i v) (b := (5 * c) ^ k * c) (n := n) (fun i hi => Nat.mul_le_mul (itN_le hn h hi) (h i v hi hv))
    have h2 : n * ((5 * c) ^ k * c) ≤ 5 * ((5 * c) ^ k * c) := Nat.mul_le_mul_right _ hn
    have h3 : (5 * c) ^ (k + 1) = 5 * ((5 * c) ^ k * c) := by rw [Nat.pow_succ, ← Nat.mul_assoc, Nat.mul_comm _ 5, Nat.mul_assoc]
    rw [h3]
    exact Nat.le_trans h1 h2
def aWalks (n : Nat) (W : Nat → Nat → Nat) (u v k : Int32) : Int64 := if nb n u = true ∧ nb n v = true then (if ib 12 k = true then lI (itN W n (dlN (ix u)) (ix k) (ix v) : Int) else -2) else -1
def uN (n x y : Nat) (W : Nat → Nat → Nat) (J : Nat → Nat) : Nat := lcmT (tt n x y W J) n
def fN (n x y : Nat) (W : Nat → Nat → Nat) (J : Nat → Nat) : Nat → Nat → Nat := fun i j => uN n x y W J / tt n x y W J i * nr n x y W J i j
def aAfter (n x y : Nat) (W : Nat → Nat → Nat) (J : Nat → Nat) (u v k p : Int32) : Int64 := if nb n u = true ∧ nb n v = true then (if ib 3 k = true ∧ pb p = true then lI (fracN (itN (fN n x y W J) n (dlN (ix u)) (ix k) (ix v)) (uN n x y W J ^ ix k) (ix p) : Int) else -2) else -1
def aDrawn (n x y : Nat) (W : Nat → Nat → Nat) (J : Nat → Nat) (u z k : Int32) : Int32 := if nb n u = true then (if ib 200 k = true then nI (dwS (nr n x y W J) (tt n x y W J) n (ix k) (ix u) z) else -2) else -1
theorem fN_le {n x y : Nat} {W : Nat → Nat → Nat} {J : Nat → Nat} (h : okG n x y W J) {i j : Nat} (hi : i < n) (hj : j < n) : fN n x y W J i j ≤ 10080 := by
  obtain ⟨u0, u1⟩ := unit_ok h (Nat.le_refl n)
  unfold fN
  have h1 : nr n x y W J i j ≤ tt n x y W J i := nr_le hj
  have h2 : uN n x y W J / tt n x y W J i * nr n x y W J i j ≤ uN n x y W J / tt n x y W J i * tt n x y W J i := Nat.mul_le_mul_left _ h1
  have h3 : uN n x y W J / tt n x y W J i * tt n x y W J i ≤ uN n x y W J := Nat.div_mul_le_self _ _
  have h4 : uN n x y W J ≤ 10080 := u1
  omega
