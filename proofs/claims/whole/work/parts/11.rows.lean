-- rows in canonical words: ints out of Nat, longs out of Int
section AWC
variable {g : aw_G} {y : MethodName} {cc : ByteArray} {nL : Nat} {ret : Option FieldType} {R : Room} {E : (Nat → Prop) → State → Array Value → Prop} {F : List Frame → Array Value → State → (Nat → Prop) → State → Prop} {kc ks pc : Nat} {lv : List (Nat × Value)} {st : List Value} {ws : va_W}
theorem aw_iaddN {a b : Nat} (hd : decode cc pc = .ok (.iadd, 1)) (k : AW g y cc nL ret R E F kc ks (pc + 1) lv (.int (nI (a + b)) :: st) ws) : AW g y cc nL ret R E F kc ks pc lv (.int (nI b) :: .int (nI a) :: st) ws := aw_iadd hd (aw_nmi (nI_add a b) k)
theorem aw_imulN {a b : Nat} (hd : decode cc pc = .ok (.imul, 1)) (k : AW g y cc nL ret R E F kc ks (pc + 1) lv (.int (nI (a * b)) :: st) ws) : AW g y cc nL ret R E F kc ks pc lv (.int (nI b) :: .int (nI a) :: st) ws := aw_imul hd (aw_nmi (pk_mul a b) k)
theorem aw_isubN {a b : Nat} (hd : decode cc pc = .ok (.isub, 1)) (h : b ≤ a) (k : AW g y cc nL ret R E F kc ks (pc + 1) lv (.int (nI (a - b)) :: st) ws) : AW g y cc nL ret R E F kc ks pc lv (.int (nI b) :: .int (nI a) :: st) ws := aw_isub hd (aw_nmi (pk_sub h) k)
theorem aw_idivN {a b : Nat} (hd : decode cc pc = .ok (.idiv, 1)) (h0 : 0 < b) (ha : a < 2 ^ 31) (hb : b < 2 ^ 31) (k : AW g y cc nL ret R E F kc ks (pc + 1) lv (.int (nI (a / b)) :: st) ws) : AW g y cc nL ret R E F kc ks pc lv (.int (nI b) :: .int (nI a) :: st) ws := aw_idiv hd (nI_ne0 h0 hb) (aw_nmi (pk_div ha h0 hb) k)
theorem aw_iremN {a b : Nat} (hd : decode cc pc = .ok (.irem, 1)) (h0 : 0 < b) (ha : a < 2 ^ 31) (hb : b < 2 ^ 31) (k : AW g y cc nL ret R E F kc ks (pc + 1) lv (.int (nI (a % b)) :: st) ws) : AW g y cc nL ret R E F kc ks pc lv (.int (nI b) :: .int (nI a) :: st) ws := aw_irem hd (nI_ne0 h0 hb) (aw_nmi (pk_rem ha h0 hb) k)
theorem aw_laddI {a b : Int} (hd : decode cc pc = .ok (.ladd, 1)) (k : AW g y cc nL ret R E F kc ks (pc + 1) lv (.long (lI (a + b)) :: st) ws) : AW g y cc nL ret R E F kc ks pc lv (.long (lI b) :: .long (lI a) :: st) ws := aw_ladd hd (aw_nml (lI_add a b) k)
theorem aw_lmulI {a b : Int} (hd : decode cc pc = .ok (.lmul, 1)) (k : AW g y cc nL ret R E F kc ks (pc + 1) lv (.long (lI (a * b)) :: st) ws) : AW g y cc nL ret R E F kc ks pc lv (.long (lI b) :: .long (lI a) :: st) ws := aw_lmul hd (aw_nml (lI_mul a b) k)
theorem aw_lsubI {a b : Int} (hd : decode cc pc = .ok (.lsub, 1)) (k : AW g y cc nL ret R E F kc ks (pc + 1) lv (.long (lI (a - b)) :: st) ws) : AW g y cc nL ret R E F kc ks pc lv (.long (lI b) :: .long (lI a) :: st) ws := aw_lsub hd (aw_nml (lI_sub a b) k)
theorem aw_lnegI {a : Int} (hd : decode cc pc = .ok (.lneg, 1)) (k : AW g y cc nL ret R E F kc ks (pc + 1) lv (.long (lI (-a)) :: st) ws) : AW g y cc nL ret R E F kc ks pc lv (.long (lI a) :: st) ws := aw_lneg hd (aw_nml (lI_neg a) k)
theorem aw_i2lN {a : Nat} (hd : decode cc pc = .ok (.i2l, 1)) (ha : a < 2 ^ 31) (k : AW g y cc nL ret R E F kc ks (pc + 1) lv (.long (lI (a : Int)) :: st) ws) : AW g y cc nL ret R E F kc ks pc lv (.int (nI a) :: st) ws := aw_i2l hd (aw_nml (nI_lI ha) k)
theorem lI_l2i (a : Nat) : (lI (a : Int)).toInt32 = nI a := by rw [lI_N]; exact lN_i a
theorem aw_l2iN {a : Nat} (hd : decode cc pc = .ok (.l2i, 1)) (k : AW g y cc nL ret R E F kc ks (pc + 1) lv (.int (nI a) :: st) ws) : AW g y cc nL ret R E F kc ks pc lv (.long (lI (a : Int)) :: st) ws := aw_l2i hd (aw_nmi (lI_l2i a) k)
theorem aw_ldivI {a b : Nat} (hd : decode cc pc = .ok (.ldiv, 1)) (h0 : 0 < b) (ha : a < 2 ^ 63) (hb : b < 2 ^ 63) (k : AW g y cc nL ret R E F kc ks (pc + 1) lv (.long (lI ((a / b : Nat) : Int)) :: st) ws) : AW g y cc nL ret R E F kc ks pc lv (.long (lI (b : Int)) :: .long (lI (a : Int)) :: st) ws := by
  refine aw_ldiv hd (fun q => ?_) (aw_nml (z := lI ((a / b : Nat) : Int)) ?_ k)
  · rw [lI_N] at q
    have e := (pk_lEQ hb (by decide : (0 : Nat) < 2 ^ 63)).mp q
    omega
  · rw [lI_N, lI_N, lI_N]; exact pk_lDiv ha h0 hb
theorem aw_lremI {a b : Nat} (hd : decode cc pc = .ok (.lrem, 1)) (h0 : 0 < b) (ha : a < 2 ^ 63) (hb : b < 2 ^ 63) (k : AW g y cc nL ret R E F kc ks (pc + 1) lv (.long (lI ((a % b : Nat) : Int)) :: st) ws) : AW g y cc nL ret R E F kc ks pc lv (.long (lI (b : Int)) :: .long (lI (a : Int)) :: st) ws := by
  refine aw_lrem hd (fun q => ?_) (aw_nml (z := lI ((a % b : Nat) : Int)) ?_ k)
  · rw [lI_N] at q
    have e := (pk_lEQ hb (by decide : (0 : Nat) < 2 ^ 63)).mp q
    omega
  · rw [lI_N, lI_N, lI_N]; exact pk_lRem ha h0 hb
theorem lI_toInt {z : Int} (h1 : -2 ^ 63 ≤ z) (h2 : z < 2 ^ 63) : (lI z).toInt = z := Int64.toInt_ofInt_of_le h1 h2
theorem lI_inj {a b : Int} (a1 : -2 ^ 63 ≤ a) (a2 : a < 2 ^ 63) (b1 : -2 ^ 63 ≤ b) (b2 : b < 2 ^ 63) : lI a = lI b ↔ a = b := by
  constructor
  · intro h
    have e := congrArg Int64.toInt h
    rwa [lI_toInt a1 a2, lI_toInt b1 b2] at e
  · intro h; rw [h]
theorem lI_lt {a b : Int} (a1 : -2 ^ 63 ≤ a) (a2 : a < 2 ^ 63) (b1 : -2 ^ 63 ≤ b) (b2 : b < 2 ^ 63) : lI a < lI b ↔ a < b := by
  rw [Int64.lt_iff_toInt_lt, lI_toInt a1 a2, lI_toInt b1 b2]
/-- lcmp, then a branch: by the Ints -/
def cz (a b : Int) : Int32 := if b < a then 1 else if a = b then 0 else -1
theorem lg_cmp_cz {a b : Int} (a1 : -2 ^ 63 ≤ a) (a2 : a < 2 ^ 63) (b1 : -2 ^ 63 ≤ b) (b2 : b < 2 ^ 63) : lg_cmp (lI a) (lI b) = cz a b := by
  unfold lg_cmp cz
  by_cases h : b < a
  · rw [if_pos h, if_pos ((lI_lt b1 b2 a1 a2).mpr h)]
  · rw [if_neg h, if_neg (fun q => h ((lI_lt b1 b2 a1 a2).mp q))]
    by_cases h2 : a = b
    · rw [if_pos h2, if_pos ((lI_inj a1 a2 b1 b2).mpr h2)]
    · rw [if_neg h2, if_neg (fun q => h2 ((lI_inj a1 a2 b1 b2).mp q))]
theorem aw_lcmpI {a b : Int} (hd : decode cc pc = .ok (.lcmp, 1)) (a1 : -2 ^ 63 ≤ a) (a2 : a < 2 ^ 63) (b1 : -2 ^ 63 ≤ b) (b2 : b < 2 ^ 63) (k : AW g y cc nL ret R E F kc ks (pc + 1) lv (.int (cz a b) :: st) ws) : AW g y cc nL ret R E F kc ks pc lv (.long (lI b) :: .long (lI a) :: st) ws := aw_lcmp hd (aw_nmi (lg_cmp_cz a1 a2 b1 b2) k)
theorem cz_eq {a b : Int} : cz a b = 0 ↔ a = b := by
  unfold cz
  by_cases h : b < a
  · rw [if_pos h]; exact ⟨fun q => absurd q (by decide), fun q => by omega⟩
  · rw [if_neg h]
    by_cases h2 : a = b
    · rw [if_pos h2]; exact ⟨fun _ => h2, fun _ => rfl⟩
    · rw [if_neg h2]; exact ⟨fun q => absurd q (by decide), fun q => absurd q h2⟩
theorem cz_gt {a b : Int} : 0 < cz a b ↔ b < a := by
  unfold cz
  by_cases h : b < a
  · rw [if_pos h]; exact ⟨fun _ => h, fun _ => by decide⟩
  · rw [if_neg h]
    by_cases h2 : a = b
    · rw [if_pos h2]; exact ⟨fun q => absurd q (by decide), fun q => absurd q h⟩
    · rw [if_neg h2]; exact ⟨fun q => absurd q (by decide), fun q => absurd q h⟩
theorem cz_le {a b : Int} : cz a b ≤ 0 ↔ a ≤ b := by
  unfold cz
  by_cases h : b < a
  · rw [if_pos h]; exact ⟨fun q => absurd q (by decide), fun q => by omega⟩
  · rw [if_neg h]
    by_cases h2 : a = b
    · rw [if_pos h2]; exact ⟨fun _ => by omega, fun _ => by decide⟩
    · rw [if_neg h2]; exact ⟨fun _ => by omega, fun _ => by decide⟩
theorem aw_if_eqC {a b : Int} {off : Int} {tgt : Nat} (hd : decode cc pc = .ok (.ifCond .eq off, 3)) (ht : (pc : Int) + off = (tgt : Int)) (kt : a = b → AW g y cc nL ret R E F kc ks tgt lv st ws) (kf : ¬ a = b → AW g y cc nL ret R E F kc ks (pc + 3) lv st ws) : AW g y cc nL ret R E F kc ks pc lv (.int (cz a b) :: st) ws := aw_if_eq hd ht (fun h => kt (cz_eq.mp h)) (fun h => kf (fun q => h (cz_eq.mpr q)))
theorem aw_if_neC {a b : Int} {off : Int} {tgt : Nat} (hd : decode cc pc = .ok (.ifCond .ne off, 3)) (ht : (pc : Int) + off = (tgt : Int)) (kt : ¬ a = b → AW g y cc nL ret R E F kc ks tgt lv st ws) (kf : a = b → AW g y cc nL ret R E F kc ks (pc + 3) lv st ws) : AW g y cc nL ret R E F kc ks pc lv (.int (cz a b) :: st) ws := aw_if_ne hd ht (fun h => kt (fun q => h (cz_eq.mpr q))) (fun h => kf (cz_eq.mp h))
theorem aw_if_gtC {a b : Int} {off : Int} {tgt : Nat} (hd : decode cc pc = .ok (.ifCond .gt off, 3)) (ht : (pc : Int) + off = (tgt : Int)) (kt : b < a → AW g y cc nL ret R E F kc ks tgt lv st ws) (kf : a ≤ b → AW g y cc nL ret R E F kc ks (pc + 3) lv st ws) : AW g y cc nL ret R E F kc ks pc lv (.int (cz a b) :: st) ws := aw_if_gt hd ht (fun h => kt (cz_gt.mp h)) (fun h => kf (Int.not_lt.mp (fun q => h (cz_gt.mpr q))))
theorem aw_if_leC {a b : Int} {off : Int} {tgt : Nat} (hd : decode cc pc = .ok (.ifCond .le off, 3)) (ht : (pc : Int) + off = (tgt : Int)) (kt : a ≤ b → AW g y cc nL ret R E F kc ks tgt lv st ws) (kf : b < a → AW g y cc nL ret R E F kc ks (pc + 3) lv st ws) : AW g y cc nL ret R E F kc ks pc lv (.int (cz a b) :: st) ws := aw_if_le hd ht (fun h => kt (cz_le.mp h)) (fun h => kf (Int.not_le.mp (fun q => h (cz_le.mpr q))))
/-- any int against a node's count: in range, or not -/
theorem aw_if_ltX {x : Int32} {off : Int} {tgt : Nat} (hd : decode cc pc = .ok (.ifCond .lt off, 3)) (ht : (pc : Int) + off = (tgt : Int)) (kt : x < 0 → AW g y cc nL ret R E F kc ks tgt lv st ws) (kf : (∃ j : Nat, j < 2 ^ 31 ∧ x = nI j) → AW g y cc nL ret R E F kc ks (pc + 3) lv st ws) : AW g y cc nL ret R E F kc ks pc lv (.int x :: st) ws := aw_if_lt hd ht kt (fun h => kf (nI_of h))
end AWC
