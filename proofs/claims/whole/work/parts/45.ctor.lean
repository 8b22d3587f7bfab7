-- rows for constructors: the world is ws0 and a list of new cells
theorem ap_at (w0 l : va_W) (k : Nat) : (w0 ++ l)[w0.length + k]? = l[k]? := by
  rw [List.getElem?_append_right (by omega)]
  congr 1
  omega
theorem ap_set (w0 l : va_W) (k : Nat) (z : Nat × va_E) : (w0 ++ l).set (w0.length + k) z = w0 ++ l.set k z := by
  rw [List.set_append_right _ _ (by omega)]
  congr 2
  omega
theorem grid_congr {c : ClassId} {N : Nat} {r r' : Nat → Nat} (h : ∀ i, i < N → r i = r' i) : aw_grid c N r = aw_grid c N r' := by
  have e : (fun i => if i < N then some (r i) else none) = (fun i => if i < N then some (r' i) else none) := funext fun i => by
    by_cases q : i < N
    · rw [if_pos q, if_pos q, h i q]
    · rw [if_neg q, if_neg q]
  unfold aw_grid
  rw [e]
section CT
variable {g : aw_G} {y : MethodName} {cc : ByteArray} {nL : Nat} {ret : Option FieldType} {R : Room} {E : (Nat → Prop) → State → Array Value → Prop} {F : List Frame → Array Value → State → (Nat → Prop) → State → Prop} {kc ks pc : Nat} {lv : List (Nat × Value)} {st : List Value} {w0 l l' : va_W}
theorem ct_put {ci N index a : Nat} {Cn : String} {T : u_T} {ty : Nat → FieldType} {fs : List Value} {v : Value} (K : aw_cc ci Cn T N ty) (i : Nat) (hi : i < N) (hw : Cond.fieldLink y.cls index (T i).1 (T i).2.1 (T i).2.2.1 ∈ aw_WS) (hd : decode cc pc = .ok (.putfield index, 3)) (k : Nat) (he : l[k]? = some (a, .inr (ci, fs))) (hfin : (T i).2.2.2 = false) (hn : narrow (ty i) v = v) (hfit : fits (ty i) v = true) (hlen : i < fs.length) (hl : l.set k (a, .inr (ci, fs.set i v)) = l') (kk : AW g y cc nL ret R E F kc ks (pc + 3) lv st (w0 ++ l')) : AW g y cc nL ret R E F kc ks pc lv (v :: .ref a :: st) (w0 ++ l) :=
  aw_put K i hi hw hd (q0 := w0.length + k) (by rw [ap_at]; exact he) hfin hn hfit hlen (by rw [ap_set, hl]; exact kk)
theorem ct_putF {ci N index a : Nat} {Cn : String} {T : u_T} {ty : Nat → FieldType} {fs : List Value} {v : Value} (K : aw_cc ci Cn T N ty) (i : Nat) (hi : i < N) (hw : Cond.fieldLink y.cls index (T i).1 (T i).2.1 (T i).2.2.1 ∈ aw_WS) (hd : decode cc pc = .ok (.putfield index, 3)) (k : Nat) (he : l[k]? = some (a, .inr (ci, fs))) (hfin : (T i).2.2.2 = true) (hin : y.name = "<init>") (hde : (T i).1 = y.cls) (hn : narrow (ty i) v = v) (hfit : fits (ty i) v = true) (hlen : i < fs.length) (hl : l.set k (a, .inr (ci, fs.set i v)) = l') (kk : AW g y cc nL ret R E F kc ks (pc + 3) lv st (w0 ++ l')) : AW g y cc nL ret R E F kc ks pc lv (v :: .ref a :: st) (w0 ++ l) :=
  aw_putF K i hi hw hd (q0 := w0.length + k) (by rw [ap_at]; exact he) hfin hin hde hn hfit hlen (by rw [ap_set, hl]; exact kk)
theorem ct_newi {N : Nat} (hd : decode cc pc = .ok (.newarray .int, 2)) (hw : Cond.arrayClass .int ∈ aw_WS) (hg : aw_T g) (hN : N ≤ 25) (hc : kc + 1 ≤ R.cells) (hs : ks + N ≤ R.slots) (k : ∀ q : Nat, AW g y cc nL ret R E F (kc + 1) (ks + N) (pc + 2) lv (.ref q :: st) (w0 ++ (l ++ [(q, aI g N (fun _ => 0))]))) : AW g y cc nL ret R E F kc ks pc lv (.int (nI N) :: st) (w0 ++ l) :=
  aw_newai (N := N) hd hw (aw_T0 hg) (nI_pos (by omega)) (nI_clamp (by omega)) (by rw [show componentBytes .int = 4 from rfl]; omega) hc hs (fun q => by rw [List.append_assoc]; exact k q)
theorem ct_newl {N : Nat} (hd : decode cc pc = .ok (.newarray .long, 2)) (hw : Cond.arrayClass .long ∈ aw_WS) (hg : aw_T g) (hN : N ≤ 25) (hc : kc + 1 ≤ R.cells) (hs : ks + N ≤ R.slots) (k : ∀ q : Nat, AW g y cc nL ret R E F (kc + 1) (ks + N) (pc + 2) lv (.ref q :: st) (w0 ++ (l ++ [(q, aL g N (fun _ => 0))]))) : AW g y cc nL ret R E F kc ks pc lv (.int (nI N) :: st) (w0 ++ l) :=
  aw_newal (N := N) hd hw (aw_T1 hg) (nI_pos (by omega)) (nI_clamp (by omega)) (by rw [show componentBytes .long = 8 from rfl]; omega) hc hs (fun q => by rw [List.append_assoc]; exact k q)
theorem ct_mnai {index : Nat} (hd : decode cc pc = .ok (.multianewarray index 2, 4)) (w1 : Cond.classLink y.cls index ("[" ++ (FieldType.array .int).toString) ∈ aw_WS) (w3 : Cond.arrayClass .int ∈ aw_WS) (hg : aw_T g) (hc : kc + (1 + 5) ≤ R.cells) (hs : ks + (5 + 5 * 5) ≤ R.slots) (k : ∀ (q : Nat) (r : Nat → Nat), AW g y cc nL ret R E F (kc + 1 + 5) (ks + 5 + 5 * 5) (pc + 4) lv (.ref q :: st) (w0 ++ (l ++ [(q, aGI g r), (r 0, aI g 5 (fun _ => 0)), (r 1, aI g 5 (fun _ => 0)), (r 2, aI g 5 (fun _ => 0)), (r 3, aI g 5 (fun _ => 0)), (r 4, aI g 5 (fun _ => 0))]))) : AW g y cc nL ret R E F kc ks pc lv (.int (nI 5) :: .int (nI 5) :: st) (w0 ++ l) :=
  aw_mna_int 5 5 hd w1 w3 (aw_T0 hg) (aw_T2 hg) (nI_pos (by decide)) (nI_pos (by decide)) (nI_clamp (by decide)) (nI_clamp (by decide)) (by decide) (by decide) (by decide) hc hs (fun q r => by
    have e : ((w0 ++ l) ++ [(q, aw_grid (cII g) 5 r)]) ++ (List.range 5).map (fun i => (r i, (.inl (cI g, 5, .inl (fun _ => 0)) : va_E))) = w0 ++ (l ++ [(q, aGI g r), (r 0, aI g 5 (fun _ => 0)), (r 1, aI g 5 (fun _ => 0)), (r 2, aI g 5 (fun _ => 0)), (r 3, aI g 5 (fun _ => 0)), (r 4, aI g 5 (fun _ => 0))]) := by
      rw [List.append_assoc, List.append_assoc]; rfl
    rw [e]; exact k q r)
theorem ct_mnal {index : Nat} (hd : decode cc pc = .ok (.multianewarray index 2, 4)) (w1 : Cond.classLink y.cls index ("[" ++ (FieldType.array .long).toString) ∈ aw_WS) (w3 : Cond.arrayClass .long ∈ aw_WS) (hg : aw_T g) (hc : kc + (1 + 5) ≤ R.cells) (hs : ks + (5 + 5 * 5) ≤ R.slots) (k : ∀ (q : Nat) (r : Nat → Nat), AW g y cc nL ret R E F (kc + 1 + 5) (ks + 5 + 5 * 5) (pc + 4) lv (.ref q :: st) (w0 ++ (l ++ [(q, aGL g r), (r 0, aL g 5 (fun _ => 0)), (r 1, aL g 5 (fun _ => 0)), (r 2, aL g 5 (fun _ => 0)), (r 3, aL g 5 (fun _ => 0)), (r 4, aL g 5 (fun _ => 0))]))) : AW g y cc nL ret R E F kc ks pc lv (.int (nI 5) :: .int (nI 5) :: st) (w0 ++ l) :=
  aw_mna_long 5 5 hd w1 w3 (aw_T1 hg) (aw_T3 hg) (nI_pos (by decide)) (nI_pos (by decide)) (nI_clamp (by decide)) (nI_clamp (by decide)) (by decide) (by decide) (by decide) hc hs (fun q r => by
    have e : ((w0 ++ l) ++ [(q, aw_grid (cJJ g) 5 r)]) ++ (List.range 5).map (fun i => (r i, (.inl (cJ g, 5, .inr (.inl (fun _ => 0))) : va_E))) = w0 ++ (l ++ [(q, aGL g r), (r 0, aL g 5 (fun _ => 0)), (r 1, aL g 5 (fun _ => 0)), (r 2, aL g 5 (fun _ => 0)), (r 3, aL g 5 (fun _ => 0)), (r 4, aL g 5 (fun _ => 0))]) := by
      rw [List.append_assoc, List.append_assoc]; rfl
    rw [e]; exact k q r)
theorem ct_new {ci N index : Nat} {Cn : String} {T : u_T} {ty : Nat → FieldType} {fs : List Value} (K : aw_cc ci Cn T N ty) (hw1 : Cond.classLink y.cls index Cn ∈ aw_WS) (hw2 : Cond.instantiable Cn N ∈ aw_WS) (hw3 : Cond.initialized Cn ∈ aw_WS) (hd : decode cc pc = .ok (.new index, 3)) (hfs : ∀ j, j < N → defaultValue (ty j) = vp_V fs j) (hc : kc + 1 ≤ R.cells) (hs : ks + N ≤ R.slots) (k : ∀ q : Nat, AW g y cc nL ret R E F (kc + 1) (ks + N) (pc + 3) lv (.ref q :: st) (w0 ++ (l ++ [(q, .inr (ci, fs))]))) : AW g y cc nL ret R E F kc ks pc lv st (w0 ++ l) :=
  aw_new K hw1 hw2 hw3 hd hfs hc hs (fun q => by rw [List.append_assoc]; exact k q)
theorem ct_lst (h : l = l') (k : AW g y cc nL ret R E F kc ks pc lv st (w0 ++ l')) : AW g y cc nL ret R E F kc ks pc lv st (w0 ++ l) := by rw [h]; exact k
end CT
theorem ct_w {g : aw_G} {y : MethodName} {cc : ByteArray} {nL : Nat} {ret : Option FieldType} {R : Room} {E : (Nat → Prop) → State → Array Value → Prop} {F : List Frame → Array Value → State → (Nat → Prop) → State → Prop} {kc ks pc : Nat} {lv : List (Nat × Value)} {st : List Value} {ws ws' : va_W} (h : ws = ws') (k : AW g y cc nL ret R E F kc ks pc lv st ws') : AW g y cc nL ret R E F kc ks pc lv st ws := by rw [h]; exact k
