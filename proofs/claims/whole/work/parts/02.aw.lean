-- AW: the kit's W with all of the machine's context bundled away; ws is the world (places), lv the locals, st the operand stack
abbrev aw_G : Type := Launch × va_G × List (ClassId × FieldType)
def aw_WS : List Cond := lw_tbl.filter goodWord
theorem aw_in {w : Cond} (h : w ∈ lw_tbl) (hg : goodWord w = true) : w ∈ aw_WS := List.mem_filter.mpr ⟨h, hg⟩
theorem aw_goodIn (y : MethodName) (cc : ByteArray) (nL : Nat) (ret : Option FieldType) (h : Cond.code y cc nL ret ∈ aw_WS) : GoodIn aw_WS (Cond.code y cc nL ret :: aw_WS) := by
  intro w hw
  rcases List.mem_cons.mp hw with rfl | hw
  · exact ⟨h, good_of_word (List.mem_filter.mp h).2⟩
  · exact ⟨hw, good_of_word (List.mem_filter.mp hw).2⟩
def va_AOA (t : FieldType) (U : State) : Prop := (Cond.arrayOver (.array t)).before #[] U = true
theorem va_AOA.of {t : FieldType} {A : Array Value} {U : State} (h : (Cond.arrayOver (.array t)).before A U = true) : va_AOA t U := h
theorem va_AOA.use {t : FieldType} {A : Array Value} {U : State} (h : va_AOA t U) : (Cond.arrayOver (.array t)).before A U = true := h
theorem aw_aoaMoved {t : FieldType} {u U : State} (hvm : u.vm.Alike U.vm) (h : va_AOA t u) : va_AOA t U := by
  obtain ⟨comp, c, k, h1, h2, h3, h4, h5⟩ := arrayOverA_spec h
  obtain ⟨k', hk', he⟩ := hvm.2.2 _ _ h3
  have eb : U.vm.bare = u.vm.bare := by first | exact hvm.bare_eq | exact hvm.bare_eq.symm
  have hi := (va_idx_bare U.vm comp).symm
  rw [eb] at hi
  have hi := hi.trans ((va_idx_bare u.vm comp).trans h2)
  have hkind : k'.kind = .array comp (.array t) := by rw [he]; exact h4
  have f1 : U.vm.findClass (FieldType.array t).toString = some comp := by rw [hvm.findClass]; exact h1
  have f2 : U.vm.findClass ("[" ++ (FieldType.array t).toString) = some c := by rw [hvm.findClass]; exact h5
  unfold va_AOA Cond.before Cond.holds
  simp only [Cond.value]
  rw [f1, Option.bind_some]
  refine (congrArg (fun o : Option Nat => (o.bind (fun c => (U.vm.classes[c]?).map fun (k : Class) => match k.kind with | .array _ ty => decide (ty = FieldType.array t) && decide (U.vm.findClass ("[" ++ (FieldType.array t).toString) = some c) | _ => false) == some true)) hi).trans ?_
  simp [hk', hkind, f2]
def aw_isN : Cond → Bool
  | .methodLinkNest .. => true
  | _ => false
def aw_NW : List Cond := lw_tbl.filter aw_isN
theorem aw_inN {w : Cond} (h : w ∈ lw_tbl) (hg : aw_isN w = true) : w ∈ aw_NW := List.mem_filter.mpr ⟨h, hg⟩
/-- the words that are not carried by the contracts' word lists: links within the nest, arrays of arrays -/
def aw_NK (U : State) : Prop := (∀ w ∈ aw_NW, va_Nw w U) ∧ va_AOA .int U ∧ va_AOA .long U
theorem aw_NK.warm {s U : State} (hW : s.WarmedH U.vm) (h : aw_NK s) : aw_NK U := by
  refine ⟨fun w hw => ?_, aw_aoaMoved hW.alike h.2.1, aw_aoaMoved hW.alike h.2.2⟩
  have hz := h.1 w hw
  have hg := (List.mem_filter.mp hw).2
  cases w <;> first | exact va_Nw.warmM hW hz | (simp [aw_isN] at hg; done)
theorem aw_NK.same {s U : State} (hv : s.vm = U.vm) (h : aw_NK s) : aw_NK U := aw_NK.warm (by rw [← hv]; exact State.WarmedH.refl s) h
def aw_rm (d mc ms : Nat) : Room := { frames := d, cells := mc, slots := ms, locals := 48 * d }
def aw_ctx (y : MethodName) (cc : ByteArray) (nL : Nat) (ret : Option FieldType) (E : (Nat → Prop) → State → Array Value → Prop) (p : Program) (s : State) (m : MethodId) (args : Array Value) (meth : Method) (c : Code) (A : Nat → Prop) : Prop :=
  p.tables.exec = Jvm.exec ∧ c.code = cc ∧ meth.sig.returnType = ret ∧ c.maxLocals = nL ∧ s.vm.findClass y.cls = some m.cls ∧ (∀ w ∈ aw_WS, w.before args s = true) ∧ meth.locks = false ∧ meth.name = y.name ∧ (∀ q : Nat, s.heap.size ≤ q → A q) ∧ E A s args ∧ aw_NK s
def aw_wd (g : aw_G) (A : Nat → Prop) (s : State) (H : Heap) (locs : List Loc) (ws : va_W) : Prop :=
  va_S A s.heap H locs ∧ va_K g.2.1 vwCl g.2.2 s ∧ va_P g.2.1 vwCl ws H ∧ va_D A ws
def AW (g : aw_G) (y : MethodName) (cc : ByteArray) (nL : Nat) (ret : Option FieldType) (R : Room) (E : (Nat → Prop) → State → Array Value → Prop) (F : List Frame → Array Value → State → (Nat → Prop) → State → Prop) (kc ks pc : Nat) (lv : List (Nat × Value)) (st : List Value) (ws : va_W) : Prop :=
  ∀ (p : Program) (e : Env) (s : State) (m : MethodId) (args : Array Value) (below : List Frame) (meth : Method) (c : Code) (H : Heap) (locs : List Loc) (A : Nat → Prop) (ls : Array Slot),
    aw_ctx y cc nL ret E p s m args meth c A → aw_wd g A s H locs ws → lv_has ls nL lv → W p g.1 e R s m args below meth c H locs kc ks (F below args s A) (F0 m pc ls st)
def aw_Q (g : aw_G) (Q : Option Value → va_W → Prop) (A : Nat → Prop) : Array Value → State → Outcome → State → Prop := fun _ st oc t =>
  (∃ (v : Option Value) (ws : va_W), oc = .returned v ∧ Q v ws ∧ va_P g.2.1 vwCl ws t.heap ∧ va_K g.2.1 vwCl g.2.2 t ∧ va_D A ws) ∧ va_F A st t
def aw_F (g : aw_G) (Q : Option Value → va_W → Prop) (mc ms : Nat) : List Frame → Array Value → State → (Nat → Prop) → State → Prop := fun below args s A => MQ below (aw_Q g Q A) args s mc ms A
def aw_E0 : (Nat → Prop) → State → Array Value → Prop := fun _ _ _ => True
def aw_Pc (g : aw_G) (av : List Value) (ws : va_W) (sz : Nat) : Array Value → State → Prop := va_Pc av (fun U => U.heap.size = sz ∧ va_P g.2.1 vwCl ws U.heap ∧ va_K g.2.1 vwCl g.2.2 U ∧ va_D (fun _ => True) ws ∧ aw_NK U)
def AMet (g : aw_G) (y : MethodName) (cc : ByteArray) (nL : Nat) (ret : Option FieldType) (d : Nat) (av : List Value) (ws : va_W) (Q : Option Value → va_W → Prop) (mc ms : Nat) : Prop :=
  ∀ sz : Nat, Met g.1 y (Cond.code y cc nL ret :: aw_WS) (aw_rm d mc ms) (aw_Pc g av ws sz) (aw_Q g Q (va_A ws sz)) mc ms (va_A ws sz)
/-- a contract out of the walk of the body -/
theorem amet_of {g : aw_G} {y : MethodName} {cc : ByteArray} {nL : Nat} {ret : Option FieldType} {d : Nat} {av : List Value} {ws : va_W} {Q : Option Value → va_W → Prop} {mc ms : Nat} (hy : plainName y.cls = true) (hn : (lg_sl av).length ≤ nL)
    (body : AW g y cc nL ret (aw_rm d mc ms) aw_E0 (aw_F g Q mc ms) 0 0 0 (lv_args 0 av) [] ws) : AMet g y cc nL ret d av ws Q mc ms := by
  intro sz
  refine Met.ofW (cc := cc) (maxL := nL) (ret := ret) hy rfl ?_
  intro p e s m args below meth c s₁ B hml hv
  obtain ⟨rfl, hsz, hP, hK, hD0, hN0⟩ := hv
  have hts := atoms_spec (ws := Cond.code y cc nL ret :: aw_WS) B.pre
  subst hsz
  rw [lg_entry_eq]
  exact body p e s m _ below meth c s.heap [] (va_A ws s.heap.size) _ ⟨B.exec, B.bytes, B.returns, hml, findClass_of_methodNamed B.named, fun w h => hts w (List.mem_cons_of_mem _ h), B.notSynchronized, (name_of_methodNamed B.named B.method).1, fun q h => Or.inr h, trivial, hN0⟩ ⟨va_S.rf, hK, hP, hD0.self⟩ (lv_entry av hn)
theorem amet_mono {g : aw_G} {y : MethodName} {cc : ByteArray} {nL : Nat} {ret : Option FieldType} {d : Nat} {av : List Value} {ws : va_W} {Q Q' : Option Value → va_W → Prop} {mc ms : Nat} (h : ∀ v w, Q v w → Q' v w) (k : AW g y cc nL ret (aw_rm d mc ms) aw_E0 (aw_F g Q mc ms) 0 0 0 (lv_args 0 av) [] ws) : AW g y cc nL ret (aw_rm d mc ms) aw_E0 (aw_F g Q' mc ms) 0 0 0 (lv_args 0 av) [] ws := by
  intro p e s m args below meth c H locs A ls C D hl T hT X
  obtain ⟨t, a, o, b1, b2, ⟨⟨v, w, q1, q2, q3⟩, q4⟩, b4⟩ := k p e s m args below meth c H locs A ls C D hl T hT X
  exact ⟨t, a, o, b1, b2, ⟨⟨v, w, q1, h v w q2, q3⟩, q4⟩, b4⟩
section AWR
variable {g : aw_G} {y : MethodName} {cc : ByteArray} {nL : Nat} {ret : Option FieldType} {R : Room} {E : (Nat → Prop) → State → Array Value → Prop} {F : List Frame → Array Value → State → (Nat → Prop) → State → Prop} {kc ks pc : Nat} {lv : List (Nat × Value)} {st : List Value} {ws : va_W}
theorem aw_widen {kc' ks' : Nat} (h1 : kc ≤ kc') (h2 : ks ≤ ks') (k : AW g y cc nL ret R E F kc' ks' pc lv st ws) : AW g y cc nL ret R E F kc ks pc lv st ws :=
  fun p e s m args below meth c H locs A ls C D hl => W.widen h1 h2 (k p e s m args below meth c H locs A ls C D hl)
theorem aw_sub {lv' : List (Nat × Value)} (ps : List Nat) (h : lv_pick lv ps = lv') (k : AW g y cc nL ret R E F kc ks pc lv' st ws) : AW g y cc nL ret R E F kc ks pc lv st ws :=
  fun p e s m args below meth c H locs A ls C D hl => k p e s m args below meth c H locs A ls C D (lv_sub hl ps h)
theorem aw_eq {kc' ks' pc' : Nat} {lv' : List (Nat × Value)} {st' : List Value} {ws' : va_W} (e1 : pc = pc') (e2 : lv = lv') (e3 : st = st') (e4 : ws = ws') (k : AW g y cc nL ret R E F kc ks pc' lv' st' ws') : AW g y cc nL ret R E F kc ks pc lv st ws := by
  subst e1; subst e2; subst e3; subst e4; exact k
theorem aw_topi {x : Int32} (k : ∀ z : Int32, z = x → AW g y cc nL ret R E F kc ks pc lv (.int z :: st) ws) : AW g y cc nL ret R E F kc ks pc lv (.int x :: st) ws := k x rfl
theorem aw_topl {x : Int64} (k : ∀ z : Int64, z = x → AW g y cc nL ret R E F kc ks pc lv (.long z :: st) ws) : AW g y cc nL ret R E F kc ks pc lv (.long x :: st) ws := k x rfl
theorem aw_lk {lv : List (Nat × Value)} {i : Nat} {v : Value} (h : lv.lookup i = some v) : (i, v) ∈ lv := by
  induction lv with
  | nil => simp at h
  | cons q r ih =>
    obtain ⟨j, w⟩ := q
    rw [List.lookup_cons] at h
    split at h
    · rename_i e
      have e1 : i = j := by simpa using e
      cases h
      rw [e1]
      exact List.mem_cons_self
    · exact List.mem_cons_of_mem _ (ih h)
theorem aw_iconst {n : Int} {v : Int32} (hd : decode cc pc = .ok (.iconst n, 1)) (hv : Int32.ofInt n = v) (k : AW g y cc nL ret R E F kc ks (pc + 1) lv (.int v :: st) ws) : AW g y cc nL ret R E F kc ks pc lv st ws :=
  fun p e s m args below meth c H locs A ls C D hl => lv_iconst C.1 C.2.1 hd hv (k p e s m args below meth c H locs A ls C D hl)
theorem aw_bipush {n : Int} {v : Int32} (hd : decode cc pc = .ok (.bipush n, 2)) (hv : (Int8.ofInt n).toInt32 = v) (k : AW g y cc nL ret R E F kc ks (pc + 2) lv (.int v :: st) ws) : AW g y cc nL ret R E F kc ks pc lv st ws :=
  fun p e s m args below meth c H locs A ls C D hl => lv_bipush C.1 C.2.1 hd hv (k p e s m args below meth c H locs A ls C D hl)
theorem aw_sipush {n : Int} {v : Int32} (hd : decode cc pc = .ok (.sipush n, 3)) (hv : (Int16.ofInt n).toInt32 = v) (k : AW g y cc nL ret R E F kc ks (pc + 3) lv (.int v :: st) ws) : AW g y cc nL ret R E F kc ks pc lv st ws :=
  fun p e s m args below meth c H locs A ls C D hl => lv_sipush C.1 C.2.1 hd hv (k p e s m args below meth c H locs A ls C D hl)
theorem aw_lconst {n : Fin 2} {v : Int64} (hd : decode cc pc = .ok (.lconst n, 1)) (hv : Int64.ofNat (n : Nat) = v) (k : AW g y cc nL ret R E F kc ks (pc + 1) lv (.long v :: st) ws) : AW g y cc nL ret R E F kc ks pc lv st ws :=
  fun p e s m args below meth c H locs A ls C D hl => lv_lconst C.1 C.2.1 hd hv (k p e s m args below meth c H locs A ls C D hl)
theorem aw_ldc {index : Nat} {v : Int32} (hd : decode cc pc = .ok (.ldc index, 2)) (hw : Cond.constant y.cls index v ∈ aw_WS) (k : AW g y cc nL ret R E F kc ks (pc + 2) lv (.int v :: st) ws) : AW g y cc nL ret R E F kc ks pc lv st ws :=
  fun p e s m args below meth c H locs A ls C D hl => lv_ldc C.1 C.2.1 C.2.2.2.2.1 (C.2.2.2.2.2.1 _ hw) hd (k p e s m args below meth c H locs A ls C D hl)
theorem aw_ldc2 {index : Nat} {v : Int64} (hd : decode cc pc = .ok (.ldc2_w index, 3)) (hw : Cond.constantLong y.cls index v ∈ aw_WS) (k : AW g y cc nL ret R E F kc ks (pc + 3) lv (.long v :: st) ws) : AW g y cc nL ret R E F kc ks pc lv st ws :=
  fun p e s m args below meth c H locs A ls C D hl => lv_ldc2 C.1 C.2.1 C.2.2.2.2.1 (C.2.2.2.2.2.1 _ hw) hd (k p e s m args below meth c H locs A ls C D hl)
theorem aw_iload_n {n : Fin 4} {i : Nat} {x : Int32} (hd : decode cc pc = .ok (.iload_n n, 1)) (hi : (n : Nat) = i) (hj : lv.lookup i = some (.int x)) (k : AW g y cc nL ret R E F kc ks (pc + 1) lv (.int x :: st) ws) : AW g y cc nL ret R E F kc ks pc lv st ws :=
  fun p e s m args below meth c H locs A ls C D hl => lv_iload_n C.1 C.2.1 hd hi (hl.2.2 (i, .int x) (aw_lk hj)) (k p e s m args below meth c H locs A ls C D hl)
theorem aw_iload {i : Nat} {x : Int32} (hd : decode cc pc = .ok (.iload i, 2)) (hj : lv.lookup i = some (.int x)) (k : AW g y cc nL ret R E F kc ks (pc + 2) lv (.int x :: st) ws) : AW g y cc nL ret R E F kc ks pc lv st ws :=
  fun p e s m args below meth c H locs A ls C D hl => lv_iload C.1 C.2.1 hd (hl.2.2 (i, .int x) (aw_lk hj)) (k p e s m args below meth c H locs A ls C D hl)
theorem aw_lload_n {n : Fin 4} {i : Nat} {x : Int64} (hd : decode cc pc = .ok (.lload_n n, 1)) (hi : (n : Nat) = i) (hj : lv.lookup i = some (.long x)) (k : AW g y cc nL ret R E F kc ks (pc + 1) lv (.long x :: st) ws) : AW g y cc nL ret R E F kc ks pc lv st ws :=
  fun p e s m args below meth c H locs A ls C D hl => lv_lload_n C.1 C.2.1 hd hi (hl.2.2 (i, .long x) (aw_lk hj)) (k p e s m args below meth c H locs A ls C D hl)
theorem aw_lload {i : Nat} {x : Int64} (hd : decode cc pc = .ok (.lload i, 2)) (hj : lv.lookup i = some (.long x)) (k : AW g y cc nL ret R E F kc ks (pc + 2) lv (.long x :: st) ws) : AW g y cc nL ret R E F kc ks pc lv st ws :=
  fun p e s m args below meth c H locs A ls C D hl => lv_lload C.1 C.2.1 hd (hl.2.2 (i, .long x) (aw_lk hj)) (k p e s m args below meth c H locs A ls C D hl)
theorem aw_aload_n {n : Fin 4} {i : Nat} {x : Nat} (hd : decode cc pc = .ok (.aload_n n, 1)) (hi : (n : Nat) = i) (hj : lv.lookup i = some (.ref x)) (k : AW g y cc nL ret R E F kc ks (pc + 1) lv (.ref x :: st) ws) : AW g y cc nL ret R E F kc ks pc lv st ws :=
  fun p e s m args below meth c H locs A ls C D hl => lv_aload_n C.1 C.2.1 hd hi (hl.2.2 (i, .ref x) (aw_lk hj)) (k p e s m args below meth c H locs A ls C D hl)
theorem aw_aload {i : Nat} {x : Nat} (hd : decode cc pc = .ok (.aload i, 2)) (hj : lv.lookup i = some (.ref x)) (k : AW g y cc nL ret R E F kc ks (pc + 2) lv (.ref x :: st) ws) : AW g y cc nL ret R E F kc ks pc lv st ws :=
  fun p e s m args below meth c H locs A ls C D hl => lv_aload C.1 C.2.1 hd (hl.2.2 (i, .ref x) (aw_lk hj)) (k p e s m args below meth c H locs A ls C D hl)
def aw_st1 (lv : List (Nat × Value)) (i : Nat) (v : Value) : List (Nat × Value) := (i, v) :: lv.filter (fun q => !(q.1 == i) && !(q.1 + 1 == i && q.2.category == 2))
def aw_st2 (lv : List (Nat × Value)) (i : Nat) (v : Value) : List (Nat × Value) := (i, v) :: lv.filter (fun q => !(q.1 == i) && (!(q.1 == i + 1) && !(q.1 + 1 == i && q.2.category == 2)))
theorem aw_istore_n {n : Fin 4} {i : Nat} {x : Int32} {lv' : List (Nat × Value)} (hd : decode cc pc = .ok (.istore_n n, 1)) (hi : (n : Nat) = i) (hn : i < nL) (hv : aw_st1 lv i (.int x) = lv') (k : AW g y cc nL ret R E F kc ks (pc + 1) lv' st ws) : AW g y cc nL ret R E F kc ks pc lv (.int x :: st) ws :=
  fun p e s m args below meth c H locs A ls C D hl => lv_istore_n C.1 C.2.1 hd hi hl hn hv (fun ls hl => k p e s m args below meth c H locs A ls C D hl)
theorem aw_istore {i : Nat} {x : Int32} {lv' : List (Nat × Value)} (hd : decode cc pc = .ok (.istore i, 2)) (hn : i < nL) (hv : aw_st1 lv i (.int x) = lv') (k : AW g y cc nL ret R E F kc ks (pc + 2) lv' st ws) : AW g y cc nL ret R E F kc ks pc lv (.int x :: st) ws :=
  fun p e s m args below meth c H locs A ls C D hl => lv_istore C.1 C.2.1 hd hl hn hv (fun ls hl => k p e s m args below meth c H locs A ls C D hl)
theorem aw_lstore_n {n : Fin 4} {i : Nat} {x : Int64} {lv' : List (Nat × Value)} (hd : decode cc pc = .ok (.lstore_n n, 1)) (hi : (n : Nat) = i) (hn : i + 1 < nL) (hv : aw_st2 lv i (.long x) = lv') (k : AW g y cc nL ret R E F kc ks (pc + 1) lv' st ws) : AW g y cc nL ret R E F kc ks pc lv (.long x :: st) ws :=
  fun p e s m args below meth c H locs A ls C D hl => lv_lstore_n C.1 C.2.1 hd hi hl hn hv (fun ls hl => k p e s m args below meth c H locs A ls C D hl)
theorem aw_lstore {i : Nat} {x : Int64} {lv' : List (Nat × Value)} (hd : decode cc pc = .ok (.lstore i, 2)) (hn : i + 1 < nL) (hv : aw_st2 lv i (.long x) = lv') (k : AW g y cc nL ret R E F kc ks (pc + 2) lv' st ws) : AW g y cc nL ret R E F kc ks pc lv (.long x :: st) ws :=
  fun p e s m args below meth c H locs A ls C D hl => lv_lstore C.1 C.2.1 hd hl hn hv (fun ls hl => k p e s m args below meth c H locs A ls C D hl)
theorem aw_astore_n {n : Fin 4} {i : Nat} {x : Nat} {lv' : List (Nat × Value)} (hd : decode cc pc = .ok (.astore_n n, 1)) (hi : (n : Nat) = i) (hn : i < nL) (hv : aw_st1 lv i (.ref x) = lv') (k : AW g y cc nL ret R E F kc ks (pc + 1) lv' st ws) : AW g y cc nL ret R E F kc ks pc lv (.ref x :: st) ws :=
  fun p e s m args below meth c H locs A ls C D hl => lv_astore_n C.1 C.2.1 hd hi hl hn hv (fun ls hl => k p e s m args below meth c H locs A ls C D hl)
theorem aw_astore {i : Nat} {x : Nat} {lv' : List (Nat × Value)} (hd : decode cc pc = .ok (.astore i, 2)) (hn : i < nL) (hv : aw_st1 lv i (.ref x) = lv') (k : AW g y cc nL ret R E F kc ks (pc + 2) lv' st ws) : AW g y cc nL ret R E F kc ks pc lv (.ref x :: st) ws :=
  fun p e s m args below meth c H locs A ls C D hl => lv_astore C.1 C.2.1 hd hl hn hv (fun ls hl => k p e s m args below meth c H locs A ls C D hl)
theorem aw_iinc {i : Nat} {n : Int} {x v : Int32} {lv' : List (Nat × Value)} (hd : decode cc pc = .ok (.iinc i n, 3)) (hj : lv.lookup i = some (.int x)) (hv : x + Int32.ofInt n = v) (hn : i < nL) (hl' : aw_st1 lv i (.int v) = lv') (k : AW g y cc nL ret R E F kc ks (pc + 3) lv' st ws) : AW g y cc nL ret R E F kc ks pc lv st ws :=
  fun p e s m args below meth c H locs A ls C D hl => (List.mem_iff_getElem?.mp (aw_lk hj)).elim (fun j hj => lv_iinc C.1 C.2.1 hd hl hj hv hn hl' (fun ls hl => k p e s m args below meth c H locs A ls C D hl))
theorem aw_iadd {x z : Int32} (hd : decode cc pc = .ok (.iadd, 1)) (k : AW g y cc nL ret R E F kc ks (pc + 1) lv (.int (x + z) :: st) ws) : AW g y cc nL ret R E F kc ks pc lv (.int z :: .int x :: st) ws :=
  fun p e s m args below meth c H locs A ls C D hl => lv_iadd C.1 C.2.1 hd (k p e s m args below meth c H locs A ls C D hl)
theorem aw_isub {x z : Int32} (hd : decode cc pc = .ok (.isub, 1)) (k : AW g y cc nL ret R E F kc ks (pc + 1) lv (.int (x - z) :: st) ws) : AW g y cc nL ret R E F kc ks pc lv (.int z :: .int x :: st) ws :=
  fun p e s m args below meth c H locs A ls C D hl => lv_isub C.1 C.2.1 hd (k p e s m args below meth c H locs A ls C D hl)
theorem aw_imul {x z : Int32} (hd : decode cc pc = .ok (.imul, 1)) (k : AW g y cc nL ret R E F kc ks (pc + 1) lv (.int (x * z) :: st) ws) : AW g y cc nL ret R E F kc ks pc lv (.int z :: .int x :: st) ws :=
  fun p e s m args below meth c H locs A ls C D hl => lv_imul C.1 C.2.1 hd (k p e s m args below meth c H locs A ls C D hl)
theorem aw_iand {x z : Int32} (hd : decode cc pc = .ok (.iand, 1)) (k : AW g y cc nL ret R E F kc ks (pc + 1) lv (.int (x &&& z) :: st) ws) : AW g y cc nL ret R E F kc ks pc lv (.int z :: .int x :: st) ws :=
  fun p e s m args below meth c H locs A ls C D hl => lv_iand C.1 C.2.1 hd (k p e s m args below meth c H locs A ls C D hl)
theorem aw_ior {x z : Int32} (hd : decode cc pc = .ok (.ior, 1)) (k : AW g y cc nL ret R E F kc ks (pc + 1) lv (.int (x ||| z) :: st) ws) : AW g y cc nL ret R E F kc ks pc lv (.int z :: .int x :: st) ws :=
  fun p e s m args below meth c H locs A ls C D hl => lv_ior C.1 C.2.1 hd (k p e s m args below meth c H locs A ls C D hl)
theorem aw_ixor {x z : Int32} (hd : decode cc pc = .ok (.ixor, 1)) (k : AW g y cc nL ret R E F kc ks (pc + 1) lv (.int (x ^^^ z) :: st) ws) : AW g y cc nL ret R E F kc ks pc lv (.int z :: .int x :: st) ws :=
  fun p e s m args below meth c H locs A ls C D hl => lv_ixor C.1 C.2.1 hd (k p e s m args below meth c H locs A ls C D hl)
theorem aw_ishl {x z : Int32} (hd : decode cc pc = .ok (.ishl, 1)) (k : AW g y cc nL ret R E F kc ks (pc + 1) lv (.int (x <<< (z &&& 31)) :: st) ws) : AW g y cc nL ret R E F kc ks pc lv (.int z :: .int x :: st) ws :=
  fun p e s m args below meth c H locs A ls C D hl => lv_ishl C.1 C.2.1 hd (k p e s m args below meth c H locs A ls C D hl)
theorem aw_ishr {x z : Int32} (hd : decode cc pc = .ok (.ishr, 1)) (k : AW g y cc nL ret R E F kc ks (pc + 1) lv (.int (x >>> (z &&& 31)) :: st) ws) : AW g y cc nL ret R E F kc ks pc lv (.int z :: .int x :: st) ws :=
  fun p e s m args below meth c H locs A ls C D hl => lv_ishr C.1 C.2.1 hd (k p e s m args below meth c H locs A ls C D hl)
theorem aw_ladd {x z : Int64} (hd : decode cc pc = .ok (.ladd, 1)) (k : AW g y cc nL ret R E F kc ks (pc + 1) lv (.long (x + z) :: st) ws) : AW g y cc nL ret R E F kc ks pc lv (.long z :: .long x :: st) ws :=
  fun p e s m args below meth c H locs A ls C D hl => lv_ladd C.1 C.2.1 hd (k p e s m args below meth c H locs A ls C D hl)
theorem aw_lsub {x z : Int64} (hd : decode cc pc = .ok (.lsub, 1)) (k : AW g y cc nL ret R E F kc ks (pc + 1) lv (.long (x - z) :: st) ws) : AW g y cc nL ret R E F kc ks pc lv (.long z :: .long x :: st) ws :=
  fun p e s m args below meth c H locs A ls C D hl => lv_lsub C.1 C.2.1 hd (k p e s m args below meth c H locs A ls C D hl)
theorem aw_lmul {x z : Int64} (hd : decode cc pc = .ok (.lmul, 1)) (k : AW g y cc nL ret R E F kc ks (pc + 1) lv (.long (x * z) :: st) ws) : AW g y cc nL ret R E F kc ks pc lv (.long z :: .long x :: st) ws :=
  fun p e s m args below meth c H locs A ls C D hl => lv_lmul C.1 C.2.1 hd (k p e s m args below meth c H locs A ls C D hl)
theorem aw_land {x z : Int64} (hd : decode cc pc = .ok (.land, 1)) (k : AW g y cc nL ret R E F kc ks (pc + 1) lv (.long (x &&& z) :: st) ws) : AW g y cc nL ret R E F kc ks pc lv (.long z :: .long x :: st) ws :=
  fun p e s m args below meth c H locs A ls C D hl => lv_land C.1 C.2.1 hd (k p e s m args below meth c H locs A ls C D hl)
theorem aw_lor {x z : Int64} (hd : decode cc pc = .ok (.lor, 1)) (k : AW g y cc nL ret R E F kc ks (pc + 1) lv (.long (x ||| z) :: st) ws) : AW g y cc nL ret R E F kc ks pc lv (.long z :: .long x :: st) ws :=
  fun p e s m args below meth c H locs A ls C D hl => lv_lor C.1 C.2.1 hd (k p e s m args below meth c H locs A ls C D hl)
theorem aw_lxor {x z : Int64} (hd : decode cc pc = .ok (.lxor, 1)) (k : AW g y cc nL ret R E F kc ks (pc + 1) lv (.long (x ^^^ z) :: st) ws) : AW g y cc nL ret R E F kc ks pc lv (.long z :: .long x :: st) ws :=
  fun p e s m args below meth c H locs A ls C D hl => lv_lxor C.1 C.2.1 hd (k p e s m args below meth c H locs A ls C D hl)
theorem aw_idiv {x z : Int32} (hd : decode cc pc = .ok (.idiv, 1)) (hne : ¬ z = 0) (k : AW g y cc nL ret R E F kc ks (pc + 1) lv (.int (x / z) :: st) ws) : AW g y cc nL ret R E F kc ks pc lv (.int z :: .int x :: st) ws :=
  fun p e s m args below meth c H locs A ls C D hl => lv_idiv C.1 C.2.1 hd hne (k p e s m args below meth c H locs A ls C D hl)
theorem aw_irem {x z : Int32} (hd : decode cc pc = .ok (.irem, 1)) (hne : ¬ z = 0) (k : AW g y cc nL ret R E F kc ks (pc + 1) lv (.int (x - x / z * z) :: st) ws) : AW g y cc nL ret R E F kc ks pc lv (.int z :: .int x :: st) ws :=
  fun p e s m args below meth c H locs A ls C D hl => lv_irem C.1 C.2.1 hd hne (k p e s m args below meth c H locs A ls C D hl)
theorem aw_ldiv {x z : Int64} (hd : decode cc pc = .ok (.ldiv, 1)) (hne : ¬ z = 0) (k : AW g y cc nL ret R E F kc ks (pc + 1) lv (.long (x / z) :: st) ws) : AW g y cc nL ret R E F kc ks pc lv (.long z :: .long x :: st) ws :=
  fun p e s m args below meth c H locs A ls C D hl => lv_ldiv C.1 C.2.1 hd hne (k p e s m args below meth c H locs A ls C D hl)
theorem aw_lrem {x z : Int64} (hd : decode cc pc = .ok (.lrem, 1)) (hne : ¬ z = 0) (k : AW g y cc nL ret R E F kc ks (pc + 1) lv (.long (x - x / z * z) :: st) ws) : AW g y cc nL ret R E F kc ks pc lv (.long z :: .long x :: st) ws :=
  fun p e s m args below meth c H locs A ls C D hl => lv_lrem C.1 C.2.1 hd hne (k p e s m args below meth c H locs A ls C D hl)
theorem aw_ineg {x : Int32} (hd : decode cc pc = .ok (.ineg, 1)) (k : AW g y cc nL ret R E F kc ks (pc + 1) lv (.int (-x) :: st) ws) : AW g y cc nL ret R E F kc ks pc lv (.int x :: st) ws :=
  fun p e s m args below meth c H locs A ls C D hl => lv_ineg C.1 C.2.1 hd (k p e s m args below meth c H locs A ls C D hl)
theorem aw_lneg {x : Int64} (hd : decode cc pc = .ok (.lneg, 1)) (k : AW g y cc nL ret R E F kc ks (pc + 1) lv (.long (-x) :: st) ws) : AW g y cc nL ret R E F kc ks pc lv (.long x :: st) ws :=
  fun p e s m args below meth c H locs A ls C D hl => lv_lneg C.1 C.2.1 hd (k p e s m args below meth c H locs A ls C D hl)
theorem aw_i2l {x : Int32} (hd : decode cc pc = .ok (.i2l, 1)) (k : AW g y cc nL ret R E F kc ks (pc + 1) lv (.long x.toInt64 :: st) ws) : AW g y cc nL ret R E F kc ks pc lv (.int x :: st) ws :=
  fun p e s m args below meth c H locs A ls C D hl => lv_i2l C.1 C.2.1 hd rfl (k p e s m args below meth c H locs A ls C D hl)
theorem aw_l2i {x : Int64} (hd : decode cc pc = .ok (.l2i, 1)) (k : AW g y cc nL ret R E F kc ks (pc + 1) lv (.int x.toInt32 :: st) ws) : AW g y cc nL ret R E F kc ks pc lv (.long x :: st) ws :=
  fun p e s m args below meth c H locs A ls C D hl => lv_l2i C.1 C.2.1 hd rfl (k p e s m args below meth c H locs A ls C D hl)
theorem aw_iushr {x z : Int32} (hd : decode cc pc = .ok (.iushr, 1)) (k : AW g y cc nL ret R E F kc ks (pc + 1) lv (.int ((x.toUInt32 >>> (z.toUInt32 &&& Int32.toUInt32 31)).toInt32) :: st) ws) : AW g y cc nL ret R E F kc ks pc lv (.int z :: .int x :: st) ws :=
  fun p e s m args below meth c H locs A ls C D hl => lv_iushr C.1 C.2.1 hd rfl (k p e s m args below meth c H locs A ls C D hl)
theorem aw_lushr {x : Int64} {z : Int32} (hd : decode cc pc = .ok (.lushr, 1)) (k : AW g y cc nL ret R E F kc ks (pc + 1) lv (.long ((x.toUInt64 >>> (z.toInt64.toUInt64 &&& Int64.toUInt64 63)).toInt64) :: st) ws) : AW g y cc nL ret R E F kc ks pc lv (.int z :: .long x :: st) ws :=
  fun p e s m args below meth c H locs A ls C D hl => lv_lushr C.1 C.2.1 hd rfl (k p e s m args below meth c H locs A ls C D hl)
theorem aw_lshl {x : Int64} {z : Int32} (hd : decode cc pc = .ok (.lshl, 1)) (k : AW g y cc nL ret R E F kc ks (pc + 1) lv (.long (x <<< (z.toInt64 &&& 63)) :: st) ws) : AW g y cc nL ret R E F kc ks pc lv (.int z :: .long x :: st) ws :=
  fun p e s m args below meth c H locs A ls C D hl => lv_lshl C.1 C.2.1 hd rfl (k p e s m args below meth c H locs A ls C D hl)
theorem aw_lshr {x : Int64} {z : Int32} (hd : decode cc pc = .ok (.lshr, 1)) (k : AW g y cc nL ret R E F kc ks (pc + 1) lv (.long (x >>> (z.toInt64 &&& 63)) :: st) ws) : AW g y cc nL ret R E F kc ks pc lv (.int z :: .long x :: st) ws :=
  fun p e s m args below meth c H locs A ls C D hl => lv_lshr C.1 C.2.1 hd rfl (k p e s m args below meth c H locs A ls C D hl)
theorem aw_lcmp {x z : Int64} (hd : decode cc pc = .ok (.lcmp, 1)) (k : AW g y cc nL ret R E F kc ks (pc + 1) lv (.int (lg_cmp x z) :: st) ws) : AW g y cc nL ret R E F kc ks pc lv (.long z :: .long x :: st) ws :=
  fun p e s m args below meth c H locs A ls C D hl => W.lcmp C.1 C.2.1 hd (k p e s m args below meth c H locs A ls C D hl)
theorem aw_dup {a : Value} (hd : decode cc pc = .ok (.dup, 1)) (ha : a.category = 1) (k : AW g y cc nL ret R E F kc ks (pc + 1) lv (a :: a :: st) ws) : AW g y cc nL ret R E F kc ks pc lv (a :: st) ws :=
  fun p e s m args below meth c H locs A ls C D hl => lv_dup C.1 C.2.1 hd ha (k p e s m args below meth c H locs A ls C D hl)
theorem aw_pop {a : Value} (hd : decode cc pc = .ok (.pop, 1)) (ha : a.category = 1) (k : AW g y cc nL ret R E F kc ks (pc + 1) lv (st) ws) : AW g y cc nL ret R E F kc ks pc lv (a :: st) ws :=
  fun p e s m args below meth c H locs A ls C D hl => lv_pop C.1 C.2.1 hd ha (k p e s m args below meth c H locs A ls C D hl)
theorem aw_dup_x1 {a b : Value} (hd : decode cc pc = .ok (.dup_x1, 1)) (ha : a.category = 1) (hb : b.category = 1) (k : AW g y cc nL ret R E F kc ks (pc + 1) lv (a :: b :: a :: st) ws) : AW g y cc nL ret R E F kc ks pc lv (a :: b :: st) ws :=
  fun p e s m args below meth c H locs A ls C D hl => lv_dup_x1 C.1 C.2.1 hd ha hb (k p e s m args below meth c H locs A ls C D hl)
theorem aw_dup_x2 {a b d : Value} (hd : decode cc pc = .ok (.dup_x2, 1)) (ha : a.category = 1) (hb : b.category = 1) (hc : d.category = 1) (k : AW g y cc nL ret R E F kc ks (pc + 1) lv (a :: b :: d :: a :: st) ws) : AW g y cc nL ret R E F kc ks pc lv (a :: b :: d :: st) ws :=
  fun p e s m args below meth c H locs A ls C D hl => lv_dup_x2 C.1 C.2.1 hd ha hb hc (k p e s m args below meth c H locs A ls C D hl)
theorem aw_dup2_11 {a b : Value} (hd : decode cc pc = .ok (.dup2, 1)) (ha : a.category = 1) (hb : b.category = 1) (k : AW g y cc nL ret R E F kc ks (pc + 1) lv (a :: b :: a :: b :: st) ws) : AW g y cc nL ret R E F kc ks pc lv (a :: b :: st) ws :=
  fun p e s m args below meth c H locs A ls C D hl => lv_dup2_11 C.1 C.2.1 hd ha hb (k p e s m args below meth c H locs A ls C D hl)
theorem aw_dup2_2 {a : Value} (hd : decode cc pc = .ok (.dup2, 1)) (ha : a.category = 2) (k : AW g y cc nL ret R E F kc ks (pc + 1) lv (a :: a :: st) ws) : AW g y cc nL ret R E F kc ks pc lv (a :: st) ws :=
  fun p e s m args below meth c H locs A ls C D hl => lv_dup2_2 C.1 C.2.1 hd ha (k p e s m args below meth c H locs A ls C D hl)
theorem aw_pop2_2 {a : Value} (hd : decode cc pc = .ok (.pop2, 1)) (ha : a.category = 2) (k : AW g y cc nL ret R E F kc ks (pc + 1) lv (st) ws) : AW g y cc nL ret R E F kc ks pc lv (a :: st) ws :=
  fun p e s m args below meth c H locs A ls C D hl => lv_pop2_2 C.1 C.2.1 hd ha (k p e s m args below meth c H locs A ls C D hl)
theorem aw_pop2_11 {a b : Value} (hd : decode cc pc = .ok (.pop2, 1)) (ha : a.category = 1) (hb : b.category = 1) (k : AW g y cc nL ret R E F kc ks (pc + 1) lv (st) ws) : AW g y cc nL ret R E F kc ks pc lv (a :: b :: st) ws :=
  fun p e s m args below meth c H locs A ls C D hl => lv_pop2_11 C.1 C.2.1 hd ha hb (k p e s m args below meth c H locs A ls C D hl)
theorem aw_dup2_x1_2 {a b : Value} (hd : decode cc pc = .ok (.dup2_x1, 1)) (ha : a.category = 2) (hb : b.category = 1) (k : AW g y cc nL ret R E F kc ks (pc + 1) lv (a :: b :: a :: st) ws) : AW g y cc nL ret R E F kc ks pc lv (a :: b :: st) ws :=
  fun p e s m args below meth c H locs A ls C D hl => lv_dup2_x1_2 C.1 C.2.1 hd ha hb (k p e s m args below meth c H locs A ls C D hl)
theorem aw_dup2_x2_2 {a b d : Value} (hd : decode cc pc = .ok (.dup2_x2, 1)) (ha : a.category = 2) (hb : b.category = 1) (hc : d.category = 1) (k : AW g y cc nL ret R E F kc ks (pc + 1) lv (a :: b :: d :: a :: st) ws) : AW g y cc nL ret R E F kc ks pc lv (a :: b :: d :: st) ws :=
  fun p e s m args below meth c H locs A ls C D hl => lv_dup2_x2_2 C.1 C.2.1 hd ha hb hc (k p e s m args below meth c H locs A ls C D hl)
theorem aw_if_eq {x : Int32} {off : Int} {tgt : Nat} (hd : decode cc pc = .ok (.ifCond .eq off, 3)) (ht : (pc : Int) + off = (tgt : Int)) (kt : x = 0 → AW g y cc nL ret R E F kc ks tgt lv st ws) (kf : ¬ x = 0 → AW g y cc nL ret R E F kc ks (pc + 3) lv st ws) : AW g y cc nL ret R E F kc ks pc lv (.int x :: st) ws :=
  fun p e s m args below meth c H locs A ls C D hl => lv_if_eq C.1 C.2.1 hd ht (fun h => kt h p e s m args below meth c H locs A ls C D hl) (fun h => kf h p e s m args below meth c H locs A ls C D hl)
theorem aw_icmp_eq {x z : Int32} {off : Int} {tgt : Nat} (hd : decode cc pc = .ok (.if_icmp .eq off, 3)) (ht : (pc : Int) + off = (tgt : Int)) (kt : x = z → AW g y cc nL ret R E F kc ks tgt lv st ws) (kf : ¬ x = z → AW g y cc nL ret R E F kc ks (pc + 3) lv st ws) : AW g y cc nL ret R E F kc ks pc lv (.int z :: .int x :: st) ws :=
  fun p e s m args below meth c H locs A ls C D hl => lv_icmp_eq C.1 C.2.1 hd ht (fun h => kt h p e s m args below meth c H locs A ls C D hl) (fun h => kf h p e s m args below meth c H locs A ls C D hl)
theorem aw_if_ne {x : Int32} {off : Int} {tgt : Nat} (hd : decode cc pc = .ok (.ifCond .ne off, 3)) (ht : (pc : Int) + off = (tgt : Int)) (kt : ¬ x = 0 → AW g y cc nL ret R E F kc ks tgt lv st ws) (kf : x = 0 → AW g y cc nL ret R E F kc ks (pc + 3) lv st ws) : AW g y cc nL ret R E F kc ks pc lv (.int x :: st) ws :=
  fun p e s m args below meth c H locs A ls C D hl => lv_if_ne C.1 C.2.1 hd ht (fun h => kt h p e s m args below meth c H locs A ls C D hl) (fun h => kf h p e s m args below meth c H locs A ls C D hl)
theorem aw_icmp_ne {x z : Int32} {off : Int} {tgt : Nat} (hd : decode cc pc = .ok (.if_icmp .ne off, 3)) (ht : (pc : Int) + off = (tgt : Int)) (kt : ¬ x = z → AW g y cc nL ret R E F kc ks tgt lv st ws) (kf : x = z → AW g y cc nL ret R E F kc ks (pc + 3) lv st ws) : AW g y cc nL ret R E F kc ks pc lv (.int z :: .int x :: st) ws :=
  fun p e s m args below meth c H locs A ls C D hl => lv_icmp_ne C.1 C.2.1 hd ht (fun h => kt h p e s m args below meth c H locs A ls C D hl) (fun h => kf h p e s m args below meth c H locs A ls C D hl)
theorem aw_if_lt {x : Int32} {off : Int} {tgt : Nat} (hd : decode cc pc = .ok (.ifCond .lt off, 3)) (ht : (pc : Int) + off = (tgt : Int)) (kt : x < 0 → AW g y cc nL ret R E F kc ks tgt lv st ws) (kf : ¬ x < 0 → AW g y cc nL ret R E F kc ks (pc + 3) lv st ws) : AW g y cc nL ret R E F kc ks pc lv (.int x :: st) ws :=
  fun p e s m args below meth c H locs A ls C D hl => lv_if_lt C.1 C.2.1 hd ht (fun h => kt h p e s m args below meth c H locs A ls C D hl) (fun h => kf h p e s m args below meth c H locs A ls C D hl)
theorem aw_icmp_lt {x z : Int32} {off : Int} {tgt : Nat} (hd : decode cc pc = .ok (.if_icmp .lt off, 3)) (ht : (pc : Int) + off = (tgt : Int)) (kt : x < z → AW g y cc nL ret R E F kc ks tgt lv st ws) (kf : ¬ x < z → AW g y cc nL ret R E F kc ks (pc + 3) lv st ws) : AW g y cc nL ret R E F kc ks pc lv (.int z :: .int x :: st) ws :=
  fun p e s m args below meth c H locs A ls C D hl => lv_icmp_lt C.1 C.2.1 hd ht (fun h => kt h p e s m args below meth c H locs A ls C D hl) (fun h => kf h p e s m args below meth c H locs A ls C D hl)
theorem aw_if_ge {x : Int32} {off : Int} {tgt : Nat} (hd : decode cc pc = .ok (.ifCond .ge off, 3)) (ht : (pc : Int) + off = (tgt : Int)) (kt : 0 ≤ x → AW g y cc nL ret R E F kc ks tgt lv st ws) (kf : ¬ 0 ≤ x → AW g y cc nL ret R E F kc ks (pc + 3) lv st ws) : AW g y cc nL ret R E F kc ks pc lv (.int x :: st) ws :=
  fun p e s m args below meth c H locs A ls C D hl => lv_if_ge C.1 C.2.1 hd ht (fun h => kt h p e s m args below meth c H locs A ls C D hl) (fun h => kf h p e s m args below meth c H locs A ls C D hl)
theorem aw_icmp_ge {x z : Int32} {off : Int} {tgt : Nat} (hd : decode cc pc = .ok (.if_icmp .ge off, 3)) (ht : (pc : Int) + off = (tgt : Int)) (kt : z ≤ x → AW g y cc nL ret R E F kc ks tgt lv st ws) (kf : ¬ z ≤ x → AW g y cc nL ret R E F kc ks (pc + 3) lv st ws) : AW g y cc nL ret R E F kc ks pc lv (.int z :: .int x :: st) ws :=
  fun p e s m args below meth c H locs A ls C D hl => lv_icmp_ge C.1 C.2.1 hd ht (fun h => kt h p e s m args below meth c H locs A ls C D hl) (fun h => kf h p e s m args below meth c H locs A ls C D hl)
theorem aw_if_gt {x : Int32} {off : Int} {tgt : Nat} (hd : decode cc pc = .ok (.ifCond .gt off, 3)) (ht : (pc : Int) + off = (tgt : Int)) (kt : 0 < x → AW g y cc nL ret R E F kc ks tgt lv st ws) (kf : ¬ 0 < x → AW g y cc nL ret R E F kc ks (pc + 3) lv st ws) : AW g y cc nL ret R E F kc ks pc lv (.int x :: st) ws :=
  fun p e s m args below meth c H locs A ls C D hl => lv_if_gt C.1 C.2.1 hd ht (fun h => kt h p e s m args below meth c H locs A ls C D hl) (fun h => kf h p e s m args below meth c H locs A ls C D hl)
theorem aw_icmp_gt {x z : Int32} {off : Int} {tgt : Nat} (hd : decode cc pc = .ok (.if_icmp .gt off, 3)) (ht : (pc : Int) + off = (tgt : Int)) (kt : z < x → AW g y cc nL ret R E F kc ks tgt lv st ws) (kf : ¬ z < x → AW g y cc nL ret R E F kc ks (pc + 3) lv st ws) : AW g y cc nL ret R E F kc ks pc lv (.int z :: .int x :: st) ws :=
  fun p e s m args below meth c H locs A ls C D hl => lv_icmp_gt C.1 C.2.1 hd ht (fun h => kt h p e s m args below meth c H locs A ls C D hl) (fun h => kf h p e s m args below meth c H locs A ls C D hl)
theorem aw_if_le {x : Int32} {off : Int} {tgt : Nat} (hd : decode cc pc = .ok (.ifCond .le off, 3)) (ht : (pc : Int) + off = (tgt : Int)) (kt : x ≤ 0 → AW g y cc nL ret R E F kc ks tgt lv st ws) (kf : ¬ x ≤ 0 → AW g y cc nL ret R E F kc ks (pc + 3) lv st ws) : AW g y cc nL ret R E F kc ks pc lv (.int x :: st) ws :=
  fun p e s m args below meth c H locs A ls C D hl => lv_if_le C.1 C.2.1 hd ht (fun h => kt h p e s m args below meth c H locs A ls C D hl) (fun h => kf h p e s m args below meth c H locs A ls C D hl)
theorem aw_icmp_le {x z : Int32} {off : Int} {tgt : Nat} (hd : decode cc pc = .ok (.if_icmp .le off, 3)) (ht : (pc : Int) + off = (tgt : Int)) (kt : x ≤ z → AW g y cc nL ret R E F kc ks tgt lv st ws) (kf : ¬ x ≤ z → AW g y cc nL ret R E F kc ks (pc + 3) lv st ws) : AW g y cc nL ret R E F kc ks pc lv (.int z :: .int x :: st) ws :=
  fun p e s m args below meth c H locs A ls C D hl => lv_icmp_le C.1 C.2.1 hd ht (fun h => kt h p e s m args below meth c H locs A ls C D hl) (fun h => kf h p e s m args below meth c H locs A ls C D hl)
theorem aw_goto {off : Int} {tgt : Nat} (hd : decode cc pc = .ok (.goto off, 3)) (ht : (pc : Int) + off = (tgt : Int)) (k : AW g y cc nL ret R E F kc ks tgt lv st ws) : AW g y cc nL ret R E F kc ks pc lv st ws :=
  fun p e s m args below meth c H locs A ls C D hl => lv_goto C.1 C.2.1 hd ht (k p e s m args below meth c H locs A ls C D hl)
theorem aw_ret {Q : Option Value → va_W → Prop} {v : Option Value} {A : Nat → Prop} {s t : State} {H : Heap} {locs : List Loc} {args : Array Value} (D : aw_wd g A s H locs ws) (hq : Q v ws) (ht : t.heap = H) (hW : s.WarmedH t.vm) : aw_Q g Q A args s (.returned v) t :=
  ⟨⟨v, ws, rfl, hq, by rw [ht]; exact D.2.2.1, va_K.moved hW.alike D.2.1, D.2.2.2⟩, D.1.F ht⟩
theorem aw_iret {Q : Option Value → va_W → Prop} {mc ms : Nat} {v : Int32} (hd : decode cc pc = .ok (.ireturn, 1)) (h1 : kc ≤ mc) (h2 : ks ≤ ms) (hq : Q (some (.int v)) ws) : AW g y cc nL (some .int) R E (aw_F g Q mc ms) kc ks pc lv [.int v] ws :=
  fun p e s m args below meth c H locs A ls C D hl => W.widen h1 h2 (W.iret C.1 C.2.1 C.2.2.1 (fun t ht hW => aw_ret D hq ht hW) D.1.2.2 hd (hlocks := C.2.2.2.2.2.2.1))
theorem aw_lret {Q : Option Value → va_W → Prop} {mc ms : Nat} {v : Int64} (hd : decode cc pc = .ok (.lreturn, 1)) (h1 : kc ≤ mc) (h2 : ks ≤ ms) (hq : Q (some (.long v)) ws) : AW g y cc nL (some .long) R E (aw_F g Q mc ms) kc ks pc lv [.long v] ws :=
  fun p e s m args below meth c H locs A ls C D hl => W.widen h1 h2 (W.lret C.1 C.2.1 C.2.2.1 (fun t ht hW => aw_ret D hq ht hW) D.1.2.2 hd (hlocks := C.2.2.2.2.2.2.1))
theorem aw_zret {Q : Option Value → va_W → Prop} {mc ms : Nat} {v : Int32} {ty : FieldType} (hd : decode cc pc = .ok (.ireturn, 1)) (hn : narrow ty (.int v) = .int v) (h1 : kc ≤ mc) (h2 : ks ≤ ms) (hq : Q (some (.int v)) ws) : AW g y cc nL (some ty) R E (aw_F g Q mc ms) kc ks pc lv [.int v] ws :=
  fun p e s m args below meth c H locs A ls C D hl => W.widen h1 h2 (W.zret C.1 C.2.1 C.2.2.1 hn (fun t ht hW => aw_ret D hq ht hW) D.1.2.2 hd (hlocks := C.2.2.2.2.2.2.1))
theorem aw_vret {Q : Option Value → va_W → Prop} {mc ms : Nat} (hd : decode cc pc = .ok (.return_, 1)) (h1 : kc ≤ mc) (h2 : ks ≤ ms) (hq : Q none ws) : AW g y cc nL none R E (aw_F g Q mc ms) kc ks pc lv [] ws :=
  fun p e s m args below meth c H locs A ls C D hl => W.widen h1 h2 (W.vret C.1 C.2.1 C.2.2.1 (fun t ht hW => aw_ret D hq ht hW) D.1.2.2 hd (hlocks := C.2.2.2.2.2.2.1))
def aw_cc (ci : Nat) (Cn : String) (T : u_T) (N : Nat) (ty : Nat → FieldType) : Prop := vwCl[ci]? = some (Cn, T, N) ∧ (∀ w ∈ u_ws Cn T N, w ∈ aw_WS) ∧ (∀ k, k < N → parseFieldDescriptor (T k).2.2.1 = some (ty k)) ∧ (∀ a, a < N → ∀ b, b < N → a ≠ b → (T a).2.1 ≠ (T b).2.1)
theorem aw_get {ci N index a : Nat} {Cn : String} {T : u_T} {ty : Nat → FieldType} {fs : List Value} {v : Value} (K : aw_cc ci Cn T N ty) (i : Nat) (hi : i < N) (hw : Cond.fieldLink y.cls index (T i).1 (T i).2.1 (T i).2.2.1 ∈ aw_WS) (hd : decode cc pc = .ok (.getfield index, 3)) {q0 : Nat} (he : ws[q0]? = some (a, .inr (ci, fs))) (hv : fs[i]? = some v) (k : AW g y cc nL ret R E F kc ks (pc + 3) lv (v :: st) ws) : AW g y cc nL ret R E F kc ks pc lv (.ref a :: st) ws :=
  fun p e s m args below meth c H locs A ls C D hl => va_get (Ts := aw_WS) C.1 C.2.1 C.2.2.2.2.2.1 K.2.1 C.2.2.2.2.1 D.2.1 D.2.2.1 q0 he K.1 i hi (C.2.2.2.2.2.1 _ hw) (fun _ h9 => h9) hv hd (k p e s m args below meth c H locs A ls C D hl)
theorem aw_put {ci N index a : Nat} {Cn : String} {T : u_T} {ty : Nat → FieldType} {fs : List Value} {v : Value} (K : aw_cc ci Cn T N ty) (i : Nat) (hi : i < N) (hw : Cond.fieldLink y.cls index (T i).1 (T i).2.1 (T i).2.2.1 ∈ aw_WS) (hd : decode cc pc = .ok (.putfield index, 3)) {q0 : Nat} (he : ws[q0]? = some (a, .inr (ci, fs))) (hfin : (T i).2.2.2 = false) (hn : narrow (ty i) v = v) (hfit : fits (ty i) v = true) (hlen : i < fs.length) (k : AW g y cc nL ret R E F kc ks (pc + 3) lv st (ws.set q0 (a, .inr (ci, fs.set i v)))) : AW g y cc nL ret R E F kc ks pc lv (v :: .ref a :: st) ws :=
  fun p e s m args below meth c H locs A ls C D hl => va_put (Ts := aw_WS) C.1 C.2.1 C.2.2.2.2.2.1 K.2.1 ty K.2.2.1 K.2.2.2 C.2.2.2.2.1 D.2.1 D.2.2.1 D.2.2.2 D.1 q0 he K.1 i hi (C.2.2.2.2.2.1 _ hw) (fun _ h9 => h9) hfin (K.2.2.1 i hi) hn hfit hlen hd (fun H locs hP hD hS => k p e s m args below meth c H locs A ls C ⟨hS, D.2.1, hP, hD⟩ hl)
theorem aw_putF {ci N index a : Nat} {Cn : String} {T : u_T} {ty : Nat → FieldType} {fs : List Value} {v : Value} (K : aw_cc ci Cn T N ty) (i : Nat) (hi : i < N) (hw : Cond.fieldLink y.cls index (T i).1 (T i).2.1 (T i).2.2.1 ∈ aw_WS) (hd : decode cc pc = .ok (.putfield index, 3)) {q0 : Nat} (he : ws[q0]? = some (a, .inr (ci, fs))) (hfin : (T i).2.2.2 = true) (hin : y.name = "<init>") (hde : (T i).1 = y.cls) (hn : narrow (ty i) v = v) (hfit : fits (ty i) v = true) (hlen : i < fs.length) (k : AW g y cc nL ret R E F kc ks (pc + 3) lv st (ws.set q0 (a, .inr (ci, fs.set i v)))) : AW g y cc nL ret R E F kc ks pc lv (v :: .ref a :: st) ws :=
  fun p e s m args below meth c H locs A ls C D hl => va_putF (Ts := aw_WS) C.1 C.2.1 C.2.2.2.2.2.1 K.2.1 ty K.2.2.1 K.2.2.2 C.2.2.2.2.1 D.2.1 D.2.2.1 D.2.2.2 D.1 q0 he K.1 i hi (C.2.2.2.2.2.1 _ hw) (fun _ h9 => h9) hfin (C.2.2.2.2.2.2.2.1.trans hin) hde (K.2.2.1 i hi) hn hfit hlen hd (fun H locs hP hD hS => k p e s m args below meth c H locs A ls C ⟨hS, D.2.1, hP, hD⟩ hl)
theorem aw_iald {a n t0 q0 : Nat} {cA : ClassId} {f : Nat → Int32} {i : Int32} (hd : decode cc pc = .ok (.iaload, 1)) (he : ws[q0]? = some (a, .inl (cA, n, .inl f))) (ht : g.2.2[t0]? = some (cA, .int)) (hin : vp_in i n) (k : AW g y cc nL ret R E F kc ks (pc + 1) lv (.int (f i.toNatClampNeg) :: st) ws) : AW g y cc nL ret R E F kc ks pc lv (.int i :: .ref a :: st) ws :=
  fun p e s m args below meth c H locs A ls C D hl => va_iald C.1 C.2.1 D.2.1 D.2.2.1 q0 t0 he ht hin hd (k p e s m args below meth c H locs A ls C D hl)
theorem aw_iast {a n t0 q0 : Nat} {cA : ClassId} {f : Nat → Int32} {i : Int32} {x : Int32} (hd : decode cc pc = .ok (.iastore, 1)) (he : ws[q0]? = some (a, .inl (cA, n, .inl f))) (ht : g.2.2[t0]? = some (cA, .int)) (hin : vp_in i n) (k : AW g y cc nL ret R E F kc ks (pc + 1) lv st (ws.set q0 (a, .inl (cA, n, .inl (upd f i.toNatClampNeg x))))) : AW g y cc nL ret R E F kc ks pc lv (.int x :: .int i :: .ref a :: st) ws :=
  fun p e s m args below meth c H locs A ls C D hl => va_iast C.1 C.2.1 D.2.1 D.2.2.1 D.2.2.2 D.1 q0 t0 he ht hin hd (fun H locs hP hD hS => k p e s m args below meth c H locs A ls C ⟨hS, D.2.1, hP, hD⟩ hl)
theorem aw_lald {a n t0 q0 : Nat} {cA : ClassId} {f : Nat → Int64} {i : Int32} (hd : decode cc pc = .ok (.laload, 1)) (he : ws[q0]? = some (a, .inl (cA, n, .inr (.inl f)))) (ht : g.2.2[t0]? = some (cA, .long)) (hin : vp_in i n) (k : AW g y cc nL ret R E F kc ks (pc + 1) lv (.long (f i.toNatClampNeg) :: st) ws) : AW g y cc nL ret R E F kc ks pc lv (.int i :: .ref a :: st) ws :=
  fun p e s m args below meth c H locs A ls C D hl => va_lald C.1 C.2.1 D.2.1 D.2.2.1 q0 t0 he ht hin hd (k p e s m args below meth c H locs A ls C D hl)
theorem aw_last {a n t0 q0 : Nat} {cA : ClassId} {f : Nat → Int64} {i : Int32} {x : Int64} (hd : decode cc pc = .ok (.lastore, 1)) (he : ws[q0]? = some (a, .inl (cA, n, .inr (.inl f)))) (ht : g.2.2[t0]? = some (cA, .long)) (hin : vp_in i n) (k : AW g y cc nL ret R E F kc ks (pc + 1) lv st (ws.set q0 (a, .inl (cA, n, .inr (.inl (vp_updL f i.toNatClampNeg x)))))) : AW g y cc nL ret R E F kc ks pc lv (.long x :: .int i :: .ref a :: st) ws :=
  fun p e s m args below meth c H locs A ls C D hl => va_last C.1 C.2.1 D.2.1 D.2.2.1 D.2.2.2 D.1 q0 t0 he ht hin hd (fun H locs hP hD hS => k p e s m args below meth c H locs A ls C ⟨hS, D.2.1, hP, hD⟩ hl)
theorem aw_alen {a t0 q0 : Nat} {cA : ClassId} {x : vp_A} {fty : FieldType} {v : Int32} (hd : decode cc pc = .ok (.arraylength, 1)) (he : ws[q0]? = some (a, .inl (cA, x))) (ht : g.2.2[t0]? = some (cA, fty)) (hv : Int32.ofNat x.1 = v) (k : AW g y cc nL ret R E F kc ks (pc + 1) lv (.int v :: st) ws) : AW g y cc nL ret R E F kc ks pc lv (.ref a :: st) ws :=
  fun p e s m args below meth c H locs A ls C D hl => va_alen C.1 C.2.1 D.2.1 D.2.2.1 q0 t0 he ht hv hd (k p e s m args below meth c H locs A ls C D hl)
theorem aw_aald {a n t0 q0 b : Nat} {cA : ClassId} {t : FieldType} {f : Nat → Option Nat} {i : Int32} (hd : decode cc pc = .ok (.aaload, 1)) (he : ws[q0]? = some (a, .inl (cA, n, .inr (.inr (.inr (.inr f)))))) (ht : g.2.2[t0]? = some (cA, .array t)) (hin : vp_in i n) (hf : f i.toNatClampNeg = some b) (k : AW g y cc nL ret R E F kc ks (pc + 1) lv (.ref b :: st) ws) : AW g y cc nL ret R E F kc ks pc lv (.int i :: .ref a :: st) ws :=
  fun p e s m args below meth c H locs A ls C D hl => W.aald (v := va_rf (f i.toNatClampNeg)) (ty := .array t) C.1 C.2.1 (D.2.2.1 q0 _ he) ((D.2.1.2 t0 _ ht).1 n (fun j => va_rf (f j))) rfl (fun q => by cases q) (by show ¬ (i < 0 ∨ (arrV _ _ _).slots.size ≤ _); rw [arrV_size]; exact hin) (by show (arrV _ _ _).slots[_]? = _; rw [arrV_read _ _ (Nat.not_le.mp fun q => hin (Or.inr q))]) rfl rfl hd (by rw [hf]; exact (k p e s m args below meth c H locs A ls C D hl))
theorem aw_new {ci N index : Nat} {Cn : String} {T : u_T} {ty : Nat → FieldType} {fs : List Value} (K : aw_cc ci Cn T N ty) (hw1 : Cond.classLink y.cls index Cn ∈ aw_WS) (hw2 : Cond.instantiable Cn N ∈ aw_WS) (hw3 : Cond.initialized Cn ∈ aw_WS) (hd : decode cc pc = .ok (.new index, 3)) (hfs : ∀ j, j < N → defaultValue (ty j) = vp_V fs j) (hc : kc + 1 ≤ R.cells) (hs : ks + N ≤ R.slots) (k : ∀ q : Nat, AW g y cc nL ret R E F (kc + 1) (ks + N) (pc + 3) lv (.ref q :: st) (ws ++ [(q, .inr (ci, fs))])) : AW g y cc nL ret R E F kc ks pc lv st ws :=
  fun p e s m args below meth c H locs A ls C D hl => va_new (Ts := aw_WS) C.1 C.2.1 C.2.2.2.2.2.1 K.2.1 ty K.2.2.1 C.2.2.2.2.1 (C.2.2.2.2.2.1 _ hw1) (C.2.2.2.2.2.1 _ hw2) (C.2.2.2.2.2.1 _ hw3) D.2.1 D.2.2.1 D.2.2.2 D.1 C.2.2.2.2.2.2.2.2.1 K.1 hfs hc hs hd (fun q H hP hD hS => k q p e s m args below meth c H locs A ls C ⟨hS, D.2.1, hP, hD⟩ hl)
theorem aw_newai {t0 N : Nat} {cA : ClassId} {n : Int32} (hd : decode cc pc = .ok (.newarray .int, 2)) (hw : Cond.arrayClass .int ∈ aw_WS) (ht : g.2.2[t0]? = some (cA, .int)) (hn : ¬ n < 0) (hN : n.toNatClampNeg = N) (hby : N * componentBytes .int ≤ 536870912) (hc : kc + 1 ≤ R.cells) (hs : ks + N ≤ R.slots) (k : ∀ q : Nat, AW g y cc nL ret R E F (kc + 1) (ks + N) (pc + 2) lv (.ref q :: st) (ws ++ [(q, .inl (cA, N, .inl (fun _ => 0)))])) : AW g y cc nL ret R E F kc ks pc lv (.int n :: st) ws := by
  intro p e s m args below meth c H locs A ls C D hl
  refine va_newa (atype := .int) (ty := .int) (a0 := (N, .inl (fun _ => 0))) C.1 C.2.1 (C.2.2.2.2.2.1 _ hw) rfl D.2.1 D.2.2.1 D.2.2.2 D.1 C.2.2.2.2.2.2.2.2.1 (fun cA => rfl) hn hN hby hc hs hd (fun q cB H1 hK hP hD hS => ?_)
  have e1 := (hK.2 g.2.2.length (cB, .int) (by rw [List.getElem?_append_right (Nat.le_refl _), Nat.sub_self]; rfl)).2
  have e2 := (D.2.1.2 t0 _ ht).2
  have e3 : cA = cB := Option.some.inj (e2.symm.trans e1)
  subst e3
  exact k q p e s m args below meth c H1 locs A ls C ⟨hS, D.2.1, hP, hD⟩ hl
theorem aw_newal {t0 N : Nat} {cA : ClassId} {n : Int32} (hd : decode cc pc = .ok (.newarray .long, 2)) (hw : Cond.arrayClass .long ∈ aw_WS) (ht : g.2.2[t0]? = some (cA, .long)) (hn : ¬ n < 0) (hN : n.toNatClampNeg = N) (hby : N * componentBytes .long ≤ 536870912) (hc : kc + 1 ≤ R.cells) (hs : ks + N ≤ R.slots) (k : ∀ q : Nat, AW g y cc nL ret R E F (kc + 1) (ks + N) (pc + 2) lv (.ref q :: st) (ws ++ [(q, .inl (cA, N, .inr (.inl (fun _ => 0))))])) : AW g y cc nL ret R E F kc ks pc lv (.int n :: st) ws := by
  intro p e s m args below meth c H locs A ls C D hl
  refine va_newa (atype := .long) (ty := .long) (a0 := (N, .inr (.inl (fun _ => 0)))) C.1 C.2.1 (C.2.2.2.2.2.1 _ hw) rfl D.2.1 D.2.2.1 D.2.2.2 D.1 C.2.2.2.2.2.2.2.2.1 (fun cA => rfl) hn hN hby hc hs hd (fun q cB H1 hK hP hD hS => ?_)
  have e1 := (hK.2 g.2.2.length (cB, .long) (by rw [List.getElem?_append_right (Nat.le_refl _), Nat.sub_self]; rfl)).2
  have e2 := (D.2.1.2 t0 _ ht).2
  have e3 : cA = cB := Option.some.inj (e2.symm.trans e1)
  subst e3
  exact k q p e s m args below meth c H1 locs A ls C ⟨hS, D.2.1, hP, hD⟩ hl
theorem aw_mr {m : MethodId} {pc : Nat} {ls : Array Slot} {st : List Value} {x r : Nat} (h : x + 12 ≤ r) : 2 * (F0 m pc ls st).monitorRoom + x + 12 ≤ r := by
  have z : (F0 m pc ls st).monitorRoom = 0 := rfl
  rw [z]; omega
theorem aw_objInit {idx a : Nat} (hd : decode cc pc = .ok (.invokespecial idx, 3)) (w1 : Cond.methodLink y.cls idx Lib.objectInit ∈ aw_WS) (w2 : Cond.instanceMethod Lib.objectInit ∈ aw_WS) (w3 : Cond.code Lib.objectInit ⟨#[0xb1]⟩ 1 none ∈ aw_WS) (h1 : 1 ≤ R.frames) (h2 : (st.map fun v => v.category).sum + 12 ≤ R.locals) (k : AW g y cc nL ret R E F kc ks (pc + 3) lv st ws) : AW g y cc nL ret R E F kc ks pc lv (.ref a :: st) ws :=
  fun p e s m args below meth c H locs A ls C D hl => W.objInit C.1 C.2.1 C.2.2.2.2.1 (C.2.2.2.2.2.1 _ w1) (C.2.2.2.2.2.1 _ w2) (C.2.2.2.2.2.1 _ w3) rfl (hl.1.trans C.2.2.2.1.symm) rfl hd h1 (aw_mr h2) (k p e s m args below meth c H locs A ls C D hl)
def aw_card (y : MethodName) (cc : ByteArray) (nL : Nat) (ret : Option FieldType) (n : Nat) : Prop := Cond.code y cc nL ret ∈ aw_WS ∧ Cond.initialized y.cls ∈ aw_WS ∧ y.cls ≠ "java/lang/invoke/MethodHandle" ∧ y.cls ≠ "java/lang/invoke/VarHandle" ∧ (parseMethodDescriptor y.desc).map (fun d => d.parameters.length) = some n
theorem aw_after {p : Program} {e : Env} {s : State} {m : MethodId} {args : Array Value} {below : List Frame} {meth : Method} {c : Code} {H : Heap} {locs : List Loc} {A : Nat → Prop} {ls : Array Slot} {Qf : State → Prop} {Q2 : Option Value → va_W → Prop} {mc2 ms2 : Nat} {st0 rest : List Value} {a : Array Value}
    (hr : va_Run p g.1 e R s m args below meth c H locs kc ks mc2 ms2 (F0 m pc ls st0) rest (aw_Q g Q2 (va_A ws H.size) a) (va_A ws H.size)) (D : aw_wd g A s H locs ws) (hA : ∀ q : Nat, s.heap.size ≤ q → A q)
    (kk : ∀ (v : Option Value) (ws' : va_W) (H1 : Heap) (locs1 : List Loc), Q2 v ws' → aw_wd g A s H1 locs1 ws' → W p g.1 e R s m args below meth c H1 locs1 (kc + mc2) (ks + ms2) Qf (F0 m (pc + 3) ls (v.toList ++ rest))) : W p g.1 e R s m args below meth c H locs kc ks Qf (F0 m pc ls st0) := by
  have hf : ∀ q, va_A ws H.size q → A q := fun q h => by
    rcases h with ⟨k, e', hk⟩ | h
    · exact D.2.2.2.2 k _ hk
    · exact hA q (Nat.le_trans D.1.1 h)
  intro T hT X
  obtain ⟨v, st₀, t, T', L, h0, X', hL, e1, e2, ⟨⟨v', ws', hv, hq, hP, hK, hD⟩, hz, hk⟩, stp⟩ := hr T hT X
  cases hv
  rw [h0] at hz hk
  obtain ⟨t2, a1, b1⟩ := kk v ws' T'.heap (locs ++ L) hq ⟨⟨Nat.le_trans D.1.1 (by rw [e1]; exact hz), fun q h1 h2 => by rw [e1, hk q (Nat.lt_of_lt_of_le h1 D.1.1) (fun z => h2 (hf q z))]; exact D.1.2.1 q h1 h2, fun q hq => by
      rcases List.mem_append.mp hq with h | h
      · exact D.1.2.2 q h
      · exact hf _ (hL q h)⟩, D.2.1, by rw [e1]; exact hP, hD.weaken (fun _ _ _ h => hf _ h)⟩ T' rfl X'
  exact ⟨t2, stp t2 a1, b1⟩
theorem aw_pre {s : State} {H : Heap} {locs : List Loc} {A : Nat → Prop} (av : List Value) (D : aw_wd g A s H locs ws) (hN : aw_NK s) : FrameBlind (aw_Pc g av ws H.size) ∧ ∀ U : State, U.heap = H → s.WarmedH U.vm → aw_Pc g av ws H.size av.toArray U :=
  ⟨fun a U gg mk q => by
    obtain ⟨q0, q1, qP, qK, qD, qN⟩ := q
    exact ⟨q0, q1, qP, va_K.moved (u := U) (U := U.calling gg mk a) (Vm.Alike.refl U.vm) qK, qD, aw_NK.same (s := U) (U := U.calling gg mk a) rfl qN⟩, fun U hU hW => ⟨rfl, by rw [hU], by rw [hU]; exact D.2.2.1, va_K.moved hW.alike D.2.1, D.2.2.2.weaken (fun _ _ _ _ => trivial), hN.warm hW⟩⟩
theorem aw_callS {y2 : MethodName} {cc2 : ByteArray} {nL2 : Nat} {ret2 : Option FieldType} {n d2 mc2 ms2 idx : Nat} {av rest : List Value} {Q2 : Option Value → va_W → Prop} (hM : AMet g y2 cc2 nL2 ret2 d2 av ws Q2 mc2 ms2) (hK : aw_card y2 cc2 nL2 ret2 n) (w1 : Cond.methodLink y.cls idx y2 ∈ aw_WS) (w2 : Cond.static y2 ∈ aw_WS) (hd : decode cc pc = .ok (.invokestatic idx, 3)) (hn : av.length = n) (hR : d2 + 1 ≤ R.frames ∧ 8 + (nL2 + 11) + 48 * d2 ≤ R.locals) (hcat : (rest.map fun v => v.category).sum ≤ 8) (hf : kc + mc2 ≤ R.cells ∧ ks + ms2 ≤ R.slots) {st0 : List Value} (hst : st0 = av.reverse ++ rest) (k : ∀ (v : Option Value) (ws' : va_W), Q2 v ws' → AW g y cc nL ret R E F (kc + mc2) (ks + ms2) (pc + 3) lv (v.toList ++ rest) ws') : AW g y cc nL ret R E F kc ks pc lv st0 ws := by
  intro p e s m args below meth c H locs A ls C D hl
  exact aw_after (va_runS (Ts := aw_WS) (own := y.cls) (As := av) (rest := rest) ⟨C.1, C.2.1, C.2.2.2.1, C.2.2.2.2.1, C.2.2.2.2.2.1⟩ (hM H.size) ⟨callB_of n C.2.2.2.2.2.1 (aw_goodIn y2 cc2 nL2 ret2 hK.1) rfl rfl rfl (C.2.2.2.2.2.1 _ hK.2.1) (C.2.2.2.2.2.1 _ w1) hK.2.2 hR, C.2.2.2.2.2.1 _ w2⟩ (aw_pre av D C.2.2.2.2.2.2.2.2.2.2) rfl hn hl.1 hst (lv_room hcat) hd hf) D C.2.2.2.2.2.2.2.2.1 (fun v ws' H1 locs1 hq D' => k v ws' hq p e s m args below meth c H1 locs1 A ls C D' hl)
theorem aw_callSN {y2 : MethodName} {cc2 : ByteArray} {nL2 : Nat} {ret2 : Option FieldType} {n d2 mc2 ms2 idx : Nat} {av rest : List Value} {Q2 : Option Value → va_W → Prop} {host : String} (hM : AMet g y2 cc2 nL2 ret2 d2 av ws Q2 mc2 ms2) (hK : aw_card y2 cc2 nL2 ret2 n) (w1 : Cond.methodLinkNest y.cls idx y2 host ∈ aw_NW) (w2 : Cond.static y2 ∈ aw_WS) (hd : decode cc pc = .ok (.invokestatic idx, 3)) (hn : av.length = n) (hR : d2 + 1 ≤ R.frames ∧ 8 + (nL2 + 11) + 48 * d2 ≤ R.locals) (hcat : (rest.map fun v => v.category).sum ≤ 8) (hf : kc + mc2 ≤ R.cells ∧ ks + ms2 ≤ R.slots) {st0 : List Value} (hst : st0 = av.reverse ++ rest) (k : ∀ (v : Option Value) (ws' : va_W), Q2 v ws' → AW g y cc nL ret R E F (kc + mc2) (ks + ms2) (pc + 3) lv (v.toList ++ rest) ws') : AW g y cc nL ret R E F kc ks pc lv st0 ws := by
  intro p e s m args below meth c H locs A ls C D hl
  exact aw_after (va_runSN (Ts := aw_WS) (own := y.cls) (As := av) (rest := rest) ⟨C.1, C.2.1, C.2.2.2.1, C.2.2.2.2.1, C.2.2.2.2.2.1⟩ (hM H.size) ⟨va_cnB n C.2.2.2.2.2.1 (aw_goodIn y2 cc2 nL2 ret2 hK.1) rfl rfl rfl (C.2.2.2.2.2.2.2.2.2.2.1 _ w1) (C.2.2.2.2.2.1 _ hK.2.1) hK.2.2 hR, C.2.2.2.2.2.1 _ w2, trivial⟩ (aw_pre av D C.2.2.2.2.2.2.2.2.2.2) rfl hn hl.1 hst (lv_room hcat) hd hf) D C.2.2.2.2.2.2.2.2.1 (fun v ws' H1 locs1 hq D' => k v ws' hq p e s m args below meth c H1 locs1 A ls C D' hl)
theorem aw_callV {y2 : MethodName} {cc2 : ByteArray} {nL2 : Nat} {ret2 : Option FieldType} {n d2 mc2 ms2 idx : Nat} {av rest : List Value} {Q2 : Option Value → va_W → Prop} {b : Nat} {ci N q0 : Nat} {Cn : String} {T : u_T} {fs : List Value} (hM : AMet g y2 cc2 nL2 ret2 d2 (.ref b :: av) ws Q2 mc2 ms2) (hK : aw_card y2 cc2 nL2 ret2 n) (w1 : Cond.methodLink y.cls idx y2 ∈ aw_WS) (w2 : Cond.instanceMethod y2 ∈ aw_WS) (w3 : Cond.selects Cn y2 y2 ∈ aw_WS) (hc : vwCl[ci]? = some (Cn, T, N)) (he : ws[q0]? = some (b, .inr (ci, fs))) (hd : decode cc pc = .ok (.invokevirtual idx, 3)) (hn : av.length = n) (hR : d2 + 1 ≤ R.frames ∧ 8 + (nL2 + 11) + 48 * d2 ≤ R.locals) (hcat : (rest.map fun v => v.category).sum ≤ 8) (hf : kc + mc2 ≤ R.cells ∧ ks + ms2 ≤ R.slots) {st0 : List Value} (hst : st0 = av.reverse ++ .ref b :: rest) (k : ∀ (v : Option Value) (ws' : va_W), Q2 v ws' → AW g y cc nL ret R E F (kc + mc2) (ks + ms2) (pc + 3) lv (v.toList ++ rest) ws') : AW g y cc nL ret R E F kc ks pc lv st0 ws := by
  intro p e s m args below meth c H locs A ls C D hl
  exact aw_after (va_runV (Ts := aw_WS) (own := y.cls) (As := av) (rest := rest) ⟨C.1, C.2.1, C.2.2.2.1, C.2.2.2.2.1, C.2.2.2.2.2.1⟩ (hM H.size) ⟨callB_of n C.2.2.2.2.2.1 (aw_goodIn y2 cc2 nL2 ret2 hK.1) rfl rfl rfl (C.2.2.2.2.2.1 _ hK.2.1) (C.2.2.2.2.2.1 _ w1) hK.2.2 hR, C.2.2.2.2.2.1 _ w2, C.2.2.2.2.2.1 _ w3⟩ ⟨(aw_pre (.ref b :: av) D C.2.2.2.2.2.2.2.2.2.2).1, va_recv D.2.1 D.2.2.1 hc he, (aw_pre (.ref b :: av) D C.2.2.2.2.2.2.2.2.2.2).2⟩ rfl hn hl.1 hst (lv_room hcat) hd hf) D C.2.2.2.2.2.2.2.2.1 (fun v ws' H1 locs1 hq D' => k v ws' hq p e s m args below meth c H1 locs1 A ls C D' hl)
theorem aw_callVN {y2 : MethodName} {cc2 : ByteArray} {nL2 : Nat} {ret2 : Option FieldType} {n d2 mc2 ms2 idx : Nat} {av rest : List Value} {Q2 : Option Value → va_W → Prop} {b : Nat} {ci N q0 : Nat} {Cn : String} {T : u_T} {fs : List Value} {host : String} (hM : AMet g y2 cc2 nL2 ret2 d2 (.ref b :: av) ws Q2 mc2 ms2) (hK : aw_card y2 cc2 nL2 ret2 n) (w1 : Cond.methodLinkNest y.cls idx y2 host ∈ aw_NW) (w2 : Cond.instanceMethod y2 ∈ aw_WS) (w3 : Cond.selects Cn y2 y2 ∈ aw_WS) (hc : vwCl[ci]? = some (Cn, T, N)) (he : ws[q0]? = some (b, .inr (ci, fs))) (hd : decode cc pc = .ok (.invokevirtual idx, 3)) (hn : av.length = n) (hR : d2 + 1 ≤ R.frames ∧ 8 + (nL2 + 11) + 48 * d2 ≤ R.locals) (hcat : (rest.map fun v => v.category).sum ≤ 8) (hf : kc + mc2 ≤ R.cells ∧ ks + ms2 ≤ R.slots) {st0 : List Value} (hst : st0 = av.reverse ++ .ref b :: rest) (k : ∀ (v : Option Value) (ws' : va_W), Q2 v ws' → AW g y cc nL ret R E F (kc + mc2) (ks + ms2) (pc + 3) lv (v.toList ++ rest) ws') : AW g y cc nL ret R E F kc ks pc lv st0 ws := by
  intro p e s m args below meth c H locs A ls C D hl
  exact aw_after (va_runVN (Ts := aw_WS) (own := y.cls) (As := av) (rest := rest) ⟨C.1, C.2.1, C.2.2.2.1, C.2.2.2.2.1, C.2.2.2.2.2.1⟩ (hM H.size) ⟨va_cnB n C.2.2.2.2.2.1 (aw_goodIn y2 cc2 nL2 ret2 hK.1) rfl rfl rfl (C.2.2.2.2.2.2.2.2.2.2.1 _ w1) (C.2.2.2.2.2.1 _ hK.2.1) hK.2.2 hR, C.2.2.2.2.2.1 _ w2, C.2.2.2.2.2.1 _ w3⟩ ⟨(aw_pre (.ref b :: av) D C.2.2.2.2.2.2.2.2.2.2).1, va_recv D.2.1 D.2.2.1 hc he, (aw_pre (.ref b :: av) D C.2.2.2.2.2.2.2.2.2.2).2⟩ rfl hn hl.1 hst (lv_room hcat) hd hf) D C.2.2.2.2.2.2.2.2.1 (fun v ws' H1 locs1 hq D' => k v ws' hq p e s m args below meth c H1 locs1 A ls C D' hl)
theorem aw_callI {y2 : MethodName} {cc2 : ByteArray} {nL2 : Nat} {n d2 mc2 ms2 idx : Nat} {av rest : List Value} {Q2 : Option Value → va_W → Prop} {b : Nat} (hM : AMet g y2 cc2 nL2 none d2 (.ref b :: av) ws Q2 mc2 ms2) (hK : aw_card y2 cc2 nL2 none n) (w1 : Cond.methodLink y.cls idx y2 ∈ aw_WS) (w2 : Cond.instanceMethod y2 ∈ aw_WS) (hin : y2.name = "<init>") (hd : decode cc pc = .ok (.invokespecial idx, 3)) (hn : av.length = n) (hR : d2 + 1 ≤ R.frames ∧ 8 + (nL2 + 11) + 48 * d2 ≤ R.locals) (hcat : (rest.map fun v => v.category).sum ≤ 8) (hf : kc + mc2 ≤ R.cells ∧ ks + ms2 ≤ R.slots) {st0 : List Value} (hst : st0 = av.reverse ++ .ref b :: rest) (k : ∀ (v : Option Value) (ws' : va_W), Q2 v ws' → AW g y cc nL ret R E F (kc + mc2) (ks + ms2) (pc + 3) lv (v.toList ++ rest) ws') : AW g y cc nL ret R E F kc ks pc lv st0 ws := by
  intro p e s m args below meth c H locs A ls C D hl
  exact aw_after (va_runI (Ts := aw_WS) (own := y.cls) (As := av) (rest := rest) ⟨C.1, C.2.1, C.2.2.2.1, C.2.2.2.2.1, C.2.2.2.2.2.1⟩ (hM H.size) ⟨callB_of n C.2.2.2.2.2.1 (aw_goodIn y2 cc2 nL2 none hK.1) rfl rfl rfl (C.2.2.2.2.2.1 _ hK.2.1) (C.2.2.2.2.2.1 _ w1) hK.2.2 hR, hin, C.2.2.2.2.2.1 _ w2⟩ (aw_pre (.ref b :: av) D C.2.2.2.2.2.2.2.2.2.2) rfl hn hl.1 hst (lv_room hcat) hd hf) D C.2.2.2.2.2.2.2.2.1 (fun v ws' H1 locs1 hq D' => k v ws' hq p e s m args below meth c H1 locs1 A ls C D' hl)
theorem aw_callIN {y2 : MethodName} {cc2 : ByteArray} {nL2 : Nat} {n d2 mc2 ms2 idx : Nat} {av rest : List Value} {Q2 : Option Value → va_W → Prop} {b : Nat} {host : String} (hM : AMet g y2 cc2 nL2 none d2 (.ref b :: av) ws Q2 mc2 ms2) (hK : aw_card y2 cc2 nL2 none n) (w1 : Cond.methodLinkNest y.cls idx y2 host ∈ aw_NW) (w2 : Cond.instanceMethod y2 ∈ aw_WS) (hin : y2.name = "<init>") (hd : decode cc pc = .ok (.invokespecial idx, 3)) (hn : av.length = n) (hR : d2 + 1 ≤ R.frames ∧ 8 + (nL2 + 11) + 48 * d2 ≤ R.locals) (hcat : (rest.map fun v => v.category).sum ≤ 8) (hf : kc + mc2 ≤ R.cells ∧ ks + ms2 ≤ R.slots) {st0 : List Value} (hst : st0 = av.reverse ++ .ref b :: rest) (k : ∀ (v : Option Value) (ws' : va_W), Q2 v ws' → AW g y cc nL ret R E F (kc + mc2) (ks + ms2) (pc + 3) lv (v.toList ++ rest) ws') : AW g y cc nL ret R E F kc ks pc lv st0 ws := by
  intro p e s m args below meth c H locs A ls C D hl
  exact aw_after (va_runIN (Ts := aw_WS) (own := y.cls) (As := av) (rest := rest) ⟨C.1, C.2.1, C.2.2.2.1, C.2.2.2.2.1, C.2.2.2.2.2.1⟩ (hM H.size) ⟨va_cnB n C.2.2.2.2.2.1 (aw_goodIn y2 cc2 nL2 none hK.1) rfl rfl rfl (C.2.2.2.2.2.2.2.2.2.2.1 _ w1) (C.2.2.2.2.2.1 _ hK.2.1) hK.2.2 hR, hin, C.2.2.2.2.2.1 _ w2⟩ (aw_pre (.ref b :: av) D C.2.2.2.2.2.2.2.2.2.2) rfl hn hl.1 hst (lv_room hcat) hd hf) D C.2.2.2.2.2.2.2.2.1 (fun v ws' H1 locs1 hq D' => k v ws' hq p e s m args below meth c H1 locs1 A ls C D' hl)
def aw_EX (b L : Nat) (xs : Nat → Int32) : (Nat → Prop) → State → Array Value → Prop := fun A s args => va_X b L xs s s.heap ∧ b < s.heap.size ∧ ¬ A b ∧ args = #[Value.ref b] ∧ ∀ q, A q → s.heap.size ≤ q
theorem aw_sld {b L : Nat} {xs : Nat → Int32} {i : Int32} (hd : decode cc pc = .ok (.iaload, 1)) (hin : vp_in i L) (k : AW g y cc nL ret R (aw_EX b L xs) F kc ks (pc + 1) lv (.int (xs i.toNatClampNeg) :: st) ws) : AW g y cc nL ret R (aw_EX b L xs) F kc ks pc lv (.int i :: .ref b :: st) ws :=
  fun p e s m args below meth c H locs A ls C D hl => va_sld C.1 C.2.1 C.2.2.2.2.2.2.2.2.2.1.1 C.2.2.2.2.2.2.2.2.2.1.2.1 C.2.2.2.2.2.2.2.2.2.1.2.2.1 D.1 hin hd (k p e s m args below meth c H locs A ls C D hl)
theorem aw_slen {b L : Nat} {xs : Nat → Int32} (hd : decode cc pc = .ok (.arraylength, 1)) (k : AW g y cc nL ret R (aw_EX b L xs) F kc ks (pc + 1) lv (.int (Int32.ofNat L) :: st) ws) : AW g y cc nL ret R (aw_EX b L xs) F kc ks pc lv (.ref b :: st) ws :=
  fun p e s m args below meth c H locs A ls C D hl => va_slen C.1 C.2.1 C.2.2.2.2.2.2.2.2.2.1.1 C.2.2.2.2.2.2.2.2.2.1.2.1 C.2.2.2.2.2.2.2.2.2.1.2.2.1 D.1 hd (k p e s m args below meth c H locs A ls C D hl)
theorem aw_tableOut {dflt lo hi : Int} {offs : Array Int} {len : Nat} {x : Int32} {tgt : Nat} (hd : decode cc pc = .ok (.tableswitch dflt lo hi offs, len)) (h : x.toInt < lo ∨ hi < x.toInt) (ht : (pc : Int) + dflt = (tgt : Int)) (k : AW g y cc nL ret R E F kc ks tgt lv st ws) : AW g y cc nL ret R E F kc ks pc lv (.int x :: st) ws :=
  fun p e s m args below meth c H locs A ls C D hl => lv_tableOut C.1 C.2.1 hd h ht (k p e s m args below meth c H locs A ls C D hl)
theorem aw_tableIn {dflt lo hi off : Int} {offs : Array Int} {len : Nat} {x : Int32} {tgt : Nat} (hd : decode cc pc = .ok (.tableswitch dflt lo hi offs, len)) (h1 : ¬ x.toInt < lo) (h2 : ¬ hi < x.toInt) (ho : offs[(x.toInt - lo).toNat]? = some off) (ht : (pc : Int) + off = (tgt : Int)) (k : AW g y cc nL ret R E F kc ks tgt lv st ws) : AW g y cc nL ret R E F kc ks pc lv (.int x :: st) ws :=
  fun p e s m args below meth c H locs A ls C D hl => lv_tableIn C.1 C.2.1 hd h1 h2 ho ht (k p e s m args below meth c H locs A ls C D hl)
def bI (b : Bool) : Int32 := if b then 1 else 0
def lI (z : Int) : Int64 := Int64.ofInt z
def fup {α : Type} (f : Nat → α) (k : Nat) (x : α) : Nat → α := fun j => if j = k then x else f j
theorem fup_s {α : Type} (f : Nat → α) (k : Nat) (x : α) : fup f k x k = x := if_pos rfl
theorem fup_n {α : Type} {f : Nat → α} {k j : Nat} {x : α} (h : j ≠ k) : fup f k x j = f j := if_neg h
theorem aw_setS {ws : va_W} {q0 : Nat} {x z : Nat × va_E} (he : ws[q0]? = some x) : (ws.set q0 z)[q0]? = some z := by
  rw [List.getElem?_set_self]
  exact (List.getElem?_eq_some_iff.mp he).1
theorem aw_setN {ws : va_W} {q0 : Nat} {z : Nat × va_E} : ∀ j, j ≠ q0 → (ws.set q0 z)[j]? = ws[j]? := fun j h => List.getElem?_set_ne (Ne.symm h)
theorem upd_fup (f : Nat → Int32) (k : Nat) (x : Int32) : upd f k x = fup f k x := rfl
theorem updL_fup (f : Nat → Int64) (k : Nat) (x : Int64) : vp_updL f k x = fup f k x := rfl
theorem aw_nmi {x z : Int32} (h : x = z) (k : AW g y cc nL ret R E F kc ks pc lv (.int z :: st) ws) : AW g y cc nL ret R E F kc ks pc lv (.int x :: st) ws := by rw [h]; exact k
theorem aw_nml {x z : Int64} (h : x = z) (k : AW g y cc nL ret R E F kc ks pc lv (.long z :: st) ws) : AW g y cc nL ret R E F kc ks pc lv (.long x :: st) ws := by rw [h]; exact k
theorem aw_iinc1 {i a : Nat} {lv' : List (Nat × Value)} (hd : decode cc pc = .ok (.iinc i 1, 3)) (hj : lv.lookup i = some (.int (nI a))) (hn : i < nL) (hl' : aw_st1 lv i (.int (nI (a + 1))) = lv') (k : AW g y cc nL ret R E F kc ks (pc + 3) lv' st ws) : AW g y cc nL ret R E F kc ks pc lv st ws :=
  aw_iinc hd hj (nI_1 a) hn hl' k
theorem aw_putN {ci N index a : Nat} {Cn : String} {T : u_T} {ty : Nat → FieldType} {fs : List Value} {v : Value} (K : aw_cc ci Cn T N ty) (i : Nat) (hi : i < N) (hw : Cond.fieldLink y.cls index (T i).1 (T i).2.1 (T i).2.2.1 ∈ aw_WS) (hd : decode cc pc = .ok (.putfield index, 3)) {q0 : Nat} (he : ws[q0]? = some (a, .inr (ci, fs))) (hfin : (T i).2.2.2 = false) (hn : narrow (ty i) v = v) (hfit : fits (ty i) v = true) (hlen : i < fs.length) (k : ∀ ws' : va_W, ws'[q0]? = some (a, .inr (ci, fs.set i v)) → (∀ j, j ≠ q0 → ws'[j]? = ws[j]?) → ws'.length = ws.length → AW g y cc nL ret R E F kc ks (pc + 3) lv st ws') : AW g y cc nL ret R E F kc ks pc lv (v :: .ref a :: st) ws :=
  aw_put K i hi hw hd he hfin hn hfit hlen (k _ (aw_setS he) aw_setN List.length_set)
theorem aw_putFN {ci N index a : Nat} {Cn : String} {T : u_T} {ty : Nat → FieldType} {fs : List Value} {v : Value} (K : aw_cc ci Cn T N ty) (i : Nat) (hi : i < N) (hw : Cond.fieldLink y.cls index (T i).1 (T i).2.1 (T i).2.2.1 ∈ aw_WS) (hd : decode cc pc = .ok (.putfield index, 3)) {q0 : Nat} (he : ws[q0]? = some (a, .inr (ci, fs))) (hfin : (T i).2.2.2 = true) (hin : y.name = "<init>") (hde : (T i).1 = y.cls) (hn : narrow (ty i) v = v) (hfit : fits (ty i) v = true) (hlen : i < fs.length) (k : ∀ ws' : va_W, ws'[q0]? = some (a, .inr (ci, fs.set i v)) → (∀ j, j ≠ q0 → ws'[j]? = ws[j]?) → ws'.length = ws.length → AW g y cc nL ret R E F kc ks (pc + 3) lv st ws') : AW g y cc nL ret R E F kc ks pc lv (v :: .ref a :: st) ws :=
  aw_putF K i hi hw hd he hfin hin hde hn hfit hlen (k _ (aw_setS he) aw_setN List.length_set)
theorem aw_ialdN {a n t0 q0 j : Nat} {cA : ClassId} {f : Nat → Int32} (hd : decode cc pc = .ok (.iaload, 1)) (he : ws[q0]? = some (a, .inl (cA, n, .inl f))) (ht : g.2.2[t0]? = some (cA, .int)) (hj : j < n) (hn : n < 2 ^ 31) (k : AW g y cc nL ret R E F kc ks (pc + 1) lv (.int (f j) :: st) ws) : AW g y cc nL ret R E F kc ks pc lv (.int (nI j) :: .ref a :: st) ws :=
  aw_iald hd he ht (vp_in_nI hj hn) (by rw [nI_clamp (Nat.lt_trans hj hn)]; exact k)
theorem aw_iastN {a n t0 q0 j : Nat} {cA : ClassId} {f : Nat → Int32} {x : Int32} (hd : decode cc pc = .ok (.iastore, 1)) (he : ws[q0]? = some (a, .inl (cA, n, .inl f))) (ht : g.2.2[t0]? = some (cA, .int)) (hj : j < n) (hn : n < 2 ^ 31) (k : ∀ ws' : va_W, ws'[q0]? = some (a, .inl (cA, n, .inl (fup f j x))) → (∀ j, j ≠ q0 → ws'[j]? = ws[j]?) → ws'.length = ws.length → AW g y cc nL ret R E F kc ks (pc + 1) lv st ws') : AW g y cc nL ret R E F kc ks pc lv (.int x :: .int (nI j) :: .ref a :: st) ws :=
  aw_iast hd he ht (vp_in_nI hj hn) (by rw [nI_clamp (Nat.lt_trans hj hn)]; exact k _ (aw_setS he) aw_setN List.length_set)
theorem aw_laldN {a n t0 q0 j : Nat} {cA : ClassId} {f : Nat → Int64} (hd : decode cc pc = .ok (.laload, 1)) (he : ws[q0]? = some (a, .inl (cA, n, .inr (.inl f)))) (ht : g.2.2[t0]? = some (cA, .long)) (hj : j < n) (hn : n < 2 ^ 31) (k : AW g y cc nL ret R E F kc ks (pc + 1) lv (.long (f j) :: st) ws) : AW g y cc nL ret R E F kc ks pc lv (.int (nI j) :: .ref a :: st) ws :=
  aw_lald hd he ht (vp_in_nI hj hn) (by rw [nI_clamp (Nat.lt_trans hj hn)]; exact k)
theorem aw_lastN {a n t0 q0 j : Nat} {cA : ClassId} {f : Nat → Int64} {x : Int64} (hd : decode cc pc = .ok (.lastore, 1)) (he : ws[q0]? = some (a, .inl (cA, n, .inr (.inl f)))) (ht : g.2.2[t0]? = some (cA, .long)) (hj : j < n) (hn : n < 2 ^ 31) (k : ∀ ws' : va_W, ws'[q0]? = some (a, .inl (cA, n, .inr (.inl (fup f j x)))) → (∀ j, j ≠ q0 → ws'[j]? = ws[j]?) → ws'.length = ws.length → AW g y cc nL ret R E F kc ks (pc + 1) lv st ws') : AW g y cc nL ret R E F kc ks pc lv (.long x :: .int (nI j) :: .ref a :: st) ws :=
  aw_last hd he ht (vp_in_nI hj hn) (by rw [nI_clamp (Nat.lt_trans hj hn)]; exact k _ (aw_setS he) aw_setN List.length_set)
theorem aw_aaldN {a n t0 q0 b j : Nat} {cA : ClassId} {t : FieldType} {f : Nat → Option Nat} (hd : decode cc pc = .ok (.aaload, 1)) (he : ws[q0]? = some (a, .inl (cA, n, .inr (.inr (.inr (.inr f)))))) (ht : g.2.2[t0]? = some (cA, .array t)) (hj : j < n) (hn : n < 2 ^ 31) (hf : f j = some b) (k : AW g y cc nL ret R E F kc ks (pc + 1) lv (.ref b :: st) ws) : AW g y cc nL ret R E F kc ks pc lv (.int (nI j) :: .ref a :: st) ws :=
  aw_aald hd he ht (vp_in_nI hj hn) (by rw [nI_clamp (Nat.lt_trans hj hn)]; exact hf) k
theorem aw_icmp_eqN {a b : Nat} {off : Int} {tgt : Nat} (hd : decode cc pc = .ok (.if_icmp .eq off, 3)) (ht : (pc : Int) + off = (tgt : Int)) (ha : a < 2 ^ 31) (hb : b < 2 ^ 31) (kt : a = b → AW g y cc nL ret R E F kc ks tgt lv st ws) (kf : ¬ a = b → AW g y cc nL ret R E F kc ks (pc + 3) lv st ws) : AW g y cc nL ret R E F kc ks pc lv (.int (nI b) :: .int (nI a) :: st) ws :=
  aw_icmp_eq hd ht (fun h => kt ((nI_eq ha hb).mp h)) (fun h => kf (fun q => h ((nI_eq ha hb).mpr q)))
theorem aw_icmp_neN {a b : Nat} {off : Int} {tgt : Nat} (hd : decode cc pc = .ok (.if_icmp .ne off, 3)) (ht : (pc : Int) + off = (tgt : Int)) (ha : a < 2 ^ 31) (hb : b < 2 ^ 31) (kt : ¬ a = b → AW g y cc nL ret R E F kc ks tgt lv st ws) (kf : a = b → AW g y cc nL ret R E F kc ks (pc + 3) lv st ws) : AW g y cc nL ret R E F kc ks pc lv (.int (nI b) :: .int (nI a) :: st) ws :=
  aw_icmp_ne hd ht (fun h => kt (fun q => h ((nI_eq ha hb).mpr q))) (fun h => kf ((nI_eq ha hb).mp h))
theorem aw_icmp_ltN {a b : Nat} {off : Int} {tgt : Nat} (hd : decode cc pc = .ok (.if_icmp .lt off, 3)) (ht : (pc : Int) + off = (tgt : Int)) (ha : a < 2 ^ 31) (hb : b < 2 ^ 31) (kt : a < b → AW g y cc nL ret R E F kc ks tgt lv st ws) (kf : b ≤ a → AW g y cc nL ret R E F kc ks (pc + 3) lv st ws) : AW g y cc nL ret R E F kc ks pc lv (.int (nI b) :: .int (nI a) :: st) ws :=
  aw_icmp_lt hd ht (fun h => kt ((nI_ltI ha hb).mp h)) (fun h => kf (Nat.not_lt.mp (fun q => h ((nI_ltI ha hb).mpr q))))
theorem aw_icmp_geN {a b : Nat} {off : Int} {tgt : Nat} (hd : decode cc pc = .ok (.if_icmp .ge off, 3)) (ht : (pc : Int) + off = (tgt : Int)) (ha : a < 2 ^ 31) (hb : b < 2 ^ 31) (kt : b ≤ a → AW g y cc nL ret R E F kc ks tgt lv st ws) (kf : a < b → AW g y cc nL ret R E F kc ks (pc + 3) lv st ws) : AW g y cc nL ret R E F kc ks pc lv (.int (nI b) :: .int (nI a) :: st) ws :=
  aw_icmp_ge hd ht (fun h => kt ((nI_leI hb ha).mp h)) (fun h => kf (Nat.not_le.mp (fun q => h ((nI_leI hb ha).mpr q))))
theorem aw_icmp_gtN {a b : Nat} {off : Int} {tgt : Nat} (hd : decode cc pc = .ok (.if_icmp .gt off, 3)) (ht : (pc : Int) + off = (tgt : Int)) (ha : a < 2 ^ 31) (hb : b < 2 ^ 31) (kt : b < a → AW g y cc nL ret R E F kc ks tgt lv st ws) (kf : a ≤ b → AW g y cc nL ret R E F kc ks (pc + 3) lv st ws) : AW g y cc nL ret R E F kc ks pc lv (.int (nI b) :: .int (nI a) :: st) ws :=
  aw_icmp_gt hd ht (fun h => kt ((nI_ltI hb ha).mp h)) (fun h => kf (Nat.not_lt.mp (fun q => h ((nI_ltI hb ha).mpr q))))
theorem aw_icmp_leN {a b : Nat} {off : Int} {tgt : Nat} (hd : decode cc pc = .ok (.if_icmp .le off, 3)) (ht : (pc : Int) + off = (tgt : Int)) (ha : a < 2 ^ 31) (hb : b < 2 ^ 31) (kt : a ≤ b → AW g y cc nL ret R E F kc ks tgt lv st ws) (kf : b < a → AW g y cc nL ret R E F kc ks (pc + 3) lv st ws) : AW g y cc nL ret R E F kc ks pc lv (.int (nI b) :: .int (nI a) :: st) ws :=
  aw_icmp_le hd ht (fun h => kt ((nI_leI ha hb).mp h)) (fun h => kf (Nat.not_le.mp (fun q => h ((nI_leI ha hb).mpr q))))
theorem aw_if_eqN {a : Nat} {off : Int} {tgt : Nat} (hd : decode cc pc = .ok (.ifCond .eq off, 3)) (ht : (pc : Int) + off = (tgt : Int)) (ha : a < 2 ^ 31) (kt : a = 0 → AW g y cc nL ret R E F kc ks tgt lv st ws) (kf : ¬ a = 0 → AW g y cc nL ret R E F kc ks (pc + 3) lv st ws) : AW g y cc nL ret R E F kc ks pc lv (.int (nI a) :: st) ws :=
  aw_if_eq hd ht (fun h => kt ((nI_eq ha (by decide)).mp (h.trans nI_0.symm))) (fun h => kf (fun q => h (by rw [q]; exact nI_0)))
theorem aw_if_neN {a : Nat} {off : Int} {tgt : Nat} (hd : decode cc pc = .ok (.ifCond .ne off, 3)) (ht : (pc : Int) + off = (tgt : Int)) (ha : a < 2 ^ 31) (kt : ¬ a = 0 → AW g y cc nL ret R E F kc ks tgt lv st ws) (kf : a = 0 → AW g y cc nL ret R E F kc ks (pc + 3) lv st ws) : AW g y cc nL ret R E F kc ks pc lv (.int (nI a) :: st) ws :=
  aw_if_ne hd ht (fun h => kt (fun q => h (by rw [q]; exact nI_0))) (fun h => kf ((nI_eq ha (by decide)).mp (h.trans nI_0.symm)))
theorem aw_if_gtN {a : Nat} {off : Int} {tgt : Nat} (hd : decode cc pc = .ok (.ifCond .gt off, 3)) (ht : (pc : Int) + off = (tgt : Int)) (ha : a < 2 ^ 31) (kt : 0 < a → AW g y cc nL ret R E F kc ks tgt lv st ws) (kf : a = 0 → AW g y cc nL ret R E F kc ks (pc + 3) lv st ws) : AW g y cc nL ret R E F kc ks pc lv (.int (nI a) :: st) ws :=
  aw_if_gt hd ht (fun h => kt ((nI_ltI (by decide) ha).mp (by rw [nI_0]; exact h))) (fun h => kf (Nat.eq_zero_of_not_pos (fun q => h (by rw [← nI_0]; exact (nI_ltI (by decide) ha).mpr q))))
theorem aw_if_leN {a : Nat} {off : Int} {tgt : Nat} (hd : decode cc pc = .ok (.ifCond .le off, 3)) (ht : (pc : Int) + off = (tgt : Int)) (ha : a < 2 ^ 31) (kt : a = 0 → AW g y cc nL ret R E F kc ks tgt lv st ws) (kf : 0 < a → AW g y cc nL ret R E F kc ks (pc + 3) lv st ws) : AW g y cc nL ret R E F kc ks pc lv (.int (nI a) :: st) ws :=
  aw_if_le hd ht (fun h => kt (by have q := (nI_leI ha (b := 0) (by decide)).mp (by rw [nI_0]; exact h); omega)) (fun h => kf (Nat.pos_of_ne_zero (fun q => h (by rw [q, nI_0]; exact Int32.le_refl 0))))
theorem aw_if_eqB {b : Bool} {off : Int} {tgt : Nat} (hd : decode cc pc = .ok (.ifCond .eq off, 3)) (ht : (pc : Int) + off = (tgt : Int)) (kt : b = false → AW g y cc nL ret R E F kc ks tgt lv st ws) (kf : b = true → AW g y cc nL ret R E F kc ks (pc + 3) lv st ws) : AW g y cc nL ret R E F kc ks pc lv (.int (bI b) :: st) ws :=
  aw_if_eq hd ht (fun h => kt (by cases b <;> simp_all [bI])) (fun h => kf (by cases b <;> simp_all [bI]))
theorem aw_if_neB {b : Bool} {off : Int} {tgt : Nat} (hd : decode cc pc = .ok (.ifCond .ne off, 3)) (ht : (pc : Int) + off = (tgt : Int)) (kt : b = true → AW g y cc nL ret R E F kc ks tgt lv st ws) (kf : b = false → AW g y cc nL ret R E F kc ks (pc + 3) lv st ws) : AW g y cc nL ret R E F kc ks pc lv (.int (bI b) :: st) ws :=
  aw_if_ne hd ht (fun h => kt (by cases b <;> simp_all [bI])) (fun h => kf (by cases b <;> simp_all [bI]))
end AWR
