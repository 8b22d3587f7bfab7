-- laid by wip/whole/m26.py
theorem law_hret {g : aw_G} {b N : Nat} {xs : Nat → Int32} (lv : List (Nat × Value)) (ws : va_W) : AW g y_L_law c_L_law 4 ret room_1 (aw_EX b N xs) (fun below args s _ => lw_Z below args s) 51 304 745 lv [.int (nI 1)] ws := by
  intro p e s m args below meth c H locs A ls C D hl
  obtain ⟨hx, hb, hr, hml, hown, hts, hlocks, hname, hA, ⟨hX, hbl, hbA, rfl, hAq⟩, hN⟩ := C
  refine va_forget (fun q hq => hAq _ (D.1.2.2 q hq)) ?_
  refine W.widen (k := 600000) (n := 7302250) (Nat.le_of_ble_eq_true rfl) (Nat.le_of_ble_eq_true rfl) ?_
  have e1 : nI 1 = 1 := by decide
  rw [e1]
  exact lw_ret hx hb hr hlocks d_L_law_745
theorem lw_arr {t : FieldType} {A : Array Value} {s : State} (h : (Cond.arrayClass t).before A s = true) : ∃ cA : ClassId, ArrOfT s cA t ∧ s.vm.findClass ("[" ++ t.toString) = some cA := by
  obtain ⟨cA, kA, comp, hf, hk, hkind⟩ := Cond.arrayClass_spec h
  exact ⟨cA, fun n z => ⟨fun k h => (by cases h), kA, hk, comp, hkind⟩, hf⟩
theorem lw_arr2 {t : FieldType} {s : State} (h : va_AOA t s) : ∃ cA : ClassId, ArrOfT s cA (.array t) ∧ s.vm.findClass ("[" ++ (FieldType.array t).toString) = some cA := by
  obtain ⟨comp, cA, kA, h1, h2, h3, h4, h5⟩ := arrayOverA_spec h
  exact ⟨cA, fun n z => ⟨fun k h => (by cases h), kA, h3, comp, h4⟩, h5⟩
theorem lw_classes {s : State} {b : Nat} (hws : ∀ w ∈ aw_WS, w.before #[Value.ref b] s = true) : ∃ (dC : Nat → ClassId) (dI : Nat → Nat → Nat), ∀ (k : Nat) (q : vw_C), vwCl[k]? = some q → u_Kn s q.1 q.2.1 q.2.2 (dC k) (dI k) := by
  obtain ⟨c0, i0, h0⟩ := u_known (C := r_W) (T := f_W) (N := 6) (n := 6) hws kc_0.2.1 (hws _ k_9)
  obtain ⟨c1, i1, h1⟩ := u_known (C := r_G) (T := f_G) (N := 5) (n := 5) hws kc_1.2.1 (hws _ k_17)
  obtain ⟨c2, i2, h2⟩ := u_known (C := r_S) (T := f_S) (N := 4) (n := 4) hws kc_2.2.1 (hws _ k_54)
  obtain ⟨c3, i3, h3⟩ := u_known (C := r_C) (T := f_C) (N := 6) (n := 6) hws kc_3.2.1 (hws _ k_83)
  obtain ⟨c4, i4, h4⟩ := u_known (C := r_E) (T := f_E) (N := 2) (n := 2) hws kc_4.2.1 (hws _ k_112)
  obtain ⟨c5, i5, h5⟩ := u_known (C := r_P) (T := f_P) (N := 4) (n := 4) hws kc_5.2.1 (hws _ k_128)
  obtain ⟨c6, i6, h6⟩ := u_known (C := r_M) (T := f_M) (N := 17) (n := 17) hws kc_6.2.1 (hws _ k_399)
  refine ⟨fun k => match k with | 0 => c0 | 1 => c1 | 2 => c2 | 3 => c3 | 4 => c4 | 5 => c5 | _ => c6, fun k => match k with | 0 => i0 | 1 => i1 | 2 => i2 | 3 => i3 | 4 => i4 | 5 => i5 | _ => i6, ?_⟩
  intro k q hq
  match k, hq with
  | 0, hq => cases hq; exact h0
  | 1, hq => cases hq; exact h1
  | 2, hq => cases hq; exact h2
  | 3, hq => cases hq; exact h3
  | 4, hq => cases hq; exact h4
  | 5, hq => cases hq; exact h5
  | 6, hq => cases hq; exact h6
  | k + 7, hq => simp at hq
theorem whole_start {p : Program} {e : Env} {s : State} {m : MethodId} {below : List Frame} {meth : Method} {c : Code} (l : Launch) {b L : Nat} {xs : Nat → Int32} (hL : L ≤ 2560) (C0 : lw_At p s m meth c b L xs) : W p l e room_1 s m #[Value.ref b] below meth c s.heap [] 0 0 (lw_Z below #[Value.ref b] s) (entryFrame m ([Value.ref b] : List Value).toArray 4) := by
  obtain ⟨hx, hb, hr, hml, hown, hts, hX, hbl, hlocks, hgv, hnm⟩ := C0
  have hws : ∀ w ∈ aw_WS, w.before #[Value.ref b] s = true := fun w h => hts w (List.mem_filter.mp h).1
  obtain ⟨dC, dI, hKc⟩ := lw_classes hws
  obtain ⟨a0, e0, f0⟩ := lw_arr (hws _ k_52)
  obtain ⟨a1, e1, f1⟩ := lw_arr (hws _ k_126)
  have o0 : va_AOA .int s := va_AOA.of (hts (.arrayOver (.array .int)) (by decide +kernel))
  have o1 : va_AOA .long s := va_AOA.of (hts (.arrayOver (.array .long)) (by decide +kernel))
  obtain ⟨a2, e2, f2⟩ := lw_arr2 o0
  obtain ⟨a3, e3, f3⟩ := lw_arr2 o1
  have hN : aw_NK s := by
    refine ⟨fun w hw => va_Nw.of ?_ (hts w (List.mem_filter.mp hw).1), o0, o1⟩
    have hg := (List.mem_filter.mp hw).2
    cases w <;> first | rfl | (simp [aw_isN] at hg; done)
  have hK : va_K (dC, dI) vwCl [(a0, .int), (a1, .long), (a2, .array .int), (a3, .array .long)] s := by
    refine ⟨hKc, fun k q h => ?_⟩
    match k, h with
    | 0, h => cases h; exact ⟨e0, f0⟩
    | 1, h => cases h; exact ⟨e1, f1⟩
    | 2, h => cases h; exact ⟨e2, f2⟩
    | 3, h => cases h; exact ⟨e3, f3⟩
    | k + 4, h => simp at h
  rw [lg_entry_eq]
  exact law_begin (g := (l, (dC, dI), [(a0, .int), (a1, .long), (a2, .array .int), (a3, .array .long)])) (b := b) (N := L) (xs := xs) (F := fun below args s _ => lw_Z below args s) rfl hL law_hret p e s m #[Value.ref b] below meth c s.heap [] (fun q => s.heap.size ≤ q) _ ⟨hx, hb, hr, hml, hown, hws, hlocks, hnm, fun _ h => h, ⟨hX, hbl, Nat.not_le.mpr hbl, rfl, fun _ h => h⟩, hN⟩ ⟨va_S.rf, hK, (fun k q h => by simp at h), ⟨(fun i j p q h => by simp at h), (fun k q h => by simp at h)⟩⟩ (lv_entry [.ref b] (Nat.le_of_ble_eq_true rfl))
