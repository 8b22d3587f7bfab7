-- rows of a grid as a family
def fup2 {α : Type} (M : Nat → Nat → α) (r c : Nat) (x : α) : Nat → Nat → α := fun i j => if i = r ∧ j = c then x else M i j
theorem fup2_row {α : Type} (M : Nat → Nat → α) (r c : Nat) (x : α) : fup2 M r c x r = fup (M r) c x := by
  funext j
  unfold fup2 fup
  by_cases h : j = c
  · rw [if_pos ⟨rfl, h⟩, if_pos h]
  · rw [if_neg (fun q => h q.2), if_neg h]
theorem fup2_ne {α : Type} (M : Nat → Nat → α) {r c i : Nat} (x : α) (h : i ≠ r) : fup2 M r c x i = M i := by
  funext j
  unfold fup2
  rw [if_neg (fun q => h q.1)]
theorem fam_putI {g : aw_G} {ws ws' : va_W} {ad : Nat → Nat} {lo r c x : Nat} {M : Nat → Nat → Nat} (h : ∀ i, i < 5 → ws[lo + i]? = some (ad (lo + i), aI g 5 (M i))) (e1 : ws'[lo + r]? = some (ad (lo + r), aI g 5 (fup (M r) c x))) (e2 : ∀ j, j ≠ lo + r → ws'[j]? = ws[j]?) : ∀ i, i < 5 → ws'[lo + i]? = some (ad (lo + i), aI g 5 (fup2 M r c x i)) := by
  intro i hi
  by_cases e : i = r
  · subst e; rw [e1, fup2_row]
  · rw [e2 _ (by omega), h i hi, fup2_ne M x e]
theorem fam_putL {g : aw_G} {ws ws' : va_W} {ad : Nat → Nat} {lo r c : Nat} {x : Int} {M : Nat → Nat → Int} (h : ∀ i, i < 5 → ws[lo + i]? = some (ad (lo + i), aL g 5 (M i))) (e1 : ws'[lo + r]? = some (ad (lo + r), aL g 5 (fup (M r) c x))) (e2 : ∀ j, j ≠ lo + r → ws'[j]? = ws[j]?) : ∀ i, i < 5 → ws'[lo + i]? = some (ad (lo + i), aL g 5 (fup2 M r c x i)) := by
  intro i hi
  by_cases e : i = r
  · subst e; rw [e1, fup2_row]
  · rw [e2 _ (by omega), h i hi, fup2_ne M x e]
theorem fam_kept {ws ws' : va_W} {lo : Nat} {e : Nat → Nat × va_E} (h : ∀ i, i < 5 → ws[lo + i]? = some (e i)) (e2 : ∀ i, i < 5 → ws'[lo + i]? = ws[lo + i]?) : ∀ i, i < 5 → ws'[lo + i]? = some (e i) := fun i hi => (e2 i hi).trans (h i hi)
