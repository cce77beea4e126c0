def fx_Ex (H H' : Heap) : Prop := H.size ≤ H'.size ∧ ∀ q : Nat, q < H.size → H'[q]? = H[q]?
theorem fx_Ex.rf {H : Heap} : fx_Ex H H := ⟨Nat.le_refl _, fun _ _ => rfl⟩
theorem fx_Ex.tr {H H1 H2 : Heap} (h : fx_Ex H H1) (k : fx_Ex H1 H2) : fx_Ex H H2 := ⟨Nat.le_trans h.1 k.1, fun q hq => (k.2 q (Nat.lt_of_lt_of_le hq h.1)).trans (h.2 q hq)⟩
theorem fx_Ex.at {H H' : Heap} (h : fx_Ex H H') {q : Nat} {x : Cell} (hx : H[q]? = some x) : H'[q]? = some x := (h.2 q (Array.getElem?_eq_some_iff.mp hx).1).trans hx
theorem fx_Ex.kept {D : va_G} {cl : List vw_C} {H H' : Heap} (h : fx_Ex H H') {q : Nat × va_E} (hq : va_at D cl q H) : va_at D cl q H' := hq.kept (h.2 _ hq.lt)
theorem fx_F.ex {A : Nat → Prop} {mc : Nat} {H H' : Heap} (h : fx_F A mc H H') (hA : ∀ q, q < H.size → ¬ A q) : fx_Ex H H' := ⟨h.1, fun q hq => h.2.2 q hq (hA q hq)⟩
theorem fx_F.same {A : Nat → Prop} {H H' : Heap} (h : fx_F A 0 H H') (hA : ∀ q, q < H.size → ¬ A q) : H' = H := by
  have hz : H'.size = H.size := Nat.le_antisymm h.2.1 h.1
  apply Array.ext_getElem?
  intro q
  by_cases hq : q < H.size
  · exact h.2.2 q hq (hA q hq)
  · rw [Array.getElem?_eq_none (by omega), Array.getElem?_eq_none (by omega)]
theorem fx_one {D : va_G} {cl : List vw_C} {H : Heap} {q : Nat × va_E} (h : va_at D cl q H) : va_P D cl [q] H := by
  intro k q' hk
  cases k with
  | zero => cases hk; exact h
  | succ j => cases hk
