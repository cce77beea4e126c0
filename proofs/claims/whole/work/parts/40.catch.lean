/-! Caught in the law's wrappers. vx_W and vx_catch are rows of the printed NAMES.whole, as they stand. -/
def vx_W (p : Program) (l : Launch) (e : Env) (R : Room) (s : State) (m : MethodId) (args : Array Value) (below : List Frame) (meth : Method) (c : Code) (H : Heap) (locs : List Loc) (cells slots : Nat) (Q : State → Prop) (g : JFrame) (q : Addr) : Prop :=
  ∀ T : State, T.heap = H → Stand p l e R s m args below meth c T locs cells slots → ∃ t, Steps p.tables e below ((T.setTop g).pushFrame (.throwing q)) t ∧ Q t
section Rows
variable {p : Program} {l : Launch} {e : Env} {R : Room} {s : State} {m : MethodId} {args : Array Value} {below : List Frame} {meth : Method} {c : Code} {H : Heap} {locs : List Loc} {cells slots : Nat} {Q : State → Prop}
variable {pc : Nat} {ls : Array Slot} {rest : List Value}
/-- caught by the row x of this method's table; the rows ahead don't take it -/
theorem vx_catch {own name : String} {E : String} {ce : Cell} {q : Addr} (hown : s.vm.findClass own = some m.cls) (pre : List ExceptionTableEntry) (x : ExceptionTableEntry) (suf : List ExceptionTableEntry) (hsplit : c.exceptionTable.toList = pre ++ x :: suf)
    (hpass : ∀ z ∈ pre, covers z pc = false ∨ (z.catchType ≠ 0 ∧ ∃ nm : String, (Cond.classLink own z.catchType nm).before args s = true ∧ va_Nc E nm s)) (hx : covers x pc = true) (h0 : x.catchType ≠ 0)
    (hlink : (Cond.classLink own x.catchType name).before args s = true) (hcast : (Cond.castable E name).before args s = true) (hcell : H[q]? = some ce) (hv : ce.vm = .none) (hcl : s.vm.findClass E = some ce.cls)
    (kk : W p l e R s m args below meth c H locs cells slots Q (F0 m x.handlerPc ls [.ref q])) : vx_W p l e R s m args below meth c H locs cells slots Q (F0 m pc ls rest) q := by
  intro T hT X
  have hpl : e.platform.magicAccessors = ({} : Platform).magicAccessors := by rw [X.admits.platform]
  obtain ⟨c3, c4, hc3, hc4, hasg⟩ := Cond.castable_spec hcast
  cases Option.some.inj (hc3.symm.trans hcl)
  obtain ⟨c5, hc5, hcl5⟩ := Cond.classLink_spec hown hlink e.platform hpl
  cases Option.some.inj (hc4.symm.trans hc5)
  obtain ⟨vm', X', st⟩ := X.thenCaughtThrough q (g := F0 m pc ls rest) rfl (Steps.refl _) (by rw [hT]; exact hcell) (by rw [hv]; rfl) (by obtain ⟨k9, h9, -⟩ := Vm.findClass_spec hcl; exact ⟨k9, h9⟩) pre x suf hsplit
    (fun z hz => by
      rcases hpass z hz with h | ⟨hz0, nm, hl1, hn1⟩
      · exact Or.inl h
      · obtain ⟨c6, hc6, hcl6⟩ := Cond.classLink_spec hown hl1 e.platform hpl
        obtain ⟨a8, b8, h1, h2, h3⟩ := hn1
        cases Option.some.inj (h1.symm.trans hcl)
        cases Option.some.inj (h2.symm.trans hc6)
        exact Or.inr ⟨hz0, _, hcl6, h3⟩) hx (Or.inr ⟨h0, c4, hcl5, hasg⟩)
  obtain ⟨t, a1, b1⟩ := kk (T.setVm vm') hT X'
  exact ⟨t, st.trans a1, b1⟩
end Rows
theorem tb_split {l : List ExceptionTableEntry} {hh : List (Nat × Nat × Nat × Nat)} (h : l.map (fun h => (h.startPc, h.endPc, h.handlerPc, h.catchType)) = hh) {k : Nat} {r : Nat × Nat × Nat × Nat} (hk : hh[k]? = some r) :
    ∃ x, l = l.take k ++ x :: l.drop (k + 1) ∧ (x.startPc, x.endPc, x.handlerPc, x.catchType) = r ∧ ∀ z ∈ l.take k, (z.startPc, z.endPc, z.handlerPc, z.catchType) ∈ hh.take k := by
  subst h
  rw [List.getElem?_map] at hk
  obtain ⟨x, h1, h2⟩ := Option.map_eq_some_iff.mp hk
  have hlt : k < l.length := (List.getElem?_eq_some_iff.mp h1).1
  have hx : l[k] = x := (List.getElem?_eq_some_iff.mp h1).2
  refine ⟨x, ?_, h2, fun z hz => ?_⟩
  · rw [← hx, ← List.drop_eq_getElem_cons hlt, List.take_append_drop]
  · rw [← List.map_take]
    exact List.mem_map.mpr ⟨z, hz, rfl⟩
theorem kx_cast {w : Wd} {s : State} (hK : KT w s) {i : Nat} (hi : i < 4) (args : Array Value) : (Cond.castable (kex i) (kex i)).before args s = true := by
  have hm : (kex i, kex i) ∈ kcst := by
    have h4 : i = 0 ∨ i = 1 ∨ i = 2 ∨ i = 3 := by omega
    rcases h4 with h | h | h | h <;> subst h <;> decide
  exact va_Nw.use rfl (hK.2.2.2.2.1.1 _ hm)
section CAUGHT
variable {p : Program} {l : Launch} {e : Env} {R : Room} {s : State} {m : MethodId} {args : Array Value} {below : List Frame} {meth : Method} {c : Code} {H : Heap} {locs : List Loc} {cells slots : Nat} {Q : State → Prop} {pc : Nat} {ls : Array Slot} {rest : List Value}
theorem fx_caught {w : Wd} (hK : KT w s) (hown : s.vm.findClass R_W = some m.cls) {hh : List (Nat × Nat × Nat × Nat)} (htab : c.exceptionTable.toList.map (fun h => (h.startPc, h.endPc, h.handlerPc, h.catchType)) = hh) (k : Nat) {a b hp ct : Nat} (hk : hh[k]? = some (a, b, hp, ct)) (hc : a ≤ pc ∧ pc < b) (h0 : ct ≠ 0) {i : Nat} (hi : i < 4) (hlink : (Cond.classLink R_W ct (kex i)).before args s = true)
    (hpass : ∀ z ∈ hh.take k, z.2.2.2 ≠ 0 ∧ ∃ nm : String, (Cond.classLink R_W z.2.2.2 nm).before args s = true ∧ (kex i, nm) ∈ knot) {x : Nat} (hx : xcp w i x H) (kk : W p l e R s m args below meth c H locs cells slots Q (F0 m hp ls [.ref x])) : fx_T p l e R s m args below meth c H locs cells slots Q (F0 m pc ls rest) x := by
  obtain ⟨ce, g1, g2, g3⟩ := hx
  have hcl : s.vm.findClass (kex i) = some ce.cls := by rw [g2]; exact hK.2.2.2.2.2.2.2.2.2.2.2.2 i hi
  obtain ⟨y, hsplit, hy, hpre⟩ := tb_split htab hk
  simp only [Prod.mk.injEq] at hy
  obtain ⟨y1, y2, y3, y4⟩ := hy
  subst y1; subst y2; subst y3; subst y4
  exact vx_catch hown _ y _ hsplit (fun z hz => by
    obtain ⟨hz0, nm, hl1, hn1⟩ := hpass _ (hpre z hz)
    exact Or.inr ⟨hz0, nm, hl1, hK.2.2.2.2.1.2.1 _ hn1⟩) (by simp [covers]; omega) h0 hlink (kx_cast hK hi args) g1 g3 hcl kk
end CAUGHT
