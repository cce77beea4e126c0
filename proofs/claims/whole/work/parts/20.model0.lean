/-! The reference's cells, and its contracts' form: every method of it is a function of the numbers that its cells hold. -/
def zI (P : Prop) [Decidable P] : Int32 := if P then 1 else 0
theorem zI_t {P : Prop} [Decidable P] (h : P) : zI P = 1 := if_pos h
theorem zI_f {P : Prop} [Decidable P] (h : ¬ P) : zI P = 0 := if_neg h
theorem zI_eq0 {P : Prop} [Decidable P] : zI P = 0 ↔ ¬ P := by
  unfold zI
  by_cases h : P
  · rw [if_pos h]; exact ⟨fun z => absurd z (by decide), fun z => absurd h z⟩
  · rw [if_neg h]; exact ⟨fun _ => h, fun _ => rfl⟩
theorem zI_ne0 {P : Prop} [Decidable P] : ¬ zI P = 0 ↔ P := by
  rw [zI_eq0]
  exact Decidable.not_not
/-- a room of k frames for methods that make nothing -/
abbrev rmK (k : Nat) : Room := { frames := k, cells := 0, slots := 0, locals := 40 * k }
/-- the numbers that the reference's cells hold: versions, thrown, kinds, forms, sizes, elements, keys, fewest -/
abbrev mS : Type := Int32 × Int32 × (Nat → Int32) × (Nat → Int32) × (Nat → Int32) × (Nat → Int32) × (Nat → Int32) × (Nat → Int32)
abbrev mw (w : Wd) (am : Nat → Nat) (S : mS) : va_W := [(am 0, .inr (2, [.int S.1, .ref (am 1), .ref (am 2), .ref (am 3), .ref (am 4), .ref (am 5), .int S.2.1, .ref (am 6)])), (am 1, .inl (w.I, 64, .inl S.2.2.1)), (am 2, .inl (w.I, 64, .inl S.2.2.2.1)), (am 3, .inl (w.I, 64, .inl S.2.2.2.2.1)), (am 4, .inl (w.I, 6400, .inl S.2.2.2.2.2.1)), (am 5, .inl (w.I, 6400, .inl S.2.2.2.2.2.2.1)), (am 6, .inl (w.I, 101, .inl S.2.2.2.2.2.2.2))]
def mI (am : Nat → Nat) : Prop := ∀ i j, i < 7 → j < 7 → am i = am j → i = j
def mA (am : Nat → Nat) : Nat → Prop := fun q => ∃ i, i < 7 ∧ q = am i
theorem mw_adr {w : Wd} {am : Nat → Nat} {S : mS} {k : Nat} {q : Nat × va_E} (h : (mw w am S)[k]? = some q) : k < 7 ∧ q.1 = am k := by
  match k, h with
  | 0, h => cases h; exact ⟨by decide, rfl⟩
  | 1, h => cases h; exact ⟨by decide, rfl⟩
  | 2, h => cases h; exact ⟨by decide, rfl⟩
  | 3, h => cases h; exact ⟨by decide, rfl⟩
  | 4, h => cases h; exact ⟨by decide, rfl⟩
  | 5, h => cases h; exact ⟨by decide, rfl⟩
  | 6, h => cases h; exact ⟨by decide, rfl⟩
  | n + 7, h => cases h
theorem mw_D {w : Wd} {am : Nat → Nat} (hI : mI am) (S : mS) : va_D (mA am) (mw w am S) := by
  refine ⟨fun i j p q hp hq e => ?_, fun k q hq => ?_⟩
  · obtain ⟨h1, h2⟩ := mw_adr hp
    obtain ⟨h3, h4⟩ := mw_adr hq
    exact hI i j h1 h3 (by rw [← h2, ← h4]; exact e)
  · obtain ⟨h1, h2⟩ := mw_adr hq
    exact ⟨k, h1, h2⟩
def mCt (w : Wd) (am : Nat → Nat) (y : MethodName) (nL : Nat) (rm : Room) (as : List Value) (S : mS) (r : Option Value) (S' : mS) : Prop :=
  fx_C (KT w) y nL rm (.ref (am 0) :: as) (fun H => va_P w.D cls (mw w am S) H) (fun _ o H' => o = .returned r ∧ va_P w.D cls (mw w am S') H') (fun _ => mA am)
theorem fx_vaS {A A1 : Nat → Prop} {H0 H H' : Heap} {locs locs' : List Loc} {mc : Nat} (hS : va_S A H0 H locs) (hF : fx_F A1 mc H H') (hA : ∀ q, A1 q → A q) (hL : ∀ q ∈ locs', A q.base) : va_S A H0 H' locs' :=
  ⟨Nat.le_trans hS.1 hF.1, fun q h1 h2 => (hF.2.2 q (Nat.lt_of_lt_of_le h1 hS.1) (fun z => h2 (hA q z))).trans (hS.2.1 q h1 h2), hL⟩
section MCALL
variable {p : Program} {l : Launch} {e : Env} {R : Room} {s : State} {m : MethodId} {args : Array Value} {below : List Frame} {meth : Method} {c : Code} {H : Heap} {locs : List Loc} {cells slots : Nat} {Q : State → Prop}
variable {cc : ByteArray} {pc : Nat} {ls : Array Slot} {rest st as : List Value} {y : MethodName} {nL : Nat} {rm : Room} {w : Wd} {am : Nat → Nat} {S S' : mS} {r : Option Value} {bytes : ByteArray} {ret : Option FieldType}
theorem m_cV {own : String} {index : Nat} (hC : mCt w am y nL rm as S r S') (hx : p.tables.exec = Jvm.exec) (hfl : l.flags = flags0) (hK : KT w s) (hb : c.code = cc) (hsz : ls.size = c.maxLocals) (hown : s.vm.findClass own = some m.cls) (hlink : (Cond.methodLink own index y).before args s = true) (hcode : (Cond.code y bytes nL ret).before args s = true)
    (hinst : (Cond.instanceMethod y).before args s = true) (hsel : (Cond.selects R_M y y).before args s = true) (hN : fx_N y as.length) (hst : st = as.reverse ++ .ref (am 0) :: rest) (hR : fx_R R rm nL cells slots rest) (hP : va_P w.D cls (mw w am S) H) (hS : va_S (mA am) s.heap H locs) (hdg : decode cc pc = .ok (.invokevirtual index, 3))
    (kk : ∀ (H1 : Heap) (locs1 : List Loc), va_P w.D cls (mw w am S') H1 → va_S (mA am) s.heap H1 locs1 → W p l e R s m args below meth c H1 locs1 (cells + rm.cells) (slots + rm.slots) Q (F0 m (pc + 3) ls (r.toList ++ rest))) : W p l e R s m args below meth c H locs cells slots Q (F0 m pc ls st) :=
  fx_cV KT_moved hC hx hfl hK hb hsz hown hlink (fx_Y.code hcode) hinst hsel hN (va_recv (q0 := 0) hK.2.1 hP (show cls[2]? = some (R_M, T_M, 8) from rfl) rfl) hst hR hP hdg hS.2.2 (fun _ h => h)
    (fun v H' locs' hq hF hL => by obtain ⟨hv, hP'⟩ := hq; cases hv; exact kk H' locs' hP' (fx_vaS hS hF (fun _ h => h) hL)) (fun x H' locs' hq _ _ => by cases hq.1)
end MCALL
