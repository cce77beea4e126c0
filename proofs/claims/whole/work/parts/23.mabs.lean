/-! What the reference's numbers mean: a list of versions. -/
/-- the first versions are as the list says -/
def mF (S : mS) (Vs : List sV) : Prop := ∀ (i : Nat) (o : sV), Vs[i]? = some o → S.2.2.1 i = o.1 ∧ S.2.2.2.1 i = o.2.1 ∧ S.2.2.2.2.1 i = nI o.2.2.1.length ∧ sv_ok o ∧ (∀ j, j < o.2.2.1.length → S.2.2.2.2.2.1 (100 * i + j) = o.2.2.1.getD j 0) ∧ (o.1 = 3 → ∀ j, j < o.2.2.1.length → S.2.2.2.2.2.2.1 (100 * i + j) = o.2.2.2.getD j 0)
def mFw (S : mS) : Prop := ∀ k, k ≤ 100 → S.2.2.2.2.2.2.2 k = nI (sv_few k)
def mAbs (S : mS) (Vs : List sV) : Prop := S.1 = nI Vs.length ∧ Vs.length ≤ 64 ∧ mF S Vs ∧ mFw S
/-- one version more is under way: its kind, form, elements, keys (the keys are told of a map alone) -/
def mB (S : mS) (Vs : List sV) (k f : Int32) (es ks : List Int32) : Prop := S.1 = nI (Vs.length + 1) ∧ Vs.length < 64 ∧ mF S Vs ∧ mFw S ∧ S.2.2.1 Vs.length = k ∧ S.2.2.2.1 Vs.length = f ∧ S.2.2.2.2.1 Vs.length = nI es.length ∧ es.length ≤ 100 ∧
  (∀ j, j < es.length → S.2.2.2.2.2.1 (100 * Vs.length + j) = es.getD j 0) ∧ (k = 3 → ks.length = es.length ∧ ∀ j, j < es.length → S.2.2.2.2.2.2.1 (100 * Vs.length + j) = ks.getD j 0)
theorem mB_create {n th : Int32} {fk ff fs fe fy fw : Nat → Int32} {Vs : List sV} (h : mAbs (n, th, fk, ff, fs, fe, fy, fw) Vs) (hl : Vs.length < 64) (th' k f : Int32) : mB (nI (Vs.length + 1), th', upd fk Vs.length k, upd ff Vs.length f, upd fs Vs.length 0, fe, fy, fw) Vs k f [] [] := by
  obtain ⟨-, -, h3, h4⟩ := h
  refine ⟨rfl, hl, fun i o hi => ?_, h4, pk_us, pk_us, pk_us, Nat.zero_le _, fun j hj => absurd hj (Nat.not_lt_zero _), fun _ => ⟨rfl, fun j hj => absurd hj (Nat.not_lt_zero _)⟩⟩
  have hne : i ≠ Vs.length := Nat.ne_of_lt (List.getElem?_eq_some_iff.mp hi).1
  obtain ⟨a1, a2, a3, a4, a5, a6⟩ := h3 i o hi
  exact ⟨(pk_un hne).trans a1, (pk_un hne).trans a2, (pk_un hne).trans a3, a4, a5, a6⟩
theorem mB_put {n th : Int32} {fk ff fs fe fy fw : Nat → Int32} {Vs : List sV} {k f : Int32} {es ks : List Int32} (h : mB (n, th, fk, ff, fs, fe, fy, fw) Vs k f es ks) (he : es.length < 100) (key x : Int32) :
    mB (n, th, fk, ff, upd fs Vs.length (nI (es.length + 1)), upd fe (100 * Vs.length + es.length) x, upd fy (100 * Vs.length + es.length) key, fw) Vs k f (es ++ [x]) (ks ++ [key]) := by
  obtain ⟨h1, h2, h3, h4, h5, h6, h7, h8, h9, h10⟩ := h
  refine ⟨h1, h2, fun i o hi => ?_, h4, h5, h6, ?_, by simp only [List.length_append, List.length_singleton]; omega, fun j hj => ?_, fun hk => ⟨?_, fun j hj => ?_⟩⟩
  · have hlt : i < Vs.length := (List.getElem?_eq_some_iff.mp hi).1
    have hne : i ≠ Vs.length := Nat.ne_of_lt hlt
    obtain ⟨a1, a2, a3, a4, a5, a6⟩ := h3 i o hi
    have ho : o.2.2.1.length ≤ 100 := a4.1
    exact ⟨a1, a2, (pk_un hne).trans a3, a4, fun j hj => (pk_un (by omega)).trans (a5 j hj), fun hk j hj => (pk_un (by omega)).trans (a6 hk j hj)⟩
  · show upd fs Vs.length (nI (es.length + 1)) Vs.length = nI (es ++ [x]).length
    rw [pk_us, List.length_append, List.length_singleton]
  · simp only [List.length_append, List.length_singleton] at hj
    show upd fe (100 * Vs.length + es.length) x (100 * Vs.length + j) = _
    by_cases hje : j = es.length
    · subst hje
      rw [pk_us]
      simp
    · rw [pk_un (by omega)]
      refine (h9 j (by omega)).trans ?_
      simp only [List.getD_eq_getElem?_getD]
      rw [List.getElem?_append_left (by omega)]
  · rw [List.length_append, List.length_append, (h10 hk).1]
    rfl
  · simp only [List.length_append, List.length_singleton] at hj
    obtain ⟨hkl, hk2⟩ := h10 hk
    show upd fy (100 * Vs.length + es.length) key (100 * Vs.length + j) = _
    by_cases hje : j = es.length
    · subst hje
      rw [pk_us, ← hkl]
      simp
    · rw [pk_un (by omega)]
      refine (hk2 j (by omega)).trans ?_
      simp only [List.getD_eq_getElem?_getD]
      rw [List.getElem?_append_left (by omega)]
/-- a stretch of a list -/
def sv_cut (xs : List Int32) (b d : Nat) : List Int32 := (xs.take d).drop b
theorem sv_cut_length {xs : List Int32} {b d : Nat} (h : d ≤ xs.length) : (sv_cut xs b d).length = d - b := by
  unfold sv_cut
  simp only [List.length_drop, List.length_take]
  omega
theorem sv_cut_get {xs : List Int32} {b d j : Nat} (h : d ≤ xs.length) (hj : j < d - b) : (sv_cut xs b d).getD j 0 = xs.getD (b + j) 0 := by
  unfold sv_cut
  simp only [List.getD_eq_getElem?_getD]
  rw [List.getElem?_drop, List.getElem?_take, if_pos (by omega)]
theorem mB_all {n th : Int32} {fk ff fs fe fy fw : Nat → Int32} {Vs : List sV} {k f : Int32} {es ks : List Int32} (h : mB (n, th, fk, ff, fs, fe, fy, fw) Vs k f es ks) {a b d : Nat} {o : sV} (ha : Vs[a]? = some o) (hbd : b ≤ d) (hd : d ≤ o.2.2.1.length) (he : es.length + (d - b) ≤ 100) (hk3 : k = 3 → o.1 = 3) :
    mB (n, th, fk, ff, upd fs Vs.length (nI (es.length + (d - b))), va_cpy fe fe (100 * a + b) (100 * Vs.length + es.length) (d - b), va_cpy fy fy (100 * a + b) (100 * Vs.length + es.length) (d - b), fw) Vs k f (es ++ sv_cut o.2.2.1 b d) (ks ++ sv_cut o.2.2.2 b d) := by
  obtain ⟨h1, h2, h3, h4, h5, h6, h7, h8, h9, h10⟩ := h
  have hlta : a < Vs.length := (List.getElem?_eq_some_iff.mp ha).1
  obtain ⟨b1, b2, b3, b4, b5, b6⟩ := h3 a o ha
  have hlc := sv_cut_length (b := b) hd
  refine ⟨h1, h2, fun i o' hi => ?_, h4, h5, h6, ?_, by rw [List.length_append, hlc]; omega, fun j hj => ?_, fun hk => ?_⟩
  · have hlt : i < Vs.length := (List.getElem?_eq_some_iff.mp hi).1
    have hne : i ≠ Vs.length := Nat.ne_of_lt hlt
    obtain ⟨a1, a2, a3, a4, a5, a6⟩ := h3 i o' hi
    have ho : o'.2.2.1.length ≤ 100 := a4.1
    exact ⟨a1, a2, (pk_un hne).trans a3, a4, fun j hj => (pk_cpy_out (by omega)).trans (a5 j hj), fun hk j hj => (pk_cpy_out (by omega)).trans (a6 hk j hj)⟩
  · show upd fs Vs.length (nI (es.length + (d - b))) Vs.length = _
    rw [pk_us, List.length_append, hlc]
  · rw [List.length_append, hlc] at hj
    show va_cpy fe fe (100 * a + b) (100 * Vs.length + es.length) (d - b) (100 * Vs.length + j) = _
    by_cases hje : j < es.length
    · rw [pk_cpy_out (by omega)]
      refine (h9 j hje).trans ?_
      simp only [List.getD_eq_getElem?_getD]
      rw [List.getElem?_append_left hje]
    · rw [pk_cpy_in (by omega) (by omega)]
      have e1 : 100 * a + b + (100 * Vs.length + j - (100 * Vs.length + es.length)) = 100 * a + (b + (j - es.length)) := by omega
      rw [e1, show fe (100 * a + (b + (j - es.length))) = _ from b5 (b + (j - es.length)) (by omega), ← sv_cut_get (xs := o.2.2.1) hd (show j - es.length < d - b by omega)]
      simp only [List.getD_eq_getElem?_getD]
      rw [List.getElem?_append_right (by omega)]
  · obtain ⟨hkl, hk2⟩ := h10 hk
    have hok := b4.2.1 (hk3 hk)
    have hlk := sv_cut_length (xs := o.2.2.2) (b := b) (d := d) (by omega)
    refine ⟨by rw [List.length_append, List.length_append, hlc, hlk, hkl], fun j hj => ?_⟩
    rw [List.length_append, hlc] at hj
    show va_cpy fy fy (100 * a + b) (100 * Vs.length + es.length) (d - b) (100 * Vs.length + j) = _
    by_cases hje : j < es.length
    · rw [pk_cpy_out (by omega)]
      refine (hk2 j hje).trans ?_
      simp only [List.getD_eq_getElem?_getD]
      rw [List.getElem?_append_left (by omega)]
    · rw [pk_cpy_in (by omega) (by omega)]
      have e1 : 100 * a + b + (100 * Vs.length + j - (100 * Vs.length + es.length)) = 100 * a + (b + (j - es.length)) := by omega
      rw [e1, show fy (100 * a + (b + (j - es.length))) = _ from b6 (hk3 hk) (b + (j - es.length)) (by omega), ← sv_cut_get (xs := o.2.2.2) (d := d) (by omega) (show j - es.length < d - b by omega)]
      simp only [List.getD_eq_getElem?_getD]
      rw [List.getElem?_append_right (by omega), hkl]
theorem mB_done {S : mS} {Vs : List sV} {k f : Int32} {es ks : List Int32} (h : mB S Vs k f es ks) (ks' : List Int32) (h3 : k = 3 → ks' = ks) (hl : ks'.length ≤ 100) : mAbs S (Vs ++ [(k, f, es, ks')]) := by
  obtain ⟨h1, h2, hF, h4, h5, h6, h7, h8, h9, h10⟩ := h
  refine ⟨by rw [h1, List.length_append]; rfl, by rw [List.length_append]; show Vs.length + 1 ≤ 64; omega, fun i o hi => ?_, h4⟩
  by_cases hlt : i < Vs.length
  · rw [List.getElem?_append_left hlt] at hi
    exact hF i o hi
  · have hi2 : i < (Vs ++ [(k, f, es, ks')]).length := (List.getElem?_eq_some_iff.mp hi).1
    have hie : i = Vs.length := by
      rw [List.length_append] at hi2
      have : i < Vs.length + 1 := hi2
      omega
    subst hie
    rw [List.getElem?_append_right (Nat.le_refl _), Nat.sub_self] at hi
    cases hi
    refine ⟨h5, h6, h7, ⟨h8, fun hk => ?_, hl⟩, h9, fun hk j hj => ?_⟩
    · show ks'.length = es.length
      rw [h3 hk]; exact (h10 hk).1
    · show _ = ks'.getD j 0
      rw [h3 hk]; exact (h10 hk).2 j hj
theorem mAbs_at {S : mS} {Vs : List sV} (h : mAbs S Vs) {v : Int32} (h1 : ¬ v < 0) (h2 : v < nI Vs.length) : ∃ (a : Nat) (o : sV), v = nI a ∧ a < Vs.length ∧ Vs[a]? = some o ∧ sv_at Vs v = some o := by
  obtain ⟨a, ha, e⟩ := nI_of h1
  subst e
  have hl := h.2.1
  have hlt : a < Vs.length := (nI_ltI ha (by omega)).mp h2
  refine ⟨a, Vs[a], rfl, hlt, List.getElem?_eq_getElem hlt, ?_⟩
  unfold sv_at
  rw [if_neg h1, nI_clamp ha]
  exact List.getElem?_eq_getElem hlt
theorem mAbs_none {S : mS} {Vs : List sV} (h : mAbs S Vs) {v : Int32} (h1 : ¬ (¬ v < 0 ∧ v < nI Vs.length)) : sv_at Vs v = none := by
  unfold sv_at
  by_cases h0 : v < 0
  · rw [if_pos h0]
  · rw [if_neg h0]
    obtain ⟨a, ha, e⟩ := nI_of h0
    subst e
    have hl := h.2.1
    have hge : Vs.length ≤ a := Nat.not_lt.mp (fun z => h1 ⟨h0, nI_lt z (by omega)⟩)
    rw [nI_clamp ha]
    exact List.getElem?_eq_none hge
theorem sv_cut_all (xs : List Int32) (b : Nat) : sv_cut xs b xs.length = xs.drop b := by
  unfold sv_cut
  rw [List.take_length]
theorem sv_cut_0 (xs : List Int32) (d : Nat) : sv_cut xs 0 d = xs.take d := by
  unfold sv_cut
  rfl
theorem sv_set : ∀ {xs : List Int32} {b : Nat} {x : Int32}, b < xs.length → xs.take b ++ x :: xs.drop (b + 1) = xs.set b x
  | [], b, x, h => absurd h (Nat.not_lt_zero _)
  | y :: ys, 0, x, _ => rfl
  | y :: ys, b + 1, x, h => by
    have ih := sv_set (xs := ys) (b := b) (x := x) (by simpa using h)
    show y :: (ys.take b ++ x :: ys.drop (b + 1)) = y :: ys.set b x
    rw [ih]
theorem sv_same : ∀ {xs : List Int32} {b : Nat} {x : Int32}, xs[b]? = some x → xs.take b ++ x :: xs.drop (b + 1) = xs
  | [], b, x, h => by simp at h
  | y :: ys, 0, x, h => by
    have h' : y = x := by simpa using h
    subst h'
    rfl
  | y :: ys, b + 1, x, h => by
    have ih := sv_same (xs := ys) (b := b) (x := x) (by simpa using h)
    show y :: (ys.take b ++ x :: ys.drop (b + 1)) = y :: ys
    rw [ih]
theorem m_has {fy : Nat → Int32} {a q : Nat} {o : sV} {key : Int32} (hl : o.2.2.2.length = o.2.2.1.length) (hy : ∀ j, j < o.2.2.1.length → fy (100 * a + j) = o.2.2.2.getD j 0) : (q < o.2.2.1.length ∧ fy (100 * a + q) = key) ↔ o.2.2.2[q]? = some key := by
  constructor
  · intro ⟨h1, h2⟩
    rw [hy q h1, List.getD_eq_getElem?_getD, List.getElem?_eq_getElem (by omega)] at h2
    rw [List.getElem?_eq_getElem (by omega)]
    exact congrArg some h2
  · intro h
    have h1 : q < o.2.2.2.length := (List.getElem?_eq_some_iff.mp h).1
    refine ⟨by omega, ?_⟩
    rw [hy q (by omega), List.getD_eq_getElem?_getD, h]
    rfl
