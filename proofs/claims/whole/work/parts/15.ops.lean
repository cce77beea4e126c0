/-! The document's state and calls as mathematics: a list of versions (kind, form, elements, keys); a call answers (code, value, the new list): code 0: it returned; 1, 2, 3: the first, second, third of its exceptions. -/
abbrev sV : Type := Int32 × Int32 × List Int32 × List Int32
abbrev sV.es (o : sV) : List Int32 := o.2.2.1
abbrev sV.ks (o : sV) : List Int32 := o.2.2.2
def sv_ok (o : sV) : Prop := o.2.2.1.length ≤ 100 ∧ (o.1 = 3 → o.2.2.2.length = o.2.2.1.length) ∧ o.2.2.2.length ≤ 100
def sv_cb (xs : List Int32) (x : Int32) : Nat := (xs.takeWhile (fun y => decide (y < x))).length
def sv_ins (xs : List Int32) (p : Nat) (x : Int32) : List Int32 := xs.take p ++ x :: xs.drop p
def sv_plc (o : sV) (x : Int32) : Nat := if o.1 = 2 then 0 else if o.1 = 1 then sv_cb o.2.2.1 x else o.2.2.1.length
def sv_mg : Nat → List Int32 → List Int32 → List Int32
  | 0, _, _ => []
  | n + 1, xs, ys => match xs, ys with
    | [], [] => []
    | x :: xs', [] => x :: sv_mg n xs' []
    | [], y :: ys' => y :: sv_mg n [] ys'
    | x :: xs', y :: ys' => if x ≤ y then x :: sv_mg n xs' (y :: ys') else y :: sv_mg n (x :: xs') ys'
def sv_mrg (xs ys : List Int32) : List Int32 := sv_mg (xs.length + ys.length) xs ys
def sv_at (Vs : List sV) (v : Int32) : Option sV := if v < 0 then none else Vs[v.toNatClampNeg]?
/-- the fewest trees of 1, 3, 7, 15, .. that have n elements together, taken greedily -/
def sv_few (n : Nat) : Nat := n / 63 + n % 63 / 31 + n % 63 % 31 / 15 + n % 63 % 31 % 15 / 7 + n % 63 % 31 % 15 % 7 / 3 + n % 63 % 31 % 15 % 7 % 3
def sv_bit (n : Nat) : Nat := n % 2 + n / 2 % 2 + n / 4 % 2 + n / 8 % 2 + n / 16 % 2 + n / 32 % 2 + n / 64 % 2
def sv_prt (o : sV) : Nat := if o.1 = 2 ∧ o.2.1 = 0 then sv_few o.2.2.1.length else if (o.1 = 1 ∨ o.1 = 2) ∧ o.2.1 = 1 then sv_bit o.2.2.1.length else if 0 < o.2.2.1.length then 1 else 0
abbrev sR : Type := Nat × Int32 × List sV
def sv_new (Vs : List sV) (o : sV) : sR := (0, nI Vs.length, Vs ++ [o])
def so_empty (Vs : List sV) (k f : Int32) : sR :=
  if 0 ≤ k ∧ k ≤ 4 ∧ 0 ≤ f ∧ f ≤ (if k < 2 then 2 else if k < 4 then 1 else 0) then (if 64 ≤ Vs.length then (2, 0, Vs) else sv_new Vs (k, f, [], [])) else (1, 0, Vs)
def so_add (Vs : List sV) (v x : Int32) : sR := match sv_at Vs v with
  | none => (1, 0, Vs)
  | some o => if o.1 = 3 then (1, 0, Vs) else if 64 ≤ Vs.length ∨ 100 ≤ o.2.2.1.length then (2, 0, Vs) else sv_new Vs (o.1, o.2.1, sv_ins o.2.2.1 (sv_plc o x) x, o.2.2.2)
def so_first (Vs : List sV) (v : Int32) : sR := match sv_at Vs v with
  | none => (1, 0, Vs)
  | some o => if o.1 = 3 then (1, 0, Vs) else if o.2.2.1.length = 0 then (2, 0, Vs) else (0, o.2.2.1.getD 0 0, Vs)
def so_rest (Vs : List sV) (v : Int32) : sR := match sv_at Vs v with
  | none => (1, 0, Vs)
  | some o => if o.1 = 3 then (1, 0, Vs) else if 64 ≤ Vs.length then (2, 0, Vs) else if o.2.2.1.length = 0 then (3, 0, Vs) else sv_new Vs (o.1, o.2.1, o.2.2.1.drop 1, o.2.2.2)
def so_join (Vs : List sV) (v w : Int32) : sR := match sv_at Vs v, sv_at Vs w with
  | some a, some b => if (a.1 = 1 ∨ a.1 = 4) ∧ a.1 = b.1 ∧ a.2.1 = b.2.1 then (if 64 ≤ Vs.length ∨ 100 < a.2.2.1.length + b.2.2.1.length then (2, 0, Vs) else sv_new Vs (a.1, a.2.1, (if a.1 = 4 then a.2.2.1 ++ b.2.2.1 else sv_mrg a.2.2.1 b.2.2.1), a.2.2.2)) else (1, 0, Vs)
  | _, _ => (1, 0, Vs)
def so_bind (Vs : List sV) (v key x : Int32) : sR := match sv_at Vs v with
  | none => (1, 0, Vs)
  | some o => if o.1 = 3 ∧ 0 ≤ key ∧ key ≤ 255 then
      (if o.2.2.2[sv_cb o.2.2.2 key]? = some key then (if 64 ≤ Vs.length then (2, 0, Vs) else sv_new Vs (o.1, o.2.1, o.2.2.1.set (sv_cb o.2.2.2 key) x, o.2.2.2))
       else (if 64 ≤ Vs.length ∨ 100 ≤ o.2.2.1.length then (2, 0, Vs) else sv_new Vs (o.1, o.2.1, sv_ins o.2.2.1 (sv_cb o.2.2.2 key) x, sv_ins o.2.2.2 (sv_cb o.2.2.2 key) key)))
      else (1, 0, Vs)
def so_value (Vs : List sV) (v key : Int32) : sR := match sv_at Vs v with
  | none => (1, 0, Vs)
  | some o => if o.1 = 3 then (if o.2.2.2[sv_cb o.2.2.2 key]? = some key then (0, o.2.2.1.getD (sv_cb o.2.2.2 key) 0, Vs) else (2, 0, Vs)) else (1, 0, Vs)
def so_update (Vs : List sV) (v i x : Int32) : sR := match sv_at Vs v with
  | none => (1, 0, Vs)
  | some o => if o.1 = 2 then (if 64 ≤ Vs.length then (2, 0, Vs) else if i < 0 ∨ nI o.2.2.1.length ≤ i then (3, 0, Vs) else sv_new Vs (o.1, o.2.1, o.2.2.1.set i.toNatClampNeg x, o.2.2.2)) else (1, 0, Vs)
def so_at (Vs : List sV) (v i : Int32) : sR := match sv_at Vs v with
  | none => (1, 0, Vs)
  | some o => if i < 0 ∨ nI o.2.2.1.length ≤ i then (2, 0, Vs) else (0, o.2.2.1.getD i.toNatClampNeg 0, Vs)
def so_size (Vs : List sV) (v : Int32) : sR := match sv_at Vs v with
  | none => (1, 0, Vs)
  | some o => (0, nI o.2.2.1.length, Vs)
def so_parts (Vs : List sV) (v : Int32) : sR := match sv_at Vs v with
  | none => (1, 0, Vs)
  | some o => (0, nI (sv_prt o), Vs)
def so_kind (Vs : List sV) (v : Int32) : sR := match sv_at Vs v with
  | none => (1, 0, Vs)
  | some o => (0, 10 * o.1 + o.2.1, Vs)
-- pure rows
theorem sv_cb_le (xs : List Int32) (x : Int32) : sv_cb xs x ≤ xs.length := by
  unfold sv_cb
  exact List.IsPrefix.length_le (List.takeWhile_prefix _)
theorem sv_cb_cons (y : Int32) (ys : List Int32) (x : Int32) : sv_cb (y :: ys) x = if y < x then sv_cb ys x + 1 else 0 := by
  unfold sv_cb
  by_cases h : y < x
  · simp [h]
  · simp [h]
/-- the loop's end: all before k are below x, and k is the end or the element at k isn't below -/
theorem sv_cb_of : ∀ (xs : List Int32) (x : Int32) (k : Nat), k ≤ xs.length → (∀ j, j < k → xs.getD j 0 < x) → (k = xs.length ∨ ¬ xs.getD k 0 < x) → sv_cb xs x = k
  | [], x, k, h1, _, _ => by
    have : k = 0 := by simpa using h1
    subst this
    rfl
  | y :: ys, x, k, h1, h2, h3 => by
    rw [sv_cb_cons]
    cases k with
    | zero =>
      rcases h3 with h3 | h3
      · simp at h3
      · rw [if_neg (by simpa using h3)]
    | succ k =>
      have h0 : y < x := by simpa using h2 0 (by omega)
      rw [if_pos h0]
      congr 1
      refine sv_cb_of ys x k (by simpa using h1) (fun j hj => by simpa using h2 (j + 1) (by omega)) ?_
      rcases h3 with h3 | h3
      · left; simpa using h3
      · right; simpa using h3
theorem sv_ins_length {xs : List Int32} {p : Nat} {x : Int32} (h : p ≤ xs.length) : (sv_ins xs p x).length = xs.length + 1 := by
  unfold sv_ins
  simp only [List.length_append, List.length_take, List.length_cons, List.length_drop]
  omega
theorem sv_ins_get {xs : List Int32} {p : Nat} {x : Int32} (h : p ≤ xs.length) (j : Nat) : (sv_ins xs p x).getD j 0 = if j < p then xs.getD j 0 else if j = p then x else xs.getD (j - 1) 0 := by
  unfold sv_ins
  simp only [List.getD_eq_getElem?_getD]
  by_cases h1 : j < p
  · rw [if_pos h1, List.getElem?_append_left (by simp only [List.length_take]; omega), List.getElem?_take, if_pos h1]
  · rw [if_neg h1, List.getElem?_append_right (by simp only [List.length_take]; omega)]
    have e : j - (xs.take p).length = j - p := by simp only [List.length_take]; omega
    rw [e]
    by_cases h2 : j = p
    · subst h2
      simp
    · rw [if_neg h2]
      have e2 : j - p = (j - p - 1) + 1 := by omega
      rw [e2, List.getElem?_cons_succ, List.getElem?_drop]
      congr 2
      omega
theorem sv_mg_left {n : Nat} {x : Int32} {xs ys : List Int32} (h : ys = [] ∨ x ≤ ys.getD 0 0) : sv_mg (n + 1) (x :: xs) ys = x :: sv_mg n xs ys := by
  cases ys with
  | nil => rfl
  | cons y ys =>
    have h' : x ≤ y := by
      rcases h with h | h
      · cases h
      · simpa using h
    show (if x ≤ y then x :: sv_mg n xs (y :: ys) else y :: sv_mg n (x :: xs) ys) = _
    rw [if_pos h']
theorem sv_mg_right {n : Nat} {y : Int32} {xs ys : List Int32} (h : xs = [] ∨ ¬ xs.getD 0 0 ≤ y) : sv_mg (n + 1) xs (y :: ys) = y :: sv_mg n xs ys := by
  cases xs with
  | nil => rfl
  | cons x xs =>
    have h' : ¬ x ≤ y := by
      rcases h with h | h
      · cases h
      · simpa using h
    show (if x ≤ y then x :: sv_mg n xs (y :: ys) else y :: sv_mg n (x :: xs) ys) = _
    rw [if_neg h']
theorem sv_mg_len : ∀ (n : Nat) (xs ys : List Int32), n = xs.length + ys.length → (sv_mg n xs ys).length = n
  | 0, _, _, _ => rfl
  | n + 1, [], [], h => by simp at h
  | n + 1, x :: xs, [], h => by
    show (x :: sv_mg n xs []).length = _
    rw [List.length_cons, sv_mg_len n xs [] (by simpa using h)]
  | n + 1, [], y :: ys, h => by
    show (y :: sv_mg n [] ys).length = _
    rw [List.length_cons, sv_mg_len n [] ys (by simpa using h)]
  | n + 1, x :: xs, y :: ys, h => by
    show (if x ≤ y then x :: sv_mg n xs (y :: ys) else y :: sv_mg n (x :: xs) ys).length = _
    simp only [List.length_cons] at h
    by_cases hc : x ≤ y
    · rw [if_pos hc, List.length_cons, sv_mg_len n xs (y :: ys) (by simp only [List.length_cons]; omega)]
    · rw [if_neg hc, List.length_cons, sv_mg_len n (x :: xs) ys (by simp only [List.length_cons]; omega)]
theorem sv_mrg_length (xs ys : List Int32) : (sv_mrg xs ys).length = xs.length + ys.length := sv_mg_len _ _ _ rfl
