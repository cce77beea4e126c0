/-! What the tables and the start say, gathered: the world's constants. -/
theorem hs_str {q : Nat × String} (hq : q ∈ kstr) : Cond.exactly (.string R_L q.1) "java/lang/String" ∈ flatC (Jvm.Cond.and given_1 narrow_1) ∧ Cond.stringRef R_L q.1 q.2 ∈ lw_tbl := by
  have h : kstr.all (fun q => decide (Cond.exactly (.string R_L q.1) "java/lang/String" ∈ flatC (Jvm.Cond.and given_1 narrow_1)) && decide (Cond.stringRef R_L q.1 q.2 ∈ tables_1)) = true := by decide +kernel
  have h2 := List.all_eq_true.mp h q hq
  rw [Bool.and_eq_true] at h2
  exact ⟨of_decide_eq_true h2.1, List.mem_append_right _ (of_decide_eq_true h2.2)⟩
theorem hs_cst {q : String × String} (hq : q ∈ kcst) : Cond.castable q.1 q.2 ∈ lw_tbl := by
  have h : kcst.all (fun q => decide (Cond.castable q.1 q.2 ∈ tables_1)) = true := by decide +kernel
  exact List.mem_append_right _ (of_decide_eq_true (List.all_eq_true.mp h q hq))
theorem hs_dec {q : MethodName} (hq : q ∈ kdec) : Cond.declares q ∈ lw_tbl := by
  have h : kdec.all (fun q => decide (Cond.declares q ∈ tables_1)) = true := by decide +kernel
  exact List.mem_append_right _ (of_decide_eq_true (List.all_eq_true.mp h q hq))
theorem hs_not {q : String × String} (hq : q ∈ knot) : Cond.not (.castable q.1 q.2) ∈ flatC (Jvm.Cond.and given_1 narrow_1) := by
  have h : knot.all (fun q => decide (Cond.not (.castable q.1 q.2) ∈ flatC (Jvm.Cond.and given_1 narrow_1))) = true := by decide +kernel
  exact of_decide_eq_true (List.all_eq_true.mp h q hq)
abbrev tmE : Term := .static R_AL "DEFAULTCAPACITY_EMPTY_ELEMENTDATA" "[Ljava/lang/Object;"
abbrev tmF : Term := .static R_L "FORMS" "[I"
def ksts : List Cond := [.arrayOf tmE (.object "java/lang/Object"), .eq (.length tmE) (.int 0), .arrayOf tmF .int, .eq (.length tmF) (.int 5), .eq (.elem tmF (.int 0)) (.int 3), .eq (.elem tmF (.int 1)) (.int 3), .eq (.elem tmF (.int 2)) (.int 2), .eq (.elem tmF (.int 3)) (.int 2), .eq (.elem tmF (.int 4)) (.int 1), .isRef (.static Bundle.tN "UNASSIGNED_STACK" Bundle.steD), .isRef (.static Bundle.tN "SUPPRESSED_SENTINEL" Bundle.listD), .isRef (.mirror "[Ljava/lang/Object;")]
theorem hs_sts {q : Cond} (hq : q ∈ ksts) : q ∈ flatC (Jvm.Cond.and given_1 narrow_1) := by
  have h : ksts.all (fun q => decide (q ∈ flatC (Jvm.Cond.and given_1 narrow_1))) = true := by decide +kernel
  exact of_decide_eq_true (List.all_eq_true.mp h q hq)
def kDcl (c0 c1 c2 c3 x0 x1 x2 x3 : ClassId) : Nat → ClassId := fun k => match k with
  | 0 => c0
  | 1 => c1
  | 2 => c2
  | 3 => c3
  | 10 => x0
  | 11 => x1
  | 12 => x2
  | _ => x3
def kDi (i0 i1 i2 i3 : Nat → Nat) : Nat → Nat → Nat := fun k => match k with
  | 0 => i0
  | 1 => i1
  | 2 => i2
  | _ => i3
theorem k_arr {s : State} {args : Array Value} {ty : FieldType} (h : (Cond.arrayClass ty).before args s = true) : ∃ c, ArrOfT s c ty ∧ s.vm.findClass ("[" ++ ty.toString) = some c := by
  obtain ⟨c, k, comp, h1, h2, h3⟩ := Cond.arrayClass_spec h
  exact ⟨c, fun N z => ⟨(fun k h => by cases h), k, h2, comp, h3⟩, h1⟩
theorem k_inst {s : State} {args : Array Value} {C : String} {n : Nat} (h : (Cond.instantiable C n).before args s = true) : ∃ c, s.vm.findClass C = some c := by
  obtain ⟨c, k, h1, -⟩ := Cond.instantiable_spec h
  exact ⟨c, h1⟩
set_option maxHeartbeats 4000000 in
set_option maxRecDepth 100000 in
theorem kt_known {s : State} {b : Nat} (hts : ∀ w ∈ lw_tbl, w.before #[Value.ref b] s = true) (hgv : (Jvm.Cond.and given_1 narrow_1).before #[Value.ref b] s = true) : ∃ w : Wd, w.H0 = s.heap ∧ KT w s := by
  have hs := flat_of_before _ hgv
  have hgw : ∀ x ∈ gw, ∀ a : Array Value, x.before a s = true := fun x hx a => word_at (State.WarmedH.refl s) (good_of_word (gw_good hx)) (hts x (List.mem_filter.mp hx).1)
  have hg : ∀ x ∈ gw, x.before #[Value.ref b] s = true := fun x hx => hgw x hx _
  obtain ⟨c0, i0, k0⟩ := u_known hg wl_L (hg _ mt_L)
  obtain ⟨c1, i1, k1⟩ := u_known hg wl_V (hg _ mt_V)
  obtain ⟨c2, i2, k2⟩ := u_known hg wl_M (hg _ mt_M)
  obtain ⟨c3, i3, k3⟩ := u_known hg wl_AL (hg _ mt_AL)
  obtain ⟨x0, e0⟩ := k_inst (hg _ mt_IllegalArgumentException)
  obtain ⟨x1, e1⟩ := k_inst (hg _ mt_IllegalStateException)
  obtain ⟨x2, e2⟩ := k_inst (hg _ mt_NoSuchElementException)
  obtain ⟨x3, e3⟩ := k_inst (hg _ mt_IndexOutOfBoundsException)
  obtain ⟨cI, aI, nI1⟩ := k_arr (hg _ ma_int)
  obtain ⟨cJ1, aJ, nJ⟩ := k_arr (hg _ ma_long)
  obtain ⟨comp, cO1, kO, o1, -, o3, o4, o5⟩ := Cond.arrayOver_spec (hts _ mu_object)
  have hA : ∀ a : Nat, a < s.heap.size → ¬ (fun q => s.heap.size ≤ q) a := fun a h z => absurd h (Nat.not_lt.mpr z)
  obtain ⟨E0, vE, tE⟩ := va_Tof (A := fun q => s.heap.size ≤ q) (tm := tmE) (ty := .object "java/lang/Object") (N := 0) (f := fun _ => .null) (by decide) (hs _ (hs_sts (by simp [ksts]))) (va_eqt (z := 0) (hs _ (hs_sts (by simp [ksts])))) (fun j hj => absurd hj (Nat.not_lt_zero _)) hA
  obtain ⟨FA, vF, tF⟩ := va_Tof (A := fun q => s.heap.size ≤ q) (tm := tmF) (ty := .int) (N := 5) (f := fun j => .int (kforms j)) (by decide) (hs _ (hs_sts (by simp [ksts]))) (va_eqt (z := 5) (hs _ (hs_sts (by simp [ksts])))) (fun j hj => by
    have h5 : j = 0 ∨ j = 1 ∨ j = 2 ∨ j = 3 ∨ j = 4 := by omega
    rcases h5 with h | h | h | h | h <;> subst h
    · exact va_eqt (z := 3) (hs (.eq (.elem tmF (.int 0)) (.int 3)) (hs_sts (by simp [ksts])))
    · exact va_eqt (z := 3) (hs (.eq (.elem tmF (.int 1)) (.int 3)) (hs_sts (by simp [ksts])))
    · exact va_eqt (z := 2) (hs (.eq (.elem tmF (.int 2)) (.int 2)) (hs_sts (by simp [ksts])))
    · exact va_eqt (z := 2) (hs (.eq (.elem tmF (.int 3)) (.int 2)) (hs_sts (by simp [ksts])))
    · exact va_eqt (z := 1) (hs (.eq (.elem tmF (.int 4)) (.int 1)) (hs_sts (by simp [ksts])))) hA
  obtain ⟨mi, hmi⟩ := va_Mi.of (hs _ (hs_sts (q := .isRef (.mirror "[Ljava/lang/Object;")) (by simp [ksts])))
  have hstr : ∀ k : Nat, ∃ a : Nat, ∀ tx, (k, tx) ∈ kstr → vk_R R_L k tx a s := fun k => by
    by_cases h : ∃ tx, (k, tx) ∈ kstr
    · obtain ⟨tx, h1⟩ := h
      obtain ⟨a, -, -, -, h2, -⟩ := Cond.exactly_spec (args := #[Value.ref b]) (first := s) (o := none) (s := s) (idx := []) (hs _ (hs_str h1).1)
      exact ⟨a, fun tx' h3 => vk_R.of (hts _ (hs_str h3).2) h2⟩
    · exact ⟨0, fun tx h3 => absurd ⟨tx, h3⟩ h⟩
  refine ⟨((kDcl c0 c1 c2 c3 x0 x1 x2 x3, kDi i0 i1 i2 i3), (cI, cJ1, cO1), s.heap, (FA, E0, mi), fun k => Classical.choose (hstr k)), rfl, hgw, ⟨fun c q hq => ?_, fun k q hk => ?_⟩, ?_, ?_, ?_, ?_⟩
  · match c, hq with
    | 0, h => cases h; exact k0
    | 1, h => cases h; exact k1
    | 2, h => cases h; exact k2
    | 3, h => cases h; exact k3
    | n + 4, h => cases h
  · match k, hk with
    | 0, h => cases h; exact ⟨aI, nI1⟩
    | 1, h => cases h; exact ⟨aJ, nJ⟩
    | 2, h => cases h; exact ⟨fun N z => ⟨(fun k h => by cases h), kO, o3, comp, o4⟩, kO, comp, o3, o4, o1, o5⟩
    | n + 3, h => cases h
  · exact ⟨va_Nw.of rfl (hts _ nm_L_33), va_Nw.of rfl (hts _ nm_L_56), va_Nw.of rfl (hts _ nf_L_78), va_Nw.of rfl (hts _ nf_L_109), va_Nw.of rfl (hts _ nf_L_44), va_Nw.of rfl (hts _ nf_L_95)⟩
  · exact fun q hq => Classical.choose_spec (hstr q.1) q.2 hq
  · exact ⟨fun q hq => va_Nw.of rfl (hts _ (hs_cst hq)), fun q hq => va_Nc.of (hs _ (hs_not hq)), fun q hq => va_Nw.of rfl (hts _ (hs_dec hq)), va_Dc.of (hts _ mj_getClass), va_AO.of (hts _ mu_object)⟩
  · refine ⟨vx_Zqof (hts _ mz_UNASSIGNED_STACK) (hg _ mn_Throwable) (hs _ (hs_sts (by simp [ksts]))) hA, vx_Zqof (hts _ mz_SUPPRESSED_SENTINEL) (hg _ mn_Throwable) (hs _ (hs_sts (by simp [ksts]))) hA, va_Zref (hts _ mz_FORMS) (hg _ mn_L) vF hA, tF, va_Zref (hts _ mz_DEFAULTCAPACITY_EMPTY_ELEMENTDATA) (hg _ mn_AL) vE hA, tE, hmi, fun i hi => ?_⟩
    have h4 : i = 0 ∨ i = 1 ∨ i = 2 ∨ i = 3 := by omega
    rcases h4 with h | h | h | h <;> subst h
    · exact e0
    · exact e1
    · exact e2
    · exact e3
