/-! The class's own helpers that make or read rows. -/
theorem kf_le (f c d : Int32) (h : d.toInt = c.toInt + 1) : f ≤ c ↔ ¬ d ≤ f := by
  rw [Int32.le_iff_toInt_le, Int32.le_iff_toInt_le]
  omega
theorem kf_ok (j : Nat) (hj : j < 5) (f : Int32) : (0 ≤ nI j ∧ nI j ≤ 4 ∧ 0 ≤ f ∧ f ≤ (if nI j < 2 then 2 else if nI j < 4 then 1 else 0)) ↔ (¬ f < 0 ∧ ¬ kforms j ≤ f) := by
  rw [Int32.not_lt]
  have h5 : j = 0 ∨ j = 1 ∨ j = 2 ∨ j = 3 ∨ j = 4 := by omega
  rcases h5 with h | h | h | h | h <;> subst h
  · exact ⟨fun z => ⟨z.2.2.1, (kf_le f 2 3 (by decide)).mp z.2.2.2⟩, fun z => ⟨by decide, by decide, z.1, (kf_le f 2 3 (by decide)).mpr z.2⟩⟩
  · exact ⟨fun z => ⟨z.2.2.1, (kf_le f 2 3 (by decide)).mp z.2.2.2⟩, fun z => ⟨by decide, by decide, z.1, (kf_le f 2 3 (by decide)).mpr z.2⟩⟩
  · exact ⟨fun z => ⟨z.2.2.1, (kf_le f 1 2 (by decide)).mp z.2.2.2⟩, fun z => ⟨by decide, by decide, z.1, (kf_le f 1 2 (by decide)).mpr z.2⟩⟩
  · exact ⟨fun z => ⟨z.2.2.1, (kf_le f 1 2 (by decide)).mp z.2.2.2⟩, fun z => ⟨by decide, by decide, z.1, (kf_le f 1 2 (by decide)).mpr z.2⟩⟩
  · exact ⟨fun z => ⟨z.2.2.1, (kf_le f 0 1 (by decide)).mp z.2.2.2⟩, fun z => ⟨by decide, by decide, z.1, (kf_le f 0 1 (by decide)).mpr z.2⟩⟩
theorem kf_few (n : Nat) : nI (sv_few n) = nI (0 + n / 63 + n % 63 / 31 + n % 63 % 31 / 15 + n % 63 % 31 % 15 / 7 + n % 63 % 31 % 15 % 7 / 3 + n % 63 % 31 % 15 % 7 % 3 / 1) := by
  congr 1
  unfold sv_few
  omega
theorem kf_app {xs ys : List Int32} {g : Nat → Int32} (hg : ∀ j, j < xs.length → g j = xs.getD j 0) {j : Nat} (hj : j < xs.length + ys.length) : va_cpy (fun j => ys.getD j 0) g 0 xs.length ys.length j = (xs ++ ys).getD j 0 := by
  by_cases h : j < xs.length
  · rw [pk_cpy_out (Or.inl h), hg j h]
    simp [List.getD_eq_getElem?_getD, List.getElem?_append_left h]
  · rw [pk_cpy_in (by omega) hj]
    simp [List.getD_eq_getElem?_getD, List.getElem?_append_right (Nat.not_lt.mp h)]
theorem kf_set {xs : List Int32} {i j : Nat} {x : Int32} (hi : i < xs.length) (hj : j < xs.length) : upd (fun j => xs.getD j 0) i x j = (xs.set i x).getD j 0 := by
  by_cases h : j = i
  · subst h
    rw [pk_us]
    simp [hi]
  · rw [pk_un h]
    simp [List.getD_eq_getElem?_getD, List.getElem?_set, Ne.symm h]
theorem kf_ins {xs : List Int32} {i j : Nat} {x : Int32} (hi : i ≤ xs.length) (hj : j < xs.length + 1) : va_cpy (fun j => xs.getD j 0) (upd (va_cpy (fun j => xs.getD j 0) (fun _ => 0) 0 0 i) i x) i (i + 1) (xs.length - i) j = (sv_ins xs i x).getD j 0 := by
  rw [sv_ins_get hi]
  by_cases h1 : j < i
  · rw [if_pos h1, pk_cpy_out (Or.inl (by omega)), pk_un (by omega), pk_cpy_in (by omega) (by omega)]
    congr 1
    omega
  · rw [if_neg h1]
    by_cases h2 : j = i
    · rw [if_pos h2, pk_cpy_out (Or.inl (by omega)), h2, pk_us]
    · rw [if_neg h2, pk_cpy_in (by omega) (by omega)]
      congr 1
      omega
theorem kf_off {k : Int32} (h1 : ¬ k = 1) (h2 : ¬ k = 2) : Op.lookupswitch.offset #[(1, 30), (2, 28)].toList 39 k.toInt = (39 : Int) := by
  have e1 : ¬ k.toInt = 1 := fun z => h1 (Int32.toInt_inj.mp (z.trans (by decide)))
  have e2 : ¬ k.toInt = 2 := fun z => h2 (Int32.toInt_inj.mp (z.trans (by decide)))
  simp [Op.lookupswitch.offset, e1, e2, Ne.symm e1, Ne.symm e2, eq_comm]
set_option maxHeartbeats 4000000 in
set_option maxRecDepth 100000 in
theorem ct_L_countBelow (w : Wd) (a : Nat) (xs : List Int32) (x : Int32) (hz : xs.length ≤ 100) : fx_C (KT w) y_L_countBelow 3 (rmK 1) [.ref a, .int x] (fun H => cA w a xs H) (fun _ r _ => r = .returned (some (.int (nI (sv_cb xs x))))) (fun _ _ => False) := by
  refine fx_of (ret := (some (FieldType.int))) (cc := b_L_countBelow) (fun s hK => hK.1 _ mk_L_countBelow _) (Nat.le_of_ble_eq_true rfl) ?_
  intro p l e s m below meth c hx hfl hK hb hml hr hlk hnt hown hin hpre ls hl
  have hw : ∀ z ∈ gw, z.before ([.ref a, .int x] : List Value).toArray s = true := fun z hz => hK.1 z hz _
  have hKv := hK.2.1
  have hL : ∀ q ∈ ([] : List Loc), (fun _ _ => False) s.heap q.base := fun q hq => by cases hq
  have hl : lv_has ls 3 [(0, .ref a), (1, .int x)] := hl
  refine lv_iconst (v := nI 0) hx hb d_L_countBelow_0 rfl ?_
  refine lv_istore_n hx hb d_L_countBelow_1 rfl hl (by decide) rfl (fun ls hl => ?_)
  have hl : lv_has ls 3 [(2, .int (nI 0)), (0, .ref a), (1, .int x)] := hl
  refine fx_gen (fun Q0 hQ0 => ?_)
  have loop : ∀ (k t : Nat), t + k = xs.length → (∀ j, j < t → xs.getD j 0 < x) → ∀ (ls : Array Slot), lv_has ls 3 [(2, .int (nI t)), (0, .ref a), (1, .int x)] → W p l e (rmK 1) s m ([.ref a, .int x] : List Value).toArray below meth c s.heap [] 0 0 Q0 (F0 m 2 ls []) := by
    intro k
    induction k with
    | zero =>
      intro t ht hlt ls hl
      have hte : t = xs.length := by omega
      rw [hQ0]
      refine lv_iload_n hx hb d_L_countBelow_2 rfl (lv_at hl 0 rfl) ?_
      refine lv_aload_n hx hb d_L_countBelow_3 rfl (lv_at hl 1 rfl) ?_
      refine fx_alen hx hb hKv 0 hpre rfl d_L_countBelow_4 ?_
      refine lv_icmp_ge (tgt := 21) hx hb d_L_countBelow_5 rfl (fun _ => ?_) (fun h9 => absurd (by rw [hte]; exact nI_le (Nat.le_refl _) (by omega)) h9)
      refine lv_iload_n hx hb d_L_countBelow_21 rfl (lv_at hl 0 rfl) ?_
      exact fx_iret hx hb hr hlk hL (Nat.le_of_ble_eq_true rfl) (Nat.le_of_ble_eq_true rfl) d_L_countBelow_22 (by rw [sv_cb_of xs x t (by omega) hlt (Or.inl hte)])
    | succ k ih =>
      intro t ht hlt ls hl
      refine lv_iload_n hx hb d_L_countBelow_2 rfl (lv_at hl 0 rfl) ?_
      refine lv_aload_n hx hb d_L_countBelow_3 rfl (lv_at hl 1 rfl) ?_
      refine fx_alen hx hb hKv 0 hpre rfl d_L_countBelow_4 ?_
      refine lv_icmp_ge (tgt := 21) hx hb d_L_countBelow_5 rfl (fun h9 => absurd h9 (nI_ge (by omega) (by omega))) (fun _ => ?_)
      refine lv_aload_n hx hb d_L_countBelow_8 rfl (lv_at hl 1 rfl) ?_
      refine lv_iload_n hx hb d_L_countBelow_9 rfl (lv_at hl 0 rfl) ?_
      refine fx_iald (j := t) hx hb hKv 0 hpre rfl (rfl) (by omega) (by omega) d_L_countBelow_10 ?_
      refine lv_iload_n hx hb d_L_countBelow_11 rfl (lv_at hl 2 rfl) ?_
      refine lv_icmp_ge (tgt := 21) hx hb d_L_countBelow_12 rfl (fun h12 => ?_) (fun h12 => ?_)
      · rw [hQ0]
        refine lv_iload_n hx hb d_L_countBelow_21 rfl (lv_at hl 0 rfl) ?_
        exact fx_iret hx hb hr hlk hL (Nat.le_of_ble_eq_true rfl) (Nat.le_of_ble_eq_true rfl) d_L_countBelow_22 (by rw [sv_cb_of xs x t (by omega) hlt (Or.inr (Int32.not_lt.mpr h12))])
      · refine lv_iinc (k := 0) (v := nI (t + 1)) hx hb d_L_countBelow_15 hl rfl (nI_1 t) (by decide) rfl (fun ls hl => ?_)
        refine lv_goto (tgt := 2) hx hb d_L_countBelow_18 rfl ?_
        exact ih (t + 1) (by omega) (lt_s hlt (Int32.not_le.mp h12)) ls hl
  exact loop xs.length 0 (by omega) (fun j hj => absurd hj (Nat.not_lt_zero _)) ls hl
set_option maxHeartbeats 4000000 in
set_option maxRecDepth 100000 in
theorem ct_L_hasAt (w : Wd) (a q : Nat) (xs : List Int32) (x : Int32) (hz : xs.length ≤ 100) (hq : q ≤ 100) : fx_C (KT w) y_L_hasAt 3 (rmK 1) [.ref a, .int (nI q), .int x] (fun H => cA w a xs H) (fun _ r _ => r = .returned (some (.int (zI (xs[q]? = some x))))) (fun _ _ => False) := by
  refine fx_of (ret := (some (FieldType.boolean))) (cc := b_L_hasAt) (fun s hK => hK.1 _ mk_L_hasAt _) (Nat.le_of_ble_eq_true rfl) ?_
  intro p l e s m below meth c hx hfl hK hb hml hr hlk hnt hown hin hpre ls hl
  have hw : ∀ z ∈ gw, z.before ([.ref a, .int (nI q), .int x] : List Value).toArray s = true := fun z hz => hK.1 z hz _
  have hKv := hK.2.1
  have hL : ∀ q ∈ ([] : List Loc), (fun _ _ => False) s.heap q.base := fun q hq => by cases hq
  have hl : lv_has ls 3 [(0, .ref a), (1, .int (nI q)), (2, .int x)] := hl
  refine lv_iload_n hx hb d_L_hasAt_0 rfl (lv_at hl 1 rfl) ?_
  refine lv_aload_n hx hb d_L_hasAt_1 rfl (lv_at hl 0 rfl) ?_
  refine fx_alen hx hb hKv 0 hpre rfl d_L_hasAt_2 ?_
  refine lv_icmp_ge (tgt := 17) hx hb d_L_hasAt_3 rfl (fun h3 => ?_) (fun h3 => ?_)
  · have h3 : xs.length ≤ q := (nI_leI (by omega) (by omega)).mp h3
    refine lv_iconst (v := nI 0) hx hb d_L_hasAt_17 rfl ?_
    exact fx_zret hx hb hr (by decide) hlk hL (Nat.le_of_ble_eq_true rfl) (Nat.le_of_ble_eq_true rfl) d_L_hasAt_18 (by rw [zI_f (by rw [List.getElem?_eq_none h3]; exact fun z => by cases z)]; rfl)
  · have h3 : q < xs.length := Nat.not_le.mp (fun z => h3 (nI_le z (by omega)))
    have hg : xs[q]? = some (xs.getD q 0) := by rw [List.getD_eq_getElem?_getD, List.getElem?_eq_getElem h3]; rfl
    refine lv_aload_n hx hb d_L_hasAt_6 rfl (lv_at hl 0 rfl) ?_
    refine lv_iload_n hx hb d_L_hasAt_7 rfl (lv_at hl 1 rfl) ?_
    refine fx_iald (j := q) hx hb hKv 0 hpre rfl (rfl) (h3) (by omega) d_L_hasAt_8 ?_
    refine lv_iload_n hx hb d_L_hasAt_9 rfl (lv_at hl 2 rfl) ?_
    refine lv_icmp_ne (tgt := 17) hx hb d_L_hasAt_10 rfl (fun h10 => ?_) (fun h10 => ?_)
    · refine lv_iconst (v := nI 0) hx hb d_L_hasAt_17 rfl ?_
      exact fx_zret hx hb hr (by decide) hlk hL (Nat.le_of_ble_eq_true rfl) (Nat.le_of_ble_eq_true rfl) d_L_hasAt_18 (by rw [zI_f (by rw [hg]; exact fun z => h10 (Option.some.inj z))]; rfl)
    · refine lv_iconst (v := nI 1) hx hb d_L_hasAt_13 rfl ?_
      refine lv_goto (tgt := 18) hx hb d_L_hasAt_14 rfl ?_
      exact fx_zret hx hb hr (by decide) hlk hL (Nat.le_of_ble_eq_true rfl) (Nat.le_of_ble_eq_true rfl) d_L_hasAt_18 (by rw [zI_t (by rw [hg, h10])]; rfl)
set_option maxHeartbeats 4000000 in
set_option maxRecDepth 100000 in
theorem ct_L_isKindWithForm (w : Wd) (k f : Int32) : fx_C (KT w) y_L_isKindWithForm 2 (rmK 1) [.int k, .int f] (fun H => Low w H) (fun _ r _ => r = .returned (some (.int (zI (0 ≤ k ∧ k ≤ 4 ∧ 0 ≤ f ∧ f ≤ (if k < 2 then 2 else if k < 4 then 1 else 0)))))) (fun _ _ => False) := by
  refine fx_of (ret := (some (FieldType.boolean))) (cc := b_L_isKindWithForm) (fun s hK => hK.1 _ mk_L_isKindWithForm _) (Nat.le_of_ble_eq_true rfl) ?_
  intro p l e s m below meth c hx hfl hK hb hml hr hlk hnt hown hin hpre ls hl
  have hw : ∀ z ∈ gw, z.before ([.int k, .int f] : List Value).toArray s = true := fun z hz => hK.1 z hz _
  have hKv := hK.2.1
  have hL : ∀ q ∈ ([] : List Loc), (fun _ _ => False) s.heap q.base := fun q hq => by cases hq
  have hl : lv_has ls 2 [(0, .int k), (1, .int f)] := hl
  refine lv_iload_n hx hb d_L_isKindWithForm_0 rfl (lv_at hl 0 rfl) ?_
  refine lv_if_lt (tgt := 29) hx hb d_L_isKindWithForm_1 rfl (fun h1 => ?_) (fun h1 => ?_)
  · refine lv_iconst (v := nI 0) hx hb d_L_isKindWithForm_29 rfl ?_
    exact fx_zret hx hb hr (by decide) hlk hL (Nat.le_of_ble_eq_true rfl) (Nat.le_of_ble_eq_true rfl) d_L_isKindWithForm_30 (by rw [zI_f (fun z => absurd h1 (Int32.not_lt.mpr z.1))]; rfl)
  · refine lv_iload_n hx hb d_L_isKindWithForm_4 rfl (lv_at hl 0 rfl) ?_
    refine fx_gets hx hb (kZF hK) hpre.2 hown (hw _ mf_L_168) (fun _ h => h) d_L_isKindWithForm_5 ?_
    refine fx_tlen hx hb (kTF hK) hpre.2 d_L_isKindWithForm_8 ?_
    refine lv_icmp_ge (tgt := 29) hx hb d_L_isKindWithForm_9 rfl (fun h9 => ?_) (fun h9 => ?_)
    · refine lv_iconst (v := nI 0) hx hb d_L_isKindWithForm_29 rfl ?_
      exact fx_zret hx hb hr (by decide) hlk hL (Nat.le_of_ble_eq_true rfl) (Nat.le_of_ble_eq_true rfl) d_L_isKindWithForm_30 (by rw [zI_f (fun z => absurd (Int32.le_trans h9 z.2.1) (by decide))]; rfl)
    · obtain ⟨j, hj1, ej⟩ := nI_of h1
      subst ej
      have hj : j < 5 := Nat.not_le.mp (fun z => h9 (nI_le z hj1))
      have hl : lv_has ls 2 [(0, .int (nI j)), (1, .int f)] := hl
      refine lv_iload_n hx hb d_L_isKindWithForm_12 rfl (lv_at hl 1 rfl) ?_
      refine lv_if_lt (tgt := 29) hx hb d_L_isKindWithForm_13 rfl (fun h13 => ?_) (fun h13 => ?_)
      · refine lv_iconst (v := nI 0) hx hb d_L_isKindWithForm_29 rfl ?_
        exact fx_zret hx hb hr (by decide) hlk hL (Nat.le_of_ble_eq_true rfl) (Nat.le_of_ble_eq_true rfl) d_L_isKindWithForm_30 (by rw [zI_f (fun z => ((kf_ok j hj f).mp z).1 h13)]; rfl)
      · refine lv_iload_n hx hb d_L_isKindWithForm_16 rfl (lv_at hl 1 rfl) ?_
        refine fx_gets hx hb (kZF hK) hpre.2 hown (hw _ mf_L_168) (fun _ h => h) d_L_isKindWithForm_17 ?_
        refine lv_iload_n hx hb d_L_isKindWithForm_20 rfl (lv_at hl 0 rfl) ?_
        refine fx_tald hx hb (kTF hK) hpre.2 rfl hj (by decide) rfl d_L_isKindWithForm_21 ?_
        refine lv_icmp_ge (tgt := 29) hx hb d_L_isKindWithForm_22 rfl (fun h22 => ?_) (fun h22 => ?_)
        · refine lv_iconst (v := nI 0) hx hb d_L_isKindWithForm_29 rfl ?_
          exact fx_zret hx hb hr (by decide) hlk hL (Nat.le_of_ble_eq_true rfl) (Nat.le_of_ble_eq_true rfl) d_L_isKindWithForm_30 (by rw [zI_f (fun z => ((kf_ok j hj f).mp z).2 h22)]; rfl)
        · refine lv_iconst (v := nI 1) hx hb d_L_isKindWithForm_25 rfl ?_
          refine lv_goto (tgt := 30) hx hb d_L_isKindWithForm_26 rfl ?_
          exact fx_zret hx hb hr (by decide) hlk hL (Nat.le_of_ble_eq_true rfl) (Nat.le_of_ble_eq_true rfl) d_L_isKindWithForm_30 (by rw [zI_t ((kf_ok j hj f).mpr ⟨h13, h22⟩)]; rfl)
set_option maxHeartbeats 4000000 in
set_option maxRecDepth 100000 in
theorem ct_L_canBeJoined (w : Wd) (a b e1 y1 e2 y2 : Nat) (k1 f1 k2 f2 : Int32) : fx_C (KT w) y_L_canBeJoined 2 (rmK 1) [.ref a, .ref b] (fun H => va_at w.D cls (a, .inr (1, [.int k1, .int f1, .ref e1, .ref y1])) H ∧ va_at w.D cls (b, .inr (1, [.int k2, .int f2, .ref e2, .ref y2])) H) (fun _ r _ => r = .returned (some (.int (zI ((k1 = 1 ∨ k1 = 4) ∧ k1 = k2 ∧ f1 = f2))))) (fun _ _ => False) := by
  refine fx_of (ret := (some (FieldType.boolean))) (cc := b_L_canBeJoined) (fun s hK => hK.1 _ mk_L_canBeJoined _) (Nat.le_of_ble_eq_true rfl) ?_
  intro p l e s m below meth c hx hfl hK hb hml hr hlk hnt hown hin hpre ls hl
  have hw : ∀ z ∈ gw, z.before ([.ref a, .ref b] : List Value).toArray s = true := fun z hz => hK.1 z hz _
  have hKv := hK.2.1
  have hL : ∀ q ∈ ([] : List Loc), (fun _ _ => False) s.heap q.base := fun q hq => by cases hq
  have hl : lv_has ls 2 [(0, .ref a), (1, .ref b)] := hl
  refine lv_aload_n hx hb d_L_canBeJoined_0 rfl (lv_at hl 0 rfl) ?_
  refine fx_getN hx hb hown (kc_V hK _) hKv 0 (by decide) ((nl_L_78 hK _)) (fun _ h => h) hpre.1 rfl d_L_canBeJoined_1 ?_
  refine lv_aload_n hx hb d_L_canBeJoined_4 rfl (lv_at hl 1 rfl) ?_
  refine fx_getN hx hb hown (kc_V hK _) hKv 0 (by decide) ((nl_L_78 hK _)) (fun _ h => h) hpre.2 rfl d_L_canBeJoined_5 ?_
  refine lv_icmp_ne (tgt := 42) hx hb d_L_canBeJoined_8 rfl (fun h8 => ?_) (fun h8 => ?_)
  · refine lv_iconst (v := nI 0) hx hb d_L_canBeJoined_42 rfl ?_
    exact fx_zret hx hb hr (by decide) hlk hL (Nat.le_of_ble_eq_true rfl) (Nat.le_of_ble_eq_true rfl) d_L_canBeJoined_43 (by rw [zI_f (fun z => h8 z.2.1)]; rfl)
  · refine lv_aload_n hx hb d_L_canBeJoined_11 rfl (lv_at hl 0 rfl) ?_
    refine fx_getN hx hb hown (kc_V hK _) hKv 1 (by decide) ((nl_L_109 hK _)) (fun _ h => h) hpre.1 rfl d_L_canBeJoined_12 ?_
    refine lv_aload_n hx hb d_L_canBeJoined_15 rfl (lv_at hl 1 rfl) ?_
    refine fx_getN hx hb hown (kc_V hK _) hKv 1 (by decide) ((nl_L_109 hK _)) (fun _ h => h) hpre.2 rfl d_L_canBeJoined_16 ?_
    refine lv_icmp_ne (tgt := 42) hx hb d_L_canBeJoined_19 rfl (fun h19 => ?_) (fun h19 => ?_)
    · refine lv_iconst (v := nI 0) hx hb d_L_canBeJoined_42 rfl ?_
      exact fx_zret hx hb hr (by decide) hlk hL (Nat.le_of_ble_eq_true rfl) (Nat.le_of_ble_eq_true rfl) d_L_canBeJoined_43 (by rw [zI_f (fun z => h19 z.2.2)]; rfl)
    · refine lv_aload_n hx hb d_L_canBeJoined_22 rfl (lv_at hl 0 rfl) ?_
      refine fx_getN hx hb hown (kc_V hK _) hKv 0 (by decide) ((nl_L_78 hK _)) (fun _ h => h) hpre.1 rfl d_L_canBeJoined_23 ?_
      refine lv_iconst (v := nI 1) hx hb d_L_canBeJoined_26 rfl ?_
      refine lv_icmp_eq (tgt := 38) hx hb d_L_canBeJoined_27 rfl (fun h27 => ?_) (fun h27 => ?_)
      · refine lv_iconst (v := nI 1) hx hb d_L_canBeJoined_38 rfl ?_
        refine lv_goto (tgt := 43) hx hb d_L_canBeJoined_39 rfl ?_
        exact fx_zret hx hb hr (by decide) hlk hL (Nat.le_of_ble_eq_true rfl) (Nat.le_of_ble_eq_true rfl) d_L_canBeJoined_43 (by rw [zI_t ⟨Or.inl h27, h8, h19⟩]; rfl)
      · refine lv_aload_n hx hb d_L_canBeJoined_30 rfl (lv_at hl 0 rfl) ?_
        refine fx_getN hx hb hown (kc_V hK _) hKv 0 (by decide) ((nl_L_78 hK _)) (fun _ h => h) hpre.1 rfl d_L_canBeJoined_31 ?_
        refine lv_iconst (v := nI 4) hx hb d_L_canBeJoined_34 rfl ?_
        refine lv_icmp_ne (tgt := 42) hx hb d_L_canBeJoined_35 rfl (fun h35 => ?_) (fun h35 => ?_)
        · refine lv_iconst (v := nI 0) hx hb d_L_canBeJoined_42 rfl ?_
          exact fx_zret hx hb hr (by decide) hlk hL (Nat.le_of_ble_eq_true rfl) (Nat.le_of_ble_eq_true rfl) d_L_canBeJoined_43 (by rw [zI_f (fun z => z.1.elim h27 h35)]; rfl)
        · refine lv_iconst (v := nI 1) hx hb d_L_canBeJoined_38 rfl ?_
          refine lv_goto (tgt := 43) hx hb d_L_canBeJoined_39 rfl ?_
          exact fx_zret hx hb hr (by decide) hlk hL (Nat.le_of_ble_eq_true rfl) (Nat.le_of_ble_eq_true rfl) d_L_canBeJoined_43 (by rw [zI_t ⟨Or.inr h35, h8, h19⟩]; rfl)
set_option maxHeartbeats 4000000 in
set_option maxRecDepth 100000 in
theorem ct_L_placeToAdd (w : Wd) (a e1 y1 : Nat) (o : sV) (x : Int32) (hz : o.2.2.1.length ≤ 100) : fx_C (KT w) y_L_placeToAdd 2 (rmK 2) [.ref a, .int x] (fun H => va_at w.D cls (a, .inr (1, [.int o.1, .int o.2.1, .ref e1, .ref y1])) H ∧ cA w e1 o.2.2.1 H) (fun _ r _ => r = .returned (some (.int (nI (sv_plc o x))))) (fun _ _ => False) := by
  refine fx_of (ret := (some (FieldType.int))) (cc := b_L_placeToAdd) (fun s hK => hK.1 _ mk_L_placeToAdd _) (Nat.le_of_ble_eq_true rfl) ?_
  intro p l e s m below meth c hx hfl hK hb hml hr hlk hnt hown hin hpre ls hl
  have hw : ∀ z ∈ gw, z.before ([.ref a, .int x] : List Value).toArray s = true := fun z hz => hK.1 z hz _
  have hKv := hK.2.1
  have hL : ∀ q ∈ ([] : List Loc), (fun _ _ => False) s.heap q.base := fun q hq => by cases hq
  have hl : lv_has ls 2 [(0, .ref a), (1, .int x)] := hl
  refine lv_aload_n hx hb d_L_placeToAdd_0 rfl (lv_at hl 0 rfl) ?_
  refine fx_getN hx hb hown (kc_V hK _) hKv 0 (by decide) ((nl_L_78 hK _)) (fun _ h => h) hpre.1 rfl d_L_placeToAdd_1 ?_
  by_cases h2 : o.1 = 2
  · refine lv_lookup (tgt := 32) (off := 28) hx hb d_L_placeToAdd_4 (by decide) (by rw [h2]; decide) rfl ?_
    refine lv_iconst (v := nI 0) hx hb d_L_placeToAdd_32 rfl ?_
    exact fx_iret hx hb hr hlk hL (Nat.le_of_ble_eq_true rfl) (Nat.le_of_ble_eq_true rfl) d_L_placeToAdd_33 (by rw [show sv_plc o x = 0 from if_pos h2])
  by_cases h1 : o.1 = 1
  · refine lv_lookup (tgt := 34) (off := 30) hx hb d_L_placeToAdd_4 (by decide) (by rw [h1]; decide) rfl ?_
    refine lv_aload_n hx hb d_L_placeToAdd_34 rfl (lv_at hl 0 rfl) ?_
    refine fx_getN hx hb hown (kc_V hK _) hKv 2 (by decide) ((nl_L_44 hK _)) (fun _ h => h) hpre.1 rfl d_L_placeToAdd_35 ?_
    refine lv_iload_n hx hb d_L_placeToAdd_38 rfl (lv_at hl 1 rfl) ?_
    refine fx_cS (B := (fun _ _ => False) s.heap) KT_moved (ct_L_countBelow w e1 o.2.2.1 x hz) hx hfl hK hb (by rw [hml]; exact hl.1) hown (hw _ mm_L_98) (fx_Y.code (hw _ mk_L_countBelow)) (hw _ ms_L_countBelow) (hw _ mn_L) (show fx_N y_L_countBelow 2 by decide +kernel) rfl ⟨Nat.le_of_ble_eq_true rfl, Nat.le_of_ble_eq_true rfl, Nat.le_of_ble_eq_true rfl, Nat.le_of_ble_eq_true rfl⟩ (hpre.2) d_L_placeToAdd_39 hL (fun q h => h) (fun v H1 locs hq hF hL => ?_) (fun x H1 locs hq hF hL => by cases hq)
    cases hq
    obtain rfl : H1 = s.heap := hF.same (fun _ _ h => h)
    refine W.eq (g2 := F0 m 42 ls [.int (nI (sv_cb o.2.2.1 x))]) rfl ?_
    exact fx_iret hx hb hr hlk hL (Nat.le_of_ble_eq_true rfl) (Nat.le_of_ble_eq_true rfl) d_L_placeToAdd_42 (by rw [show sv_plc o x = sv_cb o.2.2.1 x from (if_neg h2).trans (if_pos h1)])
  · refine lv_lookup (tgt := 43) (off := 39) hx hb d_L_placeToAdd_4 (by decide) (kf_off h1 h2) rfl ?_
    refine lv_aload_n hx hb d_L_placeToAdd_43 rfl (lv_at hl 0 rfl) ?_
    refine fx_getN hx hb hown (kc_V hK _) hKv 2 (by decide) ((nl_L_44 hK _)) (fun _ h => h) hpre.1 rfl d_L_placeToAdd_44 ?_
    refine fx_alen hx hb hKv 0 hpre.2 rfl d_L_placeToAdd_47 ?_
    exact fx_iret hx hb hr hlk hL (Nat.le_of_ble_eq_true rfl) (Nat.le_of_ble_eq_true rfl) d_L_placeToAdd_48 (by rw [show sv_plc o x = o.2.2.1.length from (if_neg h2).trans (if_neg h1)])
set_option maxHeartbeats 4000000 in
set_option maxRecDepth 100000 in
theorem ct_L_inserted (w : Wd) (a i : Nat) (xs : List Int32) (x : Int32) (hz : xs.length ≤ 100) (hi : i ≤ xs.length) : fx_C (KT w) y_L_inserted 4 (rmG 1) [.ref a, .int (nI i), .int x] (fun H => cA w a xs H) (fun H o H' => ∃ q, o = .returned (some (.ref q)) ∧ H.size ≤ q ∧ cA w q (sv_ins xs i x) H') (fun H q => H.size ≤ q) := by
  refine fx_of (ret := (some ((FieldType.array FieldType.int)))) (cc := b_L_inserted) (fun s hK => hK.1 _ mk_L_inserted _) (Nat.le_of_ble_eq_true rfl) ?_
  intro p l e s m below meth c hx hfl hK hb hml hr hlk hnt hown hin hpre ls hl
  have hw : ∀ z ∈ gw, z.before ([.ref a, .int (nI i), .int x] : List Value).toArray s = true := fun z hz => hK.1 z hz _
  have hKv := hK.2.1
  have hL : ∀ q ∈ ([] : List Loc), (fun H q => H.size ≤ q) s.heap q.base := fun q hq => by cases hq
  have hA := hpre
  have hla := hA.lt
  have hl : lv_has ls 4 [(0, .ref a), (1, .int (nI i)), (2, .int x)] := hl
  refine lv_aload_n hx hb d_L_inserted_0 rfl (lv_at hl 0 rfl) ?_
  refine fx_alen hx hb hKv 0 hA rfl d_L_inserted_1 ?_
  refine lv_iconst (v := nI 1) hx hb d_L_inserted_2 rfl ?_
  refine lv_iadd hx hb d_L_inserted_3 ?_
  refine fx_ti (y := nI (xs.length + 1)) (nI_add _ 1) ?_
  refine fx_newI hx hb hKv 0 rfl (hw _ ma_int) rfl (show xs.length + 1 ≤ 100000 by omega) (Nat.le_of_ble_eq_true rfl) (by show 0 + (xs.length + 1) ≤ 200; omega) d_L_inserted_4 (fun q H1 hq hO hG => ?_)
  have hA := hG.ex.kept hA
  have hna : a ≠ q := by omega
  refine lv_astore_n hx hb d_L_inserted_6 rfl hl (by decide) rfl (fun ls hl => ?_)
  have hl : lv_has ls 4 [(3, .ref q), (0, .ref a), (1, .int (nI i)), (2, .int x)] := hl
  refine lv_aload_n hx hb d_L_inserted_7 rfl (lv_at hl 1 rfl) ?_
  refine lv_iconst (v := nI 0) hx hb d_L_inserted_8 rfl ?_
  refine lv_aload_n hx hb d_L_inserted_9 rfl (lv_at hl 0 rfl) ?_
  refine lv_iconst (v := nI 0) hx hb d_L_inserted_10 rfl ?_
  refine lv_iload_n hx hb d_L_inserted_11 rfl (lv_at hl 2 rfl) ?_
  refine fx_copyI (i := 0) (j := 0) (k := i) (B := (fun H q => H.size ≤ q) s.heap) hx hb (by rw [hml]; exact hl.1) hown (hw _ mm_L_171) (hw _ mv_SY_arraycopy) (hw _ ms_SY_arraycopy) (hw _ mn_SY) hKv 0 rfl hA hO (rfl) (rfl) (rfl) (by omega) (by omega) ⟨by omega, by omega⟩ (Nat.le_of_ble_eq_true rfl) (Nat.le_of_ble_eq_true rfl) hL (show s.heap.size ≤ q by omega) d_L_inserted_12 (fun H2 locs hO hU hL => ?_)
  have hA := hU.kept hA hna
  refine lv_aload_n hx hb d_L_inserted_15 rfl (lv_at hl 0 rfl) ?_
  refine lv_iload_n hx hb d_L_inserted_16 rfl (lv_at hl 2 rfl) ?_
  refine lv_iload_n hx hb d_L_inserted_17 rfl (lv_at hl 3 rfl) ?_
  refine fx_iast (B := (fun H q => H.size ≤ q) s.heap) hx hb hKv 0 hO rfl rfl (show i < xs.length + 1 by omega) (by omega) hL (show s.heap.size ≤ q by omega) d_L_inserted_18 (fun H3 locs hO hU hL => ?_)
  have hA := hU.kept hA hna
  refine lv_aload_n hx hb d_L_inserted_19 rfl (lv_at hl 1 rfl) ?_
  refine lv_iload_n hx hb d_L_inserted_20 rfl (lv_at hl 2 rfl) ?_
  refine lv_aload_n hx hb d_L_inserted_21 rfl (lv_at hl 0 rfl) ?_
  refine lv_iload_n hx hb d_L_inserted_22 rfl (lv_at hl 2 rfl) ?_
  refine lv_iconst (v := nI 1) hx hb d_L_inserted_23 rfl ?_
  refine lv_iadd hx hb d_L_inserted_24 ?_
  refine fx_ti (y := nI (i + 1)) (nI_add i 1) ?_
  refine lv_aload_n hx hb d_L_inserted_25 rfl (lv_at hl 1 rfl) ?_
  refine fx_alen hx hb hKv 0 hA rfl d_L_inserted_26 ?_
  refine lv_iload_n hx hb d_L_inserted_27 rfl (lv_at hl 2 rfl) ?_
  refine lv_isub hx hb d_L_inserted_28 ?_
  refine fx_ti (y := nI (xs.length - i)) (pk_sub hi) ?_
  refine fx_copyI (i := i) (j := i + 1) (k := xs.length - i) (B := (fun H q => H.size ≤ q) s.heap) hx hb (by rw [hml]; exact hl.1) hown (hw _ mm_L_171) (hw _ mv_SY_arraycopy) (hw _ ms_SY_arraycopy) (hw _ mn_SY) hKv 0 rfl hA hO (rfl) (rfl) (rfl) (by omega) (by omega) ⟨by omega, by omega⟩ (Nat.le_of_ble_eq_true rfl) (Nat.le_of_ble_eq_true rfl) hL (show s.heap.size ≤ q by omega) d_L_inserted_29 (fun H4 locs hO hU hL => ?_)
  refine lv_aload_n hx hb d_L_inserted_32 rfl (lv_at hl 0 rfl) ?_
  exact fx_aret hx hb hr (Or.inr ⟨_, rfl⟩) (Or.inr ⟨_, rfl⟩) hlk hL (Nat.le_of_ble_eq_true rfl) (by show 0 + (xs.length + 1) ≤ 200; omega) d_L_inserted_33 (⟨q, rfl, by omega, fx_A.of hO (sv_ins_length hi).symm (fun j hj => kf_ins hi hj)⟩)
set_option maxHeartbeats 4000000 in
set_option maxRecDepth 100000 in
theorem ct_L_replaced (w : Wd) (a i : Nat) (xs : List Int32) (x : Int32) (hz : xs.length ≤ 100) (hi : i < xs.length) : fx_C (KT w) y_L_replaced 4 (rmG 1) [.ref a, .int (nI i), .int x] (fun H => cA w a xs H) (fun H o H' => ∃ q, o = .returned (some (.ref q)) ∧ H.size ≤ q ∧ cA w q (xs.set i x) H') (fun H q => H.size ≤ q) := by
  refine fx_of (ret := (some ((FieldType.array FieldType.int)))) (cc := b_L_replaced) (fun s hK => hK.1 _ mk_L_replaced _) (Nat.le_of_ble_eq_true rfl) ?_
  intro p l e s m below meth c hx hfl hK hb hml hr hlk hnt hown hin hpre ls hl
  have hw : ∀ z ∈ gw, z.before ([.ref a, .int (nI i), .int x] : List Value).toArray s = true := fun z hz => hK.1 z hz _
  have hKv := hK.2.1
  have hL : ∀ q ∈ ([] : List Loc), (fun H q => H.size ≤ q) s.heap q.base := fun q hq => by cases hq
  have hl : lv_has ls 4 [(0, .ref a), (1, .int (nI i)), (2, .int x)] := hl
  refine lv_aload_n hx hb d_L_replaced_0 rfl (lv_at hl 0 rfl) ?_
  refine fx_clone hx hb (by rw [hml]; exact hl.1) hown (hw _ mm_L_177) (hw _ mo_A_clone) (hw _ mv_OJ_clone) (hw _ mi_OJ_clone) (hw _ mq_OJ_clone_y) (hK.2.2.2.2.1.1 ("[I", "java/lang/Cloneable") (by decide)) hKv 0 hpre rfl (Nat.le_of_ble_eq_true rfl) (Nat.le_of_ble_eq_true rfl) (Nat.le_of_ble_eq_true rfl) (by show 0 + xs.length ≤ 200; omega) d_L_replaced_1 (fun q H1 hq hO hG => ?_)
  refine va_castA hx hb hown (hw _ mc_L_178) (fx_one hO) 0 rfl (hKv.2 0 _ rfl).2 d_L_replaced_4 ?_
  refine lv_astore_n hx hb d_L_replaced_7 rfl hl (by decide) rfl (fun ls hl => ?_)
  have hl : lv_has ls 4 [(3, .ref q), (0, .ref a), (1, .int (nI i)), (2, .int x)] := hl
  refine lv_aload_n hx hb d_L_replaced_8 rfl (lv_at hl 0 rfl) ?_
  refine lv_iload_n hx hb d_L_replaced_9 rfl (lv_at hl 2 rfl) ?_
  refine lv_iload_n hx hb d_L_replaced_10 rfl (lv_at hl 3 rfl) ?_
  refine fx_iast (B := (fun H q => H.size ≤ q) s.heap) hx hb hKv 0 hO rfl rfl hi (by omega) hL (show s.heap.size ≤ q by omega) d_L_replaced_11 (fun H3 locs hO hU hL => ?_)
  refine lv_aload_n hx hb d_L_replaced_12 rfl (lv_at hl 0 rfl) ?_
  exact fx_aret hx hb hr (Or.inr ⟨_, rfl⟩) (Or.inr ⟨_, rfl⟩) hlk hL (Nat.le_of_ble_eq_true rfl) (by show 0 + xs.length ≤ 200; omega) d_L_replaced_13 (⟨q, rfl, by omega, fx_A.of hO (by simp) (fun j hj => kf_set hi hj)⟩)
set_option maxHeartbeats 4000000 in
set_option maxRecDepth 100000 in
theorem ct_L_appended (w : Wd) (a b : Nat) (xs ys : List Int32) (hz : xs.length + ys.length ≤ 100) : fx_C (KT w) y_L_appended 3 (rmG 3) [.ref a, .ref b] (fun H => cA w a xs H ∧ cA w b ys H) (fun H o H' => ∃ q, o = .returned (some (.ref q)) ∧ H.size ≤ q ∧ cA w q (xs ++ ys) H') (fun H q => H.size ≤ q) := by
  refine fx_of (ret := (some ((FieldType.array FieldType.int)))) (cc := b_L_appended) (fun s hK => hK.1 _ mk_L_appended _) (Nat.le_of_ble_eq_true rfl) ?_
  intro p l e s m below meth c hx hfl hK hb hml hr hlk hnt hown hin hpre ls hl
  have hw : ∀ z ∈ gw, z.before ([.ref a, .ref b] : List Value).toArray s = true := fun z hz => hK.1 z hz _
  have hKv := hK.2.1
  have hL : ∀ q ∈ ([] : List Loc), (fun H q => H.size ≤ q) s.heap q.base := fun q hq => by cases hq
  obtain ⟨hA, hB⟩ := hpre
  have hla := hA.lt
  have hlb := hB.lt
  have hl : lv_has ls 3 [(0, .ref a), (1, .ref b)] := hl
  refine lv_aload_n hx hb d_L_appended_0 rfl (lv_at hl 0 rfl) ?_
  refine lv_aload_n hx hb d_L_appended_1 rfl (lv_at hl 0 rfl) ?_
  refine fx_alen hx hb hKv 0 hA rfl d_L_appended_2 ?_
  refine lv_aload_n hx hb d_L_appended_3 rfl (lv_at hl 1 rfl) ?_
  refine fx_alen hx hb hKv 0 hB rfl d_L_appended_4 ?_
  refine lv_iadd hx hb d_L_appended_5 ?_
  refine fx_ti (y := nI (xs.length + ys.length)) (nI_add _ _) ?_
  refine fx_cS (B := (fun H q => H.size ≤ q) s.heap) KT_moved (ct_AR_copyOfI w a ys.length xs hz) hx hfl hK hb (by rw [hml]; exact hl.1) hown (hw _ mm_L_182) (fx_Y.code (hw _ mk_AR_copyOfI)) (hw _ ms_AR_copyOfI) (hw _ mn_AR) (show fx_N y_AR_copyOfI 2 by decide +kernel) rfl ⟨Nat.le_of_ble_eq_true rfl, Nat.le_of_ble_eq_true rfl, Nat.le_of_ble_eq_true rfl, Nat.le_of_ble_eq_true rfl⟩ (hA) d_L_appended_6 hL (fun q h => h) (fun v H1 locs hq hF hL => ?_) (fun x H1 locs hq hF hL => by obtain ⟨q, g, hv, -⟩ := hq; cases hv)
  obtain ⟨q, g, hv, hq1, hO, hg⟩ := hq
  cases hv
  have hx1 : fx_Ex s.heap H1 := hF.ex (fun q h => Nat.not_le.mpr h)
  have hA := hx1.kept hA
  have hB := hx1.kept hB
  refine W.eq (g2 := F0 m 9 ls [.ref q]) rfl ?_
  refine lv_astore_n hx hb d_L_appended_9 rfl hl (by decide) rfl (fun ls hl => ?_)
  have hl : lv_has ls 3 [(2, .ref q), (0, .ref a), (1, .ref b)] := hl
  refine lv_aload_n hx hb d_L_appended_10 rfl (lv_at hl 2 rfl) ?_
  refine lv_iconst (v := nI 0) hx hb d_L_appended_11 rfl ?_
  refine lv_aload_n hx hb d_L_appended_12 rfl (lv_at hl 0 rfl) ?_
  refine lv_aload_n hx hb d_L_appended_13 rfl (lv_at hl 1 rfl) ?_
  refine fx_alen hx hb hKv 0 hA rfl d_L_appended_14 ?_
  refine lv_aload_n hx hb d_L_appended_15 rfl (lv_at hl 2 rfl) ?_
  refine fx_alen hx hb hKv 0 hB rfl d_L_appended_16 ?_
  refine fx_copyI (i := 0) (j := xs.length) (k := ys.length) (B := (fun H q => H.size ≤ q) s.heap) hx hb (by rw [hml]; exact hl.1) hown (hw _ mm_L_171) (hw _ mv_SY_arraycopy) (hw _ ms_SY_arraycopy) (hw _ mn_SY) hKv 0 rfl hB hO (rfl) (rfl) (rfl) (by omega) (by omega) ⟨by omega, by omega⟩ (Nat.le_of_ble_eq_true rfl) (Nat.le_of_ble_eq_true rfl) hL (show s.heap.size ≤ q by omega) d_L_appended_17 (fun H3 locs hO hU hL => ?_)
  refine lv_aload_n hx hb d_L_appended_20 rfl (lv_at hl 0 rfl) ?_
  exact fx_aret hx hb hr (Or.inr ⟨_, rfl⟩) (Or.inr ⟨_, rfl⟩) hlk hL (Nat.le_of_ble_eq_true rfl) (Nat.le_of_ble_eq_true rfl) d_L_appended_21 (⟨q, rfl, hq1, fx_A.of hO (by simp) (fun j hj => kf_app hg hj)⟩)
set_option maxHeartbeats 4000000 in
set_option maxRecDepth 100000 in
theorem ct_L_fewestTrees (w : Wd) (n : Nat) (hn : n ≤ 100) : fx_C (KT w) y_L_fewestTrees 4 (rmK 1) [.int (nI n)] (fun _ => True) (fun _ r _ => r = .returned (some (.int (nI (sv_few n))))) (fun _ _ => False) := by
  refine fx_of (ret := (some (FieldType.int))) (cc := b_L_fewestTrees) (fun s hK => hK.1 _ mk_L_fewestTrees _) (Nat.le_of_ble_eq_true rfl) ?_
  intro p l e s m below meth c hx hfl hK hb hml hr hlk hnt hown hin hpre ls hl
  have hw : ∀ z ∈ gw, z.before ([.int (nI n)] : List Value).toArray s = true := fun z hz => hK.1 z hz _
  have hKv := hK.2.1
  have hL : ∀ q ∈ ([] : List Loc), (fun _ _ => False) s.heap q.base := fun q hq => by cases hq
  have hl : lv_has ls 4 [(0, .int (nI n))] := hl
  refine lv_iconst (v := nI 0) hx hb d_L_fewestTrees_0 rfl ?_
  refine lv_istore_n hx hb d_L_fewestTrees_1 rfl hl (by decide) rfl (fun ls hl => ?_)
  have hl : lv_has ls 4 [(1, .int (nI 0)), (0, .int (nI n))] := hl
  refine lv_iload_n hx hb d_L_fewestTrees_2 rfl (lv_at hl 1 rfl) ?_
  refine lv_istore_n hx hb d_L_fewestTrees_3 rfl hl (by decide) rfl (fun ls hl => ?_)
  have hl : lv_has ls 4 [(2, .int (nI n)), (1, .int (nI 0)), (0, .int (nI n))] := hl
  refine lv_bipush (v := nI 63) hx hb d_L_fewestTrees_4 rfl ?_
  refine lv_istore_n hx hb d_L_fewestTrees_6 rfl hl (by decide) rfl (fun ls hl => ?_)
  have hl : lv_has ls 4 [(3, .int (nI 63)), (2, .int (nI n)), (1, .int (nI 0)), (0, .int (nI n))] := hl
  refine lv_iload_n hx hb d_L_fewestTrees_7 rfl (lv_at hl 0 rfl) ?_
  refine lv_if_le (tgt := 28) hx hb d_L_fewestTrees_8 rfl (fun h9 => absurd h9 (by decide)) (fun _ => ?_)
  refine lv_iload_n hx hb d_L_fewestTrees_11 rfl (lv_at hl 2 rfl) ?_
  refine lv_iload_n hx hb d_L_fewestTrees_12 rfl (lv_at hl 1 rfl) ?_
  refine lv_iload_n hx hb d_L_fewestTrees_13 rfl (lv_at hl 0 rfl) ?_
  refine lv_idiv hx hb d_L_fewestTrees_14 (by decide) ?_
  refine fx_ti (y := nI (n / 63)) (pk_div (by omega) (by decide) (by decide)) ?_
  refine lv_iadd hx hb d_L_fewestTrees_15 ?_
  refine fx_ti (y := nI (0 + n / 63)) (nI_add _ _) ?_
  refine lv_istore_n hx hb d_L_fewestTrees_16 rfl hl (by decide) rfl (fun ls hl => ?_)
  have hl : lv_has ls 4 [(1, .int (nI (0 + n / 63))), (3, .int (nI 63)), (2, .int (nI n)), (0, .int (nI n))] := hl
  refine lv_iload_n hx hb d_L_fewestTrees_17 rfl (lv_at hl 2 rfl) ?_
  refine lv_iload_n hx hb d_L_fewestTrees_18 rfl (lv_at hl 1 rfl) ?_
  refine lv_irem hx hb d_L_fewestTrees_19 (by decide) ?_
  refine fx_ti (y := nI (n % 63)) (pk_rem (by omega) (by decide) (by decide)) ?_
  refine lv_istore_n hx hb d_L_fewestTrees_20 rfl hl (by decide) rfl (fun ls hl => ?_)
  have hl : lv_has ls 4 [(2, .int (nI (n % 63))), (1, .int (nI (0 + n / 63))), (3, .int (nI 63)), (0, .int (nI n))] := hl
  refine lv_iload_n hx hb d_L_fewestTrees_21 rfl (lv_at hl 2 rfl) ?_
  refine lv_iconst (v := nI 2) hx hb d_L_fewestTrees_22 rfl ?_
  refine lv_idiv hx hb d_L_fewestTrees_23 (by decide) ?_
  refine fx_ti (y := nI 31) (by decide) ?_
  refine lv_istore_n hx hb d_L_fewestTrees_24 rfl hl (by decide) rfl (fun ls hl => ?_)
  have hl : lv_has ls 4 [(3, .int (nI 31)), (2, .int (nI (n % 63))), (1, .int (nI (0 + n / 63))), (0, .int (nI n))] := hl
  refine lv_goto (tgt := 7) hx hb d_L_fewestTrees_25 rfl ?_
  refine lv_iload_n hx hb d_L_fewestTrees_7 rfl (lv_at hl 0 rfl) ?_
  refine lv_if_le (tgt := 28) hx hb d_L_fewestTrees_8 rfl (fun h9 => absurd h9 (by decide)) (fun _ => ?_)
  refine lv_iload_n hx hb d_L_fewestTrees_11 rfl (lv_at hl 2 rfl) ?_
  refine lv_iload_n hx hb d_L_fewestTrees_12 rfl (lv_at hl 1 rfl) ?_
  refine lv_iload_n hx hb d_L_fewestTrees_13 rfl (lv_at hl 0 rfl) ?_
  refine lv_idiv hx hb d_L_fewestTrees_14 (by decide) ?_
  refine fx_ti (y := nI (n % 63 / 31)) (pk_div (by omega) (by decide) (by decide)) ?_
  refine lv_iadd hx hb d_L_fewestTrees_15 ?_
  refine fx_ti (y := nI (0 + n / 63 + n % 63 / 31)) (nI_add _ _) ?_
  refine lv_istore_n hx hb d_L_fewestTrees_16 rfl hl (by decide) rfl (fun ls hl => ?_)
  have hl : lv_has ls 4 [(1, .int (nI (0 + n / 63 + n % 63 / 31))), (3, .int (nI 31)), (2, .int (nI (n % 63))), (0, .int (nI n))] := hl
  refine lv_iload_n hx hb d_L_fewestTrees_17 rfl (lv_at hl 2 rfl) ?_
  refine lv_iload_n hx hb d_L_fewestTrees_18 rfl (lv_at hl 1 rfl) ?_
  refine lv_irem hx hb d_L_fewestTrees_19 (by decide) ?_
  refine fx_ti (y := nI (n % 63 % 31)) (pk_rem (by omega) (by decide) (by decide)) ?_
  refine lv_istore_n hx hb d_L_fewestTrees_20 rfl hl (by decide) rfl (fun ls hl => ?_)
  have hl : lv_has ls 4 [(2, .int (nI (n % 63 % 31))), (1, .int (nI (0 + n / 63 + n % 63 / 31))), (3, .int (nI 31)), (0, .int (nI n))] := hl
  refine lv_iload_n hx hb d_L_fewestTrees_21 rfl (lv_at hl 2 rfl) ?_
  refine lv_iconst (v := nI 2) hx hb d_L_fewestTrees_22 rfl ?_
  refine lv_idiv hx hb d_L_fewestTrees_23 (by decide) ?_
  refine fx_ti (y := nI 15) (by decide) ?_
  refine lv_istore_n hx hb d_L_fewestTrees_24 rfl hl (by decide) rfl (fun ls hl => ?_)
  have hl : lv_has ls 4 [(3, .int (nI 15)), (2, .int (nI (n % 63 % 31))), (1, .int (nI (0 + n / 63 + n % 63 / 31))), (0, .int (nI n))] := hl
  refine lv_goto (tgt := 7) hx hb d_L_fewestTrees_25 rfl ?_
  refine lv_iload_n hx hb d_L_fewestTrees_7 rfl (lv_at hl 0 rfl) ?_
  refine lv_if_le (tgt := 28) hx hb d_L_fewestTrees_8 rfl (fun h9 => absurd h9 (by decide)) (fun _ => ?_)
  refine lv_iload_n hx hb d_L_fewestTrees_11 rfl (lv_at hl 2 rfl) ?_
  refine lv_iload_n hx hb d_L_fewestTrees_12 rfl (lv_at hl 1 rfl) ?_
  refine lv_iload_n hx hb d_L_fewestTrees_13 rfl (lv_at hl 0 rfl) ?_
  refine lv_idiv hx hb d_L_fewestTrees_14 (by decide) ?_
  refine fx_ti (y := nI (n % 63 % 31 / 15)) (pk_div (by omega) (by decide) (by decide)) ?_
  refine lv_iadd hx hb d_L_fewestTrees_15 ?_
  refine fx_ti (y := nI (0 + n / 63 + n % 63 / 31 + n % 63 % 31 / 15)) (nI_add _ _) ?_
  refine lv_istore_n hx hb d_L_fewestTrees_16 rfl hl (by decide) rfl (fun ls hl => ?_)
  have hl : lv_has ls 4 [(1, .int (nI (0 + n / 63 + n % 63 / 31 + n % 63 % 31 / 15))), (3, .int (nI 15)), (2, .int (nI (n % 63 % 31))), (0, .int (nI n))] := hl
  refine lv_iload_n hx hb d_L_fewestTrees_17 rfl (lv_at hl 2 rfl) ?_
  refine lv_iload_n hx hb d_L_fewestTrees_18 rfl (lv_at hl 1 rfl) ?_
  refine lv_irem hx hb d_L_fewestTrees_19 (by decide) ?_
  refine fx_ti (y := nI (n % 63 % 31 % 15)) (pk_rem (by omega) (by decide) (by decide)) ?_
  refine lv_istore_n hx hb d_L_fewestTrees_20 rfl hl (by decide) rfl (fun ls hl => ?_)
  have hl : lv_has ls 4 [(2, .int (nI (n % 63 % 31 % 15))), (1, .int (nI (0 + n / 63 + n % 63 / 31 + n % 63 % 31 / 15))), (3, .int (nI 15)), (0, .int (nI n))] := hl
  refine lv_iload_n hx hb d_L_fewestTrees_21 rfl (lv_at hl 2 rfl) ?_
  refine lv_iconst (v := nI 2) hx hb d_L_fewestTrees_22 rfl ?_
  refine lv_idiv hx hb d_L_fewestTrees_23 (by decide) ?_
  refine fx_ti (y := nI 7) (by decide) ?_
  refine lv_istore_n hx hb d_L_fewestTrees_24 rfl hl (by decide) rfl (fun ls hl => ?_)
  have hl : lv_has ls 4 [(3, .int (nI 7)), (2, .int (nI (n % 63 % 31 % 15))), (1, .int (nI (0 + n / 63 + n % 63 / 31 + n % 63 % 31 / 15))), (0, .int (nI n))] := hl
  refine lv_goto (tgt := 7) hx hb d_L_fewestTrees_25 rfl ?_
  refine lv_iload_n hx hb d_L_fewestTrees_7 rfl (lv_at hl 0 rfl) ?_
  refine lv_if_le (tgt := 28) hx hb d_L_fewestTrees_8 rfl (fun h9 => absurd h9 (by decide)) (fun _ => ?_)
  refine lv_iload_n hx hb d_L_fewestTrees_11 rfl (lv_at hl 2 rfl) ?_
  refine lv_iload_n hx hb d_L_fewestTrees_12 rfl (lv_at hl 1 rfl) ?_
  refine lv_iload_n hx hb d_L_fewestTrees_13 rfl (lv_at hl 0 rfl) ?_
  refine lv_idiv hx hb d_L_fewestTrees_14 (by decide) ?_
  refine fx_ti (y := nI (n % 63 % 31 % 15 / 7)) (pk_div (by omega) (by decide) (by decide)) ?_
  refine lv_iadd hx hb d_L_fewestTrees_15 ?_
  refine fx_ti (y := nI (0 + n / 63 + n % 63 / 31 + n % 63 % 31 / 15 + n % 63 % 31 % 15 / 7)) (nI_add _ _) ?_
  refine lv_istore_n hx hb d_L_fewestTrees_16 rfl hl (by decide) rfl (fun ls hl => ?_)
  have hl : lv_has ls 4 [(1, .int (nI (0 + n / 63 + n % 63 / 31 + n % 63 % 31 / 15 + n % 63 % 31 % 15 / 7))), (3, .int (nI 7)), (2, .int (nI (n % 63 % 31 % 15))), (0, .int (nI n))] := hl
  refine lv_iload_n hx hb d_L_fewestTrees_17 rfl (lv_at hl 2 rfl) ?_
  refine lv_iload_n hx hb d_L_fewestTrees_18 rfl (lv_at hl 1 rfl) ?_
  refine lv_irem hx hb d_L_fewestTrees_19 (by decide) ?_
  refine fx_ti (y := nI (n % 63 % 31 % 15 % 7)) (pk_rem (by omega) (by decide) (by decide)) ?_
  refine lv_istore_n hx hb d_L_fewestTrees_20 rfl hl (by decide) rfl (fun ls hl => ?_)
  have hl : lv_has ls 4 [(2, .int (nI (n % 63 % 31 % 15 % 7))), (1, .int (nI (0 + n / 63 + n % 63 / 31 + n % 63 % 31 / 15 + n % 63 % 31 % 15 / 7))), (3, .int (nI 7)), (0, .int (nI n))] := hl
  refine lv_iload_n hx hb d_L_fewestTrees_21 rfl (lv_at hl 2 rfl) ?_
  refine lv_iconst (v := nI 2) hx hb d_L_fewestTrees_22 rfl ?_
  refine lv_idiv hx hb d_L_fewestTrees_23 (by decide) ?_
  refine fx_ti (y := nI 3) (by decide) ?_
  refine lv_istore_n hx hb d_L_fewestTrees_24 rfl hl (by decide) rfl (fun ls hl => ?_)
  have hl : lv_has ls 4 [(3, .int (nI 3)), (2, .int (nI (n % 63 % 31 % 15 % 7))), (1, .int (nI (0 + n / 63 + n % 63 / 31 + n % 63 % 31 / 15 + n % 63 % 31 % 15 / 7))), (0, .int (nI n))] := hl
  refine lv_goto (tgt := 7) hx hb d_L_fewestTrees_25 rfl ?_
  refine lv_iload_n hx hb d_L_fewestTrees_7 rfl (lv_at hl 0 rfl) ?_
  refine lv_if_le (tgt := 28) hx hb d_L_fewestTrees_8 rfl (fun h9 => absurd h9 (by decide)) (fun _ => ?_)
  refine lv_iload_n hx hb d_L_fewestTrees_11 rfl (lv_at hl 2 rfl) ?_
  refine lv_iload_n hx hb d_L_fewestTrees_12 rfl (lv_at hl 1 rfl) ?_
  refine lv_iload_n hx hb d_L_fewestTrees_13 rfl (lv_at hl 0 rfl) ?_
  refine lv_idiv hx hb d_L_fewestTrees_14 (by decide) ?_
  refine fx_ti (y := nI (n % 63 % 31 % 15 % 7 / 3)) (pk_div (by omega) (by decide) (by decide)) ?_
  refine lv_iadd hx hb d_L_fewestTrees_15 ?_
  refine fx_ti (y := nI (0 + n / 63 + n % 63 / 31 + n % 63 % 31 / 15 + n % 63 % 31 % 15 / 7 + n % 63 % 31 % 15 % 7 / 3)) (nI_add _ _) ?_
  refine lv_istore_n hx hb d_L_fewestTrees_16 rfl hl (by decide) rfl (fun ls hl => ?_)
  have hl : lv_has ls 4 [(1, .int (nI (0 + n / 63 + n % 63 / 31 + n % 63 % 31 / 15 + n % 63 % 31 % 15 / 7 + n % 63 % 31 % 15 % 7 / 3))), (3, .int (nI 3)), (2, .int (nI (n % 63 % 31 % 15 % 7))), (0, .int (nI n))] := hl
  refine lv_iload_n hx hb d_L_fewestTrees_17 rfl (lv_at hl 2 rfl) ?_
  refine lv_iload_n hx hb d_L_fewestTrees_18 rfl (lv_at hl 1 rfl) ?_
  refine lv_irem hx hb d_L_fewestTrees_19 (by decide) ?_
  refine fx_ti (y := nI (n % 63 % 31 % 15 % 7 % 3)) (pk_rem (by omega) (by decide) (by decide)) ?_
  refine lv_istore_n hx hb d_L_fewestTrees_20 rfl hl (by decide) rfl (fun ls hl => ?_)
  have hl : lv_has ls 4 [(2, .int (nI (n % 63 % 31 % 15 % 7 % 3))), (1, .int (nI (0 + n / 63 + n % 63 / 31 + n % 63 % 31 / 15 + n % 63 % 31 % 15 / 7 + n % 63 % 31 % 15 % 7 / 3))), (3, .int (nI 3)), (0, .int (nI n))] := hl
  refine lv_iload_n hx hb d_L_fewestTrees_21 rfl (lv_at hl 2 rfl) ?_
  refine lv_iconst (v := nI 2) hx hb d_L_fewestTrees_22 rfl ?_
  refine lv_idiv hx hb d_L_fewestTrees_23 (by decide) ?_
  refine fx_ti (y := nI 1) (by decide) ?_
  refine lv_istore_n hx hb d_L_fewestTrees_24 rfl hl (by decide) rfl (fun ls hl => ?_)
  have hl : lv_has ls 4 [(3, .int (nI 1)), (2, .int (nI (n % 63 % 31 % 15 % 7 % 3))), (1, .int (nI (0 + n / 63 + n % 63 / 31 + n % 63 % 31 / 15 + n % 63 % 31 % 15 / 7 + n % 63 % 31 % 15 % 7 / 3))), (0, .int (nI n))] := hl
  refine lv_goto (tgt := 7) hx hb d_L_fewestTrees_25 rfl ?_
  refine lv_iload_n hx hb d_L_fewestTrees_7 rfl (lv_at hl 0 rfl) ?_
  refine lv_if_le (tgt := 28) hx hb d_L_fewestTrees_8 rfl (fun h9 => absurd h9 (by decide)) (fun _ => ?_)
  refine lv_iload_n hx hb d_L_fewestTrees_11 rfl (lv_at hl 2 rfl) ?_
  refine lv_iload_n hx hb d_L_fewestTrees_12 rfl (lv_at hl 1 rfl) ?_
  refine lv_iload_n hx hb d_L_fewestTrees_13 rfl (lv_at hl 0 rfl) ?_
  refine lv_idiv hx hb d_L_fewestTrees_14 (by decide) ?_
  refine fx_ti (y := nI (n % 63 % 31 % 15 % 7 % 3 / 1)) (pk_div (by omega) (by decide) (by decide)) ?_
  refine lv_iadd hx hb d_L_fewestTrees_15 ?_
  refine fx_ti (y := nI (0 + n / 63 + n % 63 / 31 + n % 63 % 31 / 15 + n % 63 % 31 % 15 / 7 + n % 63 % 31 % 15 % 7 / 3 + n % 63 % 31 % 15 % 7 % 3 / 1)) (nI_add _ _) ?_
  refine lv_istore_n hx hb d_L_fewestTrees_16 rfl hl (by decide) rfl (fun ls hl => ?_)
  have hl : lv_has ls 4 [(1, .int (nI (0 + n / 63 + n % 63 / 31 + n % 63 % 31 / 15 + n % 63 % 31 % 15 / 7 + n % 63 % 31 % 15 % 7 / 3 + n % 63 % 31 % 15 % 7 % 3 / 1))), (3, .int (nI 1)), (2, .int (nI (n % 63 % 31 % 15 % 7 % 3))), (0, .int (nI n))] := hl
  refine lv_iload_n hx hb d_L_fewestTrees_17 rfl (lv_at hl 2 rfl) ?_
  refine lv_iload_n hx hb d_L_fewestTrees_18 rfl (lv_at hl 1 rfl) ?_
  refine lv_irem hx hb d_L_fewestTrees_19 (by decide) ?_
  refine fx_ti (y := nI (n % 63 % 31 % 15 % 7 % 3 % 1)) (pk_rem (by omega) (by decide) (by decide)) ?_
  refine lv_istore_n hx hb d_L_fewestTrees_20 rfl hl (by decide) rfl (fun ls hl => ?_)
  have hl : lv_has ls 4 [(2, .int (nI (n % 63 % 31 % 15 % 7 % 3 % 1))), (1, .int (nI (0 + n / 63 + n % 63 / 31 + n % 63 % 31 / 15 + n % 63 % 31 % 15 / 7 + n % 63 % 31 % 15 % 7 / 3 + n % 63 % 31 % 15 % 7 % 3 / 1))), (3, .int (nI 1)), (0, .int (nI n))] := hl
  refine lv_iload_n hx hb d_L_fewestTrees_21 rfl (lv_at hl 2 rfl) ?_
  refine lv_iconst (v := nI 2) hx hb d_L_fewestTrees_22 rfl ?_
  refine lv_idiv hx hb d_L_fewestTrees_23 (by decide) ?_
  refine fx_ti (y := nI 0) (by decide) ?_
  refine lv_istore_n hx hb d_L_fewestTrees_24 rfl hl (by decide) rfl (fun ls hl => ?_)
  have hl : lv_has ls 4 [(3, .int (nI 0)), (2, .int (nI (n % 63 % 31 % 15 % 7 % 3 % 1))), (1, .int (nI (0 + n / 63 + n % 63 / 31 + n % 63 % 31 / 15 + n % 63 % 31 % 15 / 7 + n % 63 % 31 % 15 % 7 / 3 + n % 63 % 31 % 15 % 7 % 3 / 1))), (0, .int (nI n))] := hl
  refine lv_goto (tgt := 7) hx hb d_L_fewestTrees_25 rfl ?_
  refine lv_iload_n hx hb d_L_fewestTrees_7 rfl (lv_at hl 0 rfl) ?_
  refine lv_if_le (tgt := 28) hx hb d_L_fewestTrees_8 rfl (fun _ => ?_) (fun h9 => absurd (by decide) h9)
  refine lv_iload_n hx hb d_L_fewestTrees_28 rfl (lv_at hl 2 rfl) ?_
  exact fx_iret hx hb hr hlk hL (Nat.le_of_ble_eq_true rfl) (Nat.le_of_ble_eq_true rfl) d_L_fewestTrees_29 (by rw [kf_few n])
