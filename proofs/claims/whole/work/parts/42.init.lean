/-! The constructors of the reference and of the class. -/
def tt : Nat → Nat
  | 0 => 1
  | i + 1 => 2 * tt i + 1
def mn (n : Nat) : Nat → Nat
  | 0 => n
  | i + 1 => if sv_few (n - tt i) + 1 < mn n i then sv_few (n - tt i) + 1 else mn n i
theorem tt_le : ∀ i, i < 7 → 1 ≤ tt i ∧ tt i ≤ 127 := by decide +kernel
theorem tt_6 : tt 6 = 127 := rfl
theorem mn_le (n : Nat) : ∀ i, mn n i ≤ n
  | 0 => Nat.le_refl _
  | i + 1 => by
    have := mn_le n i
    show (if sv_few (n - tt i) + 1 < mn n i then sv_few (n - tt i) + 1 else mn n i) ≤ n
    by_cases h : sv_few (n - tt i) + 1 < mn n i
    · rw [if_pos h]; omega
    · rw [if_neg h]; exact this
theorem few_le : ∀ n, n < 101 → sv_few n ≤ 100 := by decide +kernel
theorem mn_few0 : ∀ n, n < 101 → ∀ i, i < 7 → (¬ (n < tt i ∧ (i = 0 ∨ tt (i - 1) ≤ n) ∧ 1 ≤ n) ∨ mn n i = sv_few n) := by decide +kernel
theorem mn_few (n : Nat) (hn : n < 101) (i : Nat) (hi : i < 7) (h1 : n < tt i) (h2 : i = 0 ∨ tt (i - 1) ≤ n) (h3 : 1 ≤ n) : mn n i = sv_few n := (mn_few0 n hn i hi).resolve_left (fun z => z ⟨h1, h2, h3⟩)
def mam (a q1 q2 q3 q4 q5 q6 : Nat) : Nat → Nat := fun i => match i with
  | 0 => a
  | 1 => q1
  | 2 => q2
  | 3 => q3
  | 4 => q4
  | 5 => q5
  | _ => q6
theorem mam_I {a q1 q2 q3 q4 q5 q6 : Nat} (h1 : a ≠ q1) (h2 : a ≠ q2) (h3 : a ≠ q3) (h4 : a ≠ q4) (h5 : a ≠ q5) (h6 : a ≠ q6) (n21 : q2 ≠ q1) (n31 : q3 ≠ q1) (n41 : q4 ≠ q1) (n51 : q5 ≠ q1) (n61 : q6 ≠ q1) (n32 : q3 ≠ q2) (n42 : q4 ≠ q2) (n52 : q5 ≠ q2) (n62 : q6 ≠ q2) (n43 : q4 ≠ q3) (n53 : q5 ≠ q3) (n63 : q6 ≠ q3) (n54 : q5 ≠ q4) (n64 : q6 ≠ q4) (n65 : q6 ≠ q5) : mI (mam a q1 q2 q3 q4 q5 q6) := by
  intro i j hi hj h
  have ei : i = 0 ∨ i = 1 ∨ i = 2 ∨ i = 3 ∨ i = 4 ∨ i = 5 ∨ i = 6 := by omega
  have ej : j = 0 ∨ j = 1 ∨ j = 2 ∨ j = 3 ∨ j = 4 ∨ j = 5 ∨ j = 6 := by omega
  rcases ei with e | e | e | e | e | e | e <;> subst e <;> rcases ej with e | e | e | e | e | e | e <;> subst e <;> simp only [mam] at h <;> first | rfl | (exact absurd h (by assumption)) | (exact absurd h.symm (by assumption))
theorem mam_z {a q1 q2 q3 q4 q5 q6 z : Nat} (h1 : z ≤ q1) (h2 : z ≤ q2) (h3 : z ≤ q3) (h4 : z ≤ q4) (h5 : z ≤ q5) (h6 : z ≤ q6) : ∀ i, 1 ≤ i → i < 7 → z ≤ mam a q1 q2 q3 q4 q5 q6 i := by
  intro i hi hj
  have ei : i = 1 ∨ i = 2 ∨ i = 3 ∨ i = 4 ∨ i = 5 ∨ i = 6 := by omega
  rcases ei with e | e | e | e | e | e <;> subst e <;> assumption
theorem mam_P {w : Wd} {a q1 q2 q3 q4 q5 q6 : Nat} {g1 g2 g3 g4 g5 g : Nat → Int32} {n t : Int32} {H : Heap} (hO : va_at w.D cls (a, .inr (2, [.int n, .ref q1, .ref q2, .ref q3, .ref q4, .ref q5, .int t, .ref q6])) H) (h1 : cF w q1 64 g1 H) (h2 : cF w q2 64 g2 H) (h3 : cF w q3 64 g3 H) (h4 : cF w q4 6400 g4 H) (h5 : cF w q5 6400 g5 H) (h6 : cF w q6 101 g H) : va_P w.D cls (mw w (mam a q1 q2 q3 q4 q5 q6) (n, t, g1, g2, g3, g4, g5, g)) H := by
  intro k q hk
  match k, hk with
  | 0, h => cases h; exact hO
  | 1, h => cases h; exact h1
  | 2, h => cases h; exact h2
  | 3, h => cases h; exact h3
  | 4, h => cases h; exact h4
  | 5, h => cases h; exact h5
  | 6, h => cases h; exact h6
  | n + 7, h => cases h
set_option maxHeartbeats 4000000 in
set_option maxRecDepth 100000 in
theorem ct_M_init (w : Wd) (a : Nat) : fx_C (KT w) y_M_init 4 (rmN 2 6 13100) [.ref a] (fun H => va_at w.D cls (a, .inr (2, [.int 0, .null, .null, .null, .null, .null, .int 0, .null])) H) (fun H o H' => o = .returned none ∧ ∃ am : Nat → Nat, am 0 = a ∧ mI am ∧ (∀ i, 1 ≤ i → i < 7 → H.size ≤ am i) ∧ ∃ S : mS, va_P w.D cls (mw w am S) H' ∧ mAbs S []) (fun H q => q = a ∨ H.size ≤ q) := by
  refine fx_of (ret := none) (cc := b_M_init) (fun s hK => hK.1 _ mk_M_init _) (Nat.le_of_ble_eq_true rfl) ?_
  intro p l e s m below meth c hx hfl hK hb hml hr hlk hnt hown hin hpre ls hl
  have hw : ∀ z ∈ gw, z.before ([.ref a] : List Value).toArray s = true := fun z hz => hK.1 z hz _
  have hKv := hK.2.1
  have hL : ∀ q ∈ ([] : List Loc), (fun H q => q = a ∨ H.size ≤ q) s.heap q.base := fun q hq => by cases hq
  have hO := hpre
  have hla := hO.lt
  have hz0 : s.heap.size ≤ s.heap.size := Nat.le_refl _
  have hl : lv_has ls 4 [(0, .ref a)] := hl
  refine lv_aload_n hx hb d_M_init_0 rfl (lv_at hl 0 rfl) ?_
  refine W.objInit hx hb hown (hw _ mm_M_1) (hw _ mi_OJ_init) (hw _ mk_OJ_init) rfl (by rw [hml]; exact hl.1) rfl d_M_init_1 (Nat.le_of_ble_eq_true rfl) (Nat.le_of_ble_eq_true rfl) ?_
  refine W.eq (g2 := F0 m 4 ls []) rfl ?_
  refine lv_aload_n hx hb d_M_init_4 rfl (lv_at hl 0 rfl) ?_
  refine lv_bipush (v := nI 64) hx hb d_M_init_5 rfl ?_
  refine fx_newI hx hb hKv 0 rfl (hw _ ma_int) rfl (show 64 ≤ 100000 by decide) (Nat.le_of_ble_eq_true rfl) (Nat.le_of_ble_eq_true rfl) d_M_init_7 (fun q1 Ha1 hq1 hA1 hG => ?_)
  have hO := hG.ex.kept hO
  have hq1 : s.heap.size ≤ q1 := by rw [hq1]; exact hz0
  have na1 : q1 ≠ a := Nat.ne_of_gt (Nat.lt_of_lt_of_le hla hq1)
  have hz1 := Nat.le_trans hz0 hG.ex.1
  refine fx_putF (B := (fun H q => q = a ∨ H.size ≤ q) s.heap) hx hb hown (kc_M hK _) hKv 1 (by decide) (hw _ mf_M_7) (fun _ h => h) rfl hin rfl hO (by simp) rfl rfl hL (Or.inl rfl) d_M_init_9 (fun Hb1 locs hO hU hL => ?_)
  have hA1 := hU.kept hA1 na1
  have hz1 : s.heap.size ≤ Hb1.size := by rw [hU.1]; exact hz1
  refine lv_aload_n hx hb d_M_init_12 rfl (lv_at hl 0 rfl) ?_
  refine lv_bipush (v := nI 64) hx hb d_M_init_13 rfl ?_
  refine fx_newI hx hb hKv 0 rfl (hw _ ma_int) rfl (show 64 ≤ 100000 by decide) (Nat.le_of_ble_eq_true rfl) (Nat.le_of_ble_eq_true rfl) d_M_init_15 (fun q2 Ha2 hq2 hA2 hG => ?_)
  have hO := hG.ex.kept hO
  have n21 : q2 ≠ q1 := by rw [hq2]; exact Nat.ne_of_gt hA1.lt
  have hA1 := hG.ex.kept hA1
  have hq2 : s.heap.size ≤ q2 := by rw [hq2]; exact hz1
  have na2 : q2 ≠ a := Nat.ne_of_gt (Nat.lt_of_lt_of_le hla hq2)
  have hz2 := Nat.le_trans hz1 hG.ex.1
  refine fx_putF (B := (fun H q => q = a ∨ H.size ≤ q) s.heap) hx hb hown (kc_M hK _) hKv 2 (by decide) (hw _ mf_M_13) (fun _ h => h) rfl hin rfl hO (by simp) rfl rfl hL (Or.inl rfl) d_M_init_17 (fun Hb2 locs hO hU hL => ?_)
  have hA1 := hU.kept hA1 na1
  have hA2 := hU.kept hA2 na2
  have hz2 : s.heap.size ≤ Hb2.size := by rw [hU.1]; exact hz2
  refine lv_aload_n hx hb d_M_init_20 rfl (lv_at hl 0 rfl) ?_
  refine lv_bipush (v := nI 64) hx hb d_M_init_21 rfl ?_
  refine fx_newI hx hb hKv 0 rfl (hw _ ma_int) rfl (show 64 ≤ 100000 by decide) (Nat.le_of_ble_eq_true rfl) (Nat.le_of_ble_eq_true rfl) d_M_init_23 (fun q3 Ha3 hq3 hA3 hG => ?_)
  have hO := hG.ex.kept hO
  have n31 : q3 ≠ q1 := by rw [hq3]; exact Nat.ne_of_gt hA1.lt
  have n32 : q3 ≠ q2 := by rw [hq3]; exact Nat.ne_of_gt hA2.lt
  have hA1 := hG.ex.kept hA1
  have hA2 := hG.ex.kept hA2
  have hq3 : s.heap.size ≤ q3 := by rw [hq3]; exact hz2
  have na3 : q3 ≠ a := Nat.ne_of_gt (Nat.lt_of_lt_of_le hla hq3)
  have hz3 := Nat.le_trans hz2 hG.ex.1
  refine fx_putF (B := (fun H q => q = a ∨ H.size ≤ q) s.heap) hx hb hown (kc_M hK _) hKv 3 (by decide) (hw _ mf_M_16) (fun _ h => h) rfl hin rfl hO (by simp) rfl rfl hL (Or.inl rfl) d_M_init_25 (fun Hb3 locs hO hU hL => ?_)
  have hA1 := hU.kept hA1 na1
  have hA2 := hU.kept hA2 na2
  have hA3 := hU.kept hA3 na3
  have hz3 : s.heap.size ≤ Hb3.size := by rw [hU.1]; exact hz3
  refine lv_aload_n hx hb d_M_init_28 rfl (lv_at hl 0 rfl) ?_
  refine lv_sipush (v := nI 6400) hx hb d_M_init_29 rfl ?_
  refine fx_newI hx hb hKv 0 rfl (hw _ ma_int) rfl (show 6400 ≤ 100000 by decide) (Nat.le_of_ble_eq_true rfl) (Nat.le_of_ble_eq_true rfl) d_M_init_32 (fun q4 Ha4 hq4 hA4 hG => ?_)
  have hO := hG.ex.kept hO
  have n41 : q4 ≠ q1 := by rw [hq4]; exact Nat.ne_of_gt hA1.lt
  have n42 : q4 ≠ q2 := by rw [hq4]; exact Nat.ne_of_gt hA2.lt
  have n43 : q4 ≠ q3 := by rw [hq4]; exact Nat.ne_of_gt hA3.lt
  have hA1 := hG.ex.kept hA1
  have hA2 := hG.ex.kept hA2
  have hA3 := hG.ex.kept hA3
  have hq4 : s.heap.size ≤ q4 := by rw [hq4]; exact hz3
  have na4 : q4 ≠ a := Nat.ne_of_gt (Nat.lt_of_lt_of_le hla hq4)
  have hz4 := Nat.le_trans hz3 hG.ex.1
  refine fx_putF (B := (fun H q => q = a ∨ H.size ≤ q) s.heap) hx hb hown (kc_M hK _) hKv 4 (by decide) (hw _ mf_M_19) (fun _ h => h) rfl hin rfl hO (by simp) rfl rfl hL (Or.inl rfl) d_M_init_34 (fun Hb4 locs hO hU hL => ?_)
  have hA1 := hU.kept hA1 na1
  have hA2 := hU.kept hA2 na2
  have hA3 := hU.kept hA3 na3
  have hA4 := hU.kept hA4 na4
  have hz4 : s.heap.size ≤ Hb4.size := by rw [hU.1]; exact hz4
  refine lv_aload_n hx hb d_M_init_37 rfl (lv_at hl 0 rfl) ?_
  refine lv_sipush (v := nI 6400) hx hb d_M_init_38 rfl ?_
  refine fx_newI hx hb hKv 0 rfl (hw _ ma_int) rfl (show 6400 ≤ 100000 by decide) (Nat.le_of_ble_eq_true rfl) (Nat.le_of_ble_eq_true rfl) d_M_init_41 (fun q5 Ha5 hq5 hA5 hG => ?_)
  have hO := hG.ex.kept hO
  have n51 : q5 ≠ q1 := by rw [hq5]; exact Nat.ne_of_gt hA1.lt
  have n52 : q5 ≠ q2 := by rw [hq5]; exact Nat.ne_of_gt hA2.lt
  have n53 : q5 ≠ q3 := by rw [hq5]; exact Nat.ne_of_gt hA3.lt
  have n54 : q5 ≠ q4 := by rw [hq5]; exact Nat.ne_of_gt hA4.lt
  have hA1 := hG.ex.kept hA1
  have hA2 := hG.ex.kept hA2
  have hA3 := hG.ex.kept hA3
  have hA4 := hG.ex.kept hA4
  have hq5 : s.heap.size ≤ q5 := by rw [hq5]; exact hz4
  have na5 : q5 ≠ a := Nat.ne_of_gt (Nat.lt_of_lt_of_le hla hq5)
  have hz5 := Nat.le_trans hz4 hG.ex.1
  refine fx_putF (B := (fun H q => q = a ∨ H.size ≤ q) s.heap) hx hb hown (kc_M hK _) hKv 5 (by decide) (hw _ mf_M_22) (fun _ h => h) rfl hin rfl hO (by simp) rfl rfl hL (Or.inl rfl) d_M_init_43 (fun Hb5 locs hO hU hL => ?_)
  have hA1 := hU.kept hA1 na1
  have hA2 := hU.kept hA2 na2
  have hA3 := hU.kept hA3 na3
  have hA4 := hU.kept hA4 na4
  have hA5 := hU.kept hA5 na5
  have hz5 : s.heap.size ≤ Hb5.size := by rw [hU.1]; exact hz5
  refine lv_aload_n hx hb d_M_init_46 rfl (lv_at hl 0 rfl) ?_
  refine lv_bipush (v := nI 101) hx hb d_M_init_47 rfl ?_
  refine fx_newI hx hb hKv 0 rfl (hw _ ma_int) rfl (show 101 ≤ 100000 by decide) (Nat.le_of_ble_eq_true rfl) (Nat.le_of_ble_eq_true rfl) d_M_init_49 (fun q6 Ha6 hq6 hA6 hG => ?_)
  have hO := hG.ex.kept hO
  have n61 : q6 ≠ q1 := by rw [hq6]; exact Nat.ne_of_gt hA1.lt
  have n62 : q6 ≠ q2 := by rw [hq6]; exact Nat.ne_of_gt hA2.lt
  have n63 : q6 ≠ q3 := by rw [hq6]; exact Nat.ne_of_gt hA3.lt
  have n64 : q6 ≠ q4 := by rw [hq6]; exact Nat.ne_of_gt hA4.lt
  have n65 : q6 ≠ q5 := by rw [hq6]; exact Nat.ne_of_gt hA5.lt
  have hA1 := hG.ex.kept hA1
  have hA2 := hG.ex.kept hA2
  have hA3 := hG.ex.kept hA3
  have hA4 := hG.ex.kept hA4
  have hA5 := hG.ex.kept hA5
  have hq6 : s.heap.size ≤ q6 := by rw [hq6]; exact hz5
  have na6 : q6 ≠ a := Nat.ne_of_gt (Nat.lt_of_lt_of_le hla hq6)
  have hz6 := Nat.le_trans hz5 hG.ex.1
  refine fx_putF (B := (fun H q => q = a ∨ H.size ≤ q) s.heap) hx hb hown (kc_M hK _) hKv 7 (by decide) (hw _ mf_M_25) (fun _ h => h) rfl hin rfl hO (by simp) rfl rfl hL (Or.inl rfl) d_M_init_51 (fun Hb6 locs hO hU hL => ?_)
  have hA1 := hU.kept hA1 na1
  have hA2 := hU.kept hA2 na2
  have hA3 := hU.kept hA3 na3
  have hA4 := hU.kept hA4 na4
  have hA5 := hU.kept hA5 na5
  have hA6 := hU.kept hA6 na6
  have hz6 : s.heap.size ≤ Hb6.size := by rw [hU.1]; exact hz6
  refine lv_iconst (v := nI 1) hx hb d_M_init_54 rfl ?_
  refine lv_istore_n hx hb d_M_init_55 rfl hl (by decide) rfl (fun ls hl => ?_)
  have hl : lv_has ls 4 [(1, .int (nI 1)), (0, .ref a)] := hl
  refine fx_gen (fun Q0 hQ0 => ?_)
  have outer : ∀ (k n : Nat) (g : Nat → Int32) (Ht : Heap) (locs : List Loc), n + k = 101 → 1 ≤ n → (∀ z, z < n → g z = nI (sv_few z)) → va_at w.D cls (a, .inr (2, [.int 0, .ref q1, .ref q2, .ref q3, .ref q4, .ref q5, .int 0, .ref q6])) Ht → cF w q1 64 (fun _ => 0) Ht → cF w q2 64 (fun _ => 0) Ht → cF w q3 64 (fun _ => 0) Ht → cF w q4 6400 (fun _ => 0) Ht → cF w q5 6400 (fun _ => 0) Ht → cF w q6 101 g Ht → (∀ z ∈ locs, (fun H q => q = a ∨ H.size ≤ q) s.heap z.base) → ∀ (ls : Array Slot), lv_has ls 4 [(1, .int (nI n)), (0, .ref a)] → W p l e (rmN 2 6 13100) s m ([.ref a] : List Value).toArray below meth c Ht locs (0 + 1 + 1 + 1 + 1 + 1 + 1) (0 + 64 + 64 + 64 + 6400 + 6400 + 101) Q0 (F0 m 56 ls []) := by
    intro k
    induction k with
    | zero =>
      intro n g Ht locs hk hn hg hO hA1 hA2 hA3 hA4 hA5 hW hL ls hl
      rw [hQ0]
      refine lv_iload_n hx hb d_M_init_56 rfl (lv_at hl 0 rfl) ?_
      refine lv_bipush (v := nI 100) hx hb d_M_init_57 rfl ?_
      refine lv_icmp_gt (tgt := 128) hx hb d_M_init_59 rfl (fun _ => ?_) (fun h9 => absurd (nI_lt (by omega) (by omega)) h9)
      exact fx_vret hx hb hr hlk hL (Nat.le_of_ble_eq_true rfl) (Nat.le_of_ble_eq_true rfl) d_M_init_128 (⟨rfl, mam a q1 q2 q3 q4 q5 q6, rfl, mam_I (Ne.symm na1) (Ne.symm na2) (Ne.symm na3) (Ne.symm na4) (Ne.symm na5) (Ne.symm na6) n21 n31 n41 n51 n61 n32 n42 n52 n62 n43 n53 n63 n54 n64 n65, mam_z hq1 hq2 hq3 hq4 hq5 hq6, (0, 0, fun _ => 0, fun _ => 0, fun _ => 0, fun _ => 0, fun _ => 0, g), mam_P hO hA1 hA2 hA3 hA4 hA5 hW, rfl, Nat.zero_le _, fun i o hi => (by cases hi), fun z hz => hg z (by omega)⟩)
    | succ k ih =>
      intro n g Ht locs hk hn hg hO hA1 hA2 hA3 hA4 hA5 hW hL ls hl
      refine lv_iload_n hx hb d_M_init_56 rfl (lv_at hl 0 rfl) ?_
      refine lv_bipush (v := nI 100) hx hb d_M_init_57 rfl ?_
      refine lv_icmp_gt (tgt := 128) hx hb d_M_init_59 rfl (fun h9 => absurd h9 (nI_nlt (by omega) (by omega))) (fun _ => ?_)
      refine lv_aload_n hx hb d_M_init_62 rfl (lv_at hl 1 rfl) ?_
      refine fx_get hx hb hown (kc_M hK _) hKv 7 (by decide) (hw _ mf_M_25) (fun _ h => h) hO rfl d_M_init_63 ?_
      refine lv_iload_n hx hb d_M_init_66 rfl (lv_at hl 0 rfl) ?_
      refine lv_iload_n hx hb d_M_init_67 rfl (lv_at hl 0 rfl) ?_
      refine fx_iast (j := n) (B := (fun H q => q = a ∨ H.size ≤ q) s.heap) hx hb hKv 0 hW rfl (rfl) (show n < 101 by omega) (by decide) hL (Or.inr hq6) d_M_init_68 (fun Hc locs hW hU hL => ?_)
      have hO := hU.kept hO (Ne.symm na6)
      have hA1 := hU.kept hA1 (Ne.symm n61)
      have hA2 := hU.kept hA2 (Ne.symm n62)
      have hA3 := hU.kept hA3 (Ne.symm n63)
      have hA4 := hU.kept hA4 (Ne.symm n64)
      have hA5 := hU.kept hA5 (Ne.symm n65)
      refine lv_iconst (v := nI 1) hx hb d_M_init_69 rfl ?_
      refine lv_istore_n hx hb d_M_init_70 rfl hl (by decide) rfl (fun ls hl => ?_)
      have hl : lv_has ls 4 [(2, .int (nI 1)), (1, .int (nI n)), (0, .ref a)] := hl
      have hg2 : ∀ z, z < n → upd g n (nI n) z = nI (sv_few z) := fun z hz => (pk_un (Nat.ne_of_lt hz)).trans (hg z hz)
      have hn2 : upd g n (nI n) n = nI (mn n 0) := pk_us
      generalize upd g n (nI n) = g2 at hW hg2 hn2
      clear hg
      have inner : ∀ (r i : Nat) (g : Nat → Int32) (Ht : Heap) (locs : List Loc), i + r = 6 → (i = 0 ∨ tt (i - 1) ≤ n) → (∀ z, z < n → g z = nI (sv_few z)) → g n = nI (mn n i) → va_at w.D cls (a, .inr (2, [.int 0, .ref q1, .ref q2, .ref q3, .ref q4, .ref q5, .int 0, .ref q6])) Ht → cF w q1 64 (fun _ => 0) Ht → cF w q2 64 (fun _ => 0) Ht → cF w q3 64 (fun _ => 0) Ht → cF w q4 6400 (fun _ => 0) Ht → cF w q5 6400 (fun _ => 0) Ht → cF w q6 101 g Ht → (∀ z ∈ locs, (fun H q => q = a ∨ H.size ≤ q) s.heap z.base) → ∀ (ls : Array Slot), lv_has ls 4 [(2, .int (nI (tt i))), (1, .int (nI n)), (0, .ref a)] → W p l e (rmN 2 6 13100) s m ([.ref a] : List Value).toArray below meth c Ht locs (0 + 1 + 1 + 1 + 1 + 1 + 1) (0 + 64 + 64 + 64 + 6400 + 6400 + 101) Q0 (F0 m 71 ls []) := by
        intro r
        induction r with
        | zero =>
          intro i g Ht locs hir hi hg hgn hO hA1 hA2 hA3 hA4 hA5 hW hL ls hl
          have e6 : i = 6 := by omega
          have hlt : n < tt i := by rw [e6, tt_6]; omega
          have htl := tt_le i (by omega)
          refine lv_iload_n hx hb d_M_init_71 rfl (lv_at hl 0 rfl) ?_
          refine lv_iload_n hx hb d_M_init_72 rfl (lv_at hl 1 rfl) ?_
          refine lv_icmp_gt (tgt := 122) hx hb d_M_init_73 rfl (fun _ => ?_) (fun h9 => absurd (nI_lt hlt (by omega)) h9)
          refine lv_iinc (k := 1) (v := nI (n + 1)) hx hb d_M_init_122 hl rfl (nI_1 _) (by decide) rfl (fun ls hl => ?_)
          refine lv_goto (tgt := 56) hx hb d_M_init_125 rfl ?_
          exact ih (n + 1) g Ht locs (by omega) (by omega) (lt_s hg (hgn.trans (by rw [mn_few n (by omega) i (by omega) hlt hi hn]))) hO hA1 hA2 hA3 hA4 hA5 hW hL ls (lv_sub hl [0, 2] rfl)
        | succ r ihr =>
          intro i g Ht locs hir hi hg hgn hO hA1 hA2 hA3 hA4 hA5 hW hL ls hl
          have htl := tt_le i (by omega)
          have hml1 := mn_le n i
          refine lv_iload_n hx hb d_M_init_71 rfl (lv_at hl 0 rfl) ?_
          refine lv_iload_n hx hb d_M_init_72 rfl (lv_at hl 1 rfl) ?_
          refine lv_icmp_gt (tgt := 122) hx hb d_M_init_73 rfl (fun h73 => ?_) (fun h73 => ?_)
          · have hlt : n < tt i := (nI_ltI (by omega) (by omega)).mp h73
            refine lv_iinc (k := 1) (v := nI (n + 1)) hx hb d_M_init_122 hl rfl (nI_1 _) (by decide) rfl (fun ls hl => ?_)
            refine lv_goto (tgt := 56) hx hb d_M_init_125 rfl ?_
            exact ih (n + 1) g Ht locs (by omega) (by omega) (lt_s hg (hgn.trans (by rw [mn_few n (by omega) i (by omega) hlt hi hn]))) hO hA1 hA2 hA3 hA4 hA5 hW hL ls (lv_sub hl [0, 2] rfl)
          · have htn : tt i ≤ n := Nat.not_lt.mp (fun z => h73 (nI_lt z (by omega)))
            have hfl := few_le (n - tt i) (by omega)
            refine lv_aload_n hx hb d_M_init_76 rfl (lv_at hl 2 rfl) ?_
            refine fx_get hx hb hown (kc_M hK _) hKv 7 (by decide) (hw _ mf_M_25) (fun _ h => h) hO rfl d_M_init_77 ?_
            refine lv_iload_n hx hb d_M_init_80 rfl (lv_at hl 1 rfl) ?_
            refine lv_iload_n hx hb d_M_init_81 rfl (lv_at hl 0 rfl) ?_
            refine lv_isub hx hb d_M_init_82 ?_
            refine fx_ti (y := nI (n - tt i)) (pk_sub htn) ?_
            refine fx_iald (j := n - tt i) hx hb hKv 0 hW rfl (rfl) (by omega) (by omega) d_M_init_83 ?_
            refine fx_ti (y := nI (sv_few (n - tt i))) (hg _ (by omega)) ?_
            refine lv_iconst (v := nI 1) hx hb d_M_init_84 rfl ?_
            refine lv_iadd hx hb d_M_init_85 ?_
            refine fx_ti (y := nI (sv_few (n - tt i) + 1)) (nI_add _ 1) ?_
            refine lv_istore_n hx hb d_M_init_86 rfl hl (by decide) rfl (fun ls hl => ?_)
            have hl : lv_has ls 4 [(3, .int (nI (sv_few (n - tt i) + 1))), (2, .int (nI (tt i))), (1, .int (nI n)), (0, .ref a)] := hl
            refine lv_aload_n hx hb d_M_init_87 rfl (lv_at hl 3 rfl) ?_
            refine fx_get hx hb hown (kc_M hK _) hKv 7 (by decide) (hw _ mf_M_25) (fun _ h => h) hO rfl d_M_init_88 ?_
            refine lv_iload_n hx hb d_M_init_91 rfl (lv_at hl 2 rfl) ?_
            refine lv_iload_n hx hb d_M_init_92 rfl (lv_at hl 0 rfl) ?_
            refine lv_aload_n hx hb d_M_init_93 rfl (lv_at hl 3 rfl) ?_
            refine fx_get hx hb hown (kc_M hK _) hKv 7 (by decide) (hw _ mf_M_25) (fun _ h => h) hO rfl d_M_init_94 ?_
            refine lv_iload_n hx hb d_M_init_97 rfl (lv_at hl 2 rfl) ?_
            refine fx_iald (j := n) hx hb hKv 0 hW rfl (rfl) (by omega) (by omega) d_M_init_98 ?_
            refine fx_ti (y := nI (mn n i)) (hgn) ?_
            refine lv_icmp_ge (tgt := 106) hx hb d_M_init_99 rfl (fun h99 => ?_) (fun h99 => ?_)
            · have h99 : ¬ nI (sv_few (n - tt i) + 1) < nI (mn n i) := Int32.not_lt.mpr h99
              refine lv_aload_n hx hb d_M_init_106 rfl (lv_at hl 3 rfl) ?_
              refine fx_get hx hb hown (kc_M hK _) hKv 7 (by decide) (hw _ mf_M_25) (fun _ h => h) hO rfl d_M_init_107 ?_
              refine lv_iload_n hx hb d_M_init_110 rfl (lv_at hl 2 rfl) ?_
              refine fx_iald (j := n) hx hb hKv 0 hW rfl (rfl) (by omega) (by omega) d_M_init_111 ?_
              refine fx_ti (y := nI (mn n i)) (hgn) ?_
              refine fx_iast (j := n) (B := (fun H q => q = a ∨ H.size ≤ q) s.heap) hx hb hKv 0 hW rfl (rfl) (show n < 101 by omega) (by decide) hL (Or.inr hq6) d_M_init_112 (fun Hc locs hW hU hL => ?_)
              have hO := hU.kept hO (Ne.symm na6)
              have hA1 := hU.kept hA1 (Ne.symm n61)
              have hA2 := hU.kept hA2 (Ne.symm n62)
              have hA3 := hU.kept hA3 (Ne.symm n63)
              have hA4 := hU.kept hA4 (Ne.symm n64)
              have hA5 := hU.kept hA5 (Ne.symm n65)
              refine lv_iconst (v := nI 2) hx hb d_M_init_113 rfl ?_
              refine lv_iload_n hx hb d_M_init_114 rfl (lv_at hl 1 rfl) ?_
              refine lv_imul hx hb d_M_init_115 ?_
              refine fx_ti (y := nI (2 * tt i)) (pk_mul 2 _) ?_
              refine lv_iconst (v := nI 1) hx hb d_M_init_116 rfl ?_
              refine lv_iadd hx hb d_M_init_117 ?_
              refine fx_ti (y := nI (tt (i + 1))) (nI_add _ 1) ?_
              refine lv_istore_n hx hb d_M_init_118 rfl hl (by decide) rfl (fun ls hl => ?_)
              have hl : lv_has ls 4 [(2, .int (nI (tt (i + 1)))), (3, .int (nI (sv_few (n - tt i) + 1))), (1, .int (nI n)), (0, .ref a)] := hl
              refine lv_goto (tgt := 71) hx hb d_M_init_119 rfl ?_
              exact ihr (i + 1) (upd g n (nI (mn n i))) _ _ (by omega) (Or.inr htn) (fun z hz => (pk_un (Nat.ne_of_lt hz)).trans (hg z hz)) (pk_us.trans (congrArg nI (show mn n (i + 1) = _ from if_neg (fun z => h99 (nI_lt z (by omega))))).symm) hO hA1 hA2 hA3 hA4 hA5 hW hL ls (lv_sub hl [0, 2, 3] rfl)
            · have h99 : nI (sv_few (n - tt i) + 1) < nI (mn n i) := Int32.not_le.mp h99
              refine lv_iload_n hx hb d_M_init_102 rfl (lv_at hl 0 rfl) ?_
              refine lv_goto (tgt := 112) hx hb d_M_init_103 rfl ?_
              refine fx_iast (j := n) (B := (fun H q => q = a ∨ H.size ≤ q) s.heap) hx hb hKv 0 hW rfl (rfl) (show n < 101 by omega) (by decide) hL (Or.inr hq6) d_M_init_112 (fun Hc locs hW hU hL => ?_)
              have hO := hU.kept hO (Ne.symm na6)
              have hA1 := hU.kept hA1 (Ne.symm n61)
              have hA2 := hU.kept hA2 (Ne.symm n62)
              have hA3 := hU.kept hA3 (Ne.symm n63)
              have hA4 := hU.kept hA4 (Ne.symm n64)
              have hA5 := hU.kept hA5 (Ne.symm n65)
              refine lv_iconst (v := nI 2) hx hb d_M_init_113 rfl ?_
              refine lv_iload_n hx hb d_M_init_114 rfl (lv_at hl 1 rfl) ?_
              refine lv_imul hx hb d_M_init_115 ?_
              refine fx_ti (y := nI (2 * tt i)) (pk_mul 2 _) ?_
              refine lv_iconst (v := nI 1) hx hb d_M_init_116 rfl ?_
              refine lv_iadd hx hb d_M_init_117 ?_
              refine fx_ti (y := nI (tt (i + 1))) (nI_add _ 1) ?_
              refine lv_istore_n hx hb d_M_init_118 rfl hl (by decide) rfl (fun ls hl => ?_)
              have hl : lv_has ls 4 [(2, .int (nI (tt (i + 1)))), (3, .int (nI (sv_few (n - tt i) + 1))), (1, .int (nI n)), (0, .ref a)] := hl
              refine lv_goto (tgt := 71) hx hb d_M_init_119 rfl ?_
              exact ihr (i + 1) (upd g n (nI (sv_few (n - tt i) + 1))) _ _ (by omega) (Or.inr htn) (fun z hz => (pk_un (Nat.ne_of_lt hz)).trans (hg z hz)) (pk_us.trans (congrArg nI (show mn n (i + 1) = _ from if_pos ((nI_ltI (by omega) (by omega)).mp h99))).symm) hO hA1 hA2 hA3 hA4 hA5 hW hL ls (lv_sub hl [0, 2, 3] rfl)
      exact inner 6 0 g2 _ _ rfl (Or.inl rfl) hg2 hn2 hO hA1 hA2 hA3 hA4 hA5 hW hL ls (lv_sub hl [0, 1, 2] rfl)
  exact outer 100 1 (fun _ => 0) _ _ rfl (Nat.le_refl _) (fun z hz => by rw [show z = 0 by omega]; rfl) hO hA1 hA2 hA3 hA4 hA5 hA6 hL ls hl
