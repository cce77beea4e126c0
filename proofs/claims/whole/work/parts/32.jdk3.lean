/-! Arrays.copyOf, copyOfRange of ints; Integer.bitCount. -/
abbrev cA (w : Wd) (a : Nat) (xs : List Int32) (H : Heap) : Prop := fx_A w.D cls w.I a xs H
abbrev cF (w : Wd) (a n : Nat) (f : Nat → Int32) (H : Heap) : Prop := va_at w.D cls (a, .inl (w.I, n, .inl f)) H
def bcount (x0 : Int32) : Int32 :=
  let u := fun (x k : Int32) => (x.toUInt32 >>> (k.toUInt32 &&& Int32.toUInt32 31)).toInt32
  let x1 := x0 - (u x0 (nI 1) &&& 1431655765)
  let x2 := (x1 &&& 858993459) + (u x1 (nI 2) &&& 858993459)
  let x3 := (x2 + u x2 (nI 4)) &&& 252645135
  let x4 := x3 + u x3 (nI 8)
  let x5 := x4 + u x4 (nI 16)
  x5 &&& nI 63
theorem bcount_ok : ∀ n, n < 101 → bcount (nI n) = nI (sv_bit n) := by decide +kernel
set_option maxHeartbeats 4000000 in
set_option maxRecDepth 100000 in
theorem ct_AR_copyOfI (w : Wd) (a k : Nat) (xs : List Int32) (hz : xs.length + k ≤ 100) : fx_C (KT w) y_AR_copyOfI 3 (rmG 2) [.ref a, .int (nI (xs.length + k))] (fun H => cA w a xs H) (fun H o H' => ∃ q g, o = .returned (some (.ref q)) ∧ H.size ≤ q ∧ cF w q (xs.length + k) g H' ∧ ∀ j, j < xs.length → g j = xs.getD j 0) (fun H q => H.size ≤ q) := by
  refine fx_of (ret := (some ((FieldType.array FieldType.int)))) (cc := b_AR_copyOfI) (fun s hK => hK.1 _ mk_AR_copyOfI _) (Nat.le_of_ble_eq_true rfl) ?_
  intro p l e s m below meth c hx hfl hK hb hml hr hlk hnt hown hin hpre ls hl
  have hw : ∀ z ∈ gw, z.before ([.ref a, .int (nI (xs.length + k))] : List Value).toArray s = true := fun z hz => hK.1 z hz _
  have hKv := hK.2.1
  have hL : ∀ q ∈ ([] : List Loc), (fun H q => H.size ≤ q) s.heap q.base := fun q hq => by cases hq
  have hl : lv_has ls 3 [(0, .ref a), (1, .int (nI (xs.length + k)))] := hl
  refine lv_iload_n hx hb d_AR_copyOfI_0 rfl (lv_at hl 1 rfl) ?_
  refine lv_aload_n hx hb d_AR_copyOfI_1 rfl (lv_at hl 0 rfl) ?_
  refine fx_alen hx hb hKv 0 hpre rfl d_AR_copyOfI_2 ?_
  refine lv_icmp_ne (tgt := 14) hx hb d_AR_copyOfI_3 rfl (fun h3 => ?_) (fun h3 => ?_)
  · refine lv_iload_n hx hb d_AR_copyOfI_14 rfl (lv_at hl 1 rfl) ?_
    refine fx_newI hx hb hKv 0 rfl (hw _ ma_int) rfl (show xs.length + k ≤ 100000 by omega) (Nat.le_of_ble_eq_true rfl) (by show 0 + (xs.length + k) ≤ 200; omega) d_AR_copyOfI_15 (fun q H1 hq hO hG => ?_)
    have hA := hG.ex.kept hpre
    refine lv_astore_n hx hb d_AR_copyOfI_17 rfl hl (by decide) rfl (fun ls hl => ?_)
    have hl : lv_has ls 3 [(2, .ref q), (0, .ref a), (1, .int (nI (xs.length + k)))] := hl
    refine lv_aload_n hx hb d_AR_copyOfI_18 rfl (lv_at hl 1 rfl) ?_
    refine lv_iconst (v := nI 0) hx hb d_AR_copyOfI_19 rfl ?_
    refine lv_aload_n hx hb d_AR_copyOfI_20 rfl (lv_at hl 0 rfl) ?_
    refine lv_iconst (v := nI 0) hx hb d_AR_copyOfI_21 rfl ?_
    refine lv_aload_n hx hb d_AR_copyOfI_22 rfl (lv_at hl 1 rfl) ?_
    refine fx_alen hx hb hKv 0 hA rfl d_AR_copyOfI_23 ?_
    refine lv_iload_n hx hb d_AR_copyOfI_24 rfl (lv_at hl 2 rfl) ?_
    refine fx_cS (B := (fun H q => H.size ≤ q) s.heap) KT_moved (ct_MT_min w (nI xs.length) (nI (xs.length + k))) hx hfl hK hb (by rw [hml]; exact hl.1) hown (hw _ mm_AR_304) (fx_Y.code (hw _ mk_MT_min)) (hw _ ms_MT_min) (hw _ mn_MT) (show fx_N y_MT_min 2 by decide +kernel) rfl ⟨Nat.le_of_ble_eq_true rfl, Nat.le_of_ble_eq_true rfl, by show (0 + 1) + 0 ≤ 1; omega, by show (0 + (xs.length + k)) + 0 ≤ 200; omega⟩ (trivial) d_AR_copyOfI_25 hL (fun q h => h.elim) (fun v H2 locs hq hF hL => ?_) (fun x H2 locs hq hF hL => by cases hq)
    cases hq
    obtain rfl : H2 = H1 := hF.same (fun _ _ h => h)
    refine W.eq (g2 := F0 m 28 ls [.int (if nI (xs.length + k) < nI xs.length then nI (xs.length + k) else nI xs.length), .int (nI 0), .ref q, .int (nI 0), .ref a]) rfl ?_
    refine fx_ti (y := nI xs.length) (if_neg (nI_nlt (by omega) (by omega))) ?_
    refine fx_copyI (i := 0) (j := 0) (k := xs.length) (B := (fun H q => H.size ≤ q) s.heap) hx hb (by rw [hml]; exact hl.1) hown (hw _ mm_AR_150) (hw _ mv_SY_arraycopy) (hw _ ms_SY_arraycopy) (hw _ mn_SY) hKv 0 rfl hA hO (rfl) (rfl) (rfl) (by omega) (by omega) ⟨by omega, by omega⟩ (Nat.le_of_ble_eq_true rfl) (Nat.le_of_ble_eq_true rfl) hL (show s.heap.size ≤ q by omega) d_AR_copyOfI_28 (fun H3 locs hO hU hL => ?_)
    refine lv_aload_n hx hb d_AR_copyOfI_31 rfl (lv_at hl 0 rfl) ?_
    exact fx_aret hx hb hr (Or.inr ⟨_, rfl⟩) (Or.inr ⟨_, rfl⟩) hlk hL (Nat.le_of_ble_eq_true rfl) (by show 0 + (xs.length + k) + 0 ≤ 200; omega) d_AR_copyOfI_32 (⟨q, _, rfl, by omega, hO, fun j hj => by rw [pk_cpy_in (by omega) (by omega)]; congr 1; omega⟩)
  · have hk0 : k = 0 := by have := (nI_eq (by omega) (by omega)).mp h3; omega
    subst hk0
    refine lv_aload_n hx hb d_AR_copyOfI_6 rfl (lv_at hl 0 rfl) ?_
    refine fx_clone hx hb (by rw [hml]; exact hl.1) hown (hw _ mm_AR_316) (hw _ mo_A_clone) (hw _ mv_OJ_clone) (hw _ mi_OJ_clone) (hw _ mq_OJ_clone_y) (hK.2.2.2.2.1.1 ("[I", "java/lang/Cloneable") (by decide)) hKv 0 hpre rfl (Nat.le_of_ble_eq_true rfl) (Nat.le_of_ble_eq_true rfl) (Nat.le_of_ble_eq_true rfl) (by show 0 + xs.length ≤ 200; omega) d_AR_copyOfI_7 (fun q H1 hq hO hG => ?_)
    refine va_castA hx hb hown (hw _ mc_AR_317) (fx_one hO) 0 rfl (hKv.2 0 _ rfl).2 d_AR_copyOfI_10 ?_
    exact fx_aret hx hb hr (Or.inr ⟨_, rfl⟩) (Or.inr ⟨_, rfl⟩) hlk hL (Nat.le_of_ble_eq_true rfl) (by show 0 + xs.length ≤ 200; omega) d_AR_copyOfI_13 (⟨q, _, rfl, by omega, hO, fun j hj => rfl⟩)
set_option maxHeartbeats 4000000 in
set_option maxRecDepth 100000 in
theorem ct_AR_checkLength (w : Wd) (i n : Nat) (hi : i ≤ n) (hn : n ≤ 100) : fx_C (KT w) y_AR_checkLength 2 (rmK 1) [.int (nI i), .int (nI n)] (fun _ => True) (fun _ o _ => o = .returned none) (fun _ _ => False) := by
  refine fx_of (ret := none) (cc := b_AR_checkLength) (fun s hK => hK.1 _ mk_AR_checkLength _) (Nat.le_of_ble_eq_true rfl) ?_
  intro p l e s m below meth c hx hfl hK hb hml hr hlk hnt hown hin hpre ls hl
  have hw : ∀ z ∈ gw, z.before ([.int (nI i), .int (nI n)] : List Value).toArray s = true := fun z hz => hK.1 z hz _
  have hKv := hK.2.1
  have hL : ∀ q ∈ ([] : List Loc), (fun _ _ => False) s.heap q.base := fun q hq => by cases hq
  have hl : lv_has ls 2 [(0, .int (nI i)), (1, .int (nI n))] := hl
  refine lv_iload_n hx hb d_AR_checkLength_0 rfl (lv_at hl 1 rfl) ?_
  refine lv_iload_n hx hb d_AR_checkLength_1 rfl (lv_at hl 0 rfl) ?_
  refine lv_icmp_ge (tgt := 37) hx hb d_AR_checkLength_2 rfl (fun _ => ?_) (fun h9 => absurd (nI_le hi (by omega)) h9)
  exact fx_vret hx hb hr hlk hL (Nat.le_of_ble_eq_true rfl) (Nat.le_of_ble_eq_true rfl) d_AR_checkLength_37 (rfl)
set_option maxHeartbeats 4000000 in
set_option maxRecDepth 100000 in
theorem ct_AR_copyOfRangeInt (w : Wd) (a : Nat) (xs : List Int32) (hz : xs.length ≤ 100) (h1 : 1 ≤ xs.length) : fx_C (KT w) y_AR_copyOfRangeInt 5 (rmG 2) [.ref a, .int (nI 1), .int (nI xs.length)] (fun H => cA w a xs H) (fun H o H' => ∃ q, o = .returned (some (.ref q)) ∧ H.size ≤ q ∧ cA w q (xs.drop 1) H') (fun H q => H.size ≤ q) := by
  refine fx_of (ret := (some ((FieldType.array FieldType.int)))) (cc := b_AR_copyOfRangeInt) (fun s hK => hK.1 _ mk_AR_copyOfRangeInt _) (Nat.le_of_ble_eq_true rfl) ?_
  intro p l e s m below meth c hx hfl hK hb hml hr hlk hnt hown hin hpre ls hl
  have hw : ∀ z ∈ gw, z.before ([.ref a, .int (nI 1), .int (nI xs.length)] : List Value).toArray s = true := fun z hz => hK.1 z hz _
  have hKv := hK.2.1
  have hL : ∀ q ∈ ([] : List Loc), (fun H q => H.size ≤ q) s.heap q.base := fun q hq => by cases hq
  have hl : lv_has ls 5 [(0, .ref a), (1, .int (nI 1)), (2, .int (nI xs.length))] := hl
  refine lv_iload_n hx hb d_AR_copyOfRangeInt_0 rfl (lv_at hl 1 rfl) ?_
  refine lv_iload_n hx hb d_AR_copyOfRangeInt_1 rfl (lv_at hl 2 rfl) ?_
  refine fx_cS (B := (fun H q => H.size ≤ q) s.heap) KT_moved (ct_AR_checkLength w 1 xs.length h1 hz) hx hfl hK hb (by rw [hml]; exact hl.1) hown (hw _ mm_AR_343) (fx_Y.code (hw _ mk_AR_checkLength)) (hw _ ms_AR_checkLength) (hw _ mn_AR) (show fx_N y_AR_checkLength 2 by decide +kernel) rfl ⟨Nat.le_of_ble_eq_true rfl, Nat.le_of_ble_eq_true rfl, Nat.le_of_ble_eq_true rfl, Nat.le_of_ble_eq_true rfl⟩ (trivial) d_AR_copyOfRangeInt_2 hL (fun q h => h.elim) (fun v H1 locs hq hF hL => ?_) (fun x H1 locs hq hF hL => by cases hq)
  cases hq
  obtain rfl : H1 = s.heap := hF.same (fun _ _ h => h)
  refine W.eq (g2 := F0 m 5 ls []) rfl ?_
  refine lv_iload_n hx hb d_AR_copyOfRangeInt_5 rfl (lv_at hl 2 rfl) ?_
  refine lv_iload_n hx hb d_AR_copyOfRangeInt_6 rfl (lv_at hl 1 rfl) ?_
  refine lv_isub hx hb d_AR_copyOfRangeInt_7 ?_
  refine fx_ti (y := nI (xs.length - 1)) (pk_sub h1) ?_
  refine lv_istore_n hx hb d_AR_copyOfRangeInt_8 rfl hl (by decide) rfl (fun ls hl => ?_)
  have hl : lv_has ls 5 [(3, .int (nI (xs.length - 1))), (0, .ref a), (1, .int (nI 1)), (2, .int (nI xs.length))] := hl
  refine lv_iload_n hx hb d_AR_copyOfRangeInt_9 rfl (lv_at hl 0 rfl) ?_
  refine fx_newI hx hb hKv 0 rfl (hw _ ma_int) rfl (show xs.length - 1 ≤ 100000 by omega) (Nat.le_of_ble_eq_true rfl) (by show 0 + (xs.length - 1) ≤ 200; omega) d_AR_copyOfRangeInt_10 (fun q H1 hq hO hG => ?_)
  have hA := hG.ex.kept hpre
  refine lv_astore hx hb d_AR_copyOfRangeInt_12 hl (by decide) rfl (fun ls hl => ?_)
  have hl : lv_has ls 5 [(4, .ref q), (3, .int (nI (xs.length - 1))), (0, .ref a), (1, .int (nI 1)), (2, .int (nI xs.length))] := hl
  refine lv_aload_n hx hb d_AR_copyOfRangeInt_14 rfl (lv_at hl 2 rfl) ?_
  refine lv_iload_n hx hb d_AR_copyOfRangeInt_15 rfl (lv_at hl 3 rfl) ?_
  refine lv_aload hx hb d_AR_copyOfRangeInt_16 (lv_at hl 0 rfl) ?_
  refine lv_iconst (v := nI 0) hx hb d_AR_copyOfRangeInt_18 rfl ?_
  refine lv_aload_n hx hb d_AR_copyOfRangeInt_19 rfl (lv_at hl 2 rfl) ?_
  refine fx_alen hx hb hKv 0 hA rfl d_AR_copyOfRangeInt_20 ?_
  refine lv_iload_n hx hb d_AR_copyOfRangeInt_21 rfl (lv_at hl 3 rfl) ?_
  refine lv_isub hx hb d_AR_copyOfRangeInt_22 ?_
  refine fx_ti (y := nI (xs.length - 1)) (pk_sub h1) ?_
  refine lv_iload_n hx hb d_AR_copyOfRangeInt_23 rfl (lv_at hl 1 rfl) ?_
  refine fx_cS (B := (fun H q => H.size ≤ q) s.heap) KT_moved (ct_MT_min w (nI (xs.length - 1)) (nI (xs.length - 1))) hx hfl hK hb (by rw [hml]; exact hl.1) hown (hw _ mm_AR_304) (fx_Y.code (hw _ mk_MT_min)) (hw _ ms_MT_min) (hw _ mn_MT) (show fx_N y_MT_min 2 by decide +kernel) rfl ⟨Nat.le_of_ble_eq_true rfl, Nat.le_of_ble_eq_true rfl, by show (0 + 1) + 0 ≤ 1; omega, by show (0 + (xs.length - 1)) + 0 ≤ 200; omega⟩ (trivial) d_AR_copyOfRangeInt_24 hL (fun q h => h.elim) (fun v H2 locs hq hF hL => ?_) (fun x H2 locs hq hF hL => by cases hq)
  cases hq
  obtain rfl : H2 = H1 := hF.same (fun _ _ h => h)
  refine W.eq (g2 := F0 m 27 ls [.int (if nI (xs.length - 1) < nI (xs.length - 1) then nI (xs.length - 1) else nI (xs.length - 1)), .int (nI 0), .ref q, .int (nI 1), .ref a]) rfl ?_
  refine fx_ti (y := nI (xs.length - 1)) (if_neg (nI_nlt (by omega) (by omega))) ?_
  refine fx_copyI (i := 1) (j := 0) (k := xs.length - 1) (B := (fun H q => H.size ≤ q) s.heap) hx hb (by rw [hml]; exact hl.1) hown (hw _ mm_AR_150) (hw _ mv_SY_arraycopy) (hw _ ms_SY_arraycopy) (hw _ mn_SY) hKv 0 rfl hA hO (rfl) (rfl) (rfl) (by omega) (by omega) ⟨by omega, by omega⟩ (Nat.le_of_ble_eq_true rfl) (Nat.le_of_ble_eq_true rfl) hL (show s.heap.size ≤ q by omega) d_AR_copyOfRangeInt_27 (fun H3 locs hO hU hL => ?_)
  refine lv_aload hx hb d_AR_copyOfRangeInt_30 (lv_at hl 0 rfl) ?_
  exact fx_aret hx hb hr (Or.inr ⟨_, rfl⟩) (Or.inr ⟨_, rfl⟩) hlk hL (Nat.le_of_ble_eq_true rfl) (by show 0 + (xs.length - 1) + 0 ≤ 200; omega) d_AR_copyOfRangeInt_32 (⟨q, rfl, by omega, fx_A.of hO (by simp) (fun j hj => by rw [pk_cpy_in (by omega) (by omega)]; simp only [List.getD_eq_getElem?_getD, List.getElem?_drop]; congr 2)⟩)
set_option maxHeartbeats 4000000 in
set_option maxRecDepth 100000 in
theorem ct_AR_copyOfRange (w : Wd) (a : Nat) (xs : List Int32) (hz : xs.length ≤ 100) (h1 : 1 ≤ xs.length) : fx_C (KT w) y_AR_copyOfRange 3 (rmG 3) [.ref a, .int (nI 1), .int (nI xs.length)] (fun H => cA w a xs H) (fun H o H' => ∃ q, o = .returned (some (.ref q)) ∧ H.size ≤ q ∧ cA w q (xs.drop 1) H') (fun H q => H.size ≤ q) := by
  refine fx_of (ret := (some ((FieldType.array FieldType.int)))) (cc := b_AR_copyOfRange) (fun s hK => hK.1 _ mk_AR_copyOfRange _) (Nat.le_of_ble_eq_true rfl) ?_
  intro p l e s m below meth c hx hfl hK hb hml hr hlk hnt hown hin hpre ls hl
  have hw : ∀ z ∈ gw, z.before ([.ref a, .int (nI 1), .int (nI xs.length)] : List Value).toArray s = true := fun z hz => hK.1 z hz _
  have hKv := hK.2.1
  have hL : ∀ q ∈ ([] : List Loc), (fun H q => H.size ≤ q) s.heap q.base := fun q hq => by cases hq
  have hl : lv_has ls 3 [(0, .ref a), (1, .int (nI 1)), (2, .int (nI xs.length))] := hl
  refine lv_iload_n hx hb d_AR_copyOfRange_0 rfl (lv_at hl 1 rfl) ?_
  refine lv_if_ne (tgt := 10) hx hb d_AR_copyOfRange_1 rfl (fun _ => ?_) (fun h9 => absurd h9 (by decide))
  refine lv_aload_n hx hb d_AR_copyOfRange_10 rfl (lv_at hl 0 rfl) ?_
  refine lv_iload_n hx hb d_AR_copyOfRange_11 rfl (lv_at hl 1 rfl) ?_
  refine lv_iload_n hx hb d_AR_copyOfRange_12 rfl (lv_at hl 2 rfl) ?_
  refine fx_cS (B := (fun H q => H.size ≤ q) s.heap) KT_moved (ct_AR_copyOfRangeInt w a xs hz h1) hx hfl hK hb (by rw [hml]; exact hl.1) hown (hw _ mm_AR_351) (fx_Y.code (hw _ mk_AR_copyOfRangeInt)) (hw _ ms_AR_copyOfRangeInt) (hw _ mn_AR) (show fx_N y_AR_copyOfRangeInt 3 by decide +kernel) rfl ⟨Nat.le_of_ble_eq_true rfl, Nat.le_of_ble_eq_true rfl, Nat.le_of_ble_eq_true rfl, Nat.le_of_ble_eq_true rfl⟩ (hpre) d_AR_copyOfRange_13 hL (fun q h => h) (fun v H1 locs hq hF hL => ?_) (fun x H1 locs hq hF hL => by obtain ⟨q, hv, -⟩ := hq; cases hv)
  obtain ⟨q, hv, hq1, hQ⟩ := hq
  cases hv
  refine W.eq (g2 := F0 m 16 ls [.ref q]) rfl ?_
  exact fx_aret hx hb hr (Or.inr ⟨_, rfl⟩) (Or.inr ⟨_, rfl⟩) hlk hL (Nat.le_of_ble_eq_true rfl) (Nat.le_of_ble_eq_true rfl) d_AR_copyOfRange_16 (⟨q, rfl, hq1, hQ⟩)
set_option maxHeartbeats 4000000 in
set_option maxRecDepth 100000 in
theorem ct_IN_bitCount (w : Wd) (n : Nat) (hn : n ≤ 100) : fx_C (KT w) y_IN_bitCount 1 (rmK 1) [.int (nI n)] (fun _ => True) (fun _ o _ => o = .returned (some (.int (nI (sv_bit n))))) (fun _ _ => False) := by
  refine fx_of (ret := (some (FieldType.int))) (cc := b_IN_bitCount) (fun s hK => hK.1 _ mk_IN_bitCount _) (Nat.le_of_ble_eq_true rfl) ?_
  intro p l e s m below meth c hx hfl hK hb hml hr hlk hnt hown hin hpre ls hl
  have hw : ∀ z ∈ gw, z.before ([.int (nI n)] : List Value).toArray s = true := fun z hz => hK.1 z hz _
  have hKv := hK.2.1
  have hL : ∀ q ∈ ([] : List Loc), (fun _ _ => False) s.heap q.base := fun q hq => by cases hq
  have hl : lv_has ls 1 [(0, .int (nI n))] := hl
  refine lv_iload_n hx hb d_IN_bitCount_0 rfl (lv_at hl 0 rfl) ?_
  refine lv_iload_n hx hb d_IN_bitCount_1 rfl (lv_at hl 0 rfl) ?_
  refine lv_iconst (v := nI 1) hx hb d_IN_bitCount_2 rfl ?_
  refine lv_iushr hx hb d_IN_bitCount_3 rfl ?_
  refine lv_ldcw hx hb hown (hw _ mx_IN_265) d_IN_bitCount_4 ?_
  refine lv_iand hx hb d_IN_bitCount_7 ?_
  refine lv_isub hx hb d_IN_bitCount_8 ?_
  obtain ⟨x1, e1⟩ : ∃ z : Int32, z = ((nI n) - ((((nI n)).toUInt32 >>> (((nI 1)).toUInt32 &&& Int32.toUInt32 31)).toInt32 &&& (1431655765))) := ⟨_, rfl⟩
  refine fx_ti (y := x1) (e1.symm) ?_
  refine lv_istore_n hx hb d_IN_bitCount_9 rfl hl (by decide) rfl (fun ls hl => ?_)
  have hl : lv_has ls 1 [(0, .int (x1))] := hl
  refine lv_iload_n hx hb d_IN_bitCount_10 rfl (lv_at hl 0 rfl) ?_
  refine lv_ldcw hx hb hown (hw _ mx_IN_266) d_IN_bitCount_11 ?_
  refine lv_iand hx hb d_IN_bitCount_14 ?_
  refine lv_iload_n hx hb d_IN_bitCount_15 rfl (lv_at hl 0 rfl) ?_
  refine lv_iconst (v := nI 2) hx hb d_IN_bitCount_16 rfl ?_
  refine lv_iushr hx hb d_IN_bitCount_17 rfl ?_
  refine lv_ldcw hx hb hown (hw _ mx_IN_266) d_IN_bitCount_18 ?_
  refine lv_iand hx hb d_IN_bitCount_21 ?_
  refine lv_iadd hx hb d_IN_bitCount_22 ?_
  obtain ⟨x2, e2⟩ : ∃ z : Int32, z = (((x1) &&& (858993459)) + ((((x1)).toUInt32 >>> (((nI 2)).toUInt32 &&& Int32.toUInt32 31)).toInt32 &&& (858993459))) := ⟨_, rfl⟩
  refine fx_ti (y := x2) (e2.symm) ?_
  refine lv_istore_n hx hb d_IN_bitCount_23 rfl hl (by decide) rfl (fun ls hl => ?_)
  have hl : lv_has ls 1 [(0, .int (x2))] := hl
  refine lv_iload_n hx hb d_IN_bitCount_24 rfl (lv_at hl 0 rfl) ?_
  refine lv_iload_n hx hb d_IN_bitCount_25 rfl (lv_at hl 0 rfl) ?_
  refine lv_iconst (v := nI 4) hx hb d_IN_bitCount_26 rfl ?_
  refine lv_iushr hx hb d_IN_bitCount_27 rfl ?_
  refine lv_iadd hx hb d_IN_bitCount_28 ?_
  refine lv_ldcw hx hb hown (hw _ mx_IN_267) d_IN_bitCount_29 ?_
  refine lv_iand hx hb d_IN_bitCount_32 ?_
  obtain ⟨x3, e3⟩ : ∃ z : Int32, z = (((x2) + (((x2)).toUInt32 >>> (((nI 4)).toUInt32 &&& Int32.toUInt32 31)).toInt32) &&& (252645135)) := ⟨_, rfl⟩
  refine fx_ti (y := x3) (e3.symm) ?_
  refine lv_istore_n hx hb d_IN_bitCount_33 rfl hl (by decide) rfl (fun ls hl => ?_)
  have hl : lv_has ls 1 [(0, .int (x3))] := hl
  refine lv_iload_n hx hb d_IN_bitCount_34 rfl (lv_at hl 0 rfl) ?_
  refine lv_iload_n hx hb d_IN_bitCount_35 rfl (lv_at hl 0 rfl) ?_
  refine lv_bipush (v := nI 8) hx hb d_IN_bitCount_36 rfl ?_
  refine lv_iushr hx hb d_IN_bitCount_38 rfl ?_
  refine lv_iadd hx hb d_IN_bitCount_39 ?_
  obtain ⟨x4, e4⟩ : ∃ z : Int32, z = ((x3) + (((x3)).toUInt32 >>> (((nI 8)).toUInt32 &&& Int32.toUInt32 31)).toInt32) := ⟨_, rfl⟩
  refine fx_ti (y := x4) (e4.symm) ?_
  refine lv_istore_n hx hb d_IN_bitCount_40 rfl hl (by decide) rfl (fun ls hl => ?_)
  have hl : lv_has ls 1 [(0, .int (x4))] := hl
  refine lv_iload_n hx hb d_IN_bitCount_41 rfl (lv_at hl 0 rfl) ?_
  refine lv_iload_n hx hb d_IN_bitCount_42 rfl (lv_at hl 0 rfl) ?_
  refine lv_bipush (v := nI 16) hx hb d_IN_bitCount_43 rfl ?_
  refine lv_iushr hx hb d_IN_bitCount_45 rfl ?_
  refine lv_iadd hx hb d_IN_bitCount_46 ?_
  obtain ⟨x5, e5⟩ : ∃ z : Int32, z = ((x4) + (((x4)).toUInt32 >>> (((nI 16)).toUInt32 &&& Int32.toUInt32 31)).toInt32) := ⟨_, rfl⟩
  refine fx_ti (y := x5) (e5.symm) ?_
  refine lv_istore_n hx hb d_IN_bitCount_47 rfl hl (by decide) rfl (fun ls hl => ?_)
  have hl : lv_has ls 1 [(0, .int (x5))] := hl
  refine lv_iload_n hx hb d_IN_bitCount_48 rfl (lv_at hl 0 rfl) ?_
  refine lv_bipush (v := nI 63) hx hb d_IN_bitCount_49 rfl ?_
  refine lv_iand hx hb d_IN_bitCount_51 ?_
  exact fx_iret hx hb hr hlk hL (Nat.le_of_ble_eq_true rfl) (Nat.le_of_ble_eq_true rfl) d_IN_bitCount_52 (by rw [← bcount_ok n (by omega)]; subst e5; subst e4; subst e3; subst e2; subst e1; rfl)
