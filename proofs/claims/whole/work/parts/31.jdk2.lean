/-! ArrayList.add and its growth. -/
abbrev rmG (k : Nat) : Room := { frames := k, cells := 1, slots := 200, locals := 40 * k }
/-- the row of a list: the empty one from the start, or one of its own -/
def cR (w : Wd) (a cap : Nat) (f : Nat → Option Nat) (H : Heap) : Prop := (a = w.E0 ∧ cap = 0) ∨ (0 < cap ∧ w.H0.size ≤ a ∧ cQ w a cap f H)
/-- the elements are versions -/
def cE (w : Wd) (n : Nat) (f : Nat → Option Nat) (H : Heap) : Prop := ∀ z, z < n → ∀ y : Nat, f z = some y → ∃ fs, va_at w.D cls (y, .inr (1, fs)) H
theorem cE.ex {w : Wd} {n : Nat} {f : Nat → Option Nat} {H H' : Heap} (h : cE w n f H) (hx : fx_Ex H H') : cE w n f H' := fun z hz y hy => by obtain ⟨fs, h1⟩ := h z hz y hy; exact ⟨fs, hx.kept h1⟩
theorem kAO {w : Wd} {s : State} (hK : KT w s) : va_AO "java/lang/Object" s := hK.2.2.2.2.1.2.2.2.2
theorem fx_rlen {p : Program} {l : Launch} {e : Env} {R : Room} {s : State} {m : MethodId} {args : Array Value} {below : List Frame} {meth : Method} {c : Code} {H : Heap} {locs : List Loc} {cells slots : Nat} {Q : State → Prop} {cc : ByteArray} {pc : Nat} {ls : Array Slot} {rest : List Value} {w : Wd} {a cap : Nat} {f : Nat → Option Nat}
    (hexec : p.tables.exec = Jvm.exec) (hb : c.code = cc) (hK : KT w s) (hLow : Low w H) (hR : cR w a cap f H) (hdg : decode cc pc = .ok (.arraylength, 1)) (kk : W p l e R s m args below meth c H locs cells slots Q (F0 m (pc + 1) ls (.int (nI cap) :: rest))) : W p l e R s m args below meth c H locs cells slots Q (F0 m pc ls (.ref a :: rest)) := by
  rcases hR with ⟨e1, e2⟩ | ⟨-, -, h⟩
  · subst e2; subst e1
    exact fx_tlen hexec hb (kTE hK) hLow.2 hdg kk
  · exact fx_alen hexec hb hK.2.1 2 h rfl hdg kk
theorem kDc {w : Wd} {s : State} (hK : KT w s) : va_Dc s := hK.2.2.2.2.1.2.2.2.1
set_option maxHeartbeats 4000000 in
set_option maxRecDepth 100000 in
theorem ct_AS_newLength (w : Wd) (n : Nat) (hn : n ≤ 100) : fx_C (KT w) y_AS_newLength 4 (rmK 2) [.int (nI n), .int (nI 1), .int (nI (n / 2))] (fun _ => True) (fun _ o _ => ∃ k, o = .returned (some (.int (nI k))) ∧ n < k ∧ k ≤ n + n / 2 + 1) (fun _ _ => False) := by
  refine fx_of (ret := (some (FieldType.int))) (cc := b_AS_newLength) (fun s hK => hK.1 _ mk_AS_newLength _) (Nat.le_of_ble_eq_true rfl) ?_
  intro p l e s m below meth c hx hfl hK hb hml hr hlk hnt hown hin hpre ls hl
  have hw : ∀ z ∈ gw, z.before ([.int (nI n), .int (nI 1), .int (nI (n / 2))] : List Value).toArray s = true := fun z hz => hK.1 z hz _
  have hKv := hK.2.1
  have hL : ∀ q ∈ ([] : List Loc), (fun _ _ => False) s.heap q.base := fun q hq => by cases hq
  have hl : lv_has ls 4 [(0, .int (nI n)), (1, .int (nI 1)), (2, .int (nI (n / 2)))] := hl
  refine lv_iload_n hx hb d_AS_newLength_0 rfl (lv_at hl 0 rfl) ?_
  refine lv_iload_n hx hb d_AS_newLength_1 rfl (lv_at hl 1 rfl) ?_
  refine lv_iload_n hx hb d_AS_newLength_2 rfl (lv_at hl 2 rfl) ?_
  refine fx_cS (B := (fun _ _ => False) s.heap) KT_moved (ct_MT_max w (nI 1) (nI (n / 2))) hx hfl hK hb (by rw [hml]; exact hl.1) hown (hw _ mm_AS_194) (fx_Y.code (hw _ mk_MT_max)) (hw _ ms_MT_max) (hw _ mn_MT) (show fx_N y_MT_max 2 by decide +kernel) rfl ⟨Nat.le_of_ble_eq_true rfl, Nat.le_of_ble_eq_true rfl, Nat.le_of_ble_eq_true rfl, Nat.le_of_ble_eq_true rfl⟩ (trivial) d_AS_newLength_3 hL (fun q h => h) (fun v H1 locs hq hF hL => ?_) (fun x H1 locs hq hF hL => by cases hq)
  cases hq
  obtain rfl : H1 = s.heap := hF.same (fun _ _ h => h)
  refine W.eq (g2 := F0 m 6 ls [.int (if nI 1 < nI (n / 2) then nI (n / 2) else nI 1), .int (nI n)]) rfl ?_
  obtain ⟨k, hk, hk1, hk2⟩ : ∃ k, (if nI 1 < nI (n / 2) then nI (n / 2) else nI 1) = nI k ∧ 1 ≤ k ∧ k ≤ n / 2 + 1 := by
    by_cases h : nI 1 < nI (n / 2)
    · exact ⟨n / 2, if_pos h, by have := (nI_ltI (by decide) (by omega)).mp h; omega, by omega⟩
    · exact ⟨1, if_neg h, by omega, by omega⟩
  refine fx_ti (y := nI k) (hk) ?_
  refine lv_iadd hx hb d_AS_newLength_6 ?_
  refine fx_ti (y := nI (n + k)) (nI_add n k) ?_
  refine lv_istore_n hx hb d_AS_newLength_7 rfl hl (by decide) rfl (fun ls hl => ?_)
  have hl : lv_has ls 4 [(3, .int (nI (n + k))), (0, .int (nI n)), (1, .int (nI 1)), (2, .int (nI (n / 2)))] := hl
  refine lv_iconst (v := nI 0) hx hb d_AS_newLength_8 rfl ?_
  refine lv_iload_n hx hb d_AS_newLength_9 rfl (lv_at hl 0 rfl) ?_
  refine lv_icmp_ge (tgt := 21) hx hb d_AS_newLength_10 rfl (fun h9 => absurd h9 (nI_ge (by omega) (by omega))) (fun _ => ?_)
  refine lv_iload_n hx hb d_AS_newLength_13 rfl (lv_at hl 0 rfl) ?_
  refine lv_ldc hx hb hown (hw _ mx_AS_200) d_AS_newLength_14 ?_
  refine lv_icmp_gt (tgt := 21) hx hb d_AS_newLength_16 rfl (fun h9 => absurd h9 (nI_nlt (a := 2147483639) (by omega) (by decide))) (fun _ => ?_)
  refine lv_iload_n hx hb d_AS_newLength_19 rfl (lv_at hl 0 rfl) ?_
  exact fx_iret hx hb hr hlk hL (Nat.le_of_ble_eq_true rfl) (Nat.le_of_ble_eq_true rfl) d_AS_newLength_20 (⟨_, rfl, by omega, by omega⟩)
set_option maxHeartbeats 4000000 in
set_option maxRecDepth 100000 in
theorem ct_AR_copyOf3 (w : Wd) (a n k : Nat) (f : Nat → Option Nat) (hnk : n ≤ k) (hk : k ≤ 200) : fx_C (KT w) y_AR_copyOf3 4 (rmG 2) [.ref a, .int (nI k), .ref w.mi] (fun H => cQ w a n f H ∧ cE w n f H) (fun H o H' => ∃ q f', o = .returned (some (.ref q)) ∧ H.size ≤ q ∧ cQ w q k f' H' ∧ ∀ j, j < n → f' j = f j) (fun H q => H.size ≤ q) := by
  refine fx_of (ret := (some ((FieldType.array (FieldType.object "java/lang/Object"))))) (cc := b_AR_copyOf3) (fun s hK => hK.1 _ mk_AR_copyOf3 _) (Nat.le_of_ble_eq_true rfl) ?_
  intro p l e s m below meth c hx hfl hK hb hml hr hlk hnt hown hin hpre ls hl
  have hw : ∀ z ∈ gw, z.before ([.ref a, .int (nI k), .ref w.mi] : List Value).toArray s = true := fun z hz => hK.1 z hz _
  have hKv := hK.2.1
  have hL : ∀ q ∈ ([] : List Loc), (fun H q => H.size ≤ q) s.heap q.base := fun q hq => by cases hq
  have hl : lv_has ls 4 [(0, .ref a), (1, .int (nI k)), (2, .ref w.mi)] := hl
  refine lv_aload_n hx hb d_AR_copyOf3_0 rfl (lv_at hl 2 rfl) ?_
  refine va_ldcM hx hb hown (hw _ mc_AR_110) (kMi hK) d_AR_copyOf3_1 ?_
  refine lv_acmp_ne (rx := some w.mi) (ry := some w.mi) (tgt := 13) hx hb d_AR_copyOf3_3 rfl (fun h => absurd rfl h) (fun _ => ?_)
  refine lv_iload_n hx hb d_AR_copyOf3_6 rfl (lv_at hl 1 rfl) ?_
  refine fx_newO hx hb hown (hw _ mc_AR_2) (kAO hK) hKv 2 rfl rfl (by omega) (Nat.le_of_ble_eq_true rfl) (by show 0 + k ≤ 200; omega) d_AR_copyOf3_7 (fun q H1 hq hO hG => ?_)
  have hA : cQ w a n f H1 := hG.ex.kept hpre.1
  have hE := hpre.2.ex hG.ex
  refine lv_goto (tgt := 24) hx hb d_AR_copyOf3_10 rfl ?_
  refine lv_astore_n hx hb d_AR_copyOf3_24 rfl hl (by decide) rfl (fun ls hl => ?_)
  have hl : lv_has ls 4 [(3, .ref q), (0, .ref a), (1, .int (nI k)), (2, .ref w.mi)] := hl
  refine lv_aload_n hx hb d_AR_copyOf3_25 rfl (lv_at hl 1 rfl) ?_
  refine lv_iconst (v := nI 0) hx hb d_AR_copyOf3_26 rfl ?_
  refine lv_aload_n hx hb d_AR_copyOf3_27 rfl (lv_at hl 0 rfl) ?_
  refine lv_iconst (v := nI 0) hx hb d_AR_copyOf3_28 rfl ?_
  refine lv_aload_n hx hb d_AR_copyOf3_29 rfl (lv_at hl 1 rfl) ?_
  refine fx_alen hx hb hKv 2 hA rfl d_AR_copyOf3_30 ?_
  refine lv_iload_n hx hb d_AR_copyOf3_31 rfl (lv_at hl 2 rfl) ?_
  refine fx_cS (B := (fun H q => H.size ≤ q) s.heap) KT_moved (ct_MT_min w (nI n) (nI k)) hx hfl hK hb (by rw [hml]; exact hl.1) hown (hw _ mm_AR_304) (fx_Y.code (hw _ mk_MT_min)) (hw _ ms_MT_min) (hw _ mn_MT) (show fx_N y_MT_min 2 by decide +kernel) rfl ⟨Nat.le_of_ble_eq_true rfl, Nat.le_of_ble_eq_true rfl, by show (0 + 1) + 0 ≤ 1; omega, by show (0 + k) + 0 ≤ 200; omega⟩ (trivial) d_AR_copyOf3_32 hL (fun q h => h.elim) (fun v H2 locs hq hF hL => ?_) (fun x H2 locs hq hF hL => by cases hq)
  cases hq
  obtain rfl : H2 = H1 := hF.same (fun _ _ h => h)
  refine W.eq (g2 := F0 m 35 ls [.int (if nI k < nI n then nI k else nI n), .int (nI 0), .ref q, .int (nI 0), .ref a]) rfl ?_
  refine fx_ti (y := nI n) (if_neg (nI_nlt hnk (by omega))) ?_
  refine fx_copyO (i := 0) (j := 0) (k := n) (B := (fun H q => H.size ≤ q) s.heap) hx hb (by rw [hml]; exact hl.1) hown (hw _ mm_AR_150) (hw _ mv_SY_arraycopy) (hw _ ms_SY_arraycopy) (hw _ mn_SY) hKv 2 rfl hA hO rfl rfl rfl (by omega) (by omega) ⟨by omega, by omega⟩ (fun z hz y hy => by obtain ⟨fs, h1⟩ := hE z hz y hy; exact kAny hK h1) (Nat.le_of_ble_eq_true rfl) (by decide) hL (show s.heap.size ≤ q by omega) d_AR_copyOf3_35 (fun H3 locs hO hU hL => ?_)
  refine lv_aload_n hx hb d_AR_copyOf3_38 rfl (lv_at hl 0 rfl) ?_
  exact fx_aret hx hb hr (Or.inr ⟨_, rfl⟩) (Or.inr ⟨_, rfl⟩) hlk hL (Nat.le_of_ble_eq_true rfl) (by show 0 + k + 0 ≤ 200; omega) d_AR_copyOf3_39 (⟨q, _, rfl, by omega, hO, fun j hj => by rw [pk_cpy_in (by omega) (by omega)]; congr 1; omega⟩)
set_option maxHeartbeats 4000000 in
set_option maxRecDepth 100000 in
theorem ct_AR_copyOf2 (w : Wd) (a n k : Nat) (f : Nat → Option Nat) (hnk : n ≤ k) (hk : k ≤ 200) : fx_C (KT w) y_AR_copyOf2 2 (rmG 3) [.ref a, .int (nI k)] (fun H => cQ w a n f H ∧ cE w n f H) (fun H o H' => ∃ q f', o = .returned (some (.ref q)) ∧ H.size ≤ q ∧ cQ w q k f' H' ∧ ∀ j, j < n → f' j = f j) (fun H q => H.size ≤ q) := by
  refine fx_of (ret := (some ((FieldType.array (FieldType.object "java/lang/Object"))))) (cc := b_AR_copyOf2) (fun s hK => hK.1 _ mk_AR_copyOf2 _) (Nat.le_of_ble_eq_true rfl) ?_
  intro p l e s m below meth c hx hfl hK hb hml hr hlk hnt hown hin hpre ls hl
  have hw : ∀ z ∈ gw, z.before ([.ref a, .int (nI k)] : List Value).toArray s = true := fun z hz => hK.1 z hz _
  have hKv := hK.2.1
  have hL : ∀ q ∈ ([] : List Loc), (fun H q => H.size ≤ q) s.heap q.base := fun q hq => by cases hq
  have hl : lv_has ls 2 [(0, .ref a), (1, .int (nI k))] := hl
  refine lv_aload_n hx hb d_AR_copyOf2_0 rfl (lv_at hl 0 rfl) ?_
  refine lv_iload_n hx hb d_AR_copyOf2_1 rfl (lv_at hl 1 rfl) ?_
  refine lv_aload_n hx hb d_AR_copyOf2_2 rfl (lv_at hl 0 rfl) ?_
  refine va_getC hx hb (by rw [hml]; exact hl.1.symm) hown (hw _ mm_AR_86) (va_Nw.use rfl (kDc hK)) (hw _ mq_A_getClass) (hw _ mi_OJ_getClass) (hw _ mv_OJ_getClass) (kMi hK) ⟨_, hpre.1, rfl, va_nmO (hKv.2 2 _ rfl).2 (by decide +kernel)⟩ (Nat.le_of_ble_eq_true rfl) (Nat.le_of_ble_eq_true rfl) d_AR_copyOf2_3 ?_
  refine fx_cS (B := (fun H q => H.size ≤ q) s.heap) KT_moved (ct_AR_copyOf3 w a n k f hnk hk) hx hfl hK hb (by rw [hml]; exact hl.1) hown (hw _ mm_AR_300) (fx_Y.code (hw _ mk_AR_copyOf3)) (hw _ ms_AR_copyOf3) (hw _ mn_AR) (show fx_N y_AR_copyOf3 3 by decide +kernel) rfl ⟨Nat.le_of_ble_eq_true rfl, Nat.le_of_ble_eq_true rfl, Nat.le_of_ble_eq_true rfl, Nat.le_of_ble_eq_true rfl⟩ (hpre) d_AR_copyOf2_6 hL (fun q h => h) (fun v H1 locs hq hF hL => ?_) (fun x H1 locs hq hF hL => by obtain ⟨q, f1, hv, -⟩ := hq; cases hv)
  obtain ⟨q, f', hv, hq1, hQ, hf⟩ := hq
  cases hv
  refine W.eq (g2 := F0 m 9 ls [.ref q]) rfl ?_
  exact fx_aret hx hb hr (Or.inr ⟨_, rfl⟩) (Or.inr ⟨_, rfl⟩) hlk hL (Nat.le_of_ble_eq_true rfl) (Nat.le_of_ble_eq_true rfl) d_AR_copyOf2_9 (⟨q, f', rfl, hq1, hQ, hf⟩)
set_option maxHeartbeats 4000000 in
set_option maxRecDepth 100000 in
theorem ct_AL_growI (w : Wd) (a ar n : Nat) (mc : Int32) (f : Nat → Option Nat) (hn : n ≤ 64) (ha : w.H0.size ≤ a) : fx_C (KT w) y_AL_growI 4 (rmG 4) [.ref a, .int (nI (n + 1))] (fun H => Low w H ∧ cO w a [.int mc, .ref ar, .int (nI n)] H ∧ cR w ar n f H ∧ cE w n f H) (fun H o H' => ∃ ar' cap' f', o = .returned (some (.ref ar')) ∧ H.size ≤ ar' ∧ cQ w ar' cap' f' H' ∧ cO w a [.int mc, .ref ar', .int (nI n)] H' ∧ n < cap' ∧ cap' ≤ 200 ∧ ∀ j, j < n → f' j = f j) (fun H q => q = a ∨ H.size ≤ q) := by
  refine fx_of (ret := (some ((FieldType.array (FieldType.object "java/lang/Object"))))) (cc := b_AL_growI) (fun s hK => hK.1 _ mk_AL_growI _) (Nat.le_of_ble_eq_true rfl) ?_
  intro p l e s m below meth c hx hfl hK hb hml hr hlk hnt hown hin hpre ls hl
  have hw : ∀ z ∈ gw, z.before ([.ref a, .int (nI (n + 1))] : List Value).toArray s = true := fun z hz => hK.1 z hz _
  have hKv := hK.2.1
  have hL : ∀ q ∈ ([] : List Loc), (fun H q => q = a ∨ H.size ≤ q) s.heap q.base := fun q hq => by cases hq
  obtain ⟨hLow, hO, hR, hE⟩ := hpre
  have hla := hO.lt
  rcases hR with ⟨e1, e2⟩ | ⟨hz, hr1, hQ⟩
  have hl : lv_has ls 4 [(0, .ref a), (1, .int (nI (n + 1)))] := hl
  · subst e2
    subst e1
    refine lv_aload_n hx hb d_AL_growI_0 rfl (lv_at hl 0 rfl) ?_
    refine fx_get hx hb hown (kc_AL hK _) hKv 1 (by decide) (hw _ mf_AL_9) (fun _ h => h) hO rfl d_AL_growI_1 ?_
    refine fx_tlen hx hb (kTE hK) hLow.2 d_AL_growI_4 ?_
    refine lv_istore_n hx hb d_AL_growI_5 rfl hl (by decide) rfl (fun ls hl => ?_)
    have hl : lv_has ls 4 [(2, .int (nI 0)), (0, .ref a), (1, .int (nI (0 + 1)))] := hl
    refine lv_iload_n hx hb d_AL_growI_6 rfl (lv_at hl 0 rfl) ?_
    refine lv_if_gt (tgt := 20) hx hb d_AL_growI_7 rfl (fun h9 => absurd h9 (by decide)) (fun _ => ?_)
    refine lv_aload_n hx hb d_AL_growI_10 rfl (lv_at hl 1 rfl) ?_
    refine fx_get hx hb hown (kc_AL hK _) hKv 1 (by decide) (hw _ mf_AL_9) (fun _ h => h) hO rfl d_AL_growI_11 ?_
    refine fx_gets hx hb (kZE hK) hLow.2 hown (hw _ mf_AL_39) (fun _ h => h) d_AL_growI_14 ?_
    refine lv_acmp_eq (rx := some w.E0) (ry := some w.E0) (tgt := 45) hx hb d_AL_growI_17 rfl (fun _ => ?_) (fun h => absurd rfl h)
    refine lv_aload_n hx hb d_AL_growI_45 rfl (lv_at hl 1 rfl) ?_
    refine lv_bipush (v := nI 10) hx hb d_AL_growI_46 rfl ?_
    refine lv_iload_n hx hb d_AL_growI_48 rfl (lv_at hl 2 rfl) ?_
    refine fx_cS (B := (fun H q => q = a ∨ H.size ≤ q) s.heap) KT_moved (ct_MT_max w (nI 10) (nI (0 + 1))) hx hfl hK hb (by rw [hml]; exact hl.1) hown (hw _ mm_AL_79) (fx_Y.code (hw _ mk_MT_max)) (hw _ ms_MT_max) (hw _ mn_MT) (show fx_N y_MT_max 2 by decide +kernel) rfl ⟨Nat.le_of_ble_eq_true rfl, Nat.le_of_ble_eq_true rfl, Nat.le_of_ble_eq_true rfl, Nat.le_of_ble_eq_true rfl⟩ (trivial) d_AL_growI_49 hL (fun q h => h.elim) (fun v H1 locs hq hF hL => ?_) (fun x H1 locs hq hF hL => by cases hq)
    cases hq
    obtain rfl : H1 = s.heap := hF.same (fun _ _ h => h)
    refine W.eq (g2 := F0 m 52 ls [.int (if nI 10 < nI (0 + 1) then nI (0 + 1) else nI 10), .ref a]) rfl ?_
    refine fx_ti (y := nI 10) (by decide) ?_
    refine fx_newO hx hb hown (hw _ mc_AL_7) (kAO hK) hKv 2 rfl rfl (by decide) (Nat.le_of_ble_eq_true rfl) (Nat.le_of_ble_eq_true rfl) d_AL_growI_52 (fun q H1 hq hQ hG => ?_)
    have hO := hG.ex.kept hO
    refine lv_dup_x1 hx hb d_AL_growI_55 rfl rfl ?_
    refine fx_put (B := (fun H q => q = a ∨ H.size ≤ q) s.heap) hx hb hown (kc_AL hK _) hKv 1 (by decide) (hw _ mf_AL_9) (fun _ h => h) rfl hO (by simp) rfl rfl hL (Or.inl rfl) d_AL_growI_56 (fun H2 locs hO hU hL => ?_)
    exact fx_aret hx hb hr (Or.inr ⟨_, rfl⟩) (Or.inr ⟨_, rfl⟩) hlk hL (Nat.le_of_ble_eq_true rfl) (Nat.le_of_ble_eq_true rfl) d_AL_growI_59 (⟨q, 10, _, rfl, by omega, hU.kept hQ (by show q ≠ a; omega), hO, by decide, by decide, fun j hj => absurd hj (Nat.not_lt_zero _)⟩)
  · refine lv_aload_n hx hb d_AL_growI_0 rfl (lv_at hl 0 rfl) ?_
    refine fx_get hx hb hown (kc_AL hK _) hKv 1 (by decide) (hw _ mf_AL_9) (fun _ h => h) hO rfl d_AL_growI_1 ?_
    refine fx_alen hx hb hKv 2 hQ rfl d_AL_growI_4 ?_
    refine lv_istore_n hx hb d_AL_growI_5 rfl hl (by decide) rfl (fun ls hl => ?_)
    have hl : lv_has ls 4 [(2, .int (nI n)), (0, .ref a), (1, .int (nI (n + 1)))] := hl
    refine lv_iload_n hx hb d_AL_growI_6 rfl (lv_at hl 0 rfl) ?_
    refine lv_if_gt (tgt := 20) hx hb d_AL_growI_7 rfl (fun _ => ?_) (fun h9 => absurd (nI_lt (a := 0) (by omega) (by omega)) h9)
    refine lv_iload_n hx hb d_AL_growI_20 rfl (lv_at hl 0 rfl) ?_
    refine lv_iload_n hx hb d_AL_growI_21 rfl (lv_at hl 2 rfl) ?_
    refine lv_iload_n hx hb d_AL_growI_22 rfl (lv_at hl 0 rfl) ?_
    refine lv_isub hx hb d_AL_growI_23 ?_
    refine fx_ti (y := nI 1) (by rw [pk_sub (by omega)]; congr 1; omega) ?_
    refine lv_iload_n hx hb d_AL_growI_24 rfl (lv_at hl 0 rfl) ?_
    refine lv_iconst (v := nI 1) hx hb d_AL_growI_25 rfl ?_
    refine lv_ishr hx hb d_AL_growI_26 ?_
    refine fx_ti (y := nI (n / 2)) (pk_shrN (by omega) _ 1 (by decide)) ?_
    refine fx_cS (B := (fun H q => q = a ∨ H.size ≤ q) s.heap) KT_moved (ct_AS_newLength w n (by omega)) hx hfl hK hb (by rw [hml]; exact hl.1) hown (hw _ mm_AL_73) (fx_Y.code (hw _ mk_AS_newLength)) (hw _ ms_AS_newLength) (hw _ mn_AS) (show fx_N y_AS_newLength 3 by decide +kernel) rfl ⟨Nat.le_of_ble_eq_true rfl, Nat.le_of_ble_eq_true rfl, Nat.le_of_ble_eq_true rfl, Nat.le_of_ble_eq_true rfl⟩ (trivial) d_AL_growI_27 hL (fun q h => h.elim) (fun v H1 locs hq hF hL => ?_) (fun x H1 locs hq hF hL => by obtain ⟨k, hv, -⟩ := hq; cases hv)
    obtain ⟨k, hv, hk1, hk2⟩ := hq
    cases hv
    obtain rfl : H1 = s.heap := hF.same (fun _ _ h => h)
    refine W.eq (g2 := F0 m 30 ls [.int (nI k)]) rfl ?_
    refine lv_istore_n hx hb d_AL_growI_30 rfl hl (by decide) rfl (fun ls hl => ?_)
    have hl : lv_has ls 4 [(3, .int (nI k)), (2, .int (nI n)), (0, .ref a), (1, .int (nI (n + 1)))] := hl
    refine lv_aload_n hx hb d_AL_growI_31 rfl (lv_at hl 2 rfl) ?_
    refine lv_aload_n hx hb d_AL_growI_32 rfl (lv_at hl 2 rfl) ?_
    refine fx_get hx hb hown (kc_AL hK _) hKv 1 (by decide) (hw _ mf_AL_9) (fun _ h => h) hO rfl d_AL_growI_33 ?_
    refine lv_iload_n hx hb d_AL_growI_36 rfl (lv_at hl 0 rfl) ?_
    refine fx_cS (B := (fun H q => q = a ∨ H.size ≤ q) s.heap) KT_moved (ct_AR_copyOf2 w ar n k f (by omega) (by omega)) hx hfl hK hb (by rw [hml]; exact hl.1) hown (hw _ mm_AL_66) (fx_Y.code (hw _ mk_AR_copyOf2)) (hw _ ms_AR_copyOf2) (hw _ mn_AR) (show fx_N y_AR_copyOf2 2 by decide +kernel) rfl ⟨Nat.le_of_ble_eq_true rfl, Nat.le_of_ble_eq_true rfl, Nat.le_of_ble_eq_true rfl, Nat.le_of_ble_eq_true rfl⟩ (⟨hQ, hE⟩) d_AL_growI_37 hL (fun q h => Or.inr h) (fun v H1 locs hq hF hL => ?_) (fun x H1 locs hq hF hL => by obtain ⟨q, f1, hv, -⟩ := hq; cases hv)
    obtain ⟨q, f', hv, hq1, hQ1, hf⟩ := hq
    cases hv
    have hx1 : fx_Ex s.heap H1 := hF.ex (fun q h => Nat.not_le.mpr h)
    have hO := hx1.kept hO
    refine W.eq (g2 := F0 m 40 ls [.ref q, .ref a]) rfl ?_
    refine lv_dup_x1 hx hb d_AL_growI_40 rfl rfl ?_
    refine fx_put (B := (fun H q => q = a ∨ H.size ≤ q) s.heap) hx hb hown (kc_AL hK _) hKv 1 (by decide) (hw _ mf_AL_9) (fun _ h => h) rfl hO (by simp) rfl rfl hL (Or.inl rfl) d_AL_growI_41 (fun H2 locs hO hU hL => ?_)
    exact fx_aret hx hb hr (Or.inr ⟨_, rfl⟩) (Or.inr ⟨_, rfl⟩) hlk hL (Nat.le_of_ble_eq_true rfl) (Nat.le_of_ble_eq_true rfl) d_AL_growI_44 (⟨q, k, f', rfl, hq1, hU.kept hQ1 (Nat.ne_of_gt (Nat.lt_of_lt_of_le hla hq1)), hO, by omega, by omega, hf⟩)
set_option maxHeartbeats 4000000 in
set_option maxRecDepth 100000 in
theorem ct_AL_grow (w : Wd) (a ar n : Nat) (mc : Int32) (f : Nat → Option Nat) (hn : n ≤ 64) (ha : w.H0.size ≤ a) : fx_C (KT w) y_AL_grow 1 (rmG 5) [.ref a] (fun H => Low w H ∧ cO w a [.int mc, .ref ar, .int (nI n)] H ∧ cR w ar n f H ∧ cE w n f H) (fun H o H' => ∃ ar' cap' f', o = .returned (some (.ref ar')) ∧ H.size ≤ ar' ∧ cQ w ar' cap' f' H' ∧ cO w a [.int mc, .ref ar', .int (nI n)] H' ∧ n < cap' ∧ cap' ≤ 200 ∧ ∀ j, j < n → f' j = f j) (fun H q => q = a ∨ H.size ≤ q) := by
  refine fx_of (ret := (some ((FieldType.array (FieldType.object "java/lang/Object"))))) (cc := b_AL_grow) (fun s hK => hK.1 _ mk_AL_grow _) (Nat.le_of_ble_eq_true rfl) ?_
  intro p l e s m below meth c hx hfl hK hb hml hr hlk hnt hown hin hpre ls hl
  have hw : ∀ z ∈ gw, z.before ([.ref a] : List Value).toArray s = true := fun z hz => hK.1 z hz _
  have hKv := hK.2.1
  have hL : ∀ q ∈ ([] : List Loc), (fun H q => q = a ∨ H.size ≤ q) s.heap q.base := fun q hq => by cases hq
  have hl : lv_has ls 1 [(0, .ref a)] := hl
  refine lv_aload_n hx hb d_AL_grow_0 rfl (lv_at hl 0 rfl) ?_
  refine lv_aload_n hx hb d_AL_grow_1 rfl (lv_at hl 0 rfl) ?_
  refine fx_get hx hb hown (kc_AL hK _) hKv 2 (by decide) (hw _ mf_AL_48) (fun _ h => h) hpre.2.1 rfl d_AL_grow_2 ?_
  refine lv_iconst (v := nI 1) hx hb d_AL_grow_5 rfl ?_
  refine lv_iadd hx hb d_AL_grow_6 ?_
  refine fx_ti (y := nI (n + 1)) (nI_add n 1) ?_
  refine fx_cV (B := (fun H q => q = a ∨ H.size ≤ q) s.heap) KT_moved (ct_AL_growI w a ar n mc f hn ha) hx hfl hK hb (by rw [hml]; exact hl.1) hown (hw _ mm_AL_69) (fx_Y.code (hw _ mk_AL_growI)) (hw _ mi_AL_growI) (hw _ mq_AL_growI) (show fx_N y_AL_growI 1 by decide +kernel) (va_recv (q0 := 0) hKv (fx_one hpre.2.1) (show cls[3]? = some (R_AL, T_AL, 3) from rfl) rfl) rfl ⟨Nat.le_of_ble_eq_true rfl, Nat.le_of_ble_eq_true rfl, Nat.le_of_ble_eq_true rfl, Nat.le_of_ble_eq_true rfl⟩ (hpre) d_AL_grow_7 hL (fun q h => h) (fun v H1 locs hq hF hL => ?_) (fun x H1 locs hq hF hL => by obtain ⟨q, k, f1, hv, -⟩ := hq; cases hv)
  obtain ⟨ar', cap', f', hv, hq⟩ := hq
  cases hv
  refine W.eq (g2 := F0 m 10 ls [.ref ar']) rfl ?_
  exact fx_aret hx hb hr (Or.inr ⟨_, rfl⟩) (Or.inr ⟨_, rfl⟩) hlk hL (Nat.le_of_ble_eq_true rfl) (Nat.le_of_ble_eq_true rfl) d_AL_grow_10 (⟨ar', cap', f', rfl, hq⟩)
set_option maxHeartbeats 4000000 in
set_option maxRecDepth 100000 in
theorem ct_AL_add3 (w : Wd) (a b ar n cap : Nat) (mc : Int32) (f : Nat → Option Nat) (fb : List Value) (hn : n ≤ 63) (hnc : n ≤ cap) (hcap : cap ≤ 200) (ha : w.H0.size ≤ a) (hne : a ≠ ar) (hba : b ≠ a) (hEa : ∀ z, z < n → ∀ y : Nat, f z = some y → y ≠ a) : fx_C (KT w) y_AL_add3 4 (rmG 6) [.ref a, .ref b, .ref ar, .int (nI n)] (fun H => Low w H ∧ cO w a [.int mc, .ref ar, .int (nI n)] H ∧ cR w ar cap f H ∧ cE w n f H ∧ va_at w.D cls (b, .inr (1, fb)) H) (fun H o H' => ∃ ar' cap' f', o = .returned none ∧ cO w a [.int mc, .ref ar', .int (nI (n + 1))] H' ∧ cQ w ar' cap' f' H' ∧ n < cap' ∧ cap' ≤ 200 ∧ w.H0.size ≤ ar' ∧ (ar' = ar ∨ H.size ≤ ar') ∧ a ≠ ar' ∧ f' n = some b ∧ ∀ j, j < n → f' j = f j) (fun H q => q = a ∨ (q = ar ∧ w.H0.size ≤ ar) ∨ H.size ≤ q) := by
  refine fx_of (ret := none) (cc := b_AL_add3) (fun s hK => hK.1 _ mk_AL_add3 _) (Nat.le_of_ble_eq_true rfl) ?_
  intro p l e s m below meth c hx hfl hK hb hml hr hlk hnt hown hin hpre ls hl
  have hw : ∀ z ∈ gw, z.before ([.ref a, .ref b, .ref ar, .int (nI n)] : List Value).toArray s = true := fun z hz => hK.1 z hz _
  have hKv := hK.2.1
  have hL : ∀ q ∈ ([] : List Loc), (fun H q => q = a ∨ (q = ar ∧ w.H0.size ≤ ar) ∨ H.size ≤ q) s.heap q.base := fun q hq => by cases hq
  obtain ⟨hLow, hO, hR, hE, hB⟩ := hpre
  have hla := hO.lt
  have hl : lv_has ls 4 [(0, .ref a), (1, .ref b), (2, .ref ar), (3, .int (nI n))] := hl
  refine lv_iload_n hx hb d_AL_add3_0 rfl (lv_at hl 3 rfl) ?_
  refine lv_aload_n hx hb d_AL_add3_1 rfl (lv_at hl 2 rfl) ?_
  refine fx_rlen hx hb hK hLow hR d_AL_add3_2 ?_
  refine lv_icmp_ne (tgt := 11) hx hb d_AL_add3_3 rfl (fun h3 => ?_) (fun h3 => ?_)
  · have hlt : n < cap := by have : ¬ n = cap := fun z => h3 (by rw [z]); omega
    obtain ⟨hr1, hQ⟩ : w.H0.size ≤ ar ∧ cQ w ar cap f s.heap := by rcases hR with ⟨-, e2⟩ | ⟨-, h1, h2⟩; exact absurd e2 (by omega); exact ⟨h1, h2⟩
    have hin1 : (fun H q => q = a ∨ (q = ar ∧ w.H0.size ≤ ar) ∨ H.size ≤ q) s.heap ar := Or.inr (Or.inl ⟨rfl, hr1⟩)
    have hna := hne
    have hor : ar = ar ∨ s.heap.size ≤ ar := Or.inl rfl
    refine lv_aload_n hx hb d_AL_add3_11 rfl (lv_at hl 2 rfl) ?_
    refine lv_iload_n hx hb d_AL_add3_12 rfl (lv_at hl 3 rfl) ?_
    refine lv_aload_n hx hb d_AL_add3_13 rfl (lv_at hl 1 rfl) ?_
    refine fx_aast (B := (fun H q => q = a ∨ (q = ar ∧ w.H0.size ≤ ar) ∨ H.size ≤ q) s.heap) hx hb hKv 2 hQ rfl (kAny hK hB) rfl (show n < cap by omega) (by omega) hL hin1 d_AL_add3_14 (fun H2 locs hQ hU hL => ?_)
    have hO := hU.kept hO (hna)
    refine lv_aload_n hx hb d_AL_add3_15 rfl (lv_at hl 0 rfl) ?_
    refine lv_iload_n hx hb d_AL_add3_16 rfl (lv_at hl 3 rfl) ?_
    refine lv_iconst (v := nI 1) hx hb d_AL_add3_17 rfl ?_
    refine lv_iadd hx hb d_AL_add3_18 ?_
    refine fx_ti (y := nI (n + 1)) (nI_add n 1) ?_
    refine fx_put (B := (fun H q => q = a ∨ (q = ar ∧ w.H0.size ≤ ar) ∨ H.size ≤ q) s.heap) hx hb hown (kc_AL hK _) hKv 2 (by decide) (hw _ mf_AL_48) (fun _ h => h) rfl hO (by simp) rfl rfl hL (Or.inl rfl) d_AL_add3_19 (fun H3 locs hO hU2 hL => ?_)
    exact fx_vret hx hb hr hlk hL (Nat.le_of_ble_eq_true rfl) (Nat.le_of_ble_eq_true rfl) d_AL_add3_22 (⟨ar, cap, _, rfl, hO, hU2.kept hQ (Ne.symm hna), by omega, by omega, by omega, hor, hna, if_pos rfl, fun j hj => (if_neg (by omega)).trans (rfl)⟩)
  · have hnc : n = cap := (nI_eq (by omega) (by omega)).mp h3
    rw [← hnc] at hR
    refine lv_aload_n hx hb d_AL_add3_6 rfl (lv_at hl 0 rfl) ?_
    refine fx_cV (B := (fun H q => q = a ∨ (q = ar ∧ w.H0.size ≤ ar) ∨ H.size ≤ q) s.heap) KT_moved (ct_AL_grow w a ar n mc f (by omega) ha) hx hfl hK hb (by rw [hml]; exact hl.1) hown (hw _ mm_AL_129) (fx_Y.code (hw _ mk_AL_grow)) (hw _ mi_AL_grow) (hw _ mq_AL_grow) (show fx_N y_AL_grow 0 by decide +kernel) (va_recv (q0 := 0) hKv (fx_one hO) (show cls[3]? = some (R_AL, T_AL, 3) from rfl) rfl) rfl ⟨Nat.le_of_ble_eq_true rfl, Nat.le_of_ble_eq_true rfl, Nat.le_of_ble_eq_true rfl, Nat.le_of_ble_eq_true rfl⟩ (⟨hLow, hO, hR, hE⟩) d_AL_add3_7 hL (fun q h => h.elim Or.inl (fun h => Or.inr (Or.inr h))) (fun v H1 locs hq hF hL => ?_) (fun x H1 locs hq hF hL => by obtain ⟨q, k, f1, hv, -⟩ := hq; cases hv)
    obtain ⟨ar', cap', f', hv, hq1, hQ, hO, hc1, hc2, hf⟩ := hq
    cases hv
    have hLs := hLow.1
    have hor : ar' = ar ∨ s.heap.size ≤ ar' := Or.inr hq1
    have hna : a ≠ ar' := Nat.ne_of_lt (Nat.lt_of_lt_of_le hla hq1)
    have hin1 : (fun H q => q = a ∨ (q = ar ∧ w.H0.size ≤ ar) ∨ H.size ≤ q) s.heap ar' := Or.inr (Or.inr hq1)
    have hB := hB.kept (hF.2.2 b hB.lt (fun z => z.elim hba (fun z => absurd hB.lt (Nat.not_lt.mpr z))))
    refine W.eq (g2 := F0 m 10 ls [(.ref ar')]) rfl ?_
    refine lv_astore_n hx hb d_AL_add3_10 rfl hl (by decide) rfl (fun ls hl => ?_)
    have hl : lv_has ls 4 [(2, (.ref ar')), (0, .ref a), (1, .ref b), (3, .int (nI n))] := hl
    refine lv_aload_n hx hb d_AL_add3_11 rfl (lv_at hl 0 rfl) ?_
    refine lv_iload_n hx hb d_AL_add3_12 rfl (lv_at hl 3 rfl) ?_
    refine lv_aload_n hx hb d_AL_add3_13 rfl (lv_at hl 2 rfl) ?_
    refine fx_aast (B := (fun H q => q = a ∨ (q = ar ∧ w.H0.size ≤ ar) ∨ H.size ≤ q) s.heap) hx hb hKv 2 hQ rfl (kAny hK hB) rfl (show n < cap' by omega) (by omega) hL hin1 d_AL_add3_14 (fun H2 locs hQ hU hL => ?_)
    have hO := hU.kept hO (hna)
    refine lv_aload_n hx hb d_AL_add3_15 rfl (lv_at hl 1 rfl) ?_
    refine lv_iload_n hx hb d_AL_add3_16 rfl (lv_at hl 3 rfl) ?_
    refine lv_iconst (v := nI 1) hx hb d_AL_add3_17 rfl ?_
    refine lv_iadd hx hb d_AL_add3_18 ?_
    refine fx_ti (y := nI (n + 1)) (nI_add n 1) ?_
    refine fx_put (B := (fun H q => q = a ∨ (q = ar ∧ w.H0.size ≤ ar) ∨ H.size ≤ q) s.heap) hx hb hown (kc_AL hK _) hKv 2 (by decide) (hw _ mf_AL_48) (fun _ h => h) rfl hO (by simp) rfl rfl hL (Or.inl rfl) d_AL_add3_19 (fun H3 locs hO hU2 hL => ?_)
    exact fx_vret hx hb hr hlk hL (Nat.le_of_ble_eq_true rfl) (Nat.le_of_ble_eq_true rfl) d_AL_add3_22 (⟨ar', cap', _, rfl, hO, hU2.kept hQ (Ne.symm hna), by omega, by omega, by omega, hor, hna, if_pos rfl, fun j hj => (if_neg (by omega)).trans (hf j hj)⟩)
set_option maxHeartbeats 4000000 in
set_option maxRecDepth 100000 in
theorem ct_AL_add (w : Wd) (a b ar n cap : Nat) (mc : Int32) (f : Nat → Option Nat) (fb : List Value) (hn : n ≤ 63) (hnc : n ≤ cap) (hcap : cap ≤ 200) (ha : w.H0.size ≤ a) (hne : a ≠ ar) (hba : b ≠ a) (hEa : ∀ z, z < n → ∀ y : Nat, f z = some y → y ≠ a) : fx_C (KT w) y_AL_add 2 (rmG 7) [.ref a, .ref b] (fun H => Low w H ∧ cO w a [.int mc, .ref ar, .int (nI n)] H ∧ cR w ar cap f H ∧ cE w n f H ∧ va_at w.D cls (b, .inr (1, fb)) H) (fun H o H' => ∃ ar' cap' f', o = .returned (some (.int 1)) ∧ cO w a [.int (mc + nI 1), .ref ar', .int (nI (n + 1))] H' ∧ cQ w ar' cap' f' H' ∧ n < cap' ∧ cap' ≤ 200 ∧ w.H0.size ≤ ar' ∧ (ar' = ar ∨ H.size ≤ ar') ∧ a ≠ ar' ∧ f' n = some b ∧ ∀ j, j < n → f' j = f j) (fun H q => q = a ∨ (q = ar ∧ w.H0.size ≤ ar) ∨ H.size ≤ q) := by
  refine fx_of (ret := (some (FieldType.boolean))) (cc := b_AL_add) (fun s hK => hK.1 _ mk_AL_add _) (Nat.le_of_ble_eq_true rfl) ?_
  intro p l e s m below meth c hx hfl hK hb hml hr hlk hnt hown hin hpre ls hl
  have hw : ∀ z ∈ gw, z.before ([.ref a, .ref b] : List Value).toArray s = true := fun z hz => hK.1 z hz _
  have hKv := hK.2.1
  have hL : ∀ q ∈ ([] : List Loc), (fun H q => q = a ∨ (q = ar ∧ w.H0.size ≤ ar) ∨ H.size ≤ q) s.heap q.base := fun q hq => by cases hq
  obtain ⟨hLow, hO, hR, hE, hB⟩ := hpre
  have hla := hO.lt
  have hLs := hLow.1
  have hl : lv_has ls 2 [(0, .ref a), (1, .ref b)] := hl
  refine lv_aload_n hx hb d_AL_add_0 rfl (lv_at hl 0 rfl) ?_
  refine lv_dup hx hb d_AL_add_1 rfl ?_
  refine fx_get hx hb hown (kc_AL hK _) hKv 0 (by decide) (hw _ mf_AL_63) (u_same (hw _ me_modCount)) hO rfl d_AL_add_2 ?_
  refine lv_iconst (v := nI 1) hx hb d_AL_add_5 rfl ?_
  refine lv_iadd hx hb d_AL_add_6 ?_
  refine fx_put (B := (fun H q => q = a ∨ (q = ar ∧ w.H0.size ≤ ar) ∨ H.size ≤ q) s.heap) hx hb hown (kc_AL hK _) hKv 0 (by decide) (hw _ mf_AL_63) (u_same (hw _ me_modCount)) rfl hO (by simp) rfl rfl hL (Or.inl rfl) d_AL_add_7 (fun H1 locs hO hU hL => ?_)
  have hLow := hLow.U hU ha
  have hR : cR w ar cap f H1 := hR.imp id (fun z => ⟨z.1, z.2.1, hU.kept z.2.2 (Ne.symm hne)⟩)
  have hE : cE w n f H1 := fun z hz y hy => by obtain ⟨fs, h1⟩ := hE z hz y hy; exact ⟨fs, hU.kept h1 (hEa z hz y hy)⟩
  have hB := hU.kept hB hba
  refine lv_aload_n hx hb d_AL_add_10 rfl (lv_at hl 0 rfl) ?_
  refine lv_aload_n hx hb d_AL_add_11 rfl (lv_at hl 1 rfl) ?_
  refine lv_aload_n hx hb d_AL_add_12 rfl (lv_at hl 0 rfl) ?_
  refine fx_get hx hb hown (kc_AL hK _) hKv 1 (by decide) (hw _ mf_AL_9) (fun _ h => h) hO rfl d_AL_add_13 ?_
  refine lv_aload_n hx hb d_AL_add_16 rfl (lv_at hl 0 rfl) ?_
  refine fx_get hx hb hown (kc_AL hK _) hKv 2 (by decide) (hw _ mf_AL_48) (fun _ h => h) hO rfl d_AL_add_17 ?_
  refine fx_cV (B := (fun H q => q = a ∨ (q = ar ∧ w.H0.size ≤ ar) ∨ H.size ≤ q) s.heap) KT_moved (ct_AL_add3 w a b ar n cap (mc + nI 1) f fb hn hnc hcap ha hne hba hEa) hx hfl hK hb (by rw [hml]; exact hl.1) hown (hw _ mm_AL_131) (fx_Y.code (hw _ mk_AL_add3)) (hw _ mi_AL_add3) (hw _ mq_AL_add3) (show fx_N y_AL_add3 3 by decide +kernel) (va_recv (q0 := 0) hKv (fx_one hO) (show cls[3]? = some (R_AL, T_AL, 3) from rfl) rfl) rfl ⟨Nat.le_of_ble_eq_true rfl, Nat.le_of_ble_eq_true rfl, Nat.le_of_ble_eq_true rfl, Nat.le_of_ble_eq_true rfl⟩ (⟨hLow, hO, hR, hE, hB⟩) d_AL_add_20 hL (fun q h => h.elim Or.inl (fun h => h.elim (fun h => Or.inr (Or.inl h)) (fun h => Or.inr (Or.inr (by rw [hU.1] at h; exact h))))) (fun v H2 locs hq hF hL => ?_) (fun x H2 locs hq hF hL => by obtain ⟨q, k, f1, hv, -⟩ := hq; cases hv)
  obtain ⟨ar', cap', f', hv, hO, hQ, h1, h2, h3, h4, h5, h6, h7⟩ := hq
  cases hv
  refine W.eq (g2 := F0 m 23 ls []) rfl ?_
  refine lv_iconst (v := nI 1) hx hb d_AL_add_23 rfl ?_
  exact fx_zret hx hb hr (by decide) hlk hL (Nat.le_of_ble_eq_true rfl) (Nat.le_of_ble_eq_true rfl) d_AL_add_24 (⟨ar', cap', f', rfl, hO, hQ, h1, h2, h3, by rw [hU.1] at h4; exact h4, h5, h6, h7⟩)
