/-! The JDK's methods that the class uses: contracts of ArrayList's. -/
theorem Low.U {w : Wd} {a : Nat} {H H1 : Heap} (h : Low w H) (hU : fx_U a H H1) (ha : w.H0.size ≤ a) : Low w H1 := ⟨by rw [hU.1]; exact h.1, fun q hq => (hU.2 q (by omega)).trans (h.2 q hq)⟩
theorem Low.G {w : Wd} {H H1 : Heap} (h : Low w H) (hG : fx_G H H1) : Low w H1 := h.tr hG.ex
theorem Low.F {w : Wd} {A : Nat → Prop} {mc : Nat} {H H1 : Heap} (h : Low w H) (hF : fx_F A mc H H1) (hA : ∀ q, q < w.H0.size → ¬ A q) : Low w H1 := ⟨Nat.le_trans h.1 hF.1, fun q hq => (hF.2.2 q (Nat.lt_of_lt_of_le hq h.1) (hA q hq)).trans (h.2 q hq)⟩
theorem kZF {w : Wd} {s : State} (hK : KT w s) : va_Z R_L "FORMS" "[I" (.ref w.FA) (kold w) s w.H0 := hK.2.2.2.2.2.2.2.1
theorem kTF {w : Wd} {s : State} (hK : KT w s) : va_T .int w.FA 5 (fun j => .int (kforms j)) (kold w) s w.H0 := hK.2.2.2.2.2.2.2.2.1
theorem kZE {w : Wd} {s : State} (hK : KT w s) : va_Z R_AL "DEFAULTCAPACITY_EMPTY_ELEMENTDATA" "[Ljava/lang/Object;" (.ref w.E0) (kold w) s w.H0 := hK.2.2.2.2.2.2.2.2.2.1
theorem kTE {w : Wd} {s : State} (hK : KT w s) : va_T (.object "java/lang/Object") w.E0 0 (fun _ => .null) (kold w) s w.H0 := hK.2.2.2.2.2.2.2.2.2.2.1
theorem kMi {w : Wd} {s : State} (hK : KT w s) : va_Mi "[Ljava/lang/Object;" w.mi s := hK.2.2.2.2.2.2.2.2.2.2.2.1
abbrev cO (w : Wd) (a : Nat) (fs : List Value) (H : Heap) : Prop := va_at w.D cls (a, .inr (3, fs)) H
abbrev cQ (w : Wd) (a n : Nat) (f : Nat → Option Nat) (H : Heap) : Prop := va_at w.D cls (a, .inl (w.O, n, .inr (.inr (.inr (.inr f))))) H
theorem kAny {w : Wd} {s : State} (hK : KT w s) {b : Nat} {fs : List Value} {H : Heap} (h : va_at w.D cls (b, .inr (1, fs)) H) : va_Any "java/lang/Object" s H b := by
  refine va_rAny hK.2.1 (fx_one h) (q0 := 0) rfl (show cls[1]? = some (R_V, T_V, 4) from rfl) (fun comp c0 h1 h2 => ?_)
  obtain ⟨c1, t1, f1, f2, f3⟩ := Cond.castable_spec (args := #[]) (hK.2.2.2.2.1.1 (R_V, "java/lang/Object") (by decide))
  have e1 : c0 = c1 := Option.some.inj (h2.symm.trans f1)
  have e2 : comp = t1 := Option.some.inj (h1.symm.trans f2)
  rw [e1, e2]
  exact f3
theorem mq_A_getClass : Cond.selects "[Ljava/lang/Object;" ⟨"java/lang/Object", "getClass", "()Ljava/lang/Class;"⟩ ⟨"java/lang/Object", "getClass", "()Ljava/lang/Class;"⟩ ∈ gw := kT_in (L := [Cond.selects "[Ljava/lang/Object;" ⟨"java/lang/Object", "getClass", "()Ljava/lang/Class;"⟩ ⟨"java/lang/Object", "getClass", "()Ljava/lang/Class;"⟩]) (by decide +kernel) _ (by decide +kernel)
set_option maxHeartbeats 4000000 in
set_option maxRecDepth 100000 in
theorem ct_AC_init (w : Wd) (a : Nat) : fx_C (KT w) y_AC_init 1 (rmK 1) [.ref a] (fun _ => True) (fun _ o _ => o = .returned none) (fun _ _ => False) := by
  refine fx_of (ret := none) (cc := b_AC_init) (fun s hK => hK.1 _ mk_AC_init _) (Nat.le_of_ble_eq_true rfl) ?_
  intro p l e s m below meth c hx hfl hK hb hml hr hlk hnt hown hin hpre ls hl
  have hw : ∀ z ∈ gw, z.before ([.ref a] : List Value).toArray s = true := fun z hz => hK.1 z hz _
  have hKv := hK.2.1
  have hL : ∀ q ∈ ([] : List Loc), (fun _ _ => False) s.heap q.base := fun q hq => by cases hq
  have hl : lv_has ls 1 [(0, .ref a)] := hl
  refine lv_aload_n hx hb d_AC_init_0 rfl (lv_at hl 0 rfl) ?_
  refine W.objInit hx hb hown (hw _ mm_AC_1) (hw _ mi_OJ_init) (hw _ mk_OJ_init) rfl (by rw [hml]; exact hl.1) rfl d_AC_init_1 (Nat.le_of_ble_eq_true rfl) (Nat.le_of_ble_eq_true rfl) ?_
  refine W.eq (g2 := F0 m 4 ls []) rfl ?_
  exact fx_vret hx hb hr hlk hL (Nat.le_of_ble_eq_true rfl) (Nat.le_of_ble_eq_true rfl) d_AC_init_4 (rfl)
set_option maxHeartbeats 4000000 in
set_option maxRecDepth 100000 in
theorem ct_AB_init (w : Wd) (a : Nat) : fx_C (KT w) y_AB_init 1 (rmK 2) [.ref a] (fun H => cO w a [.int 0, .null, .int 0] H) (fun H o H' => o = .returned none ∧ cO w a [.int 0, .null, .int 0] H' ∧ fx_U a H H') (fun _ q => q = a) := by
  refine fx_of (ret := none) (cc := b_AB_init) (fun s hK => hK.1 _ mk_AB_init _) (Nat.le_of_ble_eq_true rfl) ?_
  intro p l e s m below meth c hx hfl hK hb hml hr hlk hnt hown hin hpre ls hl
  have hw : ∀ z ∈ gw, z.before ([.ref a] : List Value).toArray s = true := fun z hz => hK.1 z hz _
  have hKv := hK.2.1
  have hL : ∀ q ∈ ([] : List Loc), (fun _ q => q = a) s.heap q.base := fun q hq => by cases hq
  have hl : lv_has ls 1 [(0, .ref a)] := hl
  refine lv_aload_n hx hb d_AB_init_0 rfl (lv_at hl 0 rfl) ?_
  refine fx_cI (B := (fun _ q => q = a) s.heap) KT_moved (ct_AC_init w a) hx hfl hK hb (by rw [hml]; exact hl.1) hown (hw _ mm_AB_1) (hw _ mk_AC_init) (hw _ mi_AC_init) rfl (show fx_N y_AC_init 0 by decide +kernel) rfl ⟨Nat.le_of_ble_eq_true rfl, Nat.le_of_ble_eq_true rfl, Nat.le_of_ble_eq_true rfl, Nat.le_of_ble_eq_true rfl⟩ (trivial) d_AB_init_1 hL (fun q h => h.elim) (fun v H1 locs hq hF hL => ?_) (fun x H1 locs hq hF hL => by cases hq)
  cases hq
  obtain rfl : H1 = s.heap := hF.same (fun _ _ h => h)
  refine W.eq (g2 := F0 m 4 ls []) rfl ?_
  refine lv_aload_n hx hb d_AB_init_4 rfl (lv_at hl 0 rfl) ?_
  refine lv_iconst (v := nI 0) hx hb d_AB_init_5 rfl ?_
  refine fx_put (B := (fun _ q => q = a) s.heap) hx hb hown (kc_AL hK _) hKv 0 (by decide) (hw _ mf_AB_7) (fun _ h => h) rfl hpre (by simp) rfl rfl hL (rfl) d_AB_init_6 (fun H2 locs hO hU hL => ?_)
  exact fx_vret hx hb hr hlk hL (Nat.le_of_ble_eq_true rfl) (Nat.le_of_ble_eq_true rfl) d_AB_init_9 (⟨rfl, hO, hU⟩)
set_option maxHeartbeats 4000000 in
set_option maxRecDepth 100000 in
theorem ct_AL_init (w : Wd) (a : Nat) (ha : w.H0.size ≤ a) : fx_C (KT w) y_AL_init 1 (rmK 3) [.ref a] (fun H => Low w H ∧ cO w a [.int 0, .null, .int 0] H) (fun H o H' => o = .returned none ∧ cO w a [.int 0, .ref w.E0, .int 0] H' ∧ fx_U a H H') (fun _ q => q = a) := by
  refine fx_of (ret := none) (cc := b_AL_init) (fun s hK => hK.1 _ mk_AL_init _) (Nat.le_of_ble_eq_true rfl) ?_
  intro p l e s m below meth c hx hfl hK hb hml hr hlk hnt hown hin hpre ls hl
  have hw : ∀ z ∈ gw, z.before ([.ref a] : List Value).toArray s = true := fun z hz => hK.1 z hz _
  have hKv := hK.2.1
  have hL : ∀ q ∈ ([] : List Loc), (fun _ q => q = a) s.heap q.base := fun q hq => by cases hq
  have hl : lv_has ls 1 [(0, .ref a)] := hl
  refine lv_aload_n hx hb d_AL_init_0 rfl (lv_at hl 0 rfl) ?_
  refine fx_cI (B := (fun _ q => q = a) s.heap) KT_moved (ct_AB_init w a) hx hfl hK hb (by rw [hml]; exact hl.1) hown (hw _ mm_AL_1) (hw _ mk_AB_init) (hw _ mi_AB_init) rfl (show fx_N y_AB_init 0 by decide +kernel) rfl ⟨Nat.le_of_ble_eq_true rfl, Nat.le_of_ble_eq_true rfl, Nat.le_of_ble_eq_true rfl, Nat.le_of_ble_eq_true rfl⟩ (hpre.2) d_AL_init_1 hL (fun q h => h) (fun v H1 locs hq hF hL => ?_) (fun x H1 locs hq hF hL => by cases hq.1)
  obtain ⟨hv, hO, hU⟩ := hq
  cases hv
  have hLow := hpre.1.U hU ha
  refine W.eq (g2 := F0 m 4 ls []) rfl ?_
  refine lv_aload_n hx hb d_AL_init_4 rfl (lv_at hl 0 rfl) ?_
  refine fx_gets hx hb (kZE hK) hLow.2 hown (hw _ mf_AL_39) (fun _ h => h) d_AL_init_5 ?_
  refine fx_put (B := (fun _ q => q = a) s.heap) hx hb hown (kc_AL hK _) hKv 1 (by decide) (hw _ mf_AL_9) (fun _ h => h) rfl hO (by simp) rfl rfl hL (rfl) d_AL_init_8 (fun H2 locs hO hU2 hL => ?_)
  exact fx_vret hx hb hr hlk hL (Nat.le_of_ble_eq_true rfl) (Nat.le_of_ble_eq_true rfl) d_AL_init_11 (⟨rfl, hO, hU2.1.trans hU.1, fun q h => (hU2.2 q h).trans (hU.2 q h)⟩)
set_option maxHeartbeats 4000000 in
set_option maxRecDepth 100000 in
theorem ct_AL_size (w : Wd) (a : Nat) (mc z : Int32) (r : Value) : fx_C (KT w) y_AL_size 1 (rmK 1) [.ref a] (fun H => cO w a [.int mc, r, .int z] H) (fun _ o _ => o = .returned (some (.int z))) (fun _ _ => False) := by
  refine fx_of (ret := (some (FieldType.int))) (cc := b_AL_size) (fun s hK => hK.1 _ mk_AL_size _) (Nat.le_of_ble_eq_true rfl) ?_
  intro p l e s m below meth c hx hfl hK hb hml hr hlk hnt hown hin hpre ls hl
  have hw : ∀ z ∈ gw, z.before ([.ref a] : List Value).toArray s = true := fun z hz => hK.1 z hz _
  have hKv := hK.2.1
  have hL : ∀ q ∈ ([] : List Loc), (fun _ _ => False) s.heap q.base := fun q hq => by cases hq
  have hl : lv_has ls 1 [(0, .ref a)] := hl
  refine lv_aload_n hx hb d_AL_size_0 rfl (lv_at hl 0 rfl) ?_
  refine fx_get hx hb hown (kc_AL hK _) hKv 2 (by decide) (hw _ mf_AL_48) (fun _ h => h) hpre rfl d_AL_size_1 ?_
  exact fx_iret hx hb hr hlk hL (Nat.le_of_ble_eq_true rfl) (Nat.le_of_ble_eq_true rfl) d_AL_size_4 (rfl)
set_option maxHeartbeats 4000000 in
set_option maxRecDepth 100000 in
theorem ct_MT_min (w : Wd) (x y : Int32) : fx_C (KT w) y_MT_min 2 (rmK 1) [.int x, .int y] (fun _ => True) (fun _ o _ => o = .returned (some (.int (if y < x then y else x)))) (fun _ _ => False) := by
  refine fx_of (ret := (some (FieldType.int))) (cc := b_MT_min) (fun s hK => hK.1 _ mk_MT_min _) (Nat.le_of_ble_eq_true rfl) ?_
  intro p l e s m below meth c hx hfl hK hb hml hr hlk hnt hown hin hpre ls hl
  have hw : ∀ z ∈ gw, z.before ([.int x, .int y] : List Value).toArray s = true := fun z hz => hK.1 z hz _
  have hKv := hK.2.1
  have hL : ∀ q ∈ ([] : List Loc), (fun _ _ => False) s.heap q.base := fun q hq => by cases hq
  have hl : lv_has ls 2 [(0, .int x), (1, .int y)] := hl
  refine lv_iload_n hx hb d_MT_min_0 rfl (lv_at hl 0 rfl) ?_
  refine lv_iload_n hx hb d_MT_min_1 rfl (lv_at hl 1 rfl) ?_
  refine lv_icmp_gt (tgt := 9) hx hb d_MT_min_2 rfl (fun h2 => ?_) (fun h2 => ?_)
  · have hc : y < x := h2
    refine lv_iload_n hx hb d_MT_min_9 rfl (lv_at hl 1 rfl) ?_
    exact fx_iret hx hb hr hlk hL (Nat.le_of_ble_eq_true rfl) (Nat.le_of_ble_eq_true rfl) d_MT_min_10 (by rw [if_pos hc])
  · have hc : ¬ y < x := h2
    refine lv_iload_n hx hb d_MT_min_5 rfl (lv_at hl 0 rfl) ?_
    refine lv_goto (tgt := 10) hx hb d_MT_min_6 rfl ?_
    exact fx_iret hx hb hr hlk hL (Nat.le_of_ble_eq_true rfl) (Nat.le_of_ble_eq_true rfl) d_MT_min_10 (by rw [if_neg hc])
set_option maxHeartbeats 4000000 in
set_option maxRecDepth 100000 in
theorem ct_MT_max (w : Wd) (x y : Int32) : fx_C (KT w) y_MT_max 2 (rmK 1) [.int x, .int y] (fun _ => True) (fun _ o _ => o = .returned (some (.int (if x < y then y else x)))) (fun _ _ => False) := by
  refine fx_of (ret := (some (FieldType.int))) (cc := b_MT_max) (fun s hK => hK.1 _ mk_MT_max _) (Nat.le_of_ble_eq_true rfl) ?_
  intro p l e s m below meth c hx hfl hK hb hml hr hlk hnt hown hin hpre ls hl
  have hw : ∀ z ∈ gw, z.before ([.int x, .int y] : List Value).toArray s = true := fun z hz => hK.1 z hz _
  have hKv := hK.2.1
  have hL : ∀ q ∈ ([] : List Loc), (fun _ _ => False) s.heap q.base := fun q hq => by cases hq
  have hl : lv_has ls 2 [(0, .int x), (1, .int y)] := hl
  refine lv_iload_n hx hb d_MT_max_0 rfl (lv_at hl 0 rfl) ?_
  refine lv_iload_n hx hb d_MT_max_1 rfl (lv_at hl 1 rfl) ?_
  refine lv_icmp_lt (tgt := 9) hx hb d_MT_max_2 rfl (fun h2 => ?_) (fun h2 => ?_)
  · have hc : x < y := h2
    refine lv_iload_n hx hb d_MT_max_9 rfl (lv_at hl 1 rfl) ?_
    exact fx_iret hx hb hr hlk hL (Nat.le_of_ble_eq_true rfl) (Nat.le_of_ble_eq_true rfl) d_MT_max_10 (by rw [if_pos hc])
  · have hc : ¬ x < y := h2
    refine lv_iload_n hx hb d_MT_max_5 rfl (lv_at hl 0 rfl) ?_
    refine lv_goto (tgt := 10) hx hb d_MT_max_6 rfl ?_
    exact fx_iret hx hb hr hlk hL (Nat.le_of_ble_eq_true rfl) (Nat.le_of_ble_eq_true rfl) d_MT_max_10 (by rw [if_neg hc])
set_option maxHeartbeats 4000000 in
set_option maxRecDepth 100000 in
theorem ct_PC_checkIndex (w : Wd) (j n : Nat) (hj : j < n) (hn : n < 2 ^ 31) : fx_C (KT w) y_PC_checkIndex 3 (rmK 1) [.int (nI j), .int (nI n), .null] (fun _ => True) (fun _ o _ => o = .returned (some (.int (nI j)))) (fun _ _ => False) := by
  refine fx_of (ret := (some (FieldType.int))) (cc := b_PC_checkIndex) (fun s hK => hK.1 _ mk_PC_checkIndex _) (Nat.le_of_ble_eq_true rfl) ?_
  intro p l e s m below meth c hx hfl hK hb hml hr hlk hnt hown hin hpre ls hl
  have hw : ∀ z ∈ gw, z.before ([.int (nI j), .int (nI n), .null] : List Value).toArray s = true := fun z hz => hK.1 z hz _
  have hKv := hK.2.1
  have hL : ∀ q ∈ ([] : List Loc), (fun _ _ => False) s.heap q.base := fun q hq => by cases hq
  have hl : lv_has ls 3 [(0, .int (nI j)), (1, .int (nI n)), (2, .null)] := hl
  refine lv_iload_n hx hb d_PC_checkIndex_0 rfl (lv_at hl 0 rfl) ?_
  refine lv_if_lt (tgt := 9) hx hb d_PC_checkIndex_1 rfl (fun h9 => absurd h9 (nI_pos (by omega))) (fun _ => ?_)
  refine lv_iload_n hx hb d_PC_checkIndex_4 rfl (lv_at hl 0 rfl) ?_
  refine lv_iload_n hx hb d_PC_checkIndex_5 rfl (lv_at hl 1 rfl) ?_
  refine lv_icmp_lt (tgt := 16) hx hb d_PC_checkIndex_6 rfl (fun _ => ?_) (fun h9 => absurd (nI_lt hj hn) h9)
  refine lv_iload_n hx hb d_PC_checkIndex_16 rfl (lv_at hl 0 rfl) ?_
  exact fx_iret hx hb hr hlk hL (Nat.le_of_ble_eq_true rfl) (Nat.le_of_ble_eq_true rfl) d_PC_checkIndex_17 (rfl)
set_option maxHeartbeats 4000000 in
set_option maxRecDepth 100000 in
theorem ct_OB_checkIndex (w : Wd) (j n : Nat) (hj : j < n) (hn : n < 2 ^ 31) : fx_C (KT w) y_OB_checkIndex 2 (rmK 2) [.int (nI j), .int (nI n)] (fun _ => True) (fun _ o _ => o = .returned (some (.int (nI j)))) (fun _ _ => False) := by
  refine fx_of (ret := (some (FieldType.int))) (cc := b_OB_checkIndex) (fun s hK => hK.1 _ mk_OB_checkIndex _) (Nat.le_of_ble_eq_true rfl) ?_
  intro p l e s m below meth c hx hfl hK hb hml hr hlk hnt hown hin hpre ls hl
  have hw : ∀ z ∈ gw, z.before ([.int (nI j), .int (nI n)] : List Value).toArray s = true := fun z hz => hK.1 z hz _
  have hKv := hK.2.1
  have hL : ∀ q ∈ ([] : List Loc), (fun _ _ => False) s.heap q.base := fun q hq => by cases hq
  have hl : lv_has ls 2 [(0, .int (nI j)), (1, .int (nI n))] := hl
  refine lv_iload_n hx hb d_OB_checkIndex_0 rfl (lv_at hl 0 rfl) ?_
  refine lv_iload_n hx hb d_OB_checkIndex_1 rfl (lv_at hl 1 rfl) ?_
  refine lv_null hx hb d_OB_checkIndex_2 ?_
  refine fx_cS (B := (fun _ _ => False) s.heap) KT_moved (ct_PC_checkIndex w j n hj hn) hx hfl hK hb (by rw [hml]; exact hl.1) hown (hw _ mm_OB_105) (fx_Y.code (hw _ mk_PC_checkIndex)) (hw _ ms_PC_checkIndex) (hw _ mn_PC) (show fx_N y_PC_checkIndex 3 by decide +kernel) rfl ⟨Nat.le_of_ble_eq_true rfl, Nat.le_of_ble_eq_true rfl, Nat.le_of_ble_eq_true rfl, Nat.le_of_ble_eq_true rfl⟩ (trivial) d_OB_checkIndex_3 hL (fun q h => h) (fun v H1 locs hq hF hL => ?_) (fun x H1 locs hq hF hL => by cases hq)
  cases hq
  obtain rfl : H1 = s.heap := hF.same (fun _ _ h => h)
  refine W.eq (g2 := F0 m 6 ls [.int (nI j)]) rfl ?_
  exact fx_iret hx hb hr hlk hL (Nat.le_of_ble_eq_true rfl) (Nat.le_of_ble_eq_true rfl) d_OB_checkIndex_6 (rfl)
set_option maxHeartbeats 4000000 in
set_option maxRecDepth 100000 in
theorem ct_AL_elementData (w : Wd) (a ar n cap b j : Nat) (mc : Int32) (f : Nat → Option Nat) (hj : j < n) (hf : f j = some b) (hn : n ≤ cap) (hcap : cap ≤ 200) : fx_C (KT w) y_AL_elementData 2 (rmK 1) [.ref a, .int (nI j)] (fun H => cO w a [.int mc, .ref ar, .int (nI n)] H ∧ cQ w ar cap f H) (fun _ o _ => o = .returned (some (.ref b))) (fun _ _ => False) := by
  refine fx_of (ret := (some ((FieldType.object "java/lang/Object")))) (cc := b_AL_elementData) (fun s hK => hK.1 _ mk_AL_elementData _) (Nat.le_of_ble_eq_true rfl) ?_
  intro p l e s m below meth c hx hfl hK hb hml hr hlk hnt hown hin hpre ls hl
  have hw : ∀ z ∈ gw, z.before ([.ref a, .int (nI j)] : List Value).toArray s = true := fun z hz => hK.1 z hz _
  have hKv := hK.2.1
  have hL : ∀ q ∈ ([] : List Loc), (fun _ _ => False) s.heap q.base := fun q hq => by cases hq
  have hl : lv_has ls 2 [(0, .ref a), (1, .int (nI j))] := hl
  refine lv_aload_n hx hb d_AL_elementData_0 rfl (lv_at hl 0 rfl) ?_
  refine fx_get hx hb hown (kc_AL hK _) hKv 1 (by decide) (hw _ mf_AL_9) (fun _ h => h) hpre.1 rfl d_AL_elementData_1 ?_
  refine lv_iload_n hx hb d_AL_elementData_4 rfl (lv_at hl 1 rfl) ?_
  refine fx_aald hx hb hKv 2 hpre.2 rfl rfl (show j < cap by omega) (by omega) d_AL_elementData_5 (fx_tv (y := .ref b) (by rw [hf]; rfl) ?_)
  exact fx_aret hx hb hr (Or.inl ⟨_, rfl⟩) (Or.inr ⟨_, rfl⟩) hlk hL (Nat.le_of_ble_eq_true rfl) (Nat.le_of_ble_eq_true rfl) d_AL_elementData_6 (rfl)
set_option maxHeartbeats 4000000 in
set_option maxRecDepth 100000 in
theorem ct_AL_get (w : Wd) (a ar n cap b j : Nat) (mc : Int32) (f : Nat → Option Nat) (hj : j < n) (hf : f j = some b) (hn : n ≤ cap) (hcap : cap ≤ 200) : fx_C (KT w) y_AL_get 2 (rmK 3) [.ref a, .int (nI j)] (fun H => cO w a [.int mc, .ref ar, .int (nI n)] H ∧ cQ w ar cap f H) (fun _ o _ => o = .returned (some (.ref b))) (fun _ _ => False) := by
  refine fx_of (ret := (some ((FieldType.object "java/lang/Object")))) (cc := b_AL_get) (fun s hK => hK.1 _ mk_AL_get _) (Nat.le_of_ble_eq_true rfl) ?_
  intro p l e s m below meth c hx hfl hK hb hml hr hlk hnt hown hin hpre ls hl
  have hw : ∀ z ∈ gw, z.before ([.ref a, .int (nI j)] : List Value).toArray s = true := fun z hz => hK.1 z hz _
  have hKv := hK.2.1
  have hL : ∀ q ∈ ([] : List Loc), (fun _ _ => False) s.heap q.base := fun q hq => by cases hq
  have hl : lv_has ls 2 [(0, .ref a), (1, .int (nI j))] := hl
  refine lv_iload_n hx hb d_AL_get_0 rfl (lv_at hl 1 rfl) ?_
  refine lv_aload_n hx hb d_AL_get_1 rfl (lv_at hl 0 rfl) ?_
  refine fx_get hx hb hown (kc_AL hK _) hKv 2 (by decide) (hw _ mf_AL_48) (fun _ h => h) hpre.1 rfl d_AL_get_2 ?_
  refine fx_cS (B := (fun _ _ => False) s.heap) KT_moved (ct_OB_checkIndex w j n hj (by omega)) hx hfl hK hb (by rw [hml]; exact hl.1) hown (hw _ mm_AL_118) (fx_Y.code (hw _ mk_OB_checkIndex)) (hw _ ms_OB_checkIndex) (hw _ mn_OB) (show fx_N y_OB_checkIndex 2 by decide +kernel) rfl ⟨Nat.le_of_ble_eq_true rfl, Nat.le_of_ble_eq_true rfl, Nat.le_of_ble_eq_true rfl, Nat.le_of_ble_eq_true rfl⟩ (trivial) d_AL_get_5 hL (fun q h => h) (fun v H1 locs hq hF hL => ?_) (fun x H1 locs hq hF hL => by cases hq)
  cases hq
  obtain rfl : H1 = s.heap := hF.same (fun _ _ h => h)
  refine W.eq (g2 := F0 m 8 ls [.int (nI j)]) rfl ?_
  refine lv_pop hx hb d_AL_get_8 rfl ?_
  refine lv_aload_n hx hb d_AL_get_9 rfl (lv_at hl 0 rfl) ?_
  refine lv_iload_n hx hb d_AL_get_10 rfl (lv_at hl 1 rfl) ?_
  refine fx_cV (B := (fun _ _ => False) s.heap) KT_moved (ct_AL_elementData w a ar n cap b j mc f hj hf hn hcap) hx hfl hK hb (by rw [hml]; exact hl.1) hown (hw _ mm_AL_123) (fx_Y.code (hw _ mk_AL_elementData)) (hw _ mi_AL_elementData) (hw _ mq_AL_elementData) (show fx_N y_AL_elementData 1 by decide +kernel) (va_recv (q0 := 0) hKv (fx_one hpre.1) (show cls[3]? = some (R_AL, T_AL, 3) from rfl) rfl) rfl ⟨Nat.le_of_ble_eq_true rfl, Nat.le_of_ble_eq_true rfl, Nat.le_of_ble_eq_true rfl, Nat.le_of_ble_eq_true rfl⟩ (hpre) d_AL_get_11 hL (fun q h => h) (fun v H1 locs hq hF hL => ?_) (fun x H1 locs hq hF hL => by cases hq)
  cases hq
  obtain rfl : H1 = s.heap := hF.same (fun _ _ h => h)
  refine W.eq (g2 := F0 m 14 ls [.ref b]) rfl ?_
  exact fx_aret hx hb hr (Or.inl ⟨_, rfl⟩) (Or.inr ⟨_, rfl⟩) hlk hL (Nat.le_of_ble_eq_true rfl) (Nat.le_of_ble_eq_true rfl) d_AL_get_14 (rfl)
