/-! The class's state: what its cells hold of a list of versions; its finders, its refusals, keep. -/
def cN (F : Nat → Prop) (al ar q : Nat) : Prop := ¬ F q ∧ q ≠ al ∧ q ≠ ar
/-- the object at b is the version o -/
def cV (w : Wd) (F : Nat → Prop) (al ar b : Nat) (o : sV) (H : Heap) : Prop := ∃ e y, cVo w b o.1 o.2.1 e y H ∧ cA w e o.2.2.1 H ∧ cA w y o.2.2.2 H ∧ cN F al ar b ∧ cN F al ar e ∧ cN F al ar y
/-- the object at x holds the versions Vs; F: cells of others -/
def cS (w : Wd) (F : Nat → Prop) (x al ar : Nat) (Vs : List sV) (H : Heap) : Prop := Low w H ∧ (∀ q, F q → q < H.size) ∧ cN F al ar x ∧ va_at w.D cls (x, .inr (0, [.ref al])) H ∧ (w.H0.size ≤ al ∧ ¬ F al ∧ al ≠ ar) ∧ ∃ (cap : Nat) (mc : Int32) (f : Nat → Option Nat),
  cO w al [.int mc, .ref ar, .int (nI Vs.length)] H ∧ cR w ar cap f H ∧ (w.H0.size ≤ ar → ¬ F ar) ∧ Vs.length ≤ cap ∧ cap ≤ 200 ∧ Vs.length ≤ 64 ∧ ∀ i o, Vs[i]? = some o → sv_ok o ∧ ∃ b, f i = some b ∧ cV w F al ar b o H
theorem cV.ex {w : Wd} {F : Nat → Prop} {al ar b : Nat} {o : sV} {H H' : Heap} (h : cV w F al ar b o H) (hx : fx_Ex H H') : cV w F al ar b o H' := by
  obtain ⟨e, y, h1, h2, h3, h4⟩ := h
  exact ⟨e, y, hx.kept h1, hx.kept h2, hx.kept h3, h4⟩
theorem cR.ex {w : Wd} {a cap : Nat} {f : Nat → Option Nat} {H H' : Heap} (h : cR w a cap f H) (hx : fx_Ex H H') : cR w a cap f H' := h.imp id (fun z => ⟨z.1, z.2.1, hx.kept z.2.2⟩)
theorem cS.ex {w : Wd} {F : Nat → Prop} {x al ar : Nat} {Vs : List sV} {H H' : Heap} (h : cS w F x al ar Vs H) (hx : fx_Ex H H') : cS w F x al ar Vs H' := by
  obtain ⟨h1, h2, h3, h4, h5, cap, mc, f, h6, h7, h8, h9, h10, h11, h12⟩ := h
  exact ⟨h1.tr hx, fun q hq => Nat.lt_of_lt_of_le (h2 q hq) hx.1, h3, hx.kept h4, h5, cap, mc, f, hx.kept h6, h7.ex hx, h8, h9, h10, h11, fun i o hi => ⟨(h12 i o hi).1, by obtain ⟨b, b1, b2⟩ := (h12 i o hi).2; exact ⟨b, b1, b2.ex hx⟩⟩⟩
/-- the version at v, if there is one -/
theorem sv_at_neg {Vs : List sV} {v : Int32} (h : v < 0) : sv_at Vs v = none := if_pos h
theorem sv_at_big {Vs : List sV} {v : Int32} (h0 : ¬ v < 0) (hz : Vs.length ≤ 64) (h : ¬ v < nI Vs.length) : sv_at Vs v = none := by
  obtain ⟨j, hj, e⟩ := nI_of h0
  subst e
  unfold sv_at
  rw [if_neg h0, nI_clamp hj]
  exact List.getElem?_eq_none (Nat.not_lt.mp (fun z => h (nI_lt z (by omega))))
theorem sv_at_in {Vs : List sV} {j : Nat} (hj : j < 2 ^ 31) : sv_at Vs (nI j) = Vs[j]? := by
  unfold sv_at
  rw [if_neg (nI_pos hj), nI_clamp hj]
abbrev rmX (k : Nat) : Room := { frames := k, cells := 1, slots := 6, locals := 40 * k }
set_option maxHeartbeats 4000000 in
set_option maxRecDepth 100000 in
theorem ct_L_versions (w : Wd) (F : Nat → Prop) (x al ar : Nat) (Vs : List sV) : fx_C (KT w) y_L_versions 1 (rmK 2) [.ref x] (fun H => cS w F x al ar Vs H) (fun _ o _ => o = .returned (some (.int (nI Vs.length)))) (fun _ _ => False) := by
  refine fx_of (ret := (some (FieldType.int))) (cc := b_L_versions) (fun s hK => hK.1 _ mk_L_versions _) (Nat.le_of_ble_eq_true rfl) ?_
  intro p l e s m below meth c hx hfl hK hb hml hr hlk hnt hown hin hpre ls hl
  have hw : ∀ z ∈ gw, z.before ([.ref x] : List Value).toArray s = true := fun z hz => hK.1 z hz _
  have hKv := hK.2.1
  have hL : ∀ q ∈ ([] : List Loc), (fun _ _ => False) s.heap q.base := fun q hq => by cases hq
  have hS := hpre
  obtain ⟨hLow, hFz, hNx, hX, hAl, cap, mc, f, hO, hR, hFr, hn1, hn2, hn3, hVs⟩ := hpre
  have hl : lv_has ls 1 [(0, .ref x)] := hl
  refine lv_aload_n hx hb d_L_versions_0 rfl (lv_at hl 0 rfl) ?_
  refine fx_get hx hb hown (kc_L hK _) hKv 0 (by decide) (hw _ mf_L_10) (fun _ h => h) hX rfl d_L_versions_1 ?_
  refine fx_cV (B := (fun _ _ => False) s.heap) KT_moved (ct_AL_size w al mc (nI Vs.length) (.ref ar)) hx hfl hK hb (by rw [hml]; exact hl.1) hown (hw _ mm_L_136) (fx_Y.code (hw _ mk_AL_size)) (hw _ mi_AL_size) (hw _ mq_AL_size) (show fx_N y_AL_size 0 by decide +kernel) (va_recv (q0 := 0) hKv (fx_one hO) (show cls[3]? = some (R_AL, T_AL, 3) from rfl) rfl) rfl ⟨Nat.le_of_ble_eq_true rfl, Nat.le_of_ble_eq_true rfl, Nat.le_of_ble_eq_true rfl, Nat.le_of_ble_eq_true rfl⟩ (hO) d_L_versions_4 hL (fun q h => h.elim) (fun v H1 locs hq hF hL => ?_) (fun x H1 locs hq hF hL => by cases hq)
  cases hq
  obtain rfl : H1 = s.heap := hF.same (fun _ _ h => h)
  refine W.eq (g2 := F0 m 7 ls [.int (nI Vs.length)]) rfl ?_
  exact fx_iret hx hb hr hlk hL (Nat.le_of_ble_eq_true rfl) (Nat.le_of_ble_eq_true rfl) d_L_versions_7 (rfl)
set_option maxHeartbeats 4000000 in
set_option maxRecDepth 100000 in
theorem ct_L_refuseBeyondLimits (w : Wd) (F : Nat → Prop) (x al ar : Nat) (Vs : List sV) (zz : Int32) : fx_C (KT w) y_L_refuseBeyondLimits 2 (rmX 6) [.ref x, .int zz] (fun H => cS w F x al ar Vs H) (fun H o H' => (64 ≤ Vs.length ∨ nI 100 < zz → ∃ y, o = .threw y ∧ xcp w 1 y H') ∧ (¬ (64 ≤ Vs.length ∨ nI 100 < zz) → o = .returned none)) (fun H q => H.size ≤ q) := by
  refine fx_of (ret := none) (cc := b_L_refuseBeyondLimits) (fun s hK => hK.1 _ mk_L_refuseBeyondLimits _) (Nat.le_of_ble_eq_true rfl) ?_
  intro p l e s m below meth c hx hfl hK hb hml hr hlk hnt hown hin hpre ls hl
  have hw : ∀ z ∈ gw, z.before ([.ref x, .int zz] : List Value).toArray s = true := fun z hz => hK.1 z hz _
  have hKv := hK.2.1
  have hL : ∀ q ∈ ([] : List Loc), (fun H q => H.size ≤ q) s.heap q.base := fun q hq => by cases hq
  have hS := hpre
  obtain ⟨hLow, hFz, hNx, hX, hAl, cap, mc, f, hO, hR, hFr, hn1, hn2, hn3, hVs⟩ := hpre
  have hl : lv_has ls 2 [(0, .ref x), (1, .int zz)] := hl
  refine lv_aload_n hx hb d_L_refuseBeyondLimits_0 rfl (lv_at hl 0 rfl) ?_
  refine fx_get hx hb hown (kc_L hK _) hKv 0 (by decide) (hw _ mf_L_10) (fun _ h => h) hX rfl d_L_refuseBeyondLimits_1 ?_
  refine fx_cV (B := (fun H q => H.size ≤ q) s.heap) KT_moved (ct_AL_size w al mc (nI Vs.length) (.ref ar)) hx hfl hK hb (by rw [hml]; exact hl.1) hown (hw _ mm_L_136) (fx_Y.code (hw _ mk_AL_size)) (hw _ mi_AL_size) (hw _ mq_AL_size) (show fx_N y_AL_size 0 by decide +kernel) (va_recv (q0 := 0) hKv (fx_one hO) (show cls[3]? = some (R_AL, T_AL, 3) from rfl) rfl) rfl ⟨Nat.le_of_ble_eq_true rfl, Nat.le_of_ble_eq_true rfl, Nat.le_of_ble_eq_true rfl, Nat.le_of_ble_eq_true rfl⟩ (hO) d_L_refuseBeyondLimits_4 hL (fun q h => h.elim) (fun v H1 locs hq hF hL => ?_) (fun x H1 locs hq hF hL => by cases hq)
  cases hq
  obtain rfl : H1 = s.heap := hF.same (fun _ _ h => h)
  refine W.eq (g2 := F0 m 7 ls [.int (nI Vs.length)]) rfl ?_
  refine lv_bipush (v := nI 64) hx hb d_L_refuseBeyondLimits_7 rfl ?_
  refine lv_icmp_lt (tgt := 22) hx hb d_L_refuseBeyondLimits_9 rfl (fun h9 => ?_) (fun h9 => ?_)
  · have h0 : ¬ 64 ≤ Vs.length := Nat.not_le.mpr ((nI_ltI (by omega) (by decide)).mp h9)
    refine lv_iload_n hx hb d_L_refuseBeyondLimits_22 rfl (lv_at hl 1 rfl) ?_
    refine lv_bipush (v := nI 100) hx hb d_L_refuseBeyondLimits_23 rfl ?_
    refine lv_icmp_le (tgt := 38) hx hb d_L_refuseBeyondLimits_25 rfl (fun h25 => ?_) (fun h25 => ?_)
    · exact fx_vret hx hb hr hlk hL (Nat.le_of_ble_eq_true rfl) (Nat.le_of_ble_eq_true rfl) d_L_refuseBeyondLimits_38 (⟨fun z => (z.elim h0 (fun z => absurd z (Int32.not_lt.mpr h25))).elim, fun _ => rfl⟩)
    · exact fx_throw (xc_ISE w) hx hfl hK hLow hb (by rw [hml]; exact hl.1) hown (hw _ mc_L_150) (hw _ mn_IllegalStateException) (show (155, "too many elements") ∈ kstr by decide) hnt hlk hL (Nat.le_refl _) ⟨Nat.le_of_ble_eq_true rfl, Nat.le_of_ble_eq_true rfl, Nat.le_of_ble_eq_true rfl, Nat.le_of_ble_eq_true rfl⟩ (Nat.le_of_ble_eq_true rfl) (Nat.le_of_ble_eq_true rfl) hL d_L_refuseBeyondLimits_28 d_L_refuseBeyondLimits_31 d_L_refuseBeyondLimits_32 d_L_refuseBeyondLimits_34 d_L_refuseBeyondLimits_37 (fun x H' h7 hx1 h9 => have hxc : xcp w 1 x H' := h9.x hK (by decide); ⟨fun _ => ⟨x, rfl, hxc⟩, fun z => (z (Or.inr (Int32.not_le.mp h25))).elim⟩)
  · have h0 : 64 ≤ Vs.length := Nat.not_lt.mp (fun z => h9 (nI_lt z (by decide)))
    exact fx_throw (xc_ISE w) hx hfl hK hLow hb (by rw [hml]; exact hl.1) hown (hw _ mc_L_150) (hw _ mn_IllegalStateException) (show (152, "no room for a version more") ∈ kstr by decide) hnt hlk hL (Nat.le_refl _) ⟨Nat.le_of_ble_eq_true rfl, Nat.le_of_ble_eq_true rfl, Nat.le_of_ble_eq_true rfl, Nat.le_of_ble_eq_true rfl⟩ (Nat.le_of_ble_eq_true rfl) (Nat.le_of_ble_eq_true rfl) hL d_L_refuseBeyondLimits_12 d_L_refuseBeyondLimits_15 d_L_refuseBeyondLimits_16 d_L_refuseBeyondLimits_18 d_L_refuseBeyondLimits_21 (fun x H' h7 hx1 h9 => have hxc : xcp w 1 x H' := h9.x hK (by decide); ⟨fun _ => ⟨x, rfl, hxc⟩, fun z => (z (Or.inl h0)).elim⟩)
set_option maxHeartbeats 4000000 in
set_option maxRecDepth 100000 in
theorem ct_L_refuseWithoutElements (w : Wd) (b e1 y1 : Nat) (k f : Int32) (xs : List Int32) (hz : xs.length ≤ 100) : fx_C (KT w) y_L_refuseWithoutElements 1 (rmX 6) [.ref b] (fun H => Low w H ∧ cVo w b k f e1 y1 H ∧ cA w e1 xs H) (fun H o H' => (xs.length = 0 → ∃ y, o = .threw y ∧ xcp w 2 y H') ∧ (¬ xs.length = 0 → o = .returned none)) (fun H q => H.size ≤ q) := by
  refine fx_of (ret := none) (cc := b_L_refuseWithoutElements) (fun s hK => hK.1 _ mk_L_refuseWithoutElements _) (Nat.le_of_ble_eq_true rfl) ?_
  intro p l e s m below meth c hx hfl hK hb hml hr hlk hnt hown hin hpre ls hl
  have hw : ∀ z ∈ gw, z.before ([.ref b] : List Value).toArray s = true := fun z hz => hK.1 z hz _
  have hKv := hK.2.1
  have hL : ∀ q ∈ ([] : List Loc), (fun H q => H.size ≤ q) s.heap q.base := fun q hq => by cases hq
  have hLow := hpre.1
  have hl : lv_has ls 1 [(0, .ref b)] := hl
  refine lv_aload_n hx hb d_L_refuseWithoutElements_0 rfl (lv_at hl 0 rfl) ?_
  refine fx_getN hx hb hown (kc_V hK _) hKv 2 (by decide) ((nl_L_44 hK _)) (fun _ h => h) hpre.2.1 rfl d_L_refuseWithoutElements_1 ?_
  refine fx_alen hx hb hKv 0 hpre.2.2 rfl d_L_refuseWithoutElements_4 ?_
  refine lv_if_ne (tgt := 18) hx hb d_L_refuseWithoutElements_5 rfl (fun h5 => ?_) (fun h5 => ?_)
  · have h0 : ¬ xs.length = 0 := fun z => h5 (by rw [z]; rfl)
    exact fx_vret hx hb hr hlk hL (Nat.le_of_ble_eq_true rfl) (Nat.le_of_ble_eq_true rfl) d_L_refuseWithoutElements_18 (⟨fun z => (h0 z).elim, fun _ => rfl⟩)
  · have h0 : xs.length = 0 := (nI_eq (by omega) (by decide)).mp h5
    exact fx_throw (xc_NSE w) hx hfl hK hLow hb (by rw [hml]; exact hl.1) hown (hw _ mc_L_112) (hw _ mn_NoSuchElementException) (show (161, "no element") ∈ kstr by decide) hnt hlk hL (Nat.le_refl _) ⟨Nat.le_of_ble_eq_true rfl, Nat.le_of_ble_eq_true rfl, Nat.le_of_ble_eq_true rfl, Nat.le_of_ble_eq_true rfl⟩ (Nat.le_of_ble_eq_true rfl) (Nat.le_of_ble_eq_true rfl) hL d_L_refuseWithoutElements_8 d_L_refuseWithoutElements_11 d_L_refuseWithoutElements_12 d_L_refuseWithoutElements_14 d_L_refuseWithoutElements_17 (fun x H' h7 hx1 h9 => have hxc : xcp w 2 x H' := h9.x hK (by decide); ⟨fun _ => ⟨x, rfl, hxc⟩, fun z => (z h0).elim⟩)
set_option maxHeartbeats 4000000 in
set_option maxRecDepth 100000 in
theorem ct_L_refuseOutside (w : Wd) (b e1 y1 : Nat) (k f : Int32) (xs : List Int32) (hz : xs.length ≤ 100) (i : Int32) : fx_C (KT w) y_L_refuseOutside 2 (rmX 6) [.ref b, .int i] (fun H => Low w H ∧ cVo w b k f e1 y1 H ∧ cA w e1 xs H) (fun H o H' => (i < 0 ∨ nI xs.length ≤ i → ∃ y, o = .threw y ∧ xcp w 3 y H') ∧ (¬ (i < 0 ∨ nI xs.length ≤ i) → o = .returned none)) (fun H q => H.size ≤ q) := by
  refine fx_of (ret := none) (cc := b_L_refuseOutside) (fun s hK => hK.1 _ mk_L_refuseOutside _) (Nat.le_of_ble_eq_true rfl) ?_
  intro p l e s m below meth c hx hfl hK hb hml hr hlk hnt hown hin hpre ls hl
  have hw : ∀ z ∈ gw, z.before ([.ref b, .int i] : List Value).toArray s = true := fun z hz => hK.1 z hz _
  have hKv := hK.2.1
  have hL : ∀ q ∈ ([] : List Loc), (fun H q => H.size ≤ q) s.heap q.base := fun q hq => by cases hq
  have hLow := hpre.1
  have hl : lv_has ls 2 [(0, .ref b), (1, .int i)] := hl
  refine lv_iload_n hx hb d_L_refuseOutside_0 rfl (lv_at hl 1 rfl) ?_
  refine lv_if_lt (tgt := 13) hx hb d_L_refuseOutside_1 rfl (fun h1 => ?_) (fun h1 => ?_)
  · exact fx_throw (xc_IOB w) hx hfl hK hLow hb (by rw [hml]; exact hl.1) hown (hw _ mc_L_163) (hw _ mn_IndexOutOfBoundsException) (show (165, "no such place") ∈ kstr by decide) hnt hlk hL (Nat.le_refl _) ⟨Nat.le_of_ble_eq_true rfl, Nat.le_of_ble_eq_true rfl, Nat.le_of_ble_eq_true rfl, Nat.le_of_ble_eq_true rfl⟩ (Nat.le_of_ble_eq_true rfl) (Nat.le_of_ble_eq_true rfl) hL d_L_refuseOutside_13 d_L_refuseOutside_16 d_L_refuseOutside_17 d_L_refuseOutside_19 d_L_refuseOutside_22 (fun x H' h7 hx1 h9 => have hxc : xcp w 3 x H' := h9.x hK (by decide); ⟨fun _ => ⟨x, rfl, hxc⟩, fun z => (z (Or.inl h1)).elim⟩)
  · refine lv_iload_n hx hb d_L_refuseOutside_4 rfl (lv_at hl 1 rfl) ?_
    refine lv_aload_n hx hb d_L_refuseOutside_5 rfl (lv_at hl 0 rfl) ?_
    refine fx_getN hx hb hown (kc_V hK _) hKv 2 (by decide) ((nl_L_44 hK _)) (fun _ h => h) hpre.2.1 rfl d_L_refuseOutside_6 ?_
    refine fx_alen hx hb hKv 0 hpre.2.2 rfl d_L_refuseOutside_9 ?_
    refine lv_icmp_lt (tgt := 23) hx hb d_L_refuseOutside_10 rfl (fun h10 => ?_) (fun h10 => ?_)
    · exact fx_vret hx hb hr hlk hL (Nat.le_of_ble_eq_true rfl) (Nat.le_of_ble_eq_true rfl) d_L_refuseOutside_23 (⟨fun z => (z.elim h1 (fun z => absurd h10 (Int32.not_lt.mpr z))).elim, fun _ => rfl⟩)
    · exact fx_throw (xc_IOB w) hx hfl hK hLow hb (by rw [hml]; exact hl.1) hown (hw _ mc_L_163) (hw _ mn_IndexOutOfBoundsException) (show (165, "no such place") ∈ kstr by decide) hnt hlk hL (Nat.le_refl _) ⟨Nat.le_of_ble_eq_true rfl, Nat.le_of_ble_eq_true rfl, Nat.le_of_ble_eq_true rfl, Nat.le_of_ble_eq_true rfl⟩ (Nat.le_of_ble_eq_true rfl) (Nat.le_of_ble_eq_true rfl) hL d_L_refuseOutside_13 d_L_refuseOutside_16 d_L_refuseOutside_17 d_L_refuseOutside_19 d_L_refuseOutside_22 (fun x H' h7 hx1 h9 => have hxc : xcp w 3 x H' := h9.x hK (by decide); ⟨fun _ => ⟨x, rfl, hxc⟩, fun z => (z (Or.inr (Int32.not_lt.mp h10))).elim⟩)
set_option maxHeartbeats 4000000 in
set_option maxRecDepth 100000 in
theorem ct_L_found (w : Wd) (F : Nat → Prop) (x al ar : Nat) (Vs : List sV) (v : Int32) : fx_C (KT w) y_L_found 2 (rmX 6) [.ref x, .int v] (fun H => cS w F x al ar Vs H) (fun H o H' => (sv_at Vs v = none → ∃ y, o = .threw y ∧ xcp w 0 y H') ∧ ∀ u, sv_at Vs v = some u → ∃ b, o = .returned (some (.ref b)) ∧ cV w F al ar b u H' ∧ sv_ok u) (fun H q => H.size ≤ q) := by
  refine fx_of (ret := (some ((FieldType.object "LastingShapes$Version")))) (cc := b_L_found) (fun s hK => hK.1 _ mk_L_found _) (Nat.le_of_ble_eq_true rfl) ?_
  intro p l e s m below meth c hx hfl hK hb hml hr hlk hnt hown hin hpre ls hl
  have hw : ∀ z ∈ gw, z.before ([.ref x, .int v] : List Value).toArray s = true := fun z hz => hK.1 z hz _
  have hKv := hK.2.1
  have hL : ∀ q ∈ ([] : List Loc), (fun H q => H.size ≤ q) s.heap q.base := fun q hq => by cases hq
  have hS := hpre
  obtain ⟨hLow, hFz, hNx, hX, hAl, cap, mc, f, hO, hR, hFr, hn1, hn2, hn3, hVs⟩ := hpre
  have hl : lv_has ls 2 [(0, .ref x), (1, .int v)] := hl
  refine lv_iload_n hx hb d_L_found_0 rfl (lv_at hl 1 rfl) ?_
  refine lv_if_lt (tgt := 15) hx hb d_L_found_1 rfl (fun h1 => ?_) (fun h1 => ?_)
  · have hat := sv_at_neg (Vs := Vs) h1
    exact fx_throw (xc_IAE w) hx hfl hK hLow hb (by rw [hml]; exact hl.1) hown (hw _ mc_L_20) (hw _ mn_IllegalArgumentException) (show (140, "no such version") ∈ kstr by decide) hnt hlk hL (Nat.le_refl _) ⟨Nat.le_of_ble_eq_true rfl, Nat.le_of_ble_eq_true rfl, Nat.le_of_ble_eq_true rfl, Nat.le_of_ble_eq_true rfl⟩ (Nat.le_of_ble_eq_true rfl) (Nat.le_of_ble_eq_true rfl) hL d_L_found_15 d_L_found_18 d_L_found_19 d_L_found_21 d_L_found_24 (fun x H' h7 hx1 h9 => have hxc : xcp w 0 x H' := h9.x hK (by decide); ⟨fun _ => ⟨x, rfl, hxc⟩, fun u hu => by rw [hat] at hu; cases hu⟩)
  · refine lv_iload_n hx hb d_L_found_4 rfl (lv_at hl 1 rfl) ?_
    refine lv_aload_n hx hb d_L_found_5 rfl (lv_at hl 0 rfl) ?_
    refine fx_get hx hb hown (kc_L hK _) hKv 0 (by decide) (hw _ mf_L_10) (fun _ h => h) hX rfl d_L_found_6 ?_
    refine fx_cV (B := (fun H q => H.size ≤ q) s.heap) KT_moved (ct_AL_size w al mc (nI Vs.length) (.ref ar)) hx hfl hK hb (by rw [hml]; exact hl.1) hown (hw _ mm_L_136) (fx_Y.code (hw _ mk_AL_size)) (hw _ mi_AL_size) (hw _ mq_AL_size) (show fx_N y_AL_size 0 by decide +kernel) (va_recv (q0 := 0) hKv (fx_one hO) (show cls[3]? = some (R_AL, T_AL, 3) from rfl) rfl) rfl ⟨Nat.le_of_ble_eq_true rfl, Nat.le_of_ble_eq_true rfl, Nat.le_of_ble_eq_true rfl, Nat.le_of_ble_eq_true rfl⟩ (hO) d_L_found_9 hL (fun q h => h.elim) (fun v H1 locs hq hF hL => ?_) (fun x H1 locs hq hF hL => by cases hq)
    cases hq
    obtain rfl : H1 = s.heap := hF.same (fun _ _ h => h)
    refine W.eq (g2 := F0 m 12 ls [.int (nI Vs.length), .int v]) rfl ?_
    refine lv_icmp_lt (tgt := 25) hx hb d_L_found_12 rfl (fun h12 => ?_) (fun h12 => ?_)
    · obtain ⟨j, hj1, ej⟩ := nI_of h1
      subst ej
      have hj : j < Vs.length := (nI_ltI hj1 (by omega)).mp h12
      have hg : Vs[j]? = some Vs[j] := List.getElem?_eq_getElem hj
      have hat : sv_at Vs (nI j) = some Vs[j] := (sv_at_in hj1).trans hg
      obtain ⟨hok, b, hfb, e1, y1, hVo, hVr⟩ := hVs j _ hg
      have hV : cV w F al ar b Vs[j] s.heap := ⟨e1, y1, hVo, hVr⟩
      obtain ⟨hr0, hr1, hQ⟩ : 0 < cap ∧ w.H0.size ≤ ar ∧ cQ w ar cap f s.heap := by rcases hR with ⟨-, e2⟩ | h2; exact absurd e2 (by omega); exact h2
      have hl : lv_has ls 2 [(0, .ref x), (1, .int (nI j))] := hl
      refine lv_aload_n hx hb d_L_found_25 rfl (lv_at hl 0 rfl) ?_
      refine fx_get hx hb hown (kc_L hK _) hKv 0 (by decide) (hw _ mf_L_10) (fun _ h => h) hX rfl d_L_found_26 ?_
      refine lv_iload_n hx hb d_L_found_29 rfl (lv_at hl 1 rfl) ?_
      refine fx_cV (B := (fun H q => H.size ≤ q) s.heap) KT_moved (ct_AL_get w al ar Vs.length cap b j mc f hj hfb hn1 hn2) hx hfl hK hb (by rw [hml]; exact hl.1) hown (hw _ mm_L_142) (fx_Y.code (hw _ mk_AL_get)) (hw _ mi_AL_get) (hw _ mq_AL_get) (show fx_N y_AL_get 1 by decide +kernel) (va_recv (q0 := 0) hKv (fx_one hO) (show cls[3]? = some (R_AL, T_AL, 3) from rfl) rfl) rfl ⟨Nat.le_of_ble_eq_true rfl, Nat.le_of_ble_eq_true rfl, Nat.le_of_ble_eq_true rfl, Nat.le_of_ble_eq_true rfl⟩ (⟨hO, hQ⟩) d_L_found_30 hL (fun q h => h.elim) (fun v H1 locs hq hF hL => ?_) (fun x H1 locs hq hF hL => by cases hq)
      cases hq
      obtain rfl : H1 = s.heap := hF.same (fun _ _ h => h)
      refine W.eq (g2 := F0 m 33 ls [.ref b]) rfl ?_
      refine va_castY hx hb hown (hw _ mc_L_31) (hK.2.2.2.2.1.1 (R_V, R_V) (by decide)) (va_recv (q0 := 0) hKv (fx_one hVo) (show cls[1]? = some (R_V, T_V, 4) from rfl) rfl) d_L_found_33 ?_
      exact fx_aret hx hb hr (Or.inl ⟨_, rfl⟩) (Or.inr ⟨_, rfl⟩) hlk hL (Nat.le_of_ble_eq_true rfl) (Nat.le_of_ble_eq_true rfl) d_L_found_36 (⟨fun z => (by rw [hat] at z; cases z), fun u hu => by rw [hat] at hu; cases hu; exact ⟨b, rfl, hV, hok⟩⟩)
    · have hat := sv_at_big h1 hn3 h12
      exact fx_throw (xc_IAE w) hx hfl hK hLow hb (by rw [hml]; exact hl.1) hown (hw _ mc_L_20) (hw _ mn_IllegalArgumentException) (show (140, "no such version") ∈ kstr by decide) hnt hlk hL (Nat.le_refl _) ⟨Nat.le_of_ble_eq_true rfl, Nat.le_of_ble_eq_true rfl, Nat.le_of_ble_eq_true rfl, Nat.le_of_ble_eq_true rfl⟩ (Nat.le_of_ble_eq_true rfl) (Nat.le_of_ble_eq_true rfl) hL d_L_found_15 d_L_found_18 d_L_found_19 d_L_found_21 d_L_found_24 (fun x H' h7 hx1 h9 => have hxc : xcp w 0 x H' := h9.x hK (by decide); ⟨fun _ => ⟨x, rfl, hxc⟩, fun u hu => by rw [hat] at hu; cases hu⟩)
