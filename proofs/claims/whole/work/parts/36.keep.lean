/-! foundOfKind, foundButNoMap, keep. -/
abbrev rmN (k c n : Nat) : Room := { frames := k, cells := c, slots := n, locals := 40 * k }
theorem kf_op {α : Type} (o : Option α) : o = none ∨ ∃ u, o = some u := by
  cases o with
  | none => exact Or.inl rfl
  | some u => exact Or.inr ⟨u, rfl⟩
theorem cV.mv {w : Wd} {F : Nat → Prop} {al ar ar' b mc : Nat} {o : sV} {H H' : Heap} (h : cV w F al ar b o H) (hF : fx_F (fun q => q = al ∨ (q = ar ∧ w.H0.size ≤ ar) ∨ H.size ≤ q) mc H H') (h6 : ar' = ar ∨ H.size ≤ ar') : cV w F al ar' b o H' := by
  obtain ⟨e, y, h1, h2, h3, n1, n2, n3⟩ := h
  have kp : ∀ q : Nat, q < H.size → cN F al ar q → H'[q]? = H[q]? := fun q hq hn => hF.2.2 q hq (fun z => z.elim hn.2.1 (fun z => z.elim (fun z => hn.2.2 z.1) (fun z => absurd hq (Nat.not_lt.mpr z))))
  have nn : ∀ q : Nat, q < H.size → cN F al ar q → cN F al ar' q := fun q hq hn => ⟨hn.1, hn.2.1, fun z => h6.elim (fun e => hn.2.2 (z.trans e)) (fun g => absurd hq (Nat.not_lt.mpr (by rw [z]; exact g)))⟩
  exact ⟨e, y, h1.kept (kp _ h1.lt n1), h2.kept (kp _ h2.lt n2), h3.kept (kp _ h3.lt n3), nn _ h1.lt n1, nn _ h2.lt n2, nn _ h3.lt n3⟩
theorem cS_add {w : Wd} {F : Nat → Prop} {x al ar ar' b mc cap' : Nat} {Vs : List sV} {o : sV} {H H' : Heap} {mc' : Int32} {f f' : Nat → Option Nat} (hLow : Low w H) (hFz : ∀ q, F q → q < H.size) (hNx : cN F al ar x) (hX : va_at w.D cls (x, .inr (0, [.ref al])) H) (hAl : w.H0.size ≤ al ∧ ¬ F al ∧ al ≠ ar) (hFr : w.H0.size ≤ ar → ¬ F ar) (hlen : Vs.length ≤ 63)
    (hVs : ∀ i o, Vs[i]? = some o → sv_ok o ∧ ∃ b, f i = some b ∧ cV w F al ar b o H) (hV : cV w F al ar b o H) (hok : sv_ok o) (hF : fx_F (fun q => q = al ∨ (q = ar ∧ w.H0.size ≤ ar) ∨ H.size ≤ q) mc H H') (h1 : cO w al [.int mc', .ref ar', .int (nI (Vs.length + 1))] H') (h2 : cQ w ar' cap' f' H') (h3 : Vs.length < cap') (h4 : cap' ≤ 200) (h5 : w.H0.size ≤ ar') (h6 : ar' = ar ∨ H.size ≤ ar') (h7 : al ≠ ar') (h8 : f' Vs.length = some b) (h9 : ∀ j, j < Vs.length → f' j = f j) : cS w F x al ar' (Vs ++ [o]) H' := by
  have hl : (Vs ++ [o]).length = Vs.length + 1 := by simp
  have hxl := hX.lt
  refine ⟨hLow.F hF (fun q hq z => z.elim (fun z => absurd hq (Nat.not_lt.mpr (by rw [z]; exact hAl.1))) (fun z => z.elim (fun z => absurd hq (Nat.not_lt.mpr (by rw [z.1]; exact z.2))) (fun z => absurd (Nat.lt_of_lt_of_le hq hLow.1) (Nat.not_lt.mpr z)))), fun q hq => Nat.lt_of_lt_of_le (hFz q hq) hF.1, ⟨hNx.1, hNx.2.1, fun z => h6.elim (fun e => hNx.2.2 (z.trans e)) (fun g => absurd hxl (Nat.not_lt.mpr (by show H.size ≤ x; rw [z]; exact g)))⟩,
    hX.kept (hF.2.2 x hxl (fun z => z.elim hNx.2.1 (fun z => z.elim (fun z => hNx.2.2 z.1) (fun z => absurd hxl (Nat.not_lt.mpr z))))), ⟨hAl.1, hAl.2.1, h7⟩, cap', mc', f', by rw [hl]; exact h1, Or.inr ⟨by omega, h5, h2⟩, fun _ z => h6.elim (fun e => hFr (by rw [← e]; exact h5) (by rw [← e]; exact z)) (fun g => absurd (hFz _ z) (Nat.not_lt.mpr g)), by rw [hl]; omega, h4, by rw [hl]; omega, fun i u hi => ?_⟩
  by_cases hc : i < Vs.length
  · rw [List.getElem?_append_left hc] at hi
    obtain ⟨k1, b1, k2, k3⟩ := hVs i u hi
    exact ⟨k1, b1, (h9 i hc).trans k2, k3.mv hF h6⟩
  · rw [List.getElem?_append_right (Nat.not_lt.mp hc)] at hi
    have hi0 : i - Vs.length < 1 := (List.getElem?_eq_some_iff.mp hi).1
    have ei : i = Vs.length := by omega
    rw [show i - Vs.length = 0 by omega] at hi
    cases hi
    rw [ei]
    exact ⟨hok, b, h8, hV.mv hF h6⟩
set_option maxHeartbeats 4000000 in
set_option maxRecDepth 100000 in
theorem ct_L_foundOfKind (w : Wd) (F : Nat → Prop) (x al ar : Nat) (Vs : List sV) (v k : Int32) : fx_C (KT w) y_L_foundOfKind 4 (rmN 7 2 12) [.ref x, .int v, .int k] (fun H => cS w F x al ar Vs H) (fun H o H' => ((∀ u, sv_at Vs v = some u → ¬ u.1 = k) → ∃ y, o = .threw y ∧ xcp w 0 y H') ∧ ∀ u, sv_at Vs v = some u → u.1 = k → ∃ b, o = .returned (some (.ref b)) ∧ cV w F al ar b u H' ∧ sv_ok u) (fun H q => H.size ≤ q) := by
  refine fx_of (ret := (some ((FieldType.object "LastingShapes$Version")))) (cc := b_L_foundOfKind) (fun s hK => hK.1 _ mk_L_foundOfKind _) (Nat.le_of_ble_eq_true rfl) ?_
  intro p l e s m below meth c hx hfl hK hb hml hr hlk hnt hown hin hpre ls hl
  have hw : ∀ z ∈ gw, z.before ([.ref x, .int v, .int k] : List Value).toArray s = true := fun z hz => hK.1 z hz _
  have hKv := hK.2.1
  have hL : ∀ q ∈ ([] : List Loc), (fun H q => H.size ≤ q) s.heap q.base := fun q hq => by cases hq
  have hS := hpre
  have hLow := hS.1
  have hl : lv_has ls 4 [(0, .ref x), (1, .int v), (2, .int k)] := hl
  rcases kf_op (sv_at Vs v) with hat | ⟨u, hat⟩
  · refine lv_aload_n hx hb d_L_foundOfKind_0 rfl (lv_at hl 0 rfl) ?_
    refine lv_iload_n hx hb d_L_foundOfKind_1 rfl (lv_at hl 1 rfl) ?_
    refine fx_cV (B := (fun H q => H.size ≤ q) s.heap) KT_moved (ct_L_found w F x al ar Vs v) hx hfl hK hb (by rw [hml]; exact hl.1) hown (hw _ mm_L_69) (fx_Y.code (hw _ mk_L_found)) (hw _ mi_L_found) (hw _ mq_L_found) (show fx_N y_L_found 1 by decide +kernel) (va_recv (q0 := 0) hKv (fx_one hS.2.2.2.1) (show cls[0]? = some (R_L, T_L, 1) from rfl) rfl) rfl ⟨Nat.le_of_ble_eq_true rfl, Nat.le_of_ble_eq_true rfl, Nat.le_of_ble_eq_true rfl, Nat.le_of_ble_eq_true rfl⟩ (hS) d_L_foundOfKind_2 hL (fun q h => h) (fun v H1 locs hq hF hL => ?_) (fun xx H1 locs hq hF hL => by obtain ⟨y0, hv, hxc⟩ := hq.1 hat; cases hv; exact fx_out rfl rfl rfl hnt hlk hL (Nat.le_of_ble_eq_true rfl) (Nat.le_of_ble_eq_true rfl) (⟨fun _ => ⟨_, rfl, hxc⟩, fun u hu => by rw [hat] at hu; cases hu⟩))
    obtain ⟨y0, hv, -⟩ := hq.1 hat
    cases hv
  · refine lv_aload_n hx hb d_L_foundOfKind_0 rfl (lv_at hl 0 rfl) ?_
    refine lv_iload_n hx hb d_L_foundOfKind_1 rfl (lv_at hl 1 rfl) ?_
    refine fx_cV (B := (fun H q => H.size ≤ q) s.heap) KT_moved (ct_L_found w F x al ar Vs v) hx hfl hK hb (by rw [hml]; exact hl.1) hown (hw _ mm_L_69) (fx_Y.code (hw _ mk_L_found)) (hw _ mi_L_found) (hw _ mq_L_found) (show fx_N y_L_found 1 by decide +kernel) (va_recv (q0 := 0) hKv (fx_one hS.2.2.2.1) (show cls[0]? = some (R_L, T_L, 1) from rfl) rfl) rfl ⟨Nat.le_of_ble_eq_true rfl, Nat.le_of_ble_eq_true rfl, Nat.le_of_ble_eq_true rfl, Nat.le_of_ble_eq_true rfl⟩ (hS) d_L_foundOfKind_2 hL (fun q h => h) (fun v H1 locs hq hF hL => ?_) (fun xx H1 locs hq hF hL => by obtain ⟨b, hv, -⟩ := hq.2 u hat; cases hv)
    obtain ⟨b, hv, ⟨e1, y1, hVo, hVr⟩, hok⟩ := hq.2 u hat
    cases hv
    have hx1 : fx_Ex s.heap H1 := hF.ex (fun q h => Nat.not_le.mpr h)
    have hS := hS.ex hx1
    have hV : cV w F al ar b u H1 := ⟨e1, y1, hVo, hVr⟩
    refine W.eq (g2 := F0 m 5 ls [.ref b]) rfl ?_
    refine lv_astore_n hx hb d_L_foundOfKind_5 rfl hl (by decide) rfl (fun ls hl => ?_)
    have hl : lv_has ls 4 [(3, .ref b), (0, .ref x), (1, .int v), (2, .int k)] := hl
    refine lv_aload_n hx hb d_L_foundOfKind_6 rfl (lv_at hl 0 rfl) ?_
    refine fx_getN hx hb hown (kc_V hK _) hKv 0 (by decide) ((nl_L_78 hK _)) (fun _ h => h) hVo rfl d_L_foundOfKind_7 ?_
    refine lv_iload_n hx hb d_L_foundOfKind_10 rfl (lv_at hl 3 rfl) ?_
    refine lv_icmp_eq (tgt := 24) hx hb d_L_foundOfKind_11 rfl (fun h11 => ?_) (fun h11 => ?_)
    · refine lv_aload_n hx hb d_L_foundOfKind_24 rfl (lv_at hl 0 rfl) ?_
      exact fx_aret hx hb hr (Or.inl ⟨_, rfl⟩) (Or.inr ⟨_, rfl⟩) hlk hL (Nat.le_of_ble_eq_true rfl) (Nat.le_of_ble_eq_true rfl) d_L_foundOfKind_25 (⟨fun z => absurd h11 (z u hat), fun u0 hu hP => by rw [hat] at hu; cases hu; exact ⟨b, rfl, hV, hok⟩⟩)
    · exact fx_throw (xc_IAE w) hx hfl hK hLow hb (by rw [hml]; exact hl.1) hown (hw _ mc_L_20) (hw _ mn_IllegalArgumentException) (show (146, "the version is of another kind") ∈ kstr by decide) hnt hlk hL (hx1.1) ⟨Nat.le_of_ble_eq_true rfl, Nat.le_of_ble_eq_true rfl, Nat.le_of_ble_eq_true rfl, Nat.le_of_ble_eq_true rfl⟩ (Nat.le_of_ble_eq_true rfl) (Nat.le_of_ble_eq_true rfl) hL d_L_foundOfKind_14 d_L_foundOfKind_17 d_L_foundOfKind_18 d_L_foundOfKind_20 d_L_foundOfKind_23 (fun xx H' h7 hx1 h9 => have hxc : xcp w 0 xx H' := h9.x hK (by decide); ⟨fun _ => ⟨xx, rfl, hxc⟩, fun u0 hu hP => by rw [hat] at hu; cases hu; exact absurd hP h11⟩)
set_option maxHeartbeats 4000000 in
set_option maxRecDepth 100000 in
theorem ct_L_foundButNoMap (w : Wd) (F : Nat → Prop) (x al ar : Nat) (Vs : List sV) (v : Int32) : fx_C (KT w) y_L_foundButNoMap 3 (rmN 7 2 12) [.ref x, .int v] (fun H => cS w F x al ar Vs H) (fun H o H' => ((∀ u, sv_at Vs v = some u → ¬ ¬ u.1 = 3) → ∃ y, o = .threw y ∧ xcp w 0 y H') ∧ ∀ u, sv_at Vs v = some u → ¬ u.1 = 3 → ∃ b, o = .returned (some (.ref b)) ∧ cV w F al ar b u H' ∧ sv_ok u) (fun H q => H.size ≤ q) := by
  refine fx_of (ret := (some ((FieldType.object "LastingShapes$Version")))) (cc := b_L_foundButNoMap) (fun s hK => hK.1 _ mk_L_foundButNoMap _) (Nat.le_of_ble_eq_true rfl) ?_
  intro p l e s m below meth c hx hfl hK hb hml hr hlk hnt hown hin hpre ls hl
  have hw : ∀ z ∈ gw, z.before ([.ref x, .int v] : List Value).toArray s = true := fun z hz => hK.1 z hz _
  have hKv := hK.2.1
  have hL : ∀ q ∈ ([] : List Loc), (fun H q => H.size ≤ q) s.heap q.base := fun q hq => by cases hq
  have hS := hpre
  have hLow := hS.1
  have hl : lv_has ls 3 [(0, .ref x), (1, .int v)] := hl
  rcases kf_op (sv_at Vs v) with hat | ⟨u, hat⟩
  · refine lv_aload_n hx hb d_L_foundButNoMap_0 rfl (lv_at hl 0 rfl) ?_
    refine lv_iload_n hx hb d_L_foundButNoMap_1 rfl (lv_at hl 1 rfl) ?_
    refine fx_cV (B := (fun H q => H.size ≤ q) s.heap) KT_moved (ct_L_found w F x al ar Vs v) hx hfl hK hb (by rw [hml]; exact hl.1) hown (hw _ mm_L_69) (fx_Y.code (hw _ mk_L_found)) (hw _ mi_L_found) (hw _ mq_L_found) (show fx_N y_L_found 1 by decide +kernel) (va_recv (q0 := 0) hKv (fx_one hS.2.2.2.1) (show cls[0]? = some (R_L, T_L, 1) from rfl) rfl) rfl ⟨Nat.le_of_ble_eq_true rfl, Nat.le_of_ble_eq_true rfl, Nat.le_of_ble_eq_true rfl, Nat.le_of_ble_eq_true rfl⟩ (hS) d_L_foundButNoMap_2 hL (fun q h => h) (fun v H1 locs hq hF hL => ?_) (fun xx H1 locs hq hF hL => by obtain ⟨y0, hv, hxc⟩ := hq.1 hat; cases hv; exact fx_out rfl rfl rfl hnt hlk hL (Nat.le_of_ble_eq_true rfl) (Nat.le_of_ble_eq_true rfl) (⟨fun _ => ⟨_, rfl, hxc⟩, fun u hu => by rw [hat] at hu; cases hu⟩))
    obtain ⟨y0, hv, -⟩ := hq.1 hat
    cases hv
  · refine lv_aload_n hx hb d_L_foundButNoMap_0 rfl (lv_at hl 0 rfl) ?_
    refine lv_iload_n hx hb d_L_foundButNoMap_1 rfl (lv_at hl 1 rfl) ?_
    refine fx_cV (B := (fun H q => H.size ≤ q) s.heap) KT_moved (ct_L_found w F x al ar Vs v) hx hfl hK hb (by rw [hml]; exact hl.1) hown (hw _ mm_L_69) (fx_Y.code (hw _ mk_L_found)) (hw _ mi_L_found) (hw _ mq_L_found) (show fx_N y_L_found 1 by decide +kernel) (va_recv (q0 := 0) hKv (fx_one hS.2.2.2.1) (show cls[0]? = some (R_L, T_L, 1) from rfl) rfl) rfl ⟨Nat.le_of_ble_eq_true rfl, Nat.le_of_ble_eq_true rfl, Nat.le_of_ble_eq_true rfl, Nat.le_of_ble_eq_true rfl⟩ (hS) d_L_foundButNoMap_2 hL (fun q h => h) (fun v H1 locs hq hF hL => ?_) (fun xx H1 locs hq hF hL => by obtain ⟨b, hv, -⟩ := hq.2 u hat; cases hv)
    obtain ⟨b, hv, ⟨e1, y1, hVo, hVr⟩, hok⟩ := hq.2 u hat
    cases hv
    have hx1 : fx_Ex s.heap H1 := hF.ex (fun q h => Nat.not_le.mpr h)
    have hS := hS.ex hx1
    have hV : cV w F al ar b u H1 := ⟨e1, y1, hVo, hVr⟩
    refine W.eq (g2 := F0 m 5 ls [.ref b]) rfl ?_
    refine lv_astore_n hx hb d_L_foundButNoMap_5 rfl hl (by decide) rfl (fun ls hl => ?_)
    have hl : lv_has ls 3 [(2, .ref b), (0, .ref x), (1, .int v)] := hl
    refine lv_aload_n hx hb d_L_foundButNoMap_6 rfl (lv_at hl 0 rfl) ?_
    refine fx_getN hx hb hown (kc_V hK _) hKv 0 (by decide) ((nl_L_78 hK _)) (fun _ h => h) hVo rfl d_L_foundButNoMap_7 ?_
    refine lv_iconst (v := nI 3) hx hb d_L_foundButNoMap_10 rfl ?_
    refine lv_icmp_ne (tgt := 24) hx hb d_L_foundButNoMap_11 rfl (fun h11 => ?_) (fun h11 => ?_)
    · refine lv_aload_n hx hb d_L_foundButNoMap_24 rfl (lv_at hl 0 rfl) ?_
      exact fx_aret hx hb hr (Or.inl ⟨_, rfl⟩) (Or.inr ⟨_, rfl⟩) hlk hL (Nat.le_of_ble_eq_true rfl) (Nat.le_of_ble_eq_true rfl) d_L_foundButNoMap_25 (⟨fun z => absurd h11 (z u hat), fun u0 hu hP => by rw [hat] at hu; cases hu; exact ⟨b, rfl, hV, hok⟩⟩)
    · exact fx_throw (xc_IAE w) hx hfl hK hLow hb (by rw [hml]; exact hl.1) hown (hw _ mc_L_20) (hw _ mn_IllegalArgumentException) (show (148, "the version is a map") ∈ kstr by decide) hnt hlk hL (hx1.1) ⟨Nat.le_of_ble_eq_true rfl, Nat.le_of_ble_eq_true rfl, Nat.le_of_ble_eq_true rfl, Nat.le_of_ble_eq_true rfl⟩ (Nat.le_of_ble_eq_true rfl) (Nat.le_of_ble_eq_true rfl) hL d_L_foundButNoMap_14 d_L_foundButNoMap_17 d_L_foundButNoMap_18 d_L_foundButNoMap_20 d_L_foundButNoMap_23 (fun xx H' h7 hx1 h9 => have hxc : xcp w 0 xx H' := h9.x hK (by decide); ⟨fun _ => ⟨xx, rfl, hxc⟩, fun u0 hu hP => by rw [hat] at hu; cases hu; exact absurd h11 hP⟩)
set_option maxHeartbeats 4000000 in
set_option maxRecDepth 100000 in
theorem ct_L_keep (w : Wd) (F : Nat → Prop) (x al ar : Nat) (Vs : List sV) (b : Nat) (o : sV) (hlen : Vs.length ≤ 63) (hok : sv_ok o) : fx_C (KT w) y_L_keep 2 (rmG 8) [.ref x, .ref b] (fun H => cS w F x al ar Vs H ∧ cV w F al ar b o H) (fun H r H' => r = .returned (some (.int (nI Vs.length))) ∧ ∃ ar', cS w F x al ar' (Vs ++ [o]) H') (fun H q => q = al ∨ (q = ar ∧ w.H0.size ≤ ar) ∨ H.size ≤ q) := by
  refine fx_of (ret := (some (FieldType.int))) (cc := b_L_keep) (fun s hK => hK.1 _ mk_L_keep _) (Nat.le_of_ble_eq_true rfl) ?_
  intro p l e s m below meth c hx hfl hK hb hml hr hlk hnt hown hin hpre ls hl
  have hw : ∀ z ∈ gw, z.before ([.ref x, .ref b] : List Value).toArray s = true := fun z hz => hK.1 z hz _
  have hKv := hK.2.1
  have hL : ∀ q ∈ ([] : List Loc), (fun H q => q = al ∨ (q = ar ∧ w.H0.size ≤ ar) ∨ H.size ≤ q) s.heap q.base := fun q hq => by cases hq
  obtain ⟨⟨hLow, hFz, hNx, hX, hAl, cap, mc, f, hO, hR, hFr, hn1, hn2, hn3, hVs⟩, hV⟩ := hpre
  obtain ⟨e1, y1, hVo, hVr⟩ := hV
  have hV : cV w F al ar b o s.heap := ⟨e1, y1, hVo, hVr⟩
  have hE2 : ∀ z, z < Vs.length → ∀ y : Nat, f z = some y → ∃ u, cV w F al ar y u s.heap := fun z hz y hy => by obtain ⟨-, b1, k2, k3⟩ := hVs z _ (List.getElem?_eq_getElem hz); rw [hy] at k2; cases k2; exact ⟨_, k3⟩
  have hE : cE w Vs.length f s.heap := fun z hz y hy => by obtain ⟨u, e2, y2, k3, -⟩ := hE2 z hz y hy; exact ⟨_, k3⟩
  have hEa : ∀ z, z < Vs.length → ∀ y : Nat, f z = some y → y ≠ al := fun z hz y hy => by obtain ⟨u, e2, y2, -, -, -, k3, -⟩ := hE2 z hz y hy; exact k3.2.1
  have hxl := hX.lt
  have hl : lv_has ls 2 [(0, .ref x), (1, .ref b)] := hl
  refine lv_aload_n hx hb d_L_keep_0 rfl (lv_at hl 0 rfl) ?_
  refine fx_get hx hb hown (kc_L hK _) hKv 0 (by decide) (hw _ mf_L_10) (fun _ h => h) hX rfl d_L_keep_1 ?_
  refine lv_aload_n hx hb d_L_keep_4 rfl (lv_at hl 1 rfl) ?_
  refine fx_cV (B := (fun H q => q = al ∨ (q = ar ∧ w.H0.size ≤ ar) ∨ H.size ≤ q) s.heap) KT_moved (ct_AL_add w al b ar Vs.length cap mc f _ hlen hn1 hn2 hAl.1 hAl.2.2 hVr.2.2.1.2.1 hEa) hx hfl hK hb (by rw [hml]; exact hl.1) hown (hw _ mm_L_157) (fx_Y.code (hw _ mk_AL_add)) (hw _ mi_AL_add) (hw _ mq_AL_add) (show fx_N y_AL_add 1 by decide +kernel) (va_recv (q0 := 0) hKv (fx_one hO) (show cls[3]? = some (R_AL, T_AL, 3) from rfl) rfl) rfl ⟨Nat.le_of_ble_eq_true rfl, Nat.le_of_ble_eq_true rfl, Nat.le_of_ble_eq_true rfl, Nat.le_of_ble_eq_true rfl⟩ (⟨hLow, hO, hR, hE, hVo⟩) d_L_keep_5 hL (fun q h => h) (fun v H1 locs hq hF hL => ?_) (fun x H1 locs hq hF hL => by obtain ⟨q, k, f1, hv, -⟩ := hq; cases hv)
  obtain ⟨ar', cap', f', hv, hO, hQ, k1, k2, k3, k4, k5, k6, k7⟩ := hq
  cases hv
  have hS := cS_add hLow hFz hNx hX hAl hFr hlen hVs hV hok hF hO hQ k1 k2 k3 k4 k5 k6 k7
  have hX := hS.2.2.2.1
  refine W.eq (g2 := F0 m 8 ls [.int 1]) rfl ?_
  refine lv_pop hx hb d_L_keep_8 rfl ?_
  refine lv_aload_n hx hb d_L_keep_9 rfl (lv_at hl 0 rfl) ?_
  refine fx_get hx hb hown (kc_L hK _) hKv 0 (by decide) (hw _ mf_L_10) (fun _ h => h) hX rfl d_L_keep_10 ?_
  refine fx_cV (B := (fun H q => q = al ∨ (q = ar ∧ w.H0.size ≤ ar) ∨ H.size ≤ q) s.heap) KT_moved (ct_AL_size w al (mc + nI 1) (nI (Vs.length + 1)) (.ref ar')) hx hfl hK hb (by rw [hml]; exact hl.1) hown (hw _ mm_L_136) (fx_Y.code (hw _ mk_AL_size)) (hw _ mi_AL_size) (hw _ mq_AL_size) (show fx_N y_AL_size 0 by decide +kernel) (va_recv (q0 := 0) hKv (fx_one hO) (show cls[3]? = some (R_AL, T_AL, 3) from rfl) rfl) rfl ⟨Nat.le_of_ble_eq_true rfl, Nat.le_of_ble_eq_true rfl, Nat.le_of_ble_eq_true rfl, Nat.le_of_ble_eq_true rfl⟩ (hO) d_L_keep_13 hL (fun q h => h.elim) (fun v H2 locs hq hF hL => ?_) (fun x H2 locs hq hF hL => by cases hq)
  cases hq
  obtain rfl : H2 = H1 := hF.same (fun _ _ h => h)
  refine W.eq (g2 := F0 m 16 ls [.int (nI (Vs.length + 1))]) rfl ?_
  refine lv_iconst (v := nI 1) hx hb d_L_keep_16 rfl ?_
  refine lv_isub hx hb d_L_keep_17 ?_
  refine fx_ti (y := nI Vs.length) (nI_pred _) ?_
  exact fx_iret hx hb hr hlk hL (Nat.le_of_ble_eq_true rfl) (Nat.le_of_ble_eq_true rfl) d_L_keep_18 (⟨rfl, ar', hS⟩)
