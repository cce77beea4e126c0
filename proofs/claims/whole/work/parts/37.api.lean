/-! The class's public methods: each answers as the list of versions asks, or throws, and leaves the list so. -/
def cT (w : Wd) (F : Nat → Prop) (x al : Nat) (Vs : List sV) (H : Heap) : Prop := ∃ ar, cS w F x al ar Vs H
def cEnd (w : Wd) (F : Nat → Prop) (x al : Nat) (ec : Nat → Nat) (R : sR) (_ : Heap) (o : Outcome) (H' : Heap) : Prop := cT w F x al R.2.2 H' ∧ ((R.1 = 0 ∧ o = .returned (some (.int R.2.1))) ∨ (¬ R.1 = 0 ∧ ∃ y, o = .threw y ∧ xcp w (ec R.1) y H'))
theorem cEnd.t {w : Wd} {F : Nat → Prop} {x al ar y c i : Nat} {ec : Nat → Nat} {R : sR} {z : Int32} {Vs : List sV} {H H' : Heap} (hR : R = (c, z, Vs)) (hc : ¬ c = 0) (hS : cS w F x al ar Vs H') (hi : ec c = i) (hx : xcp w i y H') : cEnd w F x al ec R H (.threw y) H' := by
  subst hR
  exact ⟨⟨ar, hS⟩, Or.inr ⟨hc, y, rfl, by show xcp w (ec c) y H'; rw [hi]; exact hx⟩⟩
theorem cEnd.r {w : Wd} {F : Nat → Prop} {x al ar : Nat} {ec : Nat → Nat} {R : sR} {z v : Int32} {Vs : List sV} {H H' : Heap} (hR : R = (0, z, Vs)) (hS : cS w F x al ar Vs H') (hv : v = z) : cEnd w F x al ec R H (.returned (some (.int v))) H' := by
  subst hR
  exact ⟨⟨ar, hS⟩, Or.inl ⟨rfl, by rw [hv]⟩⟩
theorem kE0 {w : Wd} {s : State} (hK : KT w s) : w.E0 < w.H0.size := by
  obtain ⟨cell, h, -⟩ := kTE hK
  exact (Array.getElem?_eq_some_iff.mp h).1
theorem cS.fr {w : Wd} {F : Nat → Prop} {x al ar : Nat} {Vs : List sV} {H : Heap} (hS : cS w F x al ar Vs H) (hE : w.E0 < w.H0.size) {q : Nat} (hq : H.size ≤ q) : cN F al ar q := by
  obtain ⟨h1, h2, h3, h4, h5, cap, mc, f, h6, h7, h8⟩ := hS
  have hal := h6.lt
  refine ⟨fun z => absurd (h2 q z) (Nat.not_lt.mpr hq), fun z => absurd hal (Nat.not_lt.mpr (by rw [← z]; exact hq)), fun z => ?_⟩
  rcases h7 with ⟨e, -⟩ | ⟨-, -, e⟩
  · have := h1.1; omega
  · have := e.lt; exact absurd this (Nat.not_lt.mpr (by rw [← z]; exact hq))
theorem cS.api {w : Wd} {F : Nat → Prop} {x al ar : Nat} {Vs : List sV} {H : Heap} (hS : cS w F x al ar Vs H) {q : Nat} (h : q = al ∨ (q = ar ∧ w.H0.size ≤ ar) ∨ H.size ≤ q) : w.H0.size ≤ q ∧ ¬ F q := by
  obtain ⟨h1, h2, h3, h4, h5, cap, mc, f, h6, h7, h8, -⟩ := hS
  rcases h with h | h | h
  · rw [h]; exact ⟨h5.1, h5.2.1⟩
  · rw [h.1]; exact ⟨h.2, h8 h.2⟩
  · exact ⟨Nat.le_trans h1.1 h, fun z => absurd (h2 q z) (Nat.not_lt.mpr h)⟩
def ecx (a b : Nat) : Nat → Nat := fun k => if k = 1 then 0 else if k = 2 then a else b
theorem so_no {α : Type} {P : sV → Prop} {Vs : List sV} {v : Int32} {d : α} {g : sV → α} (h : ∀ u, sv_at Vs v = some u → ¬ P u) (hg : ∀ u, ¬ P u → g u = d) : (match sv_at Vs v with | none => d | some o => g o) = d := by
  rcases kf_op (sv_at Vs v) with e | ⟨u, e⟩
  · rw [e]
  · rw [e]; exact hg u (h u e)
set_option maxHeartbeats 4000000 in
set_option maxRecDepth 100000 in
theorem ct_L_size (w : Wd) (F : Nat → Prop) (x al : Nat) (Vs : List sV) (v : Int32) : fx_C (KT w) y_L_size 2 (rmN 9 8 700) [.ref x, .int v] (fun H => cT w F x al Vs H) (cEnd w F x al (ecx 0 0) (so_size Vs v)) (fun _ q => w.H0.size ≤ q ∧ ¬ F q) := by
  refine fx_of (ret := (some (FieldType.int))) (cc := b_L_size) (fun s hK => hK.1 _ mk_L_size _) (Nat.le_of_ble_eq_true rfl) ?_
  intro p l e s m below meth c hx hfl hK hb hml hr hlk hnt hown hin hpre ls hl
  have hw : ∀ z ∈ gw, z.before ([.ref x, .int v] : List Value).toArray s = true := fun z hz => hK.1 z hz _
  have hKv := hK.2.1
  have hL : ∀ q ∈ ([] : List Loc), (fun H q => H.size ≤ q) s.heap q.base := fun q hq => by cases hq
  obtain ⟨ar, hS⟩ := hpre
  have hLow := hS.1
  have hS0 := hS
  have hx1 : fx_Ex s.heap s.heap := fx_Ex.rf
  have hfr : ∀ q, s.heap.size ≤ q → (fun _ q => w.H0.size ≤ q ∧ ¬ F q) s.heap q := fun q hq => ⟨Nat.le_trans hLow.1 hq, fun z => absurd (hS0.2.1 q z) (Nat.not_lt.mpr hq)⟩
  have hfn : ∀ q, s.heap.size ≤ q → cN F al ar q := fun q hq => hS0.fr (kE0 hK) hq
  have hVl : Vs.length ≤ 64 := by obtain ⟨-, -, -, -, -, cap, mc, f, -, -, -, -, -, h, -⟩ := hS0; exact h
  have hl : lv_has ls 2 [(0, .ref x), (1, .int v)] := hl
  refine lv_aload_n hx hb d_L_size_0 rfl (lv_at hl 0 rfl) ?_
  refine lv_iload_n hx hb d_L_size_1 rfl (lv_at hl 1 rfl) ?_
  rcases kf_op (sv_at Vs v) with hat | ⟨u, hat⟩
  · refine fx_cV (B := (fun H q => H.size ≤ q) s.heap) KT_moved (ct_L_found w F x al ar Vs v) hx hfl hK hb (by rw [hml]; exact hl.1) hown (hw _ mm_L_69) (fx_Y.code (hw _ mk_L_found)) (hw _ mi_L_found) (hw _ mq_L_found) (show fx_N y_L_found 1 by decide +kernel) (va_recv (q0 := 0) hKv (fx_one hS.2.2.2.1) (show cls[0]? = some (R_L, T_L, 1) from rfl) rfl) rfl ⟨Nat.le_of_ble_eq_true rfl, Nat.le_of_ble_eq_true rfl, Nat.le_of_ble_eq_true rfl, Nat.le_of_ble_eq_true rfl⟩ (hS) d_L_size_2 hL (fun q h => (show s.heap.size ≤ q from Nat.le_trans hx1.1 h)) (fun v H1 locs hq hF hL => ?_) (fun xx H1 locs hq hF hL => by obtain ⟨y0, hv, hxc⟩ := hq.1 hat; cases hv; exact fx_out rfl rfl rfl hnt hlk (fun q hq => hfr q.base (hL q hq)) (Nat.le_of_ble_eq_true rfl) (Nat.le_of_ble_eq_true rfl) (cEnd.t (c := 1) (z := 0) (by unfold so_size; rw [hat]) (by decide) (hS.ex (hF.ex (fun q h => Nat.not_le.mpr h))) rfl hxc))
    obtain ⟨y0, hv, -⟩ := hq.1 hat
    cases hv
  · refine fx_cV (B := (fun H q => H.size ≤ q) s.heap) KT_moved (ct_L_found w F x al ar Vs v) hx hfl hK hb (by rw [hml]; exact hl.1) hown (hw _ mm_L_69) (fx_Y.code (hw _ mk_L_found)) (hw _ mi_L_found) (hw _ mq_L_found) (show fx_N y_L_found 1 by decide +kernel) (va_recv (q0 := 0) hKv (fx_one hS.2.2.2.1) (show cls[0]? = some (R_L, T_L, 1) from rfl) rfl) rfl ⟨Nat.le_of_ble_eq_true rfl, Nat.le_of_ble_eq_true rfl, Nat.le_of_ble_eq_true rfl, Nat.le_of_ble_eq_true rfl⟩ (hS) d_L_size_2 hL (fun q h => (show s.heap.size ≤ q from Nat.le_trans hx1.1 h)) (fun v H1 locs hq hF hL => ?_) (fun xx H1 locs hq hF hL => by obtain ⟨b0, hv, -⟩ := hq.2 u hat; cases hv)
    obtain ⟨b, hv, ⟨e1, y1, hVo1, hEl1, hKy1, hNb1, hNe1, hNy1⟩, hok1⟩ := hq.2 u hat
    cases hv
    have hxe : fx_Ex s.heap H1 := hF.ex (fun q h => Nat.not_le.mpr h)
    have hx1 := hx1.tr hxe
    have hS := hS.ex hxe
    have hz1 : u.2.2.1.length ≤ 100 := hok1.1
    have hzk1 : u.2.2.2.length ≤ 100 := hok1.2.2
    refine W.eq (g2 := F0 m 5 ls [.ref b]) rfl ?_
    refine fx_getN hx hb hown (kc_V hK _) hKv 2 (by decide) ((nl_L_44 hK _)) (fun _ h => h) hVo1 rfl d_L_size_5 ?_
    refine fx_alen hx hb hKv 0 hEl1 rfl d_L_size_8 ?_
    exact fx_iret hx hb hr hlk (fun q hq => hfr q.base (hL q hq)) (Nat.le_of_ble_eq_true rfl) (Nat.le_of_ble_eq_true rfl) d_L_size_9 (cEnd.r (by unfold so_size; rw [hat]) hS rfl)
set_option maxHeartbeats 4000000 in
set_option maxRecDepth 100000 in
theorem ct_L_kind (w : Wd) (F : Nat → Prop) (x al : Nat) (Vs : List sV) (v : Int32) : fx_C (KT w) y_L_kind 3 (rmN 9 8 700) [.ref x, .int v] (fun H => cT w F x al Vs H) (cEnd w F x al (ecx 0 0) (so_kind Vs v)) (fun _ q => w.H0.size ≤ q ∧ ¬ F q) := by
  refine fx_of (ret := (some (FieldType.int))) (cc := b_L_kind) (fun s hK => hK.1 _ mk_L_kind _) (Nat.le_of_ble_eq_true rfl) ?_
  intro p l e s m below meth c hx hfl hK hb hml hr hlk hnt hown hin hpre ls hl
  have hw : ∀ z ∈ gw, z.before ([.ref x, .int v] : List Value).toArray s = true := fun z hz => hK.1 z hz _
  have hKv := hK.2.1
  have hL : ∀ q ∈ ([] : List Loc), (fun H q => H.size ≤ q) s.heap q.base := fun q hq => by cases hq
  obtain ⟨ar, hS⟩ := hpre
  have hLow := hS.1
  have hS0 := hS
  have hx1 : fx_Ex s.heap s.heap := fx_Ex.rf
  have hfr : ∀ q, s.heap.size ≤ q → (fun _ q => w.H0.size ≤ q ∧ ¬ F q) s.heap q := fun q hq => ⟨Nat.le_trans hLow.1 hq, fun z => absurd (hS0.2.1 q z) (Nat.not_lt.mpr hq)⟩
  have hfn : ∀ q, s.heap.size ≤ q → cN F al ar q := fun q hq => hS0.fr (kE0 hK) hq
  have hVl : Vs.length ≤ 64 := by obtain ⟨-, -, -, -, -, cap, mc, f, -, -, -, -, -, h, -⟩ := hS0; exact h
  have hl : lv_has ls 3 [(0, .ref x), (1, .int v)] := hl
  refine lv_aload_n hx hb d_L_kind_0 rfl (lv_at hl 0 rfl) ?_
  refine lv_iload_n hx hb d_L_kind_1 rfl (lv_at hl 1 rfl) ?_
  rcases kf_op (sv_at Vs v) with hat | ⟨u, hat⟩
  · refine fx_cV (B := (fun H q => H.size ≤ q) s.heap) KT_moved (ct_L_found w F x al ar Vs v) hx hfl hK hb (by rw [hml]; exact hl.1) hown (hw _ mm_L_69) (fx_Y.code (hw _ mk_L_found)) (hw _ mi_L_found) (hw _ mq_L_found) (show fx_N y_L_found 1 by decide +kernel) (va_recv (q0 := 0) hKv (fx_one hS.2.2.2.1) (show cls[0]? = some (R_L, T_L, 1) from rfl) rfl) rfl ⟨Nat.le_of_ble_eq_true rfl, Nat.le_of_ble_eq_true rfl, Nat.le_of_ble_eq_true rfl, Nat.le_of_ble_eq_true rfl⟩ (hS) d_L_kind_2 hL (fun q h => (show s.heap.size ≤ q from Nat.le_trans hx1.1 h)) (fun v H1 locs hq hF hL => ?_) (fun xx H1 locs hq hF hL => by obtain ⟨y0, hv, hxc⟩ := hq.1 hat; cases hv; exact fx_out rfl rfl rfl hnt hlk (fun q hq => hfr q.base (hL q hq)) (Nat.le_of_ble_eq_true rfl) (Nat.le_of_ble_eq_true rfl) (cEnd.t (c := 1) (z := 0) (by unfold so_kind; rw [hat]) (by decide) (hS.ex (hF.ex (fun q h => Nat.not_le.mpr h))) rfl hxc))
    obtain ⟨y0, hv, -⟩ := hq.1 hat
    cases hv
  · refine fx_cV (B := (fun H q => H.size ≤ q) s.heap) KT_moved (ct_L_found w F x al ar Vs v) hx hfl hK hb (by rw [hml]; exact hl.1) hown (hw _ mm_L_69) (fx_Y.code (hw _ mk_L_found)) (hw _ mi_L_found) (hw _ mq_L_found) (show fx_N y_L_found 1 by decide +kernel) (va_recv (q0 := 0) hKv (fx_one hS.2.2.2.1) (show cls[0]? = some (R_L, T_L, 1) from rfl) rfl) rfl ⟨Nat.le_of_ble_eq_true rfl, Nat.le_of_ble_eq_true rfl, Nat.le_of_ble_eq_true rfl, Nat.le_of_ble_eq_true rfl⟩ (hS) d_L_kind_2 hL (fun q h => (show s.heap.size ≤ q from Nat.le_trans hx1.1 h)) (fun v H1 locs hq hF hL => ?_) (fun xx H1 locs hq hF hL => by obtain ⟨b0, hv, -⟩ := hq.2 u hat; cases hv)
    obtain ⟨b, hv, ⟨e1, y1, hVo1, hEl1, hKy1, hNb1, hNe1, hNy1⟩, hok1⟩ := hq.2 u hat
    cases hv
    have hxe : fx_Ex s.heap H1 := hF.ex (fun q h => Nat.not_le.mpr h)
    have hx1 := hx1.tr hxe
    have hS := hS.ex hxe
    have hz1 : u.2.2.1.length ≤ 100 := hok1.1
    have hzk1 : u.2.2.2.length ≤ 100 := hok1.2.2
    refine W.eq (g2 := F0 m 5 ls [.ref b]) rfl ?_
    refine lv_astore_n hx hb d_L_kind_5 rfl hl (by decide) rfl (fun ls hl => ?_)
    have hl : lv_has ls 3 [(2, .ref b), (0, .ref x), (1, .int v)] := hl
    refine lv_bipush (v := nI 10) hx hb d_L_kind_6 rfl ?_
    refine lv_aload_n hx hb d_L_kind_8 rfl (lv_at hl 0 rfl) ?_
    refine fx_getN hx hb hown (kc_V hK _) hKv 0 (by decide) ((nl_L_78 hK _)) (fun _ h => h) hVo1 rfl d_L_kind_9 ?_
    refine lv_imul hx hb d_L_kind_12 ?_
    refine lv_aload_n hx hb d_L_kind_13 rfl (lv_at hl 0 rfl) ?_
    refine fx_getN hx hb hown (kc_V hK _) hKv 1 (by decide) ((nl_L_109 hK _)) (fun _ h => h) hVo1 rfl d_L_kind_14 ?_
    refine lv_iadd hx hb d_L_kind_17 ?_
    exact fx_iret hx hb hr hlk (fun q hq => hfr q.base (hL q hq)) (Nat.le_of_ble_eq_true rfl) (Nat.le_of_ble_eq_true rfl) d_L_kind_18 (cEnd.r (z := 10 * u.1 + u.2.1) (by unfold so_kind; rw [hat]) hS rfl)
set_option maxHeartbeats 4000000 in
set_option maxRecDepth 100000 in
theorem ct_L_at (w : Wd) (F : Nat → Prop) (x al : Nat) (Vs : List sV) (v i : Int32) : fx_C (KT w) y_L_at 4 (rmN 9 8 700) [.ref x, .int v, .int i] (fun H => cT w F x al Vs H) (cEnd w F x al (ecx 3 0) (so_at Vs v i)) (fun _ q => w.H0.size ≤ q ∧ ¬ F q) := by
  refine fx_of (ret := (some (FieldType.int))) (cc := b_L_at) (fun s hK => hK.1 _ mk_L_at _) (Nat.le_of_ble_eq_true rfl) ?_
  intro p l e s m below meth c hx hfl hK hb hml hr hlk hnt hown hin hpre ls hl
  have hw : ∀ z ∈ gw, z.before ([.ref x, .int v, .int i] : List Value).toArray s = true := fun z hz => hK.1 z hz _
  have hKv := hK.2.1
  have hL : ∀ q ∈ ([] : List Loc), (fun H q => H.size ≤ q) s.heap q.base := fun q hq => by cases hq
  obtain ⟨ar, hS⟩ := hpre
  have hLow := hS.1
  have hS0 := hS
  have hx1 : fx_Ex s.heap s.heap := fx_Ex.rf
  have hfr : ∀ q, s.heap.size ≤ q → (fun _ q => w.H0.size ≤ q ∧ ¬ F q) s.heap q := fun q hq => ⟨Nat.le_trans hLow.1 hq, fun z => absurd (hS0.2.1 q z) (Nat.not_lt.mpr hq)⟩
  have hfn : ∀ q, s.heap.size ≤ q → cN F al ar q := fun q hq => hS0.fr (kE0 hK) hq
  have hVl : Vs.length ≤ 64 := by obtain ⟨-, -, -, -, -, cap, mc, f, -, -, -, -, -, h, -⟩ := hS0; exact h
  have hl : lv_has ls 4 [(0, .ref x), (1, .int v), (2, .int i)] := hl
  refine lv_aload_n hx hb d_L_at_0 rfl (lv_at hl 0 rfl) ?_
  refine lv_iload_n hx hb d_L_at_1 rfl (lv_at hl 1 rfl) ?_
  rcases kf_op (sv_at Vs v) with hat | ⟨u, hat⟩
  · refine fx_cV (B := (fun H q => H.size ≤ q) s.heap) KT_moved (ct_L_found w F x al ar Vs v) hx hfl hK hb (by rw [hml]; exact hl.1) hown (hw _ mm_L_69) (fx_Y.code (hw _ mk_L_found)) (hw _ mi_L_found) (hw _ mq_L_found) (show fx_N y_L_found 1 by decide +kernel) (va_recv (q0 := 0) hKv (fx_one hS.2.2.2.1) (show cls[0]? = some (R_L, T_L, 1) from rfl) rfl) rfl ⟨Nat.le_of_ble_eq_true rfl, Nat.le_of_ble_eq_true rfl, Nat.le_of_ble_eq_true rfl, Nat.le_of_ble_eq_true rfl⟩ (hS) d_L_at_2 hL (fun q h => (show s.heap.size ≤ q from Nat.le_trans hx1.1 h)) (fun v H1 locs hq hF hL => ?_) (fun xx H1 locs hq hF hL => by obtain ⟨y0, hv, hxc⟩ := hq.1 hat; cases hv; exact fx_out rfl rfl rfl hnt hlk (fun q hq => hfr q.base (hL q hq)) (Nat.le_of_ble_eq_true rfl) (Nat.le_of_ble_eq_true rfl) (cEnd.t (c := 1) (z := 0) (by unfold so_at; rw [hat]) (by decide) (hS.ex (hF.ex (fun q h => Nat.not_le.mpr h))) rfl hxc))
    obtain ⟨y0, hv, -⟩ := hq.1 hat
    cases hv
  · refine fx_cV (B := (fun H q => H.size ≤ q) s.heap) KT_moved (ct_L_found w F x al ar Vs v) hx hfl hK hb (by rw [hml]; exact hl.1) hown (hw _ mm_L_69) (fx_Y.code (hw _ mk_L_found)) (hw _ mi_L_found) (hw _ mq_L_found) (show fx_N y_L_found 1 by decide +kernel) (va_recv (q0 := 0) hKv (fx_one hS.2.2.2.1) (show cls[0]? = some (R_L, T_L, 1) from rfl) rfl) rfl ⟨Nat.le_of_ble_eq_true rfl, Nat.le_of_ble_eq_true rfl, Nat.le_of_ble_eq_true rfl, Nat.le_of_ble_eq_true rfl⟩ (hS) d_L_at_2 hL (fun q h => (show s.heap.size ≤ q from Nat.le_trans hx1.1 h)) (fun v H1 locs hq hF hL => ?_) (fun xx H1 locs hq hF hL => by obtain ⟨b0, hv, -⟩ := hq.2 u hat; cases hv)
    obtain ⟨b, hv, ⟨e1, y1, hVo1, hEl1, hKy1, hNb1, hNe1, hNy1⟩, hok1⟩ := hq.2 u hat
    cases hv
    have hxe : fx_Ex s.heap H1 := hF.ex (fun q h => Nat.not_le.mpr h)
    have hx1 := hx1.tr hxe
    have hS := hS.ex hxe
    have hz1 : u.2.2.1.length ≤ 100 := hok1.1
    have hzk1 : u.2.2.2.length ≤ 100 := hok1.2.2
    refine W.eq (g2 := F0 m 5 ls [.ref b]) rfl ?_
    refine lv_astore_n hx hb d_L_at_5 rfl hl (by decide) rfl (fun ls hl => ?_)
    have hl : lv_has ls 4 [(3, .ref b), (0, .ref x), (1, .int v), (2, .int i)] := hl
    refine lv_aload_n hx hb d_L_at_6 rfl (lv_at hl 0 rfl) ?_
    refine lv_iload_n hx hb d_L_at_7 rfl (lv_at hl 3 rfl) ?_
    by_cases hout : i < 0 ∨ nI u.2.2.1.length ≤ i
    · refine fx_cS (B := (fun H q => H.size ≤ q) s.heap) KT_moved (ct_L_refuseOutside w b e1 y1 u.1 u.2.1 u.2.2.1 hz1 i) hx hfl hK hb (by rw [hml]; exact hl.1) hown (hw _ mm_L_117) (fx_Y.code (hw _ mk_L_refuseOutside)) (hw _ ms_L_refuseOutside) (hw _ mn_L) (show fx_N y_L_refuseOutside 2 by decide +kernel) rfl ⟨Nat.le_of_ble_eq_true rfl, Nat.le_of_ble_eq_true rfl, Nat.le_of_ble_eq_true rfl, Nat.le_of_ble_eq_true rfl⟩ (⟨hS.1, hVo1, hEl1⟩) d_L_at_8 hL (fun q h => (show s.heap.size ≤ q from Nat.le_trans hx1.1 h)) (fun v H2 locs hq hF hL => ?_) (fun xx H2 locs hq hF hL => by obtain ⟨y0, hv, hxc⟩ := hq.1 hout; cases hv; exact fx_out rfl rfl rfl hnt hlk (fun q hq => hfr q.base (hL q hq)) (Nat.le_of_ble_eq_true rfl) (Nat.le_of_ble_eq_true rfl) (cEnd.t (c := 2) (z := 0) (by unfold so_at; rw [hat]; dsimp only; rw [if_pos hout]) (by decide) (hS.ex (hF.ex (fun q h => Nat.not_le.mpr h))) rfl hxc))
      obtain ⟨y0, hv, -⟩ := hq.1 hout
      cases hv
    · obtain ⟨j, hj1, ej⟩ := nI_of (fun z => hout (Or.inl z))
      have hj : j < u.2.2.1.length := Nat.not_le.mp (fun z => hout (Or.inr (by rw [ej]; exact nI_le z hj1)))
      refine fx_cS (B := (fun H q => H.size ≤ q) s.heap) KT_moved (ct_L_refuseOutside w b e1 y1 u.1 u.2.1 u.2.2.1 hz1 i) hx hfl hK hb (by rw [hml]; exact hl.1) hown (hw _ mm_L_117) (fx_Y.code (hw _ mk_L_refuseOutside)) (hw _ ms_L_refuseOutside) (hw _ mn_L) (show fx_N y_L_refuseOutside 2 by decide +kernel) rfl ⟨Nat.le_of_ble_eq_true rfl, Nat.le_of_ble_eq_true rfl, Nat.le_of_ble_eq_true rfl, Nat.le_of_ble_eq_true rfl⟩ (⟨hS.1, hVo1, hEl1⟩) d_L_at_8 hL (fun q h => (show s.heap.size ≤ q from Nat.le_trans hx1.1 h)) (fun v H2 locs hq hF hL => ?_) (fun xx H2 locs hq hF hL => by have hv := hq.2 hout; cases hv)
      have hv := hq.2 hout
      cases hv
      have hxe : fx_Ex H1 H2 := hF.ex (fun q h => Nat.not_le.mpr h)
      have hx1 := hx1.tr hxe
      have hS := hS.ex hxe
      have hVo1 := hxe.kept hVo1
      have hEl1 := hxe.kept hEl1
      have hKy1 := hxe.kept hKy1
      refine W.eq (g2 := F0 m 11 ls []) rfl ?_
      refine lv_aload_n hx hb d_L_at_11 rfl (lv_at hl 0 rfl) ?_
      refine fx_getN hx hb hown (kc_V hK _) hKv 2 (by decide) ((nl_L_44 hK _)) (fun _ h => h) hVo1 rfl d_L_at_12 ?_
      refine lv_iload_n hx hb d_L_at_15 rfl (lv_at hl 3 rfl) ?_
      refine fx_iald (j := j) hx hb hKv 0 hEl1 rfl (ej) (hj) (by omega) d_L_at_16 ?_
      exact fx_iret hx hb hr hlk (fun q hq => hfr q.base (hL q hq)) (Nat.le_of_ble_eq_true rfl) (Nat.le_of_ble_eq_true rfl) d_L_at_17 (cEnd.r (by unfold so_at; rw [hat]; dsimp only; rw [if_neg hout, show i.toNatClampNeg = j by rw [ej]; exact nI_clamp hj1]) hS rfl)
set_option maxHeartbeats 4000000 in
set_option maxRecDepth 100000 in
theorem ct_L_first (w : Wd) (F : Nat → Prop) (x al : Nat) (Vs : List sV) (v : Int32) : fx_C (KT w) y_L_first 3 (rmN 9 8 700) [.ref x, .int v] (fun H => cT w F x al Vs H) (cEnd w F x al (ecx 2 0) (so_first Vs v)) (fun _ q => w.H0.size ≤ q ∧ ¬ F q) := by
  refine fx_of (ret := (some (FieldType.int))) (cc := b_L_first) (fun s hK => hK.1 _ mk_L_first _) (Nat.le_of_ble_eq_true rfl) ?_
  intro p l e s m below meth c hx hfl hK hb hml hr hlk hnt hown hin hpre ls hl
  have hw : ∀ z ∈ gw, z.before ([.ref x, .int v] : List Value).toArray s = true := fun z hz => hK.1 z hz _
  have hKv := hK.2.1
  have hL : ∀ q ∈ ([] : List Loc), (fun H q => H.size ≤ q) s.heap q.base := fun q hq => by cases hq
  obtain ⟨ar, hS⟩ := hpre
  have hLow := hS.1
  have hS0 := hS
  have hx1 : fx_Ex s.heap s.heap := fx_Ex.rf
  have hfr : ∀ q, s.heap.size ≤ q → (fun _ q => w.H0.size ≤ q ∧ ¬ F q) s.heap q := fun q hq => ⟨Nat.le_trans hLow.1 hq, fun z => absurd (hS0.2.1 q z) (Nat.not_lt.mpr hq)⟩
  have hfn : ∀ q, s.heap.size ≤ q → cN F al ar q := fun q hq => hS0.fr (kE0 hK) hq
  have hVl : Vs.length ≤ 64 := by obtain ⟨-, -, -, -, -, cap, mc, f, -, -, -, -, -, h, -⟩ := hS0; exact h
  have hl : lv_has ls 3 [(0, .ref x), (1, .int v)] := hl
  refine lv_aload_n hx hb d_L_first_0 rfl (lv_at hl 0 rfl) ?_
  refine lv_iload_n hx hb d_L_first_1 rfl (lv_at hl 1 rfl) ?_
  rcases Classical.em (∃ u, sv_at Vs v = some u ∧ ¬ u.1 = 3) with ⟨u, hat, hP⟩ | hex
  · refine fx_cV (B := (fun H q => H.size ≤ q) s.heap) KT_moved (ct_L_foundButNoMap w F x al ar Vs v) hx hfl hK hb (by rw [hml]; exact hl.1) hown (hw _ mm_L_40) (fx_Y.code (hw _ mk_L_foundButNoMap)) (hw _ mi_L_foundButNoMap) (hw _ mq_L_foundButNoMap) (show fx_N y_L_foundButNoMap 1 by decide +kernel) (va_recv (q0 := 0) hKv (fx_one hS.2.2.2.1) (show cls[0]? = some (R_L, T_L, 1) from rfl) rfl) rfl ⟨Nat.le_of_ble_eq_true rfl, Nat.le_of_ble_eq_true rfl, Nat.le_of_ble_eq_true rfl, Nat.le_of_ble_eq_true rfl⟩ (hS) d_L_first_2 hL (fun q h => (show s.heap.size ≤ q from Nat.le_trans hx1.1 h)) (fun v H1 locs hq hF hL => ?_) (fun xx H1 locs hq hF hL => by obtain ⟨b0, hv, -⟩ := hq.2 u hat hP; cases hv)
    obtain ⟨b, hv, ⟨e1, y1, hVo1, hEl1, hKy1, hNb1, hNe1, hNy1⟩, hok1⟩ := hq.2 u hat hP
    cases hv
    have hxe : fx_Ex s.heap H1 := hF.ex (fun q h => Nat.not_le.mpr h)
    have hx1 := hx1.tr hxe
    have hS := hS.ex hxe
    have hz1 : u.2.2.1.length ≤ 100 := hok1.1
    have hzk1 : u.2.2.2.length ≤ 100 := hok1.2.2
    refine W.eq (g2 := F0 m 5 ls [.ref b]) rfl ?_
    refine lv_astore_n hx hb d_L_first_5 rfl hl (by decide) rfl (fun ls hl => ?_)
    have hl : lv_has ls 3 [(2, .ref b), (0, .ref x), (1, .int v)] := hl
    refine lv_aload_n hx hb d_L_first_6 rfl (lv_at hl 0 rfl) ?_
    by_cases hemp : u.2.2.1.length = 0
    · refine fx_cS (B := (fun H q => H.size ≤ q) s.heap) KT_moved (ct_L_refuseWithoutElements w b e1 y1 u.1 u.2.1 u.2.2.1 hz1) hx hfl hK hb (by rw [hml]; exact hl.1) hown (hw _ mm_L_60) (fx_Y.code (hw _ mk_L_refuseWithoutElements)) (hw _ ms_L_refuseWithoutElements) (hw _ mn_L) (show fx_N y_L_refuseWithoutElements 1 by decide +kernel) rfl ⟨Nat.le_of_ble_eq_true rfl, Nat.le_of_ble_eq_true rfl, Nat.le_of_ble_eq_true rfl, Nat.le_of_ble_eq_true rfl⟩ (⟨hS.1, hVo1, hEl1⟩) d_L_first_7 hL (fun q h => (show s.heap.size ≤ q from Nat.le_trans hx1.1 h)) (fun v H2 locs hq hF hL => ?_) (fun xx H2 locs hq hF hL => by obtain ⟨y0, hv, hxc⟩ := hq.1 hemp; cases hv; exact fx_out rfl rfl rfl hnt hlk (fun q hq => hfr q.base (hL q hq)) (Nat.le_of_ble_eq_true rfl) (Nat.le_of_ble_eq_true rfl) (cEnd.t (c := 2) (z := 0) (by unfold so_first; rw [hat]; dsimp only; rw [if_neg hP, if_pos hemp]) (by decide) (hS.ex (hF.ex (fun q h => Nat.not_le.mpr h))) rfl hxc))
      obtain ⟨y0, hv, -⟩ := hq.1 hemp
      cases hv
    · refine fx_cS (B := (fun H q => H.size ≤ q) s.heap) KT_moved (ct_L_refuseWithoutElements w b e1 y1 u.1 u.2.1 u.2.2.1 hz1) hx hfl hK hb (by rw [hml]; exact hl.1) hown (hw _ mm_L_60) (fx_Y.code (hw _ mk_L_refuseWithoutElements)) (hw _ ms_L_refuseWithoutElements) (hw _ mn_L) (show fx_N y_L_refuseWithoutElements 1 by decide +kernel) rfl ⟨Nat.le_of_ble_eq_true rfl, Nat.le_of_ble_eq_true rfl, Nat.le_of_ble_eq_true rfl, Nat.le_of_ble_eq_true rfl⟩ (⟨hS.1, hVo1, hEl1⟩) d_L_first_7 hL (fun q h => (show s.heap.size ≤ q from Nat.le_trans hx1.1 h)) (fun v H2 locs hq hF hL => ?_) (fun xx H2 locs hq hF hL => by have hv := hq.2 hemp; cases hv)
      have hv := hq.2 hemp
      cases hv
      have hxe : fx_Ex H1 H2 := hF.ex (fun q h => Nat.not_le.mpr h)
      have hx1 := hx1.tr hxe
      have hS := hS.ex hxe
      have hVo1 := hxe.kept hVo1
      have hEl1 := hxe.kept hEl1
      have hKy1 := hxe.kept hKy1
      refine W.eq (g2 := F0 m 10 ls []) rfl ?_
      refine lv_aload_n hx hb d_L_first_10 rfl (lv_at hl 0 rfl) ?_
      refine fx_getN hx hb hown (kc_V hK _) hKv 2 (by decide) ((nl_L_44 hK _)) (fun _ h => h) hVo1 rfl d_L_first_11 ?_
      refine lv_iconst (v := nI 0) hx hb d_L_first_14 rfl ?_
      refine fx_iald (j := 0) hx hb hKv 0 hEl1 rfl (rfl) (by omega) (by omega) d_L_first_15 ?_
      exact fx_iret hx hb hr hlk (fun q hq => hfr q.base (hL q hq)) (Nat.le_of_ble_eq_true rfl) (Nat.le_of_ble_eq_true rfl) d_L_first_16 (cEnd.r (by unfold so_first; rw [hat]; dsimp only; rw [if_neg hP, if_neg hemp]) hS rfl)
  · have hno : ∀ u, sv_at Vs v = some u → ¬ ¬ u.1 = 3 := fun u h1 h2 => hex ⟨u, h1, h2⟩
    refine fx_cV (B := (fun H q => H.size ≤ q) s.heap) KT_moved (ct_L_foundButNoMap w F x al ar Vs v) hx hfl hK hb (by rw [hml]; exact hl.1) hown (hw _ mm_L_40) (fx_Y.code (hw _ mk_L_foundButNoMap)) (hw _ mi_L_foundButNoMap) (hw _ mq_L_foundButNoMap) (show fx_N y_L_foundButNoMap 1 by decide +kernel) (va_recv (q0 := 0) hKv (fx_one hS.2.2.2.1) (show cls[0]? = some (R_L, T_L, 1) from rfl) rfl) rfl ⟨Nat.le_of_ble_eq_true rfl, Nat.le_of_ble_eq_true rfl, Nat.le_of_ble_eq_true rfl, Nat.le_of_ble_eq_true rfl⟩ (hS) d_L_first_2 hL (fun q h => (show s.heap.size ≤ q from Nat.le_trans hx1.1 h)) (fun v H1 locs hq hF hL => ?_) (fun xx H1 locs hq hF hL => by obtain ⟨y0, hv, hxc⟩ := hq.1 hno; cases hv; exact fx_out rfl rfl rfl hnt hlk (fun q hq => hfr q.base (hL q hq)) (Nat.le_of_ble_eq_true rfl) (Nat.le_of_ble_eq_true rfl) (cEnd.t (c := 1) (z := 0) (so_no (P := fun u => ¬ u.1 = 3) hno (fun u hu => if_pos (Decidable.not_not.mp hu))) (by decide) (hS.ex (hF.ex (fun q h => Nat.not_le.mpr h))) rfl hxc))
    obtain ⟨y0, hv, -⟩ := hq.1 hno
    cases hv
theorem kf_min1 {n : Nat} (h : n ≤ 100) : (if nI 1 < nI n then nI 1 else nI n) = nI (if 0 < n then 1 else 0) := by
  by_cases h1 : nI 1 < nI n
  · have := (nI_ltI (by decide) (by omega)).mp h1
    rw [if_pos h1, if_pos (by omega)]
  · have : n ≤ 1 := Nat.not_lt.mp (fun z => h1 (nI_lt z (by omega)))
    rw [if_neg h1]
    by_cases h0 : 0 < n
    · rw [if_pos h0, show n = 1 by omega]
    · rw [if_neg h0, show n = 0 by omega]
set_option maxHeartbeats 4000000 in
set_option maxRecDepth 100000 in
theorem ct_L_parts (w : Wd) (F : Nat → Prop) (x al : Nat) (Vs : List sV) (v : Int32) : fx_C (KT w) y_L_parts 4 (rmN 9 8 700) [.ref x, .int v] (fun H => cT w F x al Vs H) (cEnd w F x al (ecx 0 0) (so_parts Vs v)) (fun _ q => w.H0.size ≤ q ∧ ¬ F q) := by
  refine fx_of (ret := (some (FieldType.int))) (cc := b_L_parts) (fun s hK => hK.1 _ mk_L_parts _) (Nat.le_of_ble_eq_true rfl) ?_
  intro p l e s m below meth c hx hfl hK hb hml hr hlk hnt hown hin hpre ls hl
  have hw : ∀ z ∈ gw, z.before ([.ref x, .int v] : List Value).toArray s = true := fun z hz => hK.1 z hz _
  have hKv := hK.2.1
  have hL : ∀ q ∈ ([] : List Loc), (fun H q => H.size ≤ q) s.heap q.base := fun q hq => by cases hq
  obtain ⟨ar, hS⟩ := hpre
  have hLow := hS.1
  have hS0 := hS
  have hx1 : fx_Ex s.heap s.heap := fx_Ex.rf
  have hfr : ∀ q, s.heap.size ≤ q → (fun _ q => w.H0.size ≤ q ∧ ¬ F q) s.heap q := fun q hq => ⟨Nat.le_trans hLow.1 hq, fun z => absurd (hS0.2.1 q z) (Nat.not_lt.mpr hq)⟩
  have hfn : ∀ q, s.heap.size ≤ q → cN F al ar q := fun q hq => hS0.fr (kE0 hK) hq
  have hVl : Vs.length ≤ 64 := by obtain ⟨-, -, -, -, -, cap, mc, f, -, -, -, -, -, h, -⟩ := hS0; exact h
  have hl : lv_has ls 4 [(0, .ref x), (1, .int v)] := hl
  refine lv_aload_n hx hb d_L_parts_0 rfl (lv_at hl 0 rfl) ?_
  refine lv_iload_n hx hb d_L_parts_1 rfl (lv_at hl 1 rfl) ?_
  rcases kf_op (sv_at Vs v) with hat | ⟨u, hat⟩
  · refine fx_cV (B := (fun H q => H.size ≤ q) s.heap) KT_moved (ct_L_found w F x al ar Vs v) hx hfl hK hb (by rw [hml]; exact hl.1) hown (hw _ mm_L_69) (fx_Y.code (hw _ mk_L_found)) (hw _ mi_L_found) (hw _ mq_L_found) (show fx_N y_L_found 1 by decide +kernel) (va_recv (q0 := 0) hKv (fx_one hS.2.2.2.1) (show cls[0]? = some (R_L, T_L, 1) from rfl) rfl) rfl ⟨Nat.le_of_ble_eq_true rfl, Nat.le_of_ble_eq_true rfl, Nat.le_of_ble_eq_true rfl, Nat.le_of_ble_eq_true rfl⟩ (hS) d_L_parts_2 hL (fun q h => (show s.heap.size ≤ q from Nat.le_trans hx1.1 h)) (fun v H1 locs hq hF hL => ?_) (fun xx H1 locs hq hF hL => by obtain ⟨y0, hv, hxc⟩ := hq.1 hat; cases hv; exact fx_out rfl rfl rfl hnt hlk (fun q hq => hfr q.base (hL q hq)) (Nat.le_of_ble_eq_true rfl) (Nat.le_of_ble_eq_true rfl) (cEnd.t (c := 1) (z := 0) (by unfold so_parts; rw [hat]) (by decide) (hS.ex (hF.ex (fun q h => Nat.not_le.mpr h))) rfl hxc))
    obtain ⟨y0, hv, -⟩ := hq.1 hat
    cases hv
  · refine fx_cV (B := (fun H q => H.size ≤ q) s.heap) KT_moved (ct_L_found w F x al ar Vs v) hx hfl hK hb (by rw [hml]; exact hl.1) hown (hw _ mm_L_69) (fx_Y.code (hw _ mk_L_found)) (hw _ mi_L_found) (hw _ mq_L_found) (show fx_N y_L_found 1 by decide +kernel) (va_recv (q0 := 0) hKv (fx_one hS.2.2.2.1) (show cls[0]? = some (R_L, T_L, 1) from rfl) rfl) rfl ⟨Nat.le_of_ble_eq_true rfl, Nat.le_of_ble_eq_true rfl, Nat.le_of_ble_eq_true rfl, Nat.le_of_ble_eq_true rfl⟩ (hS) d_L_parts_2 hL (fun q h => (show s.heap.size ≤ q from Nat.le_trans hx1.1 h)) (fun v H1 locs hq hF hL => ?_) (fun xx H1 locs hq hF hL => by obtain ⟨b0, hv, -⟩ := hq.2 u hat; cases hv)
    obtain ⟨b, hv, ⟨e1, y1, hVo1, hEl1, hKy1, hNb1, hNe1, hNy1⟩, hok1⟩ := hq.2 u hat
    cases hv
    have hxe : fx_Ex s.heap H1 := hF.ex (fun q h => Nat.not_le.mpr h)
    have hx1 := hx1.tr hxe
    have hS := hS.ex hxe
    have hz1 : u.2.2.1.length ≤ 100 := hok1.1
    have hzk1 : u.2.2.2.length ≤ 100 := hok1.2.2
    refine W.eq (g2 := F0 m 5 ls [.ref b]) rfl ?_
    refine lv_astore_n hx hb d_L_parts_5 rfl hl (by decide) rfl (fun ls hl => ?_)
    have hl : lv_has ls 4 [(2, .ref b), (0, .ref x), (1, .int v)] := hl
    refine lv_aload_n hx hb d_L_parts_6 rfl (lv_at hl 0 rfl) ?_
    refine fx_getN hx hb hown (kc_V hK _) hKv 2 (by decide) ((nl_L_44 hK _)) (fun _ h => h) hVo1 rfl d_L_parts_7 ?_
    refine fx_alen hx hb hKv 0 hEl1 rfl d_L_parts_10 ?_
    refine lv_istore_n hx hb d_L_parts_11 rfl hl (by decide) rfl (fun ls hl => ?_)
    have hl : lv_has ls 4 [(3, .int (nI u.2.2.1.length)), (2, .ref b), (0, .ref x), (1, .int v)] := hl
    refine lv_aload_n hx hb d_L_parts_12 rfl (lv_at hl 1 rfl) ?_
    refine fx_getN hx hb hown (kc_V hK _) hKv 0 (by decide) ((nl_L_78 hK _)) (fun _ h => h) hVo1 rfl d_L_parts_13 ?_
    refine lv_iconst (v := nI 2) hx hb d_L_parts_16 rfl ?_
    refine lv_icmp_ne (tgt := 32) hx hb d_L_parts_17 rfl (fun h17 => ?_) (fun h17 => ?_)
    · refine lv_aload_n hx hb d_L_parts_32 rfl (lv_at hl 1 rfl) ?_
      refine fx_getN hx hb hown (kc_V hK _) hKv 1 (by decide) ((nl_L_109 hK _)) (fun _ h => h) hVo1 rfl d_L_parts_33 ?_
      refine lv_iconst (v := nI 1) hx hb d_L_parts_36 rfl ?_
      refine lv_icmp_ne (tgt := 61) hx hb d_L_parts_37 rfl (fun h37 => ?_) (fun h37 => ?_)
      · refine lv_iload_n hx hb d_L_parts_61 rfl (lv_at hl 0 rfl) ?_
        refine lv_iconst (v := nI 1) hx hb d_L_parts_62 rfl ?_
        refine fx_cS (B := (fun H q => H.size ≤ q) s.heap) KT_moved (ct_MT_min w (nI u.2.2.1.length) (nI 1)) hx hfl hK hb (by rw [hml]; exact hl.1) hown (hw _ mm_L_130) (fx_Y.code (hw _ mk_MT_min)) (hw _ ms_MT_min) (hw _ mn_MT) (show fx_N y_MT_min 2 by decide +kernel) rfl ⟨Nat.le_of_ble_eq_true rfl, Nat.le_of_ble_eq_true rfl, Nat.le_of_ble_eq_true rfl, Nat.le_of_ble_eq_true rfl⟩ (trivial) d_L_parts_63 hL (fun q h => h.elim) (fun v H2 locs hq hF hL => ?_) (fun xx H2 locs hq hF hL => by cases hq)
        cases hq
        obtain rfl : H2 = H1 := hF.same (fun _ _ h => h)
        refine W.eq (g2 := F0 m 66 ls [.int (if nI 1 < nI u.2.2.1.length then nI 1 else nI u.2.2.1.length)]) rfl ?_
        refine fx_ti (y := nI (if 0 < u.2.2.1.length then 1 else 0)) (kf_min1 hz1) ?_
        exact fx_iret hx hb hr hlk (fun q hq => hfr q.base (hL q hq)) (Nat.le_of_ble_eq_true rfl) (Nat.le_of_ble_eq_true rfl) d_L_parts_66 (cEnd.r (show so_parts Vs v = (0, nI (if 0 < u.2.2.1.length then 1 else 0), Vs) by unfold so_parts; rw [hat]; dsimp only; rw [show sv_prt u = (if 0 < u.2.2.1.length then 1 else 0) from (if_neg (fun z => h17 z.1)).trans ((if_neg (fun z => h37 z.2)).trans rfl)]) hS rfl)
      · refine lv_aload_n hx hb d_L_parts_40 rfl (lv_at hl 1 rfl) ?_
        refine fx_getN hx hb hown (kc_V hK _) hKv 0 (by decide) ((nl_L_78 hK _)) (fun _ h => h) hVo1 rfl d_L_parts_41 ?_
        refine lv_iconst (v := nI 2) hx hb d_L_parts_44 rfl ?_
        refine lv_icmp_eq (tgt := 56) hx hb d_L_parts_45 rfl (fun h45 => ?_) (fun h45 => ?_)
        · refine lv_iload_n hx hb d_L_parts_56 rfl (lv_at hl 0 rfl) ?_
          refine fx_cS (B := (fun H q => H.size ≤ q) s.heap) KT_moved (ct_IN_bitCount w u.2.2.1.length hz1) hx hfl hK hb (by rw [hml]; exact hl.1) hown (hw _ mm_L_125) (fx_Y.code (hw _ mk_IN_bitCount)) (hw _ ms_IN_bitCount) (hw _ mn_IN) (show fx_N y_IN_bitCount 1 by decide +kernel) rfl ⟨Nat.le_of_ble_eq_true rfl, Nat.le_of_ble_eq_true rfl, Nat.le_of_ble_eq_true rfl, Nat.le_of_ble_eq_true rfl⟩ (trivial) d_L_parts_57 hL (fun q h => h.elim) (fun v H2 locs hq hF hL => ?_) (fun xx H2 locs hq hF hL => by cases hq)
          cases hq
          obtain rfl : H2 = H1 := hF.same (fun _ _ h => h)
          refine W.eq (g2 := F0 m 60 ls [.int (nI (sv_bit u.2.2.1.length))]) rfl ?_
          exact fx_iret hx hb hr hlk (fun q hq => hfr q.base (hL q hq)) (Nat.le_of_ble_eq_true rfl) (Nat.le_of_ble_eq_true rfl) d_L_parts_60 (cEnd.r (show so_parts Vs v = (0, nI (sv_bit u.2.2.1.length), Vs) by unfold so_parts; rw [hat]; dsimp only; rw [show sv_prt u = (sv_bit u.2.2.1.length) from (if_neg (fun z => h17 z.1)).trans (if_pos ⟨Or.inr h45, h37⟩)]) hS rfl)
        · refine lv_aload_n hx hb d_L_parts_48 rfl (lv_at hl 1 rfl) ?_
          refine fx_getN hx hb hown (kc_V hK _) hKv 0 (by decide) ((nl_L_78 hK _)) (fun _ h => h) hVo1 rfl d_L_parts_49 ?_
          refine lv_iconst (v := nI 1) hx hb d_L_parts_52 rfl ?_
          refine lv_icmp_ne (tgt := 61) hx hb d_L_parts_53 rfl (fun h53 => ?_) (fun h53 => ?_)
          · refine lv_iload_n hx hb d_L_parts_61 rfl (lv_at hl 0 rfl) ?_
            refine lv_iconst (v := nI 1) hx hb d_L_parts_62 rfl ?_
            refine fx_cS (B := (fun H q => H.size ≤ q) s.heap) KT_moved (ct_MT_min w (nI u.2.2.1.length) (nI 1)) hx hfl hK hb (by rw [hml]; exact hl.1) hown (hw _ mm_L_130) (fx_Y.code (hw _ mk_MT_min)) (hw _ ms_MT_min) (hw _ mn_MT) (show fx_N y_MT_min 2 by decide +kernel) rfl ⟨Nat.le_of_ble_eq_true rfl, Nat.le_of_ble_eq_true rfl, Nat.le_of_ble_eq_true rfl, Nat.le_of_ble_eq_true rfl⟩ (trivial) d_L_parts_63 hL (fun q h => h.elim) (fun v H2 locs hq hF hL => ?_) (fun xx H2 locs hq hF hL => by cases hq)
            cases hq
            obtain rfl : H2 = H1 := hF.same (fun _ _ h => h)
            refine W.eq (g2 := F0 m 66 ls [.int (if nI 1 < nI u.2.2.1.length then nI 1 else nI u.2.2.1.length)]) rfl ?_
            refine fx_ti (y := nI (if 0 < u.2.2.1.length then 1 else 0)) (kf_min1 hz1) ?_
            exact fx_iret hx hb hr hlk (fun q hq => hfr q.base (hL q hq)) (Nat.le_of_ble_eq_true rfl) (Nat.le_of_ble_eq_true rfl) d_L_parts_66 (cEnd.r (show so_parts Vs v = (0, nI (if 0 < u.2.2.1.length then 1 else 0), Vs) by unfold so_parts; rw [hat]; dsimp only; rw [show sv_prt u = (if 0 < u.2.2.1.length then 1 else 0) from (if_neg (fun z => h17 z.1)).trans ((if_neg (fun z => z.1.elim h53 h45)).trans rfl)]) hS rfl)
          · refine lv_iload_n hx hb d_L_parts_56 rfl (lv_at hl 0 rfl) ?_
            refine fx_cS (B := (fun H q => H.size ≤ q) s.heap) KT_moved (ct_IN_bitCount w u.2.2.1.length hz1) hx hfl hK hb (by rw [hml]; exact hl.1) hown (hw _ mm_L_125) (fx_Y.code (hw _ mk_IN_bitCount)) (hw _ ms_IN_bitCount) (hw _ mn_IN) (show fx_N y_IN_bitCount 1 by decide +kernel) rfl ⟨Nat.le_of_ble_eq_true rfl, Nat.le_of_ble_eq_true rfl, Nat.le_of_ble_eq_true rfl, Nat.le_of_ble_eq_true rfl⟩ (trivial) d_L_parts_57 hL (fun q h => h.elim) (fun v H2 locs hq hF hL => ?_) (fun xx H2 locs hq hF hL => by cases hq)
            cases hq
            obtain rfl : H2 = H1 := hF.same (fun _ _ h => h)
            refine W.eq (g2 := F0 m 60 ls [.int (nI (sv_bit u.2.2.1.length))]) rfl ?_
            exact fx_iret hx hb hr hlk (fun q hq => hfr q.base (hL q hq)) (Nat.le_of_ble_eq_true rfl) (Nat.le_of_ble_eq_true rfl) d_L_parts_60 (cEnd.r (show so_parts Vs v = (0, nI (sv_bit u.2.2.1.length), Vs) by unfold so_parts; rw [hat]; dsimp only; rw [show sv_prt u = (sv_bit u.2.2.1.length) from (if_neg (fun z => h17 z.1)).trans (if_pos ⟨Or.inl h53, h37⟩)]) hS rfl)
    · refine lv_aload_n hx hb d_L_parts_20 rfl (lv_at hl 1 rfl) ?_
      refine fx_getN hx hb hown (kc_V hK _) hKv 1 (by decide) ((nl_L_109 hK _)) (fun _ h => h) hVo1 rfl d_L_parts_21 ?_
      refine lv_if_ne (tgt := 32) hx hb d_L_parts_24 rfl (fun h24 => ?_) (fun h24 => ?_)
      · refine lv_aload_n hx hb d_L_parts_32 rfl (lv_at hl 1 rfl) ?_
        refine fx_getN hx hb hown (kc_V hK _) hKv 1 (by decide) ((nl_L_109 hK _)) (fun _ h => h) hVo1 rfl d_L_parts_33 ?_
        refine lv_iconst (v := nI 1) hx hb d_L_parts_36 rfl ?_
        refine lv_icmp_ne (tgt := 61) hx hb d_L_parts_37 rfl (fun h37 => ?_) (fun h37 => ?_)
        · refine lv_iload_n hx hb d_L_parts_61 rfl (lv_at hl 0 rfl) ?_
          refine lv_iconst (v := nI 1) hx hb d_L_parts_62 rfl ?_
          refine fx_cS (B := (fun H q => H.size ≤ q) s.heap) KT_moved (ct_MT_min w (nI u.2.2.1.length) (nI 1)) hx hfl hK hb (by rw [hml]; exact hl.1) hown (hw _ mm_L_130) (fx_Y.code (hw _ mk_MT_min)) (hw _ ms_MT_min) (hw _ mn_MT) (show fx_N y_MT_min 2 by decide +kernel) rfl ⟨Nat.le_of_ble_eq_true rfl, Nat.le_of_ble_eq_true rfl, Nat.le_of_ble_eq_true rfl, Nat.le_of_ble_eq_true rfl⟩ (trivial) d_L_parts_63 hL (fun q h => h.elim) (fun v H2 locs hq hF hL => ?_) (fun xx H2 locs hq hF hL => by cases hq)
          cases hq
          obtain rfl : H2 = H1 := hF.same (fun _ _ h => h)
          refine W.eq (g2 := F0 m 66 ls [.int (if nI 1 < nI u.2.2.1.length then nI 1 else nI u.2.2.1.length)]) rfl ?_
          refine fx_ti (y := nI (if 0 < u.2.2.1.length then 1 else 0)) (kf_min1 hz1) ?_
          exact fx_iret hx hb hr hlk (fun q hq => hfr q.base (hL q hq)) (Nat.le_of_ble_eq_true rfl) (Nat.le_of_ble_eq_true rfl) d_L_parts_66 (cEnd.r (show so_parts Vs v = (0, nI (if 0 < u.2.2.1.length then 1 else 0), Vs) by unfold so_parts; rw [hat]; dsimp only; rw [show sv_prt u = (if 0 < u.2.2.1.length then 1 else 0) from (if_neg (fun z => h24 z.2)).trans ((if_neg (fun z => h37 z.2)).trans rfl)]) hS rfl)
        · refine lv_aload_n hx hb d_L_parts_40 rfl (lv_at hl 1 rfl) ?_
          refine fx_getN hx hb hown (kc_V hK _) hKv 0 (by decide) ((nl_L_78 hK _)) (fun _ h => h) hVo1 rfl d_L_parts_41 ?_
          refine lv_iconst (v := nI 2) hx hb d_L_parts_44 rfl ?_
          refine lv_icmp_eq (tgt := 56) hx hb d_L_parts_45 rfl (fun h45 => ?_) (fun h45 => ?_)
          · refine lv_iload_n hx hb d_L_parts_56 rfl (lv_at hl 0 rfl) ?_
            refine fx_cS (B := (fun H q => H.size ≤ q) s.heap) KT_moved (ct_IN_bitCount w u.2.2.1.length hz1) hx hfl hK hb (by rw [hml]; exact hl.1) hown (hw _ mm_L_125) (fx_Y.code (hw _ mk_IN_bitCount)) (hw _ ms_IN_bitCount) (hw _ mn_IN) (show fx_N y_IN_bitCount 1 by decide +kernel) rfl ⟨Nat.le_of_ble_eq_true rfl, Nat.le_of_ble_eq_true rfl, Nat.le_of_ble_eq_true rfl, Nat.le_of_ble_eq_true rfl⟩ (trivial) d_L_parts_57 hL (fun q h => h.elim) (fun v H2 locs hq hF hL => ?_) (fun xx H2 locs hq hF hL => by cases hq)
            cases hq
            obtain rfl : H2 = H1 := hF.same (fun _ _ h => h)
            refine W.eq (g2 := F0 m 60 ls [.int (nI (sv_bit u.2.2.1.length))]) rfl ?_
            exact fx_iret hx hb hr hlk (fun q hq => hfr q.base (hL q hq)) (Nat.le_of_ble_eq_true rfl) (Nat.le_of_ble_eq_true rfl) d_L_parts_60 (cEnd.r (show so_parts Vs v = (0, nI (sv_bit u.2.2.1.length), Vs) by unfold so_parts; rw [hat]; dsimp only; rw [show sv_prt u = (sv_bit u.2.2.1.length) from (if_neg (fun z => h24 z.2)).trans (if_pos ⟨Or.inr h45, h37⟩)]) hS rfl)
          · refine lv_aload_n hx hb d_L_parts_48 rfl (lv_at hl 1 rfl) ?_
            refine fx_getN hx hb hown (kc_V hK _) hKv 0 (by decide) ((nl_L_78 hK _)) (fun _ h => h) hVo1 rfl d_L_parts_49 ?_
            refine lv_iconst (v := nI 1) hx hb d_L_parts_52 rfl ?_
            refine lv_icmp_ne (tgt := 61) hx hb d_L_parts_53 rfl (fun h53 => ?_) (fun h53 => ?_)
            · refine lv_iload_n hx hb d_L_parts_61 rfl (lv_at hl 0 rfl) ?_
              refine lv_iconst (v := nI 1) hx hb d_L_parts_62 rfl ?_
              refine fx_cS (B := (fun H q => H.size ≤ q) s.heap) KT_moved (ct_MT_min w (nI u.2.2.1.length) (nI 1)) hx hfl hK hb (by rw [hml]; exact hl.1) hown (hw _ mm_L_130) (fx_Y.code (hw _ mk_MT_min)) (hw _ ms_MT_min) (hw _ mn_MT) (show fx_N y_MT_min 2 by decide +kernel) rfl ⟨Nat.le_of_ble_eq_true rfl, Nat.le_of_ble_eq_true rfl, Nat.le_of_ble_eq_true rfl, Nat.le_of_ble_eq_true rfl⟩ (trivial) d_L_parts_63 hL (fun q h => h.elim) (fun v H2 locs hq hF hL => ?_) (fun xx H2 locs hq hF hL => by cases hq)
              cases hq
              obtain rfl : H2 = H1 := hF.same (fun _ _ h => h)
              refine W.eq (g2 := F0 m 66 ls [.int (if nI 1 < nI u.2.2.1.length then nI 1 else nI u.2.2.1.length)]) rfl ?_
              refine fx_ti (y := nI (if 0 < u.2.2.1.length then 1 else 0)) (kf_min1 hz1) ?_
              exact fx_iret hx hb hr hlk (fun q hq => hfr q.base (hL q hq)) (Nat.le_of_ble_eq_true rfl) (Nat.le_of_ble_eq_true rfl) d_L_parts_66 (cEnd.r (show so_parts Vs v = (0, nI (if 0 < u.2.2.1.length then 1 else 0), Vs) by unfold so_parts; rw [hat]; dsimp only; rw [show sv_prt u = (if 0 < u.2.2.1.length then 1 else 0) from (if_neg (fun z => h24 z.2)).trans ((if_neg (fun z => z.1.elim h53 h45)).trans rfl)]) hS rfl)
            · refine lv_iload_n hx hb d_L_parts_56 rfl (lv_at hl 0 rfl) ?_
              refine fx_cS (B := (fun H q => H.size ≤ q) s.heap) KT_moved (ct_IN_bitCount w u.2.2.1.length hz1) hx hfl hK hb (by rw [hml]; exact hl.1) hown (hw _ mm_L_125) (fx_Y.code (hw _ mk_IN_bitCount)) (hw _ ms_IN_bitCount) (hw _ mn_IN) (show fx_N y_IN_bitCount 1 by decide +kernel) rfl ⟨Nat.le_of_ble_eq_true rfl, Nat.le_of_ble_eq_true rfl, Nat.le_of_ble_eq_true rfl, Nat.le_of_ble_eq_true rfl⟩ (trivial) d_L_parts_57 hL (fun q h => h.elim) (fun v H2 locs hq hF hL => ?_) (fun xx H2 locs hq hF hL => by cases hq)
              cases hq
              obtain rfl : H2 = H1 := hF.same (fun _ _ h => h)
              refine W.eq (g2 := F0 m 60 ls [.int (nI (sv_bit u.2.2.1.length))]) rfl ?_
              exact fx_iret hx hb hr hlk (fun q hq => hfr q.base (hL q hq)) (Nat.le_of_ble_eq_true rfl) (Nat.le_of_ble_eq_true rfl) d_L_parts_60 (cEnd.r (show so_parts Vs v = (0, nI (sv_bit u.2.2.1.length), Vs) by unfold so_parts; rw [hat]; dsimp only; rw [show sv_prt u = (sv_bit u.2.2.1.length) from (if_neg (fun z => h24 z.2)).trans (if_pos ⟨Or.inl h53, h37⟩)]) hS rfl)
      · refine lv_iload_n hx hb d_L_parts_27 rfl (lv_at hl 0 rfl) ?_
        refine fx_cS (B := (fun H q => H.size ≤ q) s.heap) KT_moved (ct_L_fewestTrees w u.2.2.1.length hz1) hx hfl hK hb (by rw [hml]; exact hl.1) hown (hw _ mm_L_121) (fx_Y.code (hw _ mk_L_fewestTrees)) (hw _ ms_L_fewestTrees) (hw _ mn_L) (show fx_N y_L_fewestTrees 1 by decide +kernel) rfl ⟨Nat.le_of_ble_eq_true rfl, Nat.le_of_ble_eq_true rfl, Nat.le_of_ble_eq_true rfl, Nat.le_of_ble_eq_true rfl⟩ (trivial) d_L_parts_28 hL (fun q h => h.elim) (fun v H2 locs hq hF hL => ?_) (fun xx H2 locs hq hF hL => by cases hq)
        cases hq
        obtain rfl : H2 = H1 := hF.same (fun _ _ h => h)
        refine W.eq (g2 := F0 m 31 ls [.int (nI (sv_few u.2.2.1.length))]) rfl ?_
        exact fx_iret hx hb hr hlk (fun q hq => hfr q.base (hL q hq)) (Nat.le_of_ble_eq_true rfl) (Nat.le_of_ble_eq_true rfl) d_L_parts_31 (cEnd.r (show so_parts Vs v = (0, nI (sv_few u.2.2.1.length), Vs) by unfold so_parts; rw [hat]; dsimp only; rw [show sv_prt u = (sv_few u.2.2.1.length) from if_pos ⟨h17, h24⟩]) hS rfl)
set_option maxHeartbeats 4000000 in
set_option maxRecDepth 100000 in
theorem ct_L_value (w : Wd) (F : Nat → Prop) (x al : Nat) (Vs : List sV) (v key : Int32) : fx_C (KT w) y_L_value 5 (rmN 9 8 700) [.ref x, .int v, .int key] (fun H => cT w F x al Vs H) (cEnd w F x al (ecx 2 0) (so_value Vs v key)) (fun _ q => w.H0.size ≤ q ∧ ¬ F q) := by
  refine fx_of (ret := (some (FieldType.int))) (cc := b_L_value) (fun s hK => hK.1 _ mk_L_value _) (Nat.le_of_ble_eq_true rfl) ?_
  intro p l e s m below meth c hx hfl hK hb hml hr hlk hnt hown hin hpre ls hl
  have hw : ∀ z ∈ gw, z.before ([.ref x, .int v, .int key] : List Value).toArray s = true := fun z hz => hK.1 z hz _
  have hKv := hK.2.1
  have hL : ∀ q ∈ ([] : List Loc), (fun H q => H.size ≤ q) s.heap q.base := fun q hq => by cases hq
  obtain ⟨ar, hS⟩ := hpre
  have hLow := hS.1
  have hS0 := hS
  have hx1 : fx_Ex s.heap s.heap := fx_Ex.rf
  have hfr : ∀ q, s.heap.size ≤ q → (fun _ q => w.H0.size ≤ q ∧ ¬ F q) s.heap q := fun q hq => ⟨Nat.le_trans hLow.1 hq, fun z => absurd (hS0.2.1 q z) (Nat.not_lt.mpr hq)⟩
  have hfn : ∀ q, s.heap.size ≤ q → cN F al ar q := fun q hq => hS0.fr (kE0 hK) hq
  have hVl : Vs.length ≤ 64 := by obtain ⟨-, -, -, -, -, cap, mc, f, -, -, -, -, -, h, -⟩ := hS0; exact h
  have hl : lv_has ls 5 [(0, .ref x), (1, .int v), (2, .int key)] := hl
  refine lv_aload_n hx hb d_L_value_0 rfl (lv_at hl 0 rfl) ?_
  refine lv_iload_n hx hb d_L_value_1 rfl (lv_at hl 1 rfl) ?_
  refine lv_iconst (v := nI 3) hx hb d_L_value_2 rfl ?_
  rcases Classical.em (∃ u, sv_at Vs v = some u ∧ u.1 = 3) with ⟨u, hat, hP⟩ | hex
  · refine fx_cV (B := (fun H q => H.size ≤ q) s.heap) KT_moved (ct_L_foundOfKind w F x al ar Vs v 3) hx hfl hK hb (by rw [hml]; exact hl.1) hown (hw _ mm_L_89) (fx_Y.code (hw _ mk_L_foundOfKind)) (hw _ mi_L_foundOfKind) (hw _ mq_L_foundOfKind) (show fx_N y_L_foundOfKind 2 by decide +kernel) (va_recv (q0 := 0) hKv (fx_one hS.2.2.2.1) (show cls[0]? = some (R_L, T_L, 1) from rfl) rfl) rfl ⟨Nat.le_of_ble_eq_true rfl, Nat.le_of_ble_eq_true rfl, Nat.le_of_ble_eq_true rfl, Nat.le_of_ble_eq_true rfl⟩ (hS) d_L_value_3 hL (fun q h => (show s.heap.size ≤ q from Nat.le_trans hx1.1 h)) (fun v H1 locs hq hF hL => ?_) (fun xx H1 locs hq hF hL => by obtain ⟨b0, hv, -⟩ := hq.2 u hat hP; cases hv)
    obtain ⟨b, hv, ⟨e1, y1, hVo1, hEl1, hKy1, hNb1, hNe1, hNy1⟩, hok1⟩ := hq.2 u hat hP
    cases hv
    have hxe : fx_Ex s.heap H1 := hF.ex (fun q h => Nat.not_le.mpr h)
    have hx1 := hx1.tr hxe
    have hS := hS.ex hxe
    have hz1 : u.2.2.1.length ≤ 100 := hok1.1
    have hzk1 : u.2.2.2.length ≤ 100 := hok1.2.2
    refine W.eq (g2 := F0 m 6 ls [.ref b]) rfl ?_
    refine lv_astore_n hx hb d_L_value_6 rfl hl (by decide) rfl (fun ls hl => ?_)
    have hl : lv_has ls 5 [(3, .ref b), (0, .ref x), (1, .int v), (2, .int key)] := hl
    refine lv_aload_n hx hb d_L_value_7 rfl (lv_at hl 0 rfl) ?_
    refine fx_getN hx hb hown (kc_V hK _) hKv 3 (by decide) ((nl_L_95 hK _)) (fun _ h => h) hVo1 rfl d_L_value_8 ?_
    refine lv_iload_n hx hb d_L_value_11 rfl (lv_at hl 3 rfl) ?_
    refine fx_cS (B := (fun H q => H.size ≤ q) s.heap) KT_moved (ct_L_countBelow w y1 u.2.2.2 key hzk1) hx hfl hK hb (by rw [hml]; exact hl.1) hown (hw _ mm_L_98) (fx_Y.code (hw _ mk_L_countBelow)) (hw _ ms_L_countBelow) (hw _ mn_L) (show fx_N y_L_countBelow 2 by decide +kernel) rfl ⟨Nat.le_of_ble_eq_true rfl, Nat.le_of_ble_eq_true rfl, Nat.le_of_ble_eq_true rfl, Nat.le_of_ble_eq_true rfl⟩ (hKy1) d_L_value_12 hL (fun q h => h.elim) (fun v H2 locs hq hF hL => ?_) (fun xx H2 locs hq hF hL => by cases hq)
    cases hq
    obtain rfl : H2 = H1 := hF.same (fun _ _ h => h)
    refine W.eq (g2 := F0 m 15 ls [.int (nI (sv_cb u.2.2.2 key))]) rfl ?_
    refine lv_istore hx hb d_L_value_15 hl (by decide) rfl (fun ls hl => ?_)
    have hl : lv_has ls 5 [(4, .int (nI (sv_cb u.2.2.2 key))), (3, .ref b), (0, .ref x), (1, .int v), (2, .int key)] := hl
    refine lv_aload_n hx hb d_L_value_17 rfl (lv_at hl 1 rfl) ?_
    refine fx_getN hx hb hown (kc_V hK _) hKv 3 (by decide) ((nl_L_95 hK _)) (fun _ h => h) hVo1 rfl d_L_value_18 ?_
    refine lv_iload hx hb d_L_value_21 (lv_at hl 0 rfl) ?_
    refine lv_iload_n hx hb d_L_value_23 rfl (lv_at hl 4 rfl) ?_
    refine fx_cS (B := (fun H q => H.size ≤ q) s.heap) KT_moved (ct_L_hasAt w y1 (sv_cb u.2.2.2 key) u.2.2.2 key hzk1 (Nat.le_trans (sv_cb_le _ _) hzk1)) hx hfl hK hb (by rw [hml]; exact hl.1) hown (hw _ mm_L_102) (fx_Y.code (hw _ mk_L_hasAt)) (hw _ ms_L_hasAt) (hw _ mn_L) (show fx_N y_L_hasAt 3 by decide +kernel) rfl ⟨Nat.le_of_ble_eq_true rfl, Nat.le_of_ble_eq_true rfl, Nat.le_of_ble_eq_true rfl, Nat.le_of_ble_eq_true rfl⟩ (hKy1) d_L_value_24 hL (fun q h => h.elim) (fun v H3 locs hq hF hL => ?_) (fun xx H3 locs hq hF hL => by cases hq)
    cases hq
    obtain rfl : H3 = H2 := hF.same (fun _ _ h => h)
    refine W.eq (g2 := F0 m 27 ls [.int (zI (u.2.2.2[sv_cb u.2.2.2 key]? = some key))]) rfl ?_
    refine lv_if_ne (tgt := 40) hx hb d_L_value_27 rfl (fun h27 => ?_) (fun h27 => ?_)
    · have h27 := zI_ne0.mp h27
      have hjl : sv_cb u.2.2.2 key < u.2.2.1.length := by rw [← hok1.2.1 hP]; exact (List.getElem?_eq_some_iff.mp h27).1
      refine lv_aload_n hx hb d_L_value_40 rfl (lv_at hl 1 rfl) ?_
      refine fx_getN hx hb hown (kc_V hK _) hKv 2 (by decide) ((nl_L_44 hK _)) (fun _ h => h) hVo1 rfl d_L_value_41 ?_
      refine lv_iload hx hb d_L_value_44 (lv_at hl 0 rfl) ?_
      refine fx_iald (j := sv_cb u.2.2.2 key) hx hb hKv 0 hEl1 rfl (rfl) (hjl) (by omega) d_L_value_46 ?_
      exact fx_iret hx hb hr hlk (fun q hq => hfr q.base (hL q hq)) (Nat.le_of_ble_eq_true rfl) (Nat.le_of_ble_eq_true rfl) d_L_value_47 (cEnd.r (by unfold so_value; rw [hat]; dsimp only; rw [if_pos hP, if_pos h27]) hS rfl)
    · have h27 := zI_eq0.mp h27
      exact fx_throw (xc_NSE w) hx hfl hK hLow hb (by rw [hml]; exact hl.1) hown (hw _ mc_L_112) (hw _ mn_NoSuchElementException) (show (114, "no such key") ∈ kstr by decide) hnt hlk hL (hx1.1) ⟨Nat.le_of_ble_eq_true rfl, Nat.le_of_ble_eq_true rfl, Nat.le_of_ble_eq_true rfl, Nat.le_of_ble_eq_true rfl⟩ (Nat.le_of_ble_eq_true rfl) (Nat.le_of_ble_eq_true rfl) (fun q hq => hfr q.base (hL q hq)) d_L_value_30 d_L_value_33 d_L_value_34 d_L_value_36 d_L_value_39 (fun xx H' h7 hx1 h9 => have hxc : xcp w 2 xx H' := h9.x hK (by decide); cEnd.t (c := 2) (z := 0) (by unfold so_value; rw [hat]; dsimp only; rw [if_pos hP, if_neg h27]) (by decide) (hS0.ex hx1) rfl hxc)
  · have hno : ∀ u, sv_at Vs v = some u → ¬ u.1 = 3 := fun u h1 h2 => hex ⟨u, h1, h2⟩
    refine fx_cV (B := (fun H q => H.size ≤ q) s.heap) KT_moved (ct_L_foundOfKind w F x al ar Vs v 3) hx hfl hK hb (by rw [hml]; exact hl.1) hown (hw _ mm_L_89) (fx_Y.code (hw _ mk_L_foundOfKind)) (hw _ mi_L_foundOfKind) (hw _ mq_L_foundOfKind) (show fx_N y_L_foundOfKind 2 by decide +kernel) (va_recv (q0 := 0) hKv (fx_one hS.2.2.2.1) (show cls[0]? = some (R_L, T_L, 1) from rfl) rfl) rfl ⟨Nat.le_of_ble_eq_true rfl, Nat.le_of_ble_eq_true rfl, Nat.le_of_ble_eq_true rfl, Nat.le_of_ble_eq_true rfl⟩ (hS) d_L_value_3 hL (fun q h => (show s.heap.size ≤ q from Nat.le_trans hx1.1 h)) (fun v H1 locs hq hF hL => ?_) (fun xx H1 locs hq hF hL => by obtain ⟨y0, hv, hxc⟩ := hq.1 hno; cases hv; exact fx_out rfl rfl rfl hnt hlk (fun q hq => hfr q.base (hL q hq)) (Nat.le_of_ble_eq_true rfl) (Nat.le_of_ble_eq_true rfl) (cEnd.t (c := 1) (z := 0) (so_no (P := fun u => u.1 = 3) hno (fun u hu => if_neg hu)) (by decide) (hS.ex (hF.ex (fun q h => Nat.not_le.mpr h))) rfl hxc))
    obtain ⟨y0, hv, -⟩ := hq.1 hno
    cases hv
