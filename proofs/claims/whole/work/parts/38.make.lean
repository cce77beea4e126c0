/-! The public methods that make versions. -/
theorem sv_plc_le (u : sV) (z : Int32) : sv_plc u z ≤ u.2.2.1.length := by
  unfold sv_plc
  by_cases h2 : u.1 = 2
  · rw [if_pos h2]; exact Nat.zero_le _
  · rw [if_neg h2]
    by_cases h1 : u.1 = 1
    · rw [if_pos h1]; exact sv_cb_le _ _
    · rw [if_neg h1]; exact Nat.le_refl _
theorem kf_sub1 {n : Nat} (h : n ≤ 100) : ¬ nI 100 < nI n - nI 1 := by
  cases n with
  | zero => decide
  | succ n => rw [show nI (n + 1) - nI 1 = nI n from nI_pred n]; exact nI_nlt (by omega) (by decide)
theorem fx_Ex.U {q : Nat} {H H1 H2 : Heap} (h : fx_Ex H H1) (hU : fx_U q H1 H2) (hq : H.size ≤ q) : fx_Ex H H2 := ⟨by rw [hU.1]; exact h.1, fun z hz => (hU.2 z (by omega)).trans (h.2 z hz)⟩
set_option maxHeartbeats 4000000 in
set_option maxRecDepth 100000 in
theorem ct_L_add (w : Wd) (F : Nat → Prop) (x al : Nat) (Vs : List sV) (v z : Int32) : fx_C (KT w) y_L_add 4 (rmN 9 8 700) [.ref x, .int v, .int z] (fun H => cT w F x al Vs H) (cEnd w F x al (ecx 1 0) (so_add Vs v z)) (fun _ q => w.H0.size ≤ q ∧ ¬ F q) := by
  refine fx_of (ret := (some (FieldType.int))) (cc := b_L_add) (fun s hK => hK.1 _ mk_L_add _) (Nat.le_of_ble_eq_true rfl) ?_
  intro p l e s m below meth c hx hfl hK hb hml hr hlk hnt hown hin hpre ls hl
  have hw : ∀ zc ∈ gw, zc.before ([.ref x, .int v, .int z] : List Value).toArray s = true := fun z hz => hK.1 z hz _
  have hKv := hK.2.1
  have hL : ∀ q ∈ ([] : List Loc), (fun H q => H.size ≤ q) s.heap q.base := fun q hq => by cases hq
  obtain ⟨ar, hS⟩ := hpre
  have hLow := hS.1
  have hS0 := hS
  have hx1 : fx_Ex s.heap s.heap := fx_Ex.rf
  have hfr : ∀ q, s.heap.size ≤ q → (fun _ q => w.H0.size ≤ q ∧ ¬ F q) s.heap q := fun q hq => ⟨Nat.le_trans hLow.1 hq, fun z => absurd (hS0.2.1 q z) (Nat.not_lt.mpr hq)⟩
  have hfn : ∀ q, s.heap.size ≤ q → cN F al ar q := fun q hq => hS0.fr (kE0 hK) hq
  have hVl : Vs.length ≤ 64 := by obtain ⟨-, -, -, -, -, cap, mc, f, -, -, -, -, -, h, -⟩ := hS0; exact h
  have hl : lv_has ls 4 [(0, .ref x), (1, .int v), (2, .int z)] := hl
  refine lv_aload_n hx hb d_L_add_0 rfl (lv_at hl 0 rfl) ?_
  refine lv_iload_n hx hb d_L_add_1 rfl (lv_at hl 1 rfl) ?_
  rcases Classical.em (∃ u, sv_at Vs v = some u ∧ ¬ u.1 = 3) with ⟨u, hat, hP⟩ | hex
  · refine fx_cV (B := (fun H q => H.size ≤ q) s.heap) KT_moved (ct_L_foundButNoMap w F x al ar Vs v) hx hfl hK hb (by rw [hml]; exact hl.1) hown (hw _ mm_L_40) (fx_Y.code (hw _ mk_L_foundButNoMap)) (hw _ mi_L_foundButNoMap) (hw _ mq_L_foundButNoMap) (show fx_N y_L_foundButNoMap 1 by decide +kernel) (va_recv (q0 := 0) hKv (fx_one hS.2.2.2.1) (show cls[0]? = some (R_L, T_L, 1) from rfl) rfl) rfl ⟨Nat.le_of_ble_eq_true rfl, Nat.le_of_ble_eq_true rfl, Nat.le_of_ble_eq_true rfl, Nat.le_of_ble_eq_true rfl⟩ (hS) d_L_add_2 hL (fun q h => (show s.heap.size ≤ q from Nat.le_trans hx1.1 h)) (fun v H1 locs hq hF hL => ?_) (fun xx H1 locs hq hF hL => by obtain ⟨b0, hv, -⟩ := hq.2 u hat hP; cases hv)
    obtain ⟨b, hv, ⟨e1, y1, hVo1, hEl1, hKy1, hNb1, hNe1, hNy1⟩, hok1⟩ := hq.2 u hat hP
    cases hv
    have hxe : fx_Ex s.heap H1 := hF.ex (fun q h => Nat.not_le.mpr h)
    have hx1 := hx1.tr hxe
    have hS := hS.ex hxe
    have hz1 : u.2.2.1.length ≤ 100 := hok1.1
    have hzk1 : u.2.2.2.length ≤ 100 := hok1.2.2
    refine W.eq (g2 := F0 m 5 ls [.ref b]) rfl ?_
    refine lv_astore_n hx hb d_L_add_5 rfl hl (by decide) rfl (fun ls hl => ?_)
    have hl : lv_has ls 4 [(3, .ref b), (0, .ref x), (1, .int v), (2, .int z)] := hl
    refine lv_aload_n hx hb d_L_add_6 rfl (lv_at hl 1 rfl) ?_
    refine lv_aload_n hx hb d_L_add_7 rfl (lv_at hl 0 rfl) ?_
    refine fx_getN hx hb hown (kc_V hK _) hKv 2 (by decide) ((nl_L_44 hK _)) (fun _ h => h) hVo1 rfl d_L_add_8 ?_
    refine fx_alen hx hb hKv 0 hEl1 rfl d_L_add_11 ?_
    refine lv_iconst (v := nI 1) hx hb d_L_add_12 rfl ?_
    refine lv_iadd hx hb d_L_add_13 ?_
    refine fx_ti (y := nI (u.2.2.1.length + 1)) (nI_add _ 1) ?_
    by_cases hlim : 64 ≤ Vs.length ∨ nI 100 < nI (u.2.2.1.length + 1)
    · have hl2 : 64 ≤ Vs.length ∨ 100 ≤ u.2.2.1.length := hlim.imp id (fun z => by have := (nI_ltI (by decide) (by omega)).mp z; omega)
      refine fx_cV (B := (fun H q => H.size ≤ q) s.heap) KT_moved (ct_L_refuseBeyondLimits w F x al ar Vs (nI (u.2.2.1.length + 1))) hx hfl hK hb (by rw [hml]; exact hl.1) hown (hw _ mm_L_27) (fx_Y.code (hw _ mk_L_refuseBeyondLimits)) (hw _ mi_L_refuseBeyondLimits) (hw _ mq_L_refuseBeyondLimits) (show fx_N y_L_refuseBeyondLimits 1 by decide +kernel) (va_recv (q0 := 0) hKv (fx_one hS.2.2.2.1) (show cls[0]? = some (R_L, T_L, 1) from rfl) rfl) rfl ⟨Nat.le_of_ble_eq_true rfl, Nat.le_of_ble_eq_true rfl, Nat.le_of_ble_eq_true rfl, Nat.le_of_ble_eq_true rfl⟩ (hS) d_L_add_14 hL (fun q h => (show s.heap.size ≤ q from Nat.le_trans hx1.1 h)) (fun v H2 locs hq hF hL => ?_) (fun xx H2 locs hq hF hL => by obtain ⟨y0, hv, hxc⟩ := hq.1 hlim; cases hv; exact fx_out rfl rfl rfl hnt hlk (fun q hq => hfr q.base (hL q hq)) (Nat.le_of_ble_eq_true rfl) (Nat.le_of_ble_eq_true rfl) (cEnd.t (c := 2) (z := 0) (by unfold so_add; rw [hat]; dsimp only; rw [if_neg hP, if_pos hl2]) (by decide) (hS.ex (hF.ex (fun q h => Nat.not_le.mpr h))) rfl hxc))
      obtain ⟨y0, hv, -⟩ := hq.1 hlim
      cases hv
    · have hl2 : ¬ (64 ≤ Vs.length ∨ 100 ≤ u.2.2.1.length) := fun z => hlim (z.imp id (fun z => nI_lt (by omega) (by omega)))
      have hl63 : Vs.length ≤ 63 := Nat.le_of_lt_succ (Nat.not_le.mp (fun z => hlim (Or.inl z)))
      have hl99 : u.2.2.1.length ≤ 99 := Nat.le_of_lt_succ (Nat.not_le.mp (fun z => hl2 (Or.inr z)))
      refine fx_cV (B := (fun H q => H.size ≤ q) s.heap) KT_moved (ct_L_refuseBeyondLimits w F x al ar Vs (nI (u.2.2.1.length + 1))) hx hfl hK hb (by rw [hml]; exact hl.1) hown (hw _ mm_L_27) (fx_Y.code (hw _ mk_L_refuseBeyondLimits)) (hw _ mi_L_refuseBeyondLimits) (hw _ mq_L_refuseBeyondLimits) (show fx_N y_L_refuseBeyondLimits 1 by decide +kernel) (va_recv (q0 := 0) hKv (fx_one hS.2.2.2.1) (show cls[0]? = some (R_L, T_L, 1) from rfl) rfl) rfl ⟨Nat.le_of_ble_eq_true rfl, Nat.le_of_ble_eq_true rfl, Nat.le_of_ble_eq_true rfl, Nat.le_of_ble_eq_true rfl⟩ (hS) d_L_add_14 hL (fun q h => (show s.heap.size ≤ q from Nat.le_trans hx1.1 h)) (fun v H2 locs hq hF hL => ?_) (fun xx H2 locs hq hF hL => by have hv := hq.2 hlim; cases hv)
      have hv := hq.2 hlim
      cases hv
      have hxe : fx_Ex H1 H2 := hF.ex (fun q h => Nat.not_le.mpr h)
      have hx1 := hx1.tr hxe
      have hS := hS.ex hxe
      have hVo1 := hxe.kept hVo1
      have hEl1 := hxe.kept hEl1
      have hKy1 := hxe.kept hKy1
      refine W.eq (g2 := F0 m 17 ls []) rfl ?_
      refine lv_aload_n hx hb d_L_add_17 rfl (lv_at hl 1 rfl) ?_
      refine lv_aload_n hx hb d_L_add_18 rfl (lv_at hl 0 rfl) ?_
      refine lv_aload_n hx hb d_L_add_19 rfl (lv_at hl 0 rfl) ?_
      refine fx_getN hx hb hown (kc_V hK _) hKv 2 (by decide) ((nl_L_44 hK _)) (fun _ h => h) hVo1 rfl d_L_add_20 ?_
      refine lv_aload_n hx hb d_L_add_23 rfl (lv_at hl 0 rfl) ?_
      refine lv_iload_n hx hb d_L_add_24 rfl (lv_at hl 3 rfl) ?_
      refine fx_cS (B := (fun H q => H.size ≤ q) s.heap) KT_moved (ct_L_placeToAdd w b e1 y1 u z hz1) hx hfl hK hb (by rw [hml]; exact hl.1) hown (hw _ mm_L_48) (fx_Y.code (hw _ mk_L_placeToAdd)) (hw _ ms_L_placeToAdd) (hw _ mn_L) (show fx_N y_L_placeToAdd 2 by decide +kernel) rfl ⟨Nat.le_of_ble_eq_true rfl, Nat.le_of_ble_eq_true rfl, Nat.le_of_ble_eq_true rfl, Nat.le_of_ble_eq_true rfl⟩ (⟨hVo1, hEl1⟩) d_L_add_25 hL (fun q h => h.elim) (fun v H3 locs hq hF hL => ?_) (fun xx H3 locs hq hF hL => by cases hq)
      cases hq
      obtain rfl : H3 = H2 := hF.same (fun _ _ h => h)
      refine W.eq (g2 := F0 m 28 ls [.int (nI (sv_plc u z)), .ref e1, .ref b, .ref x]) rfl ?_
      refine lv_iload_n hx hb d_L_add_28 rfl (lv_at hl 3 rfl) ?_
      refine fx_cS (B := (fun H q => H.size ≤ q) s.heap) KT_moved (ct_L_inserted w e1 (sv_plc u z) u.2.2.1 z hz1 (sv_plc_le _ _)) hx hfl hK hb (by rw [hml]; exact hl.1) hown (hw _ mm_L_52) (fx_Y.code (hw _ mk_L_inserted)) (hw _ ms_L_inserted) (hw _ mn_L) (show fx_N y_L_inserted 3 by decide +kernel) rfl ⟨Nat.le_of_ble_eq_true rfl, Nat.le_of_ble_eq_true rfl, Nat.le_of_ble_eq_true rfl, Nat.le_of_ble_eq_true rfl⟩ (hEl1) d_L_add_29 hL (fun q h => (show s.heap.size ≤ q from Nat.le_trans hx1.1 h)) (fun v H4 locs hq hF hL => ?_) (fun xx H4 locs hq hF hL => by obtain ⟨q9, hv, -⟩ := hq; cases hv)
      obtain ⟨q1, hv, hq1, hA1⟩ := hq
      cases hv
      have hq1z := hq1
      have hq1 := Nat.le_trans hx1.1 hq1
      have hxe : fx_Ex H3 H4 := hF.ex (fun q h => Nat.not_le.mpr h)
      have hx1 := hx1.tr hxe
      have hS := hS.ex hxe
      have hVo1 := hxe.kept hVo1
      have hEl1 := hxe.kept hEl1
      have hKy1 := hxe.kept hKy1
      refine W.eq (g2 := F0 m 32 ls [.ref q1, .ref b, .ref x]) rfl ?_
      refine fx_cVN (B := (fun H q => H.size ≤ q) s.heap) KT_moved (ct_V_with w b e1 y1 q1 u.1 u.2.1) hx hfl hK hb (by rw [hml]; exact hl.1) hown (nl_L_56 hK _) (fx_Y.code (hw _ mk_V_with)) (hw _ mi_V_with) (hw _ mq_V_with) (show fx_N y_V_with 1 by decide +kernel) (va_recv (q0 := 0) hKv (fx_one hVo1) (show cls[1]? = some (R_V, T_V, 4) from rfl) rfl) rfl ⟨Nat.le_of_ble_eq_true rfl, Nat.le_of_ble_eq_true rfl, Nat.le_of_ble_eq_true rfl, Nat.le_of_ble_eq_true rfl⟩ (hVo1) d_L_add_32 hL (fun q h => (show s.heap.size ≤ q from Nat.le_trans hx1.1 h)) (fun v H5 locs hq hF hL => ?_) (fun xx H5 locs hq hF hL => by obtain ⟨q9, hv, -⟩ := hq; cases hv)
      obtain ⟨q2, hv, hq2, hVn⟩ := hq
      cases hv
      have hq2z := hq2
      have hq2 := Nat.le_trans hx1.1 hq2
      have hxe : fx_Ex H4 H5 := hF.ex (fun q h => Nat.not_le.mpr h)
      have hx1 := hx1.tr hxe
      have hS := hS.ex hxe
      have hVo1 := hxe.kept hVo1
      have hEl1 := hxe.kept hEl1
      have hKy1 := hxe.kept hKy1
      have hA1 := hxe.kept hA1
      refine W.eq (g2 := F0 m 35 ls [.ref q2, .ref x]) rfl ?_
      refine fx_cV (B := (fun _ q => w.H0.size ≤ q ∧ ¬ F q) s.heap) KT_moved (ct_L_keep w F x al ar Vs q2 (u.1, u.2.1, sv_ins u.2.2.1 (sv_plc u z) z, u.2.2.2) hl63 (⟨by show (sv_ins u.2.2.1 (sv_plc u z) z).length ≤ 100; rw [sv_ins_length (sv_plc_le _ _)]; omega, fun h3 => absurd h3 hP, hok1.2.2⟩)) hx hfl hK hb (by rw [hml]; exact hl.1) hown (hw _ mm_L_36) (fx_Y.code (hw _ mk_L_keep)) (hw _ mi_L_keep) (hw _ mq_L_keep) (show fx_N y_L_keep 1 by decide +kernel) (va_recv (q0 := 0) hKv (fx_one hS.2.2.2.1) (show cls[0]? = some (R_L, T_L, 1) from rfl) rfl) rfl ⟨Nat.le_of_ble_eq_true rfl, Nat.le_of_ble_eq_true rfl, Nat.le_of_ble_eq_true rfl, Nat.le_of_ble_eq_true rfl⟩ (⟨hS, ⟨q1, y1, hVn, hA1, hKy1, hfn q2 hq2, hfn q1 hq1, hNy1⟩⟩) d_L_add_35 (fun q hq => hfr q.base (hL q hq)) (fun q h => hS.api h) (fun v H6 locs hq hF hL => ?_) (fun xx H6 locs hq hF hL => by obtain ⟨hv, -⟩ := hq; cases hv)
      obtain ⟨hv, ar2, hS2⟩ := hq
      cases hv
      refine W.eq (g2 := F0 m 38 ls [.int (nI Vs.length)]) rfl ?_
      exact fx_iret hx hb hr hlk hL (Nat.le_of_ble_eq_true rfl) (Nat.le_of_ble_eq_true rfl) d_L_add_38 (cEnd.r (by unfold so_add; rw [hat]; dsimp only; rw [if_neg hP, if_neg hl2]; rfl) hS2 rfl)
  · have hno : ∀ u, sv_at Vs v = some u → ¬ ¬ u.1 = 3 := fun u h1 h2 => hex ⟨u, h1, h2⟩
    refine fx_cV (B := (fun H q => H.size ≤ q) s.heap) KT_moved (ct_L_foundButNoMap w F x al ar Vs v) hx hfl hK hb (by rw [hml]; exact hl.1) hown (hw _ mm_L_40) (fx_Y.code (hw _ mk_L_foundButNoMap)) (hw _ mi_L_foundButNoMap) (hw _ mq_L_foundButNoMap) (show fx_N y_L_foundButNoMap 1 by decide +kernel) (va_recv (q0 := 0) hKv (fx_one hS.2.2.2.1) (show cls[0]? = some (R_L, T_L, 1) from rfl) rfl) rfl ⟨Nat.le_of_ble_eq_true rfl, Nat.le_of_ble_eq_true rfl, Nat.le_of_ble_eq_true rfl, Nat.le_of_ble_eq_true rfl⟩ (hS) d_L_add_2 hL (fun q h => (show s.heap.size ≤ q from Nat.le_trans hx1.1 h)) (fun v H1 locs hq hF hL => ?_) (fun xx H1 locs hq hF hL => by obtain ⟨y0, hv, hxc⟩ := hq.1 hno; cases hv; exact fx_out rfl rfl rfl hnt hlk (fun q hq => hfr q.base (hL q hq)) (Nat.le_of_ble_eq_true rfl) (Nat.le_of_ble_eq_true rfl) (cEnd.t (c := 1) (z := 0) (so_no (P := fun u => ¬ u.1 = 3) hno (fun u hu => if_pos (Decidable.not_not.mp hu))) (by decide) (hS.ex (hF.ex (fun q h => Nat.not_le.mpr h))) rfl hxc))
    obtain ⟨y0, hv, -⟩ := hq.1 hno
    cases hv
set_option maxHeartbeats 4000000 in
set_option maxRecDepth 100000 in
theorem ct_L_rest (w : Wd) (F : Nat → Prop) (x al : Nat) (Vs : List sV) (v : Int32) : fx_C (KT w) y_L_rest 3 (rmN 9 8 700) [.ref x, .int v] (fun H => cT w F x al Vs H) (cEnd w F x al (ecx 1 2) (so_rest Vs v)) (fun _ q => w.H0.size ≤ q ∧ ¬ F q) := by
  refine fx_of (ret := (some (FieldType.int))) (cc := b_L_rest) (fun s hK => hK.1 _ mk_L_rest _) (Nat.le_of_ble_eq_true rfl) ?_
  intro p l e s m below meth c hx hfl hK hb hml hr hlk hnt hown hin hpre ls hl
  have hw : ∀ z ∈ gw, z.before ([.ref x, .int v] : List Value).toArray s = true := fun z hz => hK.1 z hz _
  have hKv := hK.2.1
  have hL : ∀ q ∈ ([] : List Loc), (fun H q => H.size ≤ q) s.heap q.base := fun q hq => by cases hq
  obtain ⟨ar, hS⟩ := hpre
  have hLow := hS.1
  have hS0 := hS
  have hx1 : fx_Ex s.heap s.heap := fx_Ex.rf
  have hfr : ∀ q, s.heap.size ≤ q → (fun _ q => w.H0.size ≤ q ∧ ¬ F q) s.heap q := fun q hq => ⟨Nat.le_trans hLow.1 hq, fun z => absurd (hS0.2.1 q z) (Nat.not_lt.mpr hq)⟩
  have hfn : ∀ q, s.heap.size ≤ q → cN F al ar q := fun q hq => hS0.fr (kE0 hK) hq
  have hVl : Vs.length ≤ 64 := by obtain ⟨-, -, -, -, -, cap, mc, f, -, -, -, -, -, h, -⟩ := hS0; exact h
  have hl : lv_has ls 3 [(0, .ref x), (1, .int v)] := hl
  refine lv_aload_n hx hb d_L_rest_0 rfl (lv_at hl 0 rfl) ?_
  refine lv_iload_n hx hb d_L_rest_1 rfl (lv_at hl 1 rfl) ?_
  rcases Classical.em (∃ u, sv_at Vs v = some u ∧ ¬ u.1 = 3) with ⟨u, hat, hP⟩ | hex
  · refine fx_cV (B := (fun H q => H.size ≤ q) s.heap) KT_moved (ct_L_foundButNoMap w F x al ar Vs v) hx hfl hK hb (by rw [hml]; exact hl.1) hown (hw _ mm_L_40) (fx_Y.code (hw _ mk_L_foundButNoMap)) (hw _ mi_L_foundButNoMap) (hw _ mq_L_foundButNoMap) (show fx_N y_L_foundButNoMap 1 by decide +kernel) (va_recv (q0 := 0) hKv (fx_one hS.2.2.2.1) (show cls[0]? = some (R_L, T_L, 1) from rfl) rfl) rfl ⟨Nat.le_of_ble_eq_true rfl, Nat.le_of_ble_eq_true rfl, Nat.le_of_ble_eq_true rfl, Nat.le_of_ble_eq_true rfl⟩ (hS) d_L_rest_2 hL (fun q h => (show s.heap.size ≤ q from Nat.le_trans hx1.1 h)) (fun v H1 locs hq hF hL => ?_) (fun xx H1 locs hq hF hL => by obtain ⟨b0, hv, -⟩ := hq.2 u hat hP; cases hv)
    obtain ⟨b, hv, ⟨e1, y1, hVo1, hEl1, hKy1, hNb1, hNe1, hNy1⟩, hok1⟩ := hq.2 u hat hP
    cases hv
    have hxe : fx_Ex s.heap H1 := hF.ex (fun q h => Nat.not_le.mpr h)
    have hx1 := hx1.tr hxe
    have hS := hS.ex hxe
    have hz1 : u.2.2.1.length ≤ 100 := hok1.1
    have hzk1 : u.2.2.2.length ≤ 100 := hok1.2.2
    refine W.eq (g2 := F0 m 5 ls [.ref b]) rfl ?_
    refine lv_astore_n hx hb d_L_rest_5 rfl hl (by decide) rfl (fun ls hl => ?_)
    have hl : lv_has ls 3 [(2, .ref b), (0, .ref x), (1, .int v)] := hl
    refine lv_aload_n hx hb d_L_rest_6 rfl (lv_at hl 1 rfl) ?_
    refine lv_aload_n hx hb d_L_rest_7 rfl (lv_at hl 0 rfl) ?_
    refine fx_getN hx hb hown (kc_V hK _) hKv 2 (by decide) ((nl_L_44 hK _)) (fun _ h => h) hVo1 rfl d_L_rest_8 ?_
    refine fx_alen hx hb hKv 0 hEl1 rfl d_L_rest_11 ?_
    refine lv_iconst (v := nI 1) hx hb d_L_rest_12 rfl ?_
    refine lv_isub hx hb d_L_rest_13 ?_
    by_cases hlim : 64 ≤ Vs.length ∨ nI 100 < (nI u.2.2.1.length - nI 1)
    · have hl2 : 64 ≤ Vs.length := hlim.elim id (fun z => absurd z (kf_sub1 hz1))
      refine fx_cV (B := (fun H q => H.size ≤ q) s.heap) KT_moved (ct_L_refuseBeyondLimits w F x al ar Vs ((nI u.2.2.1.length - nI 1))) hx hfl hK hb (by rw [hml]; exact hl.1) hown (hw _ mm_L_27) (fx_Y.code (hw _ mk_L_refuseBeyondLimits)) (hw _ mi_L_refuseBeyondLimits) (hw _ mq_L_refuseBeyondLimits) (show fx_N y_L_refuseBeyondLimits 1 by decide +kernel) (va_recv (q0 := 0) hKv (fx_one hS.2.2.2.1) (show cls[0]? = some (R_L, T_L, 1) from rfl) rfl) rfl ⟨Nat.le_of_ble_eq_true rfl, Nat.le_of_ble_eq_true rfl, Nat.le_of_ble_eq_true rfl, Nat.le_of_ble_eq_true rfl⟩ (hS) d_L_rest_14 hL (fun q h => (show s.heap.size ≤ q from Nat.le_trans hx1.1 h)) (fun v H2 locs hq hF hL => ?_) (fun xx H2 locs hq hF hL => by obtain ⟨y0, hv, hxc⟩ := hq.1 hlim; cases hv; exact fx_out rfl rfl rfl hnt hlk (fun q hq => hfr q.base (hL q hq)) (Nat.le_of_ble_eq_true rfl) (Nat.le_of_ble_eq_true rfl) (cEnd.t (c := 2) (z := 0) (by unfold so_rest; rw [hat]; dsimp only; rw [if_neg hP, if_pos hl2]) (by decide) (hS.ex (hF.ex (fun q h => Nat.not_le.mpr h))) rfl hxc))
      obtain ⟨y0, hv, -⟩ := hq.1 hlim
      cases hv
    · have hl2 : ¬ 64 ≤ Vs.length := fun z => hlim (Or.inl z)
      have hl63 : Vs.length ≤ 63 := Nat.le_of_lt_succ (Nat.not_le.mp (fun z => hlim (Or.inl z)))
      refine fx_cV (B := (fun H q => H.size ≤ q) s.heap) KT_moved (ct_L_refuseBeyondLimits w F x al ar Vs ((nI u.2.2.1.length - nI 1))) hx hfl hK hb (by rw [hml]; exact hl.1) hown (hw _ mm_L_27) (fx_Y.code (hw _ mk_L_refuseBeyondLimits)) (hw _ mi_L_refuseBeyondLimits) (hw _ mq_L_refuseBeyondLimits) (show fx_N y_L_refuseBeyondLimits 1 by decide +kernel) (va_recv (q0 := 0) hKv (fx_one hS.2.2.2.1) (show cls[0]? = some (R_L, T_L, 1) from rfl) rfl) rfl ⟨Nat.le_of_ble_eq_true rfl, Nat.le_of_ble_eq_true rfl, Nat.le_of_ble_eq_true rfl, Nat.le_of_ble_eq_true rfl⟩ (hS) d_L_rest_14 hL (fun q h => (show s.heap.size ≤ q from Nat.le_trans hx1.1 h)) (fun v H2 locs hq hF hL => ?_) (fun xx H2 locs hq hF hL => by have hv := hq.2 hlim; cases hv)
      have hv := hq.2 hlim
      cases hv
      have hxe : fx_Ex H1 H2 := hF.ex (fun q h => Nat.not_le.mpr h)
      have hx1 := hx1.tr hxe
      have hS := hS.ex hxe
      have hVo1 := hxe.kept hVo1
      have hEl1 := hxe.kept hEl1
      have hKy1 := hxe.kept hKy1
      refine W.eq (g2 := F0 m 17 ls []) rfl ?_
      refine lv_aload_n hx hb d_L_rest_17 rfl (lv_at hl 0 rfl) ?_
      by_cases hemp : u.2.2.1.length = 0
      · refine fx_cS (B := (fun H q => H.size ≤ q) s.heap) KT_moved (ct_L_refuseWithoutElements w b e1 y1 u.1 u.2.1 u.2.2.1 hz1) hx hfl hK hb (by rw [hml]; exact hl.1) hown (hw _ mm_L_60) (fx_Y.code (hw _ mk_L_refuseWithoutElements)) (hw _ ms_L_refuseWithoutElements) (hw _ mn_L) (show fx_N y_L_refuseWithoutElements 1 by decide +kernel) rfl ⟨Nat.le_of_ble_eq_true rfl, Nat.le_of_ble_eq_true rfl, Nat.le_of_ble_eq_true rfl, Nat.le_of_ble_eq_true rfl⟩ (⟨hS.1, hVo1, hEl1⟩) d_L_rest_18 hL (fun q h => (show s.heap.size ≤ q from Nat.le_trans hx1.1 h)) (fun v H3 locs hq hF hL => ?_) (fun xx H3 locs hq hF hL => by obtain ⟨y0, hv, hxc⟩ := hq.1 hemp; cases hv; exact fx_out rfl rfl rfl hnt hlk (fun q hq => hfr q.base (hL q hq)) (Nat.le_of_ble_eq_true rfl) (Nat.le_of_ble_eq_true rfl) (cEnd.t (c := 3) (z := 0) (by unfold so_rest; rw [hat]; dsimp only; rw [if_neg hP, if_neg hl2, if_pos hemp]) (by decide) (hS.ex (hF.ex (fun q h => Nat.not_le.mpr h))) rfl hxc))
        obtain ⟨y0, hv, -⟩ := hq.1 hemp
        cases hv
      · refine fx_cS (B := (fun H q => H.size ≤ q) s.heap) KT_moved (ct_L_refuseWithoutElements w b e1 y1 u.1 u.2.1 u.2.2.1 hz1) hx hfl hK hb (by rw [hml]; exact hl.1) hown (hw _ mm_L_60) (fx_Y.code (hw _ mk_L_refuseWithoutElements)) (hw _ ms_L_refuseWithoutElements) (hw _ mn_L) (show fx_N y_L_refuseWithoutElements 1 by decide +kernel) rfl ⟨Nat.le_of_ble_eq_true rfl, Nat.le_of_ble_eq_true rfl, Nat.le_of_ble_eq_true rfl, Nat.le_of_ble_eq_true rfl⟩ (⟨hS.1, hVo1, hEl1⟩) d_L_rest_18 hL (fun q h => (show s.heap.size ≤ q from Nat.le_trans hx1.1 h)) (fun v H3 locs hq hF hL => ?_) (fun xx H3 locs hq hF hL => by have hv := hq.2 hemp; cases hv)
        have hv := hq.2 hemp
        cases hv
        have hxe : fx_Ex H2 H3 := hF.ex (fun q h => Nat.not_le.mpr h)
        have hx1 := hx1.tr hxe
        have hS := hS.ex hxe
        have hVo1 := hxe.kept hVo1
        have hEl1 := hxe.kept hEl1
        have hKy1 := hxe.kept hKy1
        refine W.eq (g2 := F0 m 21 ls []) rfl ?_
        refine lv_aload_n hx hb d_L_rest_21 rfl (lv_at hl 1 rfl) ?_
        refine lv_aload_n hx hb d_L_rest_22 rfl (lv_at hl 0 rfl) ?_
        refine lv_aload_n hx hb d_L_rest_23 rfl (lv_at hl 0 rfl) ?_
        refine fx_getN hx hb hown (kc_V hK _) hKv 2 (by decide) ((nl_L_44 hK _)) (fun _ h => h) hVo1 rfl d_L_rest_24 ?_
        refine lv_iconst (v := nI 1) hx hb d_L_rest_27 rfl ?_
        refine lv_aload_n hx hb d_L_rest_28 rfl (lv_at hl 0 rfl) ?_
        refine fx_getN hx hb hown (kc_V hK _) hKv 2 (by decide) ((nl_L_44 hK _)) (fun _ h => h) hVo1 rfl d_L_rest_29 ?_
        refine fx_alen hx hb hKv 0 hEl1 rfl d_L_rest_32 ?_
        refine fx_cS (B := (fun H q => H.size ≤ q) s.heap) KT_moved (ct_AR_copyOfRange w e1 u.2.2.1 hz1 (by omega)) hx hfl hK hb (by rw [hml]; exact hl.1) hown (hw _ mm_L_64) (fx_Y.code (hw _ mk_AR_copyOfRange)) (hw _ ms_AR_copyOfRange) (hw _ mn_AR) (show fx_N y_AR_copyOfRange 3 by decide +kernel) rfl ⟨Nat.le_of_ble_eq_true rfl, Nat.le_of_ble_eq_true rfl, Nat.le_of_ble_eq_true rfl, Nat.le_of_ble_eq_true rfl⟩ (hEl1) d_L_rest_33 hL (fun q h => (show s.heap.size ≤ q from Nat.le_trans hx1.1 h)) (fun v H4 locs hq hF hL => ?_) (fun xx H4 locs hq hF hL => by obtain ⟨q9, hv, -⟩ := hq; cases hv)
        obtain ⟨q1, hv, hq1, hA1⟩ := hq
        cases hv
        have hq1z := hq1
        have hq1 := Nat.le_trans hx1.1 hq1
        have hxe : fx_Ex H3 H4 := hF.ex (fun q h => Nat.not_le.mpr h)
        have hx1 := hx1.tr hxe
        have hS := hS.ex hxe
        have hVo1 := hxe.kept hVo1
        have hEl1 := hxe.kept hEl1
        have hKy1 := hxe.kept hKy1
        refine W.eq (g2 := F0 m 36 ls [.ref q1, .ref b, .ref x]) rfl ?_
        refine fx_cVN (B := (fun H q => H.size ≤ q) s.heap) KT_moved (ct_V_with w b e1 y1 q1 u.1 u.2.1) hx hfl hK hb (by rw [hml]; exact hl.1) hown (nl_L_56 hK _) (fx_Y.code (hw _ mk_V_with)) (hw _ mi_V_with) (hw _ mq_V_with) (show fx_N y_V_with 1 by decide +kernel) (va_recv (q0 := 0) hKv (fx_one hVo1) (show cls[1]? = some (R_V, T_V, 4) from rfl) rfl) rfl ⟨Nat.le_of_ble_eq_true rfl, Nat.le_of_ble_eq_true rfl, Nat.le_of_ble_eq_true rfl, Nat.le_of_ble_eq_true rfl⟩ (hVo1) d_L_rest_36 hL (fun q h => (show s.heap.size ≤ q from Nat.le_trans hx1.1 h)) (fun v H5 locs hq hF hL => ?_) (fun xx H5 locs hq hF hL => by obtain ⟨q9, hv, -⟩ := hq; cases hv)
        obtain ⟨q2, hv, hq2, hVn⟩ := hq
        cases hv
        have hq2z := hq2
        have hq2 := Nat.le_trans hx1.1 hq2
        have hxe : fx_Ex H4 H5 := hF.ex (fun q h => Nat.not_le.mpr h)
        have hx1 := hx1.tr hxe
        have hS := hS.ex hxe
        have hVo1 := hxe.kept hVo1
        have hEl1 := hxe.kept hEl1
        have hKy1 := hxe.kept hKy1
        have hA1 := hxe.kept hA1
        refine W.eq (g2 := F0 m 39 ls [.ref q2, .ref x]) rfl ?_
        refine fx_cV (B := (fun _ q => w.H0.size ≤ q ∧ ¬ F q) s.heap) KT_moved (ct_L_keep w F x al ar Vs q2 (u.1, u.2.1, u.2.2.1.drop 1, u.2.2.2) hl63 (⟨by show (u.2.2.1.drop 1).length ≤ 100; rw [List.length_drop]; omega, fun h3 => absurd h3 hP, hok1.2.2⟩)) hx hfl hK hb (by rw [hml]; exact hl.1) hown (hw _ mm_L_36) (fx_Y.code (hw _ mk_L_keep)) (hw _ mi_L_keep) (hw _ mq_L_keep) (show fx_N y_L_keep 1 by decide +kernel) (va_recv (q0 := 0) hKv (fx_one hS.2.2.2.1) (show cls[0]? = some (R_L, T_L, 1) from rfl) rfl) rfl ⟨Nat.le_of_ble_eq_true rfl, Nat.le_of_ble_eq_true rfl, Nat.le_of_ble_eq_true rfl, Nat.le_of_ble_eq_true rfl⟩ (⟨hS, ⟨q1, y1, hVn, hA1, hKy1, hfn q2 hq2, hfn q1 hq1, hNy1⟩⟩) d_L_rest_39 (fun q hq => hfr q.base (hL q hq)) (fun q h => hS.api h) (fun v H6 locs hq hF hL => ?_) (fun xx H6 locs hq hF hL => by obtain ⟨hv, -⟩ := hq; cases hv)
        obtain ⟨hv, ar2, hS2⟩ := hq
        cases hv
        refine W.eq (g2 := F0 m 42 ls [.int (nI Vs.length)]) rfl ?_
        exact fx_iret hx hb hr hlk hL (Nat.le_of_ble_eq_true rfl) (Nat.le_of_ble_eq_true rfl) d_L_rest_42 (cEnd.r (by unfold so_rest; rw [hat]; dsimp only; rw [if_neg hP, if_neg hl2, if_neg hemp]; rfl) hS2 rfl)
  · have hno : ∀ u, sv_at Vs v = some u → ¬ ¬ u.1 = 3 := fun u h1 h2 => hex ⟨u, h1, h2⟩
    refine fx_cV (B := (fun H q => H.size ≤ q) s.heap) KT_moved (ct_L_foundButNoMap w F x al ar Vs v) hx hfl hK hb (by rw [hml]; exact hl.1) hown (hw _ mm_L_40) (fx_Y.code (hw _ mk_L_foundButNoMap)) (hw _ mi_L_foundButNoMap) (hw _ mq_L_foundButNoMap) (show fx_N y_L_foundButNoMap 1 by decide +kernel) (va_recv (q0 := 0) hKv (fx_one hS.2.2.2.1) (show cls[0]? = some (R_L, T_L, 1) from rfl) rfl) rfl ⟨Nat.le_of_ble_eq_true rfl, Nat.le_of_ble_eq_true rfl, Nat.le_of_ble_eq_true rfl, Nat.le_of_ble_eq_true rfl⟩ (hS) d_L_rest_2 hL (fun q h => (show s.heap.size ≤ q from Nat.le_trans hx1.1 h)) (fun v H1 locs hq hF hL => ?_) (fun xx H1 locs hq hF hL => by obtain ⟨y0, hv, hxc⟩ := hq.1 hno; cases hv; exact fx_out rfl rfl rfl hnt hlk (fun q hq => hfr q.base (hL q hq)) (Nat.le_of_ble_eq_true rfl) (Nat.le_of_ble_eq_true rfl) (cEnd.t (c := 1) (z := 0) (so_no (P := fun u => ¬ u.1 = 3) hno (fun u hu => if_pos (Decidable.not_not.mp hu))) (by decide) (hS.ex (hF.ex (fun q h => Nat.not_le.mpr h))) rfl hxc))
    obtain ⟨y0, hv, -⟩ := hq.1 hno
    cases hv
set_option maxHeartbeats 4000000 in
set_option maxRecDepth 100000 in
theorem ct_L_update (w : Wd) (F : Nat → Prop) (x al : Nat) (Vs : List sV) (v i z : Int32) : fx_C (KT w) y_L_update 5 (rmN 9 8 700) [.ref x, .int v, .int i, .int z] (fun H => cT w F x al Vs H) (cEnd w F x al (ecx 1 3) (so_update Vs v i z)) (fun _ q => w.H0.size ≤ q ∧ ¬ F q) := by
  refine fx_of (ret := (some (FieldType.int))) (cc := b_L_update) (fun s hK => hK.1 _ mk_L_update _) (Nat.le_of_ble_eq_true rfl) ?_
  intro p l e s m below meth c hx hfl hK hb hml hr hlk hnt hown hin hpre ls hl
  have hw : ∀ zc ∈ gw, zc.before ([.ref x, .int v, .int i, .int z] : List Value).toArray s = true := fun z hz => hK.1 z hz _
  have hKv := hK.2.1
  have hL : ∀ q ∈ ([] : List Loc), (fun H q => H.size ≤ q) s.heap q.base := fun q hq => by cases hq
  obtain ⟨ar, hS⟩ := hpre
  have hLow := hS.1
  have hS0 := hS
  have hx1 : fx_Ex s.heap s.heap := fx_Ex.rf
  have hfr : ∀ q, s.heap.size ≤ q → (fun _ q => w.H0.size ≤ q ∧ ¬ F q) s.heap q := fun q hq => ⟨Nat.le_trans hLow.1 hq, fun z => absurd (hS0.2.1 q z) (Nat.not_lt.mpr hq)⟩
  have hfn : ∀ q, s.heap.size ≤ q → cN F al ar q := fun q hq => hS0.fr (kE0 hK) hq
  have hVl : Vs.length ≤ 64 := by obtain ⟨-, -, -, -, -, cap, mc, f, -, -, -, -, -, h, -⟩ := hS0; exact h
  have hl : lv_has ls 5 [(0, .ref x), (1, .int v), (2, .int i), (3, .int z)] := hl
  refine lv_aload_n hx hb d_L_update_0 rfl (lv_at hl 0 rfl) ?_
  refine lv_iload_n hx hb d_L_update_1 rfl (lv_at hl 1 rfl) ?_
  refine lv_iconst (v := nI 2) hx hb d_L_update_2 rfl ?_
  rcases Classical.em (∃ u, sv_at Vs v = some u ∧ u.1 = 2) with ⟨u, hat, hP⟩ | hex
  · refine fx_cV (B := (fun H q => H.size ≤ q) s.heap) KT_moved (ct_L_foundOfKind w F x al ar Vs v 2) hx hfl hK hb (by rw [hml]; exact hl.1) hown (hw _ mm_L_89) (fx_Y.code (hw _ mk_L_foundOfKind)) (hw _ mi_L_foundOfKind) (hw _ mq_L_foundOfKind) (show fx_N y_L_foundOfKind 2 by decide +kernel) (va_recv (q0 := 0) hKv (fx_one hS.2.2.2.1) (show cls[0]? = some (R_L, T_L, 1) from rfl) rfl) rfl ⟨Nat.le_of_ble_eq_true rfl, Nat.le_of_ble_eq_true rfl, Nat.le_of_ble_eq_true rfl, Nat.le_of_ble_eq_true rfl⟩ (hS) d_L_update_3 hL (fun q h => (show s.heap.size ≤ q from Nat.le_trans hx1.1 h)) (fun v H1 locs hq hF hL => ?_) (fun xx H1 locs hq hF hL => by obtain ⟨b0, hv, -⟩ := hq.2 u hat hP; cases hv)
    obtain ⟨b, hv, ⟨e1, y1, hVo1, hEl1, hKy1, hNb1, hNe1, hNy1⟩, hok1⟩ := hq.2 u hat hP
    cases hv
    have hxe : fx_Ex s.heap H1 := hF.ex (fun q h => Nat.not_le.mpr h)
    have hx1 := hx1.tr hxe
    have hS := hS.ex hxe
    have hz1 : u.2.2.1.length ≤ 100 := hok1.1
    have hzk1 : u.2.2.2.length ≤ 100 := hok1.2.2
    refine W.eq (g2 := F0 m 6 ls [.ref b]) rfl ?_
    refine lv_astore hx hb d_L_update_6 hl (by decide) rfl (fun ls hl => ?_)
    have hl : lv_has ls 5 [(4, .ref b), (0, .ref x), (1, .int v), (2, .int i), (3, .int z)] := hl
    refine lv_aload_n hx hb d_L_update_8 rfl (lv_at hl 1 rfl) ?_
    refine lv_aload hx hb d_L_update_9 (lv_at hl 0 rfl) ?_
    refine fx_getN hx hb hown (kc_V hK _) hKv 2 (by decide) ((nl_L_44 hK _)) (fun _ h => h) hVo1 rfl d_L_update_11 ?_
    refine fx_alen hx hb hKv 0 hEl1 rfl d_L_update_14 ?_
    by_cases hlim : 64 ≤ Vs.length ∨ nI 100 < nI u.2.2.1.length
    · have hl2 : 64 ≤ Vs.length := hlim.elim id (fun z => absurd z (nI_nlt hz1 (by decide)))
      refine fx_cV (B := (fun H q => H.size ≤ q) s.heap) KT_moved (ct_L_refuseBeyondLimits w F x al ar Vs (nI u.2.2.1.length)) hx hfl hK hb (by rw [hml]; exact hl.1) hown (hw _ mm_L_27) (fx_Y.code (hw _ mk_L_refuseBeyondLimits)) (hw _ mi_L_refuseBeyondLimits) (hw _ mq_L_refuseBeyondLimits) (show fx_N y_L_refuseBeyondLimits 1 by decide +kernel) (va_recv (q0 := 0) hKv (fx_one hS.2.2.2.1) (show cls[0]? = some (R_L, T_L, 1) from rfl) rfl) rfl ⟨Nat.le_of_ble_eq_true rfl, Nat.le_of_ble_eq_true rfl, Nat.le_of_ble_eq_true rfl, Nat.le_of_ble_eq_true rfl⟩ (hS) d_L_update_15 hL (fun q h => (show s.heap.size ≤ q from Nat.le_trans hx1.1 h)) (fun v H2 locs hq hF hL => ?_) (fun xx H2 locs hq hF hL => by obtain ⟨y0, hv, hxc⟩ := hq.1 hlim; cases hv; exact fx_out rfl rfl rfl hnt hlk (fun q hq => hfr q.base (hL q hq)) (Nat.le_of_ble_eq_true rfl) (Nat.le_of_ble_eq_true rfl) (cEnd.t (c := 2) (z := 0) (by unfold so_update; rw [hat]; dsimp only; rw [if_pos hP, if_pos hl2]) (by decide) (hS.ex (hF.ex (fun q h => Nat.not_le.mpr h))) rfl hxc))
      obtain ⟨y0, hv, -⟩ := hq.1 hlim
      cases hv
    · have hl2 : ¬ 64 ≤ Vs.length := fun z => hlim (Or.inl z)
      have hl63 : Vs.length ≤ 63 := Nat.le_of_lt_succ (Nat.not_le.mp (fun z => hlim (Or.inl z)))
      refine fx_cV (B := (fun H q => H.size ≤ q) s.heap) KT_moved (ct_L_refuseBeyondLimits w F x al ar Vs (nI u.2.2.1.length)) hx hfl hK hb (by rw [hml]; exact hl.1) hown (hw _ mm_L_27) (fx_Y.code (hw _ mk_L_refuseBeyondLimits)) (hw _ mi_L_refuseBeyondLimits) (hw _ mq_L_refuseBeyondLimits) (show fx_N y_L_refuseBeyondLimits 1 by decide +kernel) (va_recv (q0 := 0) hKv (fx_one hS.2.2.2.1) (show cls[0]? = some (R_L, T_L, 1) from rfl) rfl) rfl ⟨Nat.le_of_ble_eq_true rfl, Nat.le_of_ble_eq_true rfl, Nat.le_of_ble_eq_true rfl, Nat.le_of_ble_eq_true rfl⟩ (hS) d_L_update_15 hL (fun q h => (show s.heap.size ≤ q from Nat.le_trans hx1.1 h)) (fun v H2 locs hq hF hL => ?_) (fun xx H2 locs hq hF hL => by have hv := hq.2 hlim; cases hv)
      have hv := hq.2 hlim
      cases hv
      have hxe : fx_Ex H1 H2 := hF.ex (fun q h => Nat.not_le.mpr h)
      have hx1 := hx1.tr hxe
      have hS := hS.ex hxe
      have hVo1 := hxe.kept hVo1
      have hEl1 := hxe.kept hEl1
      have hKy1 := hxe.kept hKy1
      refine W.eq (g2 := F0 m 18 ls []) rfl ?_
      refine lv_aload hx hb d_L_update_18 (lv_at hl 0 rfl) ?_
      refine lv_iload_n hx hb d_L_update_20 rfl (lv_at hl 3 rfl) ?_
      by_cases hout : i < 0 ∨ nI u.2.2.1.length ≤ i
      · refine fx_cS (B := (fun H q => H.size ≤ q) s.heap) KT_moved (ct_L_refuseOutside w b e1 y1 u.1 u.2.1 u.2.2.1 hz1 i) hx hfl hK hb (by rw [hml]; exact hl.1) hown (hw _ mm_L_117) (fx_Y.code (hw _ mk_L_refuseOutside)) (hw _ ms_L_refuseOutside) (hw _ mn_L) (show fx_N y_L_refuseOutside 2 by decide +kernel) rfl ⟨Nat.le_of_ble_eq_true rfl, Nat.le_of_ble_eq_true rfl, Nat.le_of_ble_eq_true rfl, Nat.le_of_ble_eq_true rfl⟩ (⟨hS.1, hVo1, hEl1⟩) d_L_update_21 hL (fun q h => (show s.heap.size ≤ q from Nat.le_trans hx1.1 h)) (fun v H3 locs hq hF hL => ?_) (fun xx H3 locs hq hF hL => by obtain ⟨y0, hv, hxc⟩ := hq.1 hout; cases hv; exact fx_out rfl rfl rfl hnt hlk (fun q hq => hfr q.base (hL q hq)) (Nat.le_of_ble_eq_true rfl) (Nat.le_of_ble_eq_true rfl) (cEnd.t (c := 3) (z := 0) (by unfold so_update; rw [hat]; dsimp only; rw [if_pos hP, if_neg hl2, if_pos hout]) (by decide) (hS.ex (hF.ex (fun q h => Nat.not_le.mpr h))) rfl hxc))
        obtain ⟨y0, hv, -⟩ := hq.1 hout
        cases hv
      · obtain ⟨j, hj1, ej⟩ := nI_of (fun z => hout (Or.inl z))
        have hj : j < u.2.2.1.length := Nat.not_le.mp (fun z => hout (Or.inr (by rw [ej]; exact nI_le z hj1)))
        refine fx_cS (B := (fun H q => H.size ≤ q) s.heap) KT_moved (ct_L_refuseOutside w b e1 y1 u.1 u.2.1 u.2.2.1 hz1 i) hx hfl hK hb (by rw [hml]; exact hl.1) hown (hw _ mm_L_117) (fx_Y.code (hw _ mk_L_refuseOutside)) (hw _ ms_L_refuseOutside) (hw _ mn_L) (show fx_N y_L_refuseOutside 2 by decide +kernel) rfl ⟨Nat.le_of_ble_eq_true rfl, Nat.le_of_ble_eq_true rfl, Nat.le_of_ble_eq_true rfl, Nat.le_of_ble_eq_true rfl⟩ (⟨hS.1, hVo1, hEl1⟩) d_L_update_21 hL (fun q h => (show s.heap.size ≤ q from Nat.le_trans hx1.1 h)) (fun v H3 locs hq hF hL => ?_) (fun xx H3 locs hq hF hL => by have hv := hq.2 hout; cases hv)
        have hv := hq.2 hout
        cases hv
        have hxe : fx_Ex H2 H3 := hF.ex (fun q h => Nat.not_le.mpr h)
        have hx1 := hx1.tr hxe
        have hS := hS.ex hxe
        have hVo1 := hxe.kept hVo1
        have hEl1 := hxe.kept hEl1
        have hKy1 := hxe.kept hKy1
        refine W.eq (g2 := F0 m 24 ls []) rfl ?_
        subst ej
        have hl : lv_has ls 5 [(4, .ref b), (0, .ref x), (1, .int v), (2, .int (nI j)), (3, .int z)] := hl
        refine lv_aload_n hx hb d_L_update_24 rfl (lv_at hl 1 rfl) ?_
        refine lv_aload hx hb d_L_update_25 (lv_at hl 0 rfl) ?_
        refine lv_aload hx hb d_L_update_27 (lv_at hl 0 rfl) ?_
        refine fx_getN hx hb hown (kc_V hK _) hKv 2 (by decide) ((nl_L_44 hK _)) (fun _ h => h) hVo1 rfl d_L_update_29 ?_
        refine lv_iload_n hx hb d_L_update_32 rfl (lv_at hl 3 rfl) ?_
        refine lv_iload_n hx hb d_L_update_33 rfl (lv_at hl 4 rfl) ?_
        refine fx_cS (B := (fun H q => H.size ≤ q) s.heap) KT_moved (ct_L_replaced w e1 j u.2.2.1 z hz1 hj) hx hfl hK hb (by rw [hml]; exact hl.1) hown (hw _ mm_L_106) (fx_Y.code (hw _ mk_L_replaced)) (hw _ ms_L_replaced) (hw _ mn_L) (show fx_N y_L_replaced 3 by decide +kernel) rfl ⟨Nat.le_of_ble_eq_true rfl, Nat.le_of_ble_eq_true rfl, Nat.le_of_ble_eq_true rfl, Nat.le_of_ble_eq_true rfl⟩ (hEl1) d_L_update_34 hL (fun q h => (show s.heap.size ≤ q from Nat.le_trans hx1.1 h)) (fun v H4 locs hq hF hL => ?_) (fun xx H4 locs hq hF hL => by obtain ⟨q9, hv, -⟩ := hq; cases hv)
        obtain ⟨q1, hv, hq1, hA1⟩ := hq
        cases hv
        have hq1z := hq1
        have hq1 := Nat.le_trans hx1.1 hq1
        have hxe : fx_Ex H3 H4 := hF.ex (fun q h => Nat.not_le.mpr h)
        have hx1 := hx1.tr hxe
        have hS := hS.ex hxe
        have hVo1 := hxe.kept hVo1
        have hEl1 := hxe.kept hEl1
        have hKy1 := hxe.kept hKy1
        refine W.eq (g2 := F0 m 37 ls [.ref q1, .ref b, .ref x]) rfl ?_
        refine fx_cVN (B := (fun H q => H.size ≤ q) s.heap) KT_moved (ct_V_with w b e1 y1 q1 u.1 u.2.1) hx hfl hK hb (by rw [hml]; exact hl.1) hown (nl_L_56 hK _) (fx_Y.code (hw _ mk_V_with)) (hw _ mi_V_with) (hw _ mq_V_with) (show fx_N y_V_with 1 by decide +kernel) (va_recv (q0 := 0) hKv (fx_one hVo1) (show cls[1]? = some (R_V, T_V, 4) from rfl) rfl) rfl ⟨Nat.le_of_ble_eq_true rfl, Nat.le_of_ble_eq_true rfl, Nat.le_of_ble_eq_true rfl, Nat.le_of_ble_eq_true rfl⟩ (hVo1) d_L_update_37 hL (fun q h => (show s.heap.size ≤ q from Nat.le_trans hx1.1 h)) (fun v H5 locs hq hF hL => ?_) (fun xx H5 locs hq hF hL => by obtain ⟨q9, hv, -⟩ := hq; cases hv)
        obtain ⟨q2, hv, hq2, hVn⟩ := hq
        cases hv
        have hq2z := hq2
        have hq2 := Nat.le_trans hx1.1 hq2
        have hxe : fx_Ex H4 H5 := hF.ex (fun q h => Nat.not_le.mpr h)
        have hx1 := hx1.tr hxe
        have hS := hS.ex hxe
        have hVo1 := hxe.kept hVo1
        have hEl1 := hxe.kept hEl1
        have hKy1 := hxe.kept hKy1
        have hA1 := hxe.kept hA1
        refine W.eq (g2 := F0 m 40 ls [.ref q2, .ref x]) rfl ?_
        refine fx_cV (B := (fun _ q => w.H0.size ≤ q ∧ ¬ F q) s.heap) KT_moved (ct_L_keep w F x al ar Vs q2 (u.1, u.2.1, u.2.2.1.set j z, u.2.2.2) hl63 (⟨by show (u.2.2.1.set j z).length ≤ 100; rw [List.length_set]; exact hz1, fun h3 => by show u.2.2.2.length = (u.2.2.1.set j z).length; rw [List.length_set]; exact hok1.2.1 h3, hok1.2.2⟩)) hx hfl hK hb (by rw [hml]; exact hl.1) hown (hw _ mm_L_36) (fx_Y.code (hw _ mk_L_keep)) (hw _ mi_L_keep) (hw _ mq_L_keep) (show fx_N y_L_keep 1 by decide +kernel) (va_recv (q0 := 0) hKv (fx_one hS.2.2.2.1) (show cls[0]? = some (R_L, T_L, 1) from rfl) rfl) rfl ⟨Nat.le_of_ble_eq_true rfl, Nat.le_of_ble_eq_true rfl, Nat.le_of_ble_eq_true rfl, Nat.le_of_ble_eq_true rfl⟩ (⟨hS, ⟨q1, y1, hVn, hA1, hKy1, hfn q2 hq2, hfn q1 hq1, hNy1⟩⟩) d_L_update_40 (fun q hq => hfr q.base (hL q hq)) (fun q h => hS.api h) (fun v H6 locs hq hF hL => ?_) (fun xx H6 locs hq hF hL => by obtain ⟨hv, -⟩ := hq; cases hv)
        obtain ⟨hv, ar2, hS2⟩ := hq
        cases hv
        refine W.eq (g2 := F0 m 43 ls [.int (nI Vs.length)]) rfl ?_
        exact fx_iret hx hb hr hlk hL (Nat.le_of_ble_eq_true rfl) (Nat.le_of_ble_eq_true rfl) d_L_update_43 (cEnd.r (by unfold so_update; rw [hat]; dsimp only; rw [if_pos hP, if_neg hl2, if_neg hout, nI_clamp hj1]; rfl) hS2 rfl)
  · have hno : ∀ u, sv_at Vs v = some u → ¬ u.1 = 2 := fun u h1 h2 => hex ⟨u, h1, h2⟩
    refine fx_cV (B := (fun H q => H.size ≤ q) s.heap) KT_moved (ct_L_foundOfKind w F x al ar Vs v 2) hx hfl hK hb (by rw [hml]; exact hl.1) hown (hw _ mm_L_89) (fx_Y.code (hw _ mk_L_foundOfKind)) (hw _ mi_L_foundOfKind) (hw _ mq_L_foundOfKind) (show fx_N y_L_foundOfKind 2 by decide +kernel) (va_recv (q0 := 0) hKv (fx_one hS.2.2.2.1) (show cls[0]? = some (R_L, T_L, 1) from rfl) rfl) rfl ⟨Nat.le_of_ble_eq_true rfl, Nat.le_of_ble_eq_true rfl, Nat.le_of_ble_eq_true rfl, Nat.le_of_ble_eq_true rfl⟩ (hS) d_L_update_3 hL (fun q h => (show s.heap.size ≤ q from Nat.le_trans hx1.1 h)) (fun v H1 locs hq hF hL => ?_) (fun xx H1 locs hq hF hL => by obtain ⟨y0, hv, hxc⟩ := hq.1 hno; cases hv; exact fx_out rfl rfl rfl hnt hlk (fun q hq => hfr q.base (hL q hq)) (Nat.le_of_ble_eq_true rfl) (Nat.le_of_ble_eq_true rfl) (cEnd.t (c := 1) (z := 0) (so_no (P := fun u => u.1 = 2) hno (fun u hu => if_neg hu)) (by decide) (hS.ex (hF.ex (fun q h => Nat.not_le.mpr h))) rfl hxc))
    obtain ⟨y0, hv, -⟩ := hq.1 hno
    cases hv
