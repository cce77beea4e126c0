set_option maxHeartbeats 4000000 in
set_option maxRecDepth 100000 in
theorem ct_L_join (w : Wd) (F : Nat → Prop) (x al : Nat) (Vs : List sV) (v t : Int32) : fx_C (KT w) y_L_join 6 (rmN 9 8 700) [.ref x, .int v, .int t] (fun H => cT w F x al Vs H) (cEnd w F x al (ecx 1 0) (so_join Vs v t)) (fun _ q => w.H0.size ≤ q ∧ ¬ F q) := by
  refine fx_of (ret := (some (FieldType.int))) (cc := b_L_join) (fun s hK => hK.1 _ mk_L_join _) (Nat.le_of_ble_eq_true rfl) ?_
  intro p l e s m below meth c hx hfl hK hb hml hr hlk hnt hown hin hpre ls hl
  have hw : ∀ z ∈ gw, z.before ([.ref x, .int v, .int t] : List Value).toArray s = true := fun z hz => hK.1 z hz _
  have hKv := hK.2.1
  have hL : ∀ q ∈ ([] : List Loc), (fun H q => H.size ≤ q) s.heap q.base := fun q hq => by cases hq
  obtain ⟨ar, hS⟩ := hpre
  have hLow := hS.1
  have hS0 := hS
  have hx1 : fx_Ex s.heap s.heap := fx_Ex.rf
  have hfr : ∀ q, s.heap.size ≤ q → (fun _ q => w.H0.size ≤ q ∧ ¬ F q) s.heap q := fun q hq => ⟨Nat.le_trans hLow.1 hq, fun z => absurd (hS0.2.1 q z) (Nat.not_lt.mpr hq)⟩
  have hfn : ∀ q, s.heap.size ≤ q → cN F al ar q := fun q hq => hS0.fr (kE0 hK) hq
  have hVl : Vs.length ≤ 64 := by obtain ⟨-, -, -, -, -, cap, mc, f, -, -, -, -, -, h, -⟩ := hS0; exact h
  have hl : lv_has ls 6 [(0, .ref x), (1, .int v), (2, .int t)] := hl
  refine lv_aload_n hx hb d_L_join_0 rfl (lv_at hl 0 rfl) ?_
  refine lv_iload_n hx hb d_L_join_1 rfl (lv_at hl 1 rfl) ?_
  rcases kf_op (sv_at Vs v) with hat | ⟨u, hat⟩
  · refine fx_cV (B := (fun H q => H.size ≤ q) s.heap) KT_moved (ct_L_found w F x al ar Vs v) hx hfl hK hb (by rw [hml]; exact hl.1) hown (hw _ mm_L_69) (fx_Y.code (hw _ mk_L_found)) (hw _ mi_L_found) (hw _ mq_L_found) (show fx_N y_L_found 1 by decide +kernel) (va_recv (q0 := 0) hKv (fx_one hS.2.2.2.1) (show cls[0]? = some (R_L, T_L, 1) from rfl) rfl) rfl ⟨Nat.le_of_ble_eq_true rfl, Nat.le_of_ble_eq_true rfl, Nat.le_of_ble_eq_true rfl, Nat.le_of_ble_eq_true rfl⟩ (hS) d_L_join_2 hL (fun q h => (show s.heap.size ≤ q from Nat.le_trans hx1.1 h)) (fun v H1 locs hq hF hL => ?_) (fun xx H1 locs hq hF hL => by obtain ⟨y0, hv, hxc⟩ := hq.1 hat; cases hv; exact fx_out rfl rfl rfl hnt hlk (fun q hq => hfr q.base (hL q hq)) (Nat.le_of_ble_eq_true rfl) (Nat.le_of_ble_eq_true rfl) (cEnd.t (c := 1) (z := 0) (by unfold so_join; simp only [hat]) (by decide) (hS.ex (hF.ex (fun q h => Nat.not_le.mpr h))) rfl hxc))
    obtain ⟨y0, hv, -⟩ := hq.1 hat
    cases hv
  · refine fx_cV (B := (fun H q => H.size ≤ q) s.heap) KT_moved (ct_L_found w F x al ar Vs v) hx hfl hK hb (by rw [hml]; exact hl.1) hown (hw _ mm_L_69) (fx_Y.code (hw _ mk_L_found)) (hw _ mi_L_found) (hw _ mq_L_found) (show fx_N y_L_found 1 by decide +kernel) (va_recv (q0 := 0) hKv (fx_one hS.2.2.2.1) (show cls[0]? = some (R_L, T_L, 1) from rfl) rfl) rfl ⟨Nat.le_of_ble_eq_true rfl, Nat.le_of_ble_eq_true rfl, Nat.le_of_ble_eq_true rfl, Nat.le_of_ble_eq_true rfl⟩ (hS) d_L_join_2 hL (fun q h => (show s.heap.size ≤ q from Nat.le_trans hx1.1 h)) (fun v H1 locs hq hF hL => ?_) (fun xx H1 locs hq hF hL => by obtain ⟨b0, hv, -⟩ := hq.2 u hat; cases hv)
    obtain ⟨b, hv, ⟨e1, y1, hVo1, hEl1, hKy1, hNb1, hNe1, hNy1⟩, hok1⟩ := hq.2 u hat
    cases hv
    have hxe : fx_Ex s.heap H1 := hF.ex (fun q h => Nat.not_le.mpr h)
    have hx1 := hx1.tr hxe
    have hS := hS.ex hxe
    have hz1 : u.2.2.1.length ≤ 100 := hok1.1
    have hzk1 : u.2.2.2.length ≤ 100 := hok1.2.2
    refine W.eq (g2 := F0 m 5 ls [.ref b]) rfl ?_
    refine lv_astore_n hx hb d_L_join_5 rfl hl (by decide) rfl (fun ls hl => ?_)
    have hl : lv_has ls 6 [(3, .ref b), (0, .ref x), (1, .int v), (2, .int t)] := hl
    refine lv_aload_n hx hb d_L_join_6 rfl (lv_at hl 1 rfl) ?_
    refine lv_iload_n hx hb d_L_join_7 rfl (lv_at hl 3 rfl) ?_
    rcases kf_op (sv_at Vs t) with hat2 | ⟨u2, hat2⟩
    · refine fx_cV (B := (fun H q => H.size ≤ q) s.heap) KT_moved (ct_L_found w F x al ar Vs t) hx hfl hK hb (by rw [hml]; exact hl.1) hown (hw _ mm_L_69) (fx_Y.code (hw _ mk_L_found)) (hw _ mi_L_found) (hw _ mq_L_found) (show fx_N y_L_found 1 by decide +kernel) (va_recv (q0 := 0) hKv (fx_one hS.2.2.2.1) (show cls[0]? = some (R_L, T_L, 1) from rfl) rfl) rfl ⟨Nat.le_of_ble_eq_true rfl, Nat.le_of_ble_eq_true rfl, Nat.le_of_ble_eq_true rfl, Nat.le_of_ble_eq_true rfl⟩ (hS) d_L_join_8 hL (fun q h => (show s.heap.size ≤ q from Nat.le_trans hx1.1 h)) (fun v H2 locs hq hF hL => ?_) (fun xx H2 locs hq hF hL => by obtain ⟨y0, hv, hxc⟩ := hq.1 hat2; cases hv; exact fx_out rfl rfl rfl hnt hlk (fun q hq => hfr q.base (hL q hq)) (Nat.le_of_ble_eq_true rfl) (Nat.le_of_ble_eq_true rfl) (cEnd.t (c := 1) (z := 0) (by unfold so_join; simp only [hat, hat2]) (by decide) (hS.ex (hF.ex (fun q h => Nat.not_le.mpr h))) rfl hxc))
      obtain ⟨y0, hv, -⟩ := hq.1 hat2
      cases hv
    · refine fx_cV (B := (fun H q => H.size ≤ q) s.heap) KT_moved (ct_L_found w F x al ar Vs t) hx hfl hK hb (by rw [hml]; exact hl.1) hown (hw _ mm_L_69) (fx_Y.code (hw _ mk_L_found)) (hw _ mi_L_found) (hw _ mq_L_found) (show fx_N y_L_found 1 by decide +kernel) (va_recv (q0 := 0) hKv (fx_one hS.2.2.2.1) (show cls[0]? = some (R_L, T_L, 1) from rfl) rfl) rfl ⟨Nat.le_of_ble_eq_true rfl, Nat.le_of_ble_eq_true rfl, Nat.le_of_ble_eq_true rfl, Nat.le_of_ble_eq_true rfl⟩ (hS) d_L_join_8 hL (fun q h => (show s.heap.size ≤ q from Nat.le_trans hx1.1 h)) (fun v H2 locs hq hF hL => ?_) (fun xx H2 locs hq hF hL => by obtain ⟨b0, hv, -⟩ := hq.2 u2 hat2; cases hv)
      obtain ⟨b2, hv, ⟨e2, y2, hVo2, hEl2, hKy2, hNb2, hNe2, hNy2⟩, hok2⟩ := hq.2 u2 hat2
      cases hv
      have hxe : fx_Ex H1 H2 := hF.ex (fun q h => Nat.not_le.mpr h)
      have hx1 := hx1.tr hxe
      have hS := hS.ex hxe
      have hVo1 := hxe.kept hVo1
      have hEl1 := hxe.kept hEl1
      have hKy1 := hxe.kept hKy1
      have hz2 : u2.2.2.1.length ≤ 100 := hok2.1
      have hzk2 : u2.2.2.2.length ≤ 100 := hok2.2.2
      refine W.eq (g2 := F0 m 11 ls [.ref b2]) rfl ?_
      refine lv_astore hx hb d_L_join_11 hl (by decide) rfl (fun ls hl => ?_)
      have hl : lv_has ls 6 [(4, .ref b2), (3, .ref b), (0, .ref x), (1, .int v), (2, .int t)] := hl
      refine lv_aload_n hx hb d_L_join_13 rfl (lv_at hl 1 rfl) ?_
      refine lv_aload hx hb d_L_join_14 (lv_at hl 0 rfl) ?_
      refine fx_cS (B := (fun H q => H.size ≤ q) s.heap) KT_moved (ct_L_canBeJoined w b b2 e1 y1 e2 y2 u.1 u.2.1 u2.1 u2.2.1) hx hfl hK hb (by rw [hml]; exact hl.1) hown (hw _ mm_L_72) (fx_Y.code (hw _ mk_L_canBeJoined)) (hw _ ms_L_canBeJoined) (hw _ mn_L) (show fx_N y_L_canBeJoined 2 by decide +kernel) rfl ⟨Nat.le_of_ble_eq_true rfl, Nat.le_of_ble_eq_true rfl, Nat.le_of_ble_eq_true rfl, Nat.le_of_ble_eq_true rfl⟩ (⟨hVo1, hVo2⟩) d_L_join_16 hL (fun q h => h.elim) (fun v H3 locs hq hF hL => ?_) (fun xx H3 locs hq hF hL => by cases hq)
      cases hq
      obtain rfl : H3 = H2 := hF.same (fun _ _ h => h)
      refine W.eq (g2 := F0 m 19 ls [.int (zI ((u.1 = 1 ∨ u.1 = 4) ∧ u.1 = u2.1 ∧ u.2.1 = u2.2.1))]) rfl ?_
      refine lv_if_ne (tgt := 32) hx hb d_L_join_19 rfl (fun h19 => ?_) (fun h19 => ?_)
      · have h19 := zI_ne0.mp h19
        have hj3 : ¬ u.1 = 3 := fun z => h19.1.elim (fun y => absurd (z.symm.trans y) (by decide)) (fun y => absurd (z.symm.trans y) (by decide))
        refine lv_aload_n hx hb d_L_join_32 rfl (lv_at hl 2 rfl) ?_
        refine lv_aload_n hx hb d_L_join_33 rfl (lv_at hl 1 rfl) ?_
        refine fx_getN hx hb hown (kc_V hK _) hKv 2 (by decide) ((nl_L_44 hK _)) (fun _ h => h) hVo1 rfl d_L_join_34 ?_
        refine fx_alen hx hb hKv 0 hEl1 rfl d_L_join_37 ?_
        refine lv_aload hx hb d_L_join_38 (lv_at hl 0 rfl) ?_
        refine fx_getN hx hb hown (kc_V hK _) hKv 2 (by decide) ((nl_L_44 hK _)) (fun _ h => h) hVo2 rfl d_L_join_40 ?_
        refine fx_alen hx hb hKv 0 hEl2 rfl d_L_join_43 ?_
        refine lv_iadd hx hb d_L_join_44 ?_
        refine fx_ti (y := nI (u.2.2.1.length + u2.2.2.1.length)) (nI_add _ _) ?_
        by_cases hlim : 64 ≤ Vs.length ∨ nI 100 < nI (u.2.2.1.length + u2.2.2.1.length)
        · have hl2 : 64 ≤ Vs.length ∨ 100 < u.2.2.1.length + u2.2.2.1.length := hlim.imp id (fun z => (nI_ltI (by decide) (by omega)).mp z)
          refine fx_cV (B := (fun H q => H.size ≤ q) s.heap) KT_moved (ct_L_refuseBeyondLimits w F x al ar Vs (nI (u.2.2.1.length + u2.2.2.1.length))) hx hfl hK hb (by rw [hml]; exact hl.1) hown (hw _ mm_L_27) (fx_Y.code (hw _ mk_L_refuseBeyondLimits)) (hw _ mi_L_refuseBeyondLimits) (hw _ mq_L_refuseBeyondLimits) (show fx_N y_L_refuseBeyondLimits 1 by decide +kernel) (va_recv (q0 := 0) hKv (fx_one hS.2.2.2.1) (show cls[0]? = some (R_L, T_L, 1) from rfl) rfl) rfl ⟨Nat.le_of_ble_eq_true rfl, Nat.le_of_ble_eq_true rfl, Nat.le_of_ble_eq_true rfl, Nat.le_of_ble_eq_true rfl⟩ (hS) d_L_join_45 hL (fun q h => (show s.heap.size ≤ q from Nat.le_trans hx1.1 h)) (fun v H4 locs hq hF hL => ?_) (fun xx H4 locs hq hF hL => by obtain ⟨y0, hv, hxc⟩ := hq.1 hlim; cases hv; exact fx_out rfl rfl rfl hnt hlk (fun q hq => hfr q.base (hL q hq)) (Nat.le_of_ble_eq_true rfl) (Nat.le_of_ble_eq_true rfl) (cEnd.t (c := 2) (z := 0) (by unfold so_join; simp only [hat, hat2]; rw [if_pos h19, if_pos hl2]) (by decide) (hS.ex (hF.ex (fun q h => Nat.not_le.mpr h))) rfl hxc))
          obtain ⟨y0, hv, -⟩ := hq.1 hlim
          cases hv
        · have hl2 : ¬ (64 ≤ Vs.length ∨ 100 < u.2.2.1.length + u2.2.2.1.length) := fun z => hlim (z.imp id (fun z => nI_lt z (by omega)))
          have hl63 : Vs.length ≤ 63 := Nat.le_of_lt_succ (Nat.not_le.mp (fun z => hlim (Or.inl z)))
          have hsum : u.2.2.1.length + u2.2.2.1.length ≤ 100 := Nat.not_lt.mp (fun z => hl2 (Or.inr z))
          refine fx_cV (B := (fun H q => H.size ≤ q) s.heap) KT_moved (ct_L_refuseBeyondLimits w F x al ar Vs (nI (u.2.2.1.length + u2.2.2.1.length))) hx hfl hK hb (by rw [hml]; exact hl.1) hown (hw _ mm_L_27) (fx_Y.code (hw _ mk_L_refuseBeyondLimits)) (hw _ mi_L_refuseBeyondLimits) (hw _ mq_L_refuseBeyondLimits) (show fx_N y_L_refuseBeyondLimits 1 by decide +kernel) (va_recv (q0 := 0) hKv (fx_one hS.2.2.2.1) (show cls[0]? = some (R_L, T_L, 1) from rfl) rfl) rfl ⟨Nat.le_of_ble_eq_true rfl, Nat.le_of_ble_eq_true rfl, Nat.le_of_ble_eq_true rfl, Nat.le_of_ble_eq_true rfl⟩ (hS) d_L_join_45 hL (fun q h => (show s.heap.size ≤ q from Nat.le_trans hx1.1 h)) (fun v H4 locs hq hF hL => ?_) (fun xx H4 locs hq hF hL => by have hv := hq.2 hlim; cases hv)
          have hv := hq.2 hlim
          cases hv
          have hxe : fx_Ex H3 H4 := hF.ex (fun q h => Nat.not_le.mpr h)
          have hx1 := hx1.tr hxe
          have hS := hS.ex hxe
          have hVo1 := hxe.kept hVo1
          have hEl1 := hxe.kept hEl1
          have hKy1 := hxe.kept hKy1
          have hVo2 := hxe.kept hVo2
          have hEl2 := hxe.kept hEl2
          have hKy2 := hxe.kept hKy2
          refine W.eq (g2 := F0 m 48 ls []) rfl ?_
          refine lv_aload_n hx hb d_L_join_48 rfl (lv_at hl 1 rfl) ?_
          refine fx_getN hx hb hown (kc_V hK _) hKv 0 (by decide) ((nl_L_78 hK _)) (fun _ h => h) hVo1 rfl d_L_join_49 ?_
          refine lv_iconst (v := nI 1) hx hb d_L_join_52 rfl ?_
          refine lv_icmp_ne (tgt := 71) hx hb d_L_join_53 rfl (fun h53 => ?_) (fun h53 => ?_)
          · refine lv_aload_n hx hb d_L_join_71 rfl (lv_at hl 1 rfl) ?_
            refine fx_getN hx hb hown (kc_V hK _) hKv 2 (by decide) ((nl_L_44 hK _)) (fun _ h => h) hVo1 rfl d_L_join_72 ?_
            refine lv_aload hx hb d_L_join_75 (lv_at hl 0 rfl) ?_
            refine fx_getN hx hb hown (kc_V hK _) hKv 2 (by decide) ((nl_L_44 hK _)) (fun _ h => h) hVo2 rfl d_L_join_77 ?_
            refine fx_cS (B := (fun H q => H.size ≤ q) s.heap) KT_moved (ct_L_appended w e1 e2 u.2.2.1 u2.2.2.1 hsum) hx hfl hK hb (by rw [hml]; exact hl.1) hown (hw _ mm_L_86) (fx_Y.code (hw _ mk_L_appended)) (hw _ ms_L_appended) (hw _ mn_L) (show fx_N y_L_appended 2 by decide +kernel) rfl ⟨Nat.le_of_ble_eq_true rfl, Nat.le_of_ble_eq_true rfl, Nat.le_of_ble_eq_true rfl, Nat.le_of_ble_eq_true rfl⟩ (⟨hEl1, hEl2⟩) d_L_join_80 hL (fun q h => (show s.heap.size ≤ q from Nat.le_trans hx1.1 h)) (fun v H5 locs hq hF hL => ?_) (fun xx H5 locs hq hF hL => by obtain ⟨q9, hv, -⟩ := hq; cases hv)
            obtain ⟨q1, hv, hq1, hA1⟩ := hq
            cases hv
            have hq1z := hq1
            have hq1 := Nat.le_trans hx1.1 hq1
            have hxe : fx_Ex H4 H5 := hF.ex (fun q h => Nat.not_le.mpr h)
            have hx1 := hx1.tr hxe
            have hS := hS.ex hxe
            have hVo1 := hxe.kept hVo1
            have hEl1 := hxe.kept hEl1
            have hKy1 := hxe.kept hKy1
            have hVo2 := hxe.kept hVo2
            have hEl2 := hxe.kept hEl2
            have hKy2 := hxe.kept hKy2
            refine W.eq (g2 := F0 m 83 ls [.ref q1]) rfl ?_
            refine lv_astore hx hb d_L_join_83 hl (by decide) rfl (fun ls hl => ?_)
            have hl : lv_has ls 6 [(5, .ref q1), (4, .ref b2), (3, .ref b), (0, .ref x), (1, .int v), (2, .int t)] := hl
            refine lv_aload_n hx hb d_L_join_85 rfl (lv_at hl 3 rfl) ?_
            refine lv_aload_n hx hb d_L_join_86 rfl (lv_at hl 2 rfl) ?_
            refine lv_aload hx hb d_L_join_87 (lv_at hl 0 rfl) ?_
            refine fx_cVN (B := (fun H q => H.size ≤ q) s.heap) KT_moved (ct_V_with w b e1 y1 q1 u.1 u.2.1) hx hfl hK hb (by rw [hml]; exact hl.1) hown (nl_L_56 hK _) (fx_Y.code (hw _ mk_V_with)) (hw _ mi_V_with) (hw _ mq_V_with) (show fx_N y_V_with 1 by decide +kernel) (va_recv (q0 := 0) hKv (fx_one hVo1) (show cls[1]? = some (R_V, T_V, 4) from rfl) rfl) rfl ⟨Nat.le_of_ble_eq_true rfl, Nat.le_of_ble_eq_true rfl, Nat.le_of_ble_eq_true rfl, Nat.le_of_ble_eq_true rfl⟩ (hVo1) d_L_join_89 hL (fun q h => (show s.heap.size ≤ q from Nat.le_trans hx1.1 h)) (fun v H6 locs hq hF hL => ?_) (fun xx H6 locs hq hF hL => by obtain ⟨q9, hv, -⟩ := hq; cases hv)
            obtain ⟨q2, hv, hq2, hVn⟩ := hq
            cases hv
            have hq2z := hq2
            have hq2 := Nat.le_trans hx1.1 hq2
            have hxe : fx_Ex H5 H6 := hF.ex (fun q h => Nat.not_le.mpr h)
            have hx1 := hx1.tr hxe
            have hS := hS.ex hxe
            have hVo1 := hxe.kept hVo1
            have hEl1 := hxe.kept hEl1
            have hKy1 := hxe.kept hKy1
            have hVo2 := hxe.kept hVo2
            have hEl2 := hxe.kept hEl2
            have hKy2 := hxe.kept hKy2
            have hA1 := hxe.kept hA1
            refine W.eq (g2 := F0 m 92 ls [.ref q2, .ref x]) rfl ?_
            refine fx_cV (B := (fun _ q => w.H0.size ≤ q ∧ ¬ F q) s.heap) KT_moved (ct_L_keep w F x al ar Vs q2 (u.1, u.2.1, u.2.2.1 ++ u2.2.2.1, u.2.2.2) hl63 (⟨by show (u.2.2.1 ++ u2.2.2.1).length ≤ 100; rw [List.length_append]; exact hsum, fun h3 => (hj3 h3).elim, hok1.2.2⟩)) hx hfl hK hb (by rw [hml]; exact hl.1) hown (hw _ mm_L_36) (fx_Y.code (hw _ mk_L_keep)) (hw _ mi_L_keep) (hw _ mq_L_keep) (show fx_N y_L_keep 1 by decide +kernel) (va_recv (q0 := 0) hKv (fx_one hS.2.2.2.1) (show cls[0]? = some (R_L, T_L, 1) from rfl) rfl) rfl ⟨Nat.le_of_ble_eq_true rfl, Nat.le_of_ble_eq_true rfl, Nat.le_of_ble_eq_true rfl, Nat.le_of_ble_eq_true rfl⟩ (⟨hS, ⟨q1, y1, hVn, hA1, hKy1, hfn q2 hq2, hfn q1 hq1, hNy1⟩⟩) d_L_join_92 (fun q hq => hfr q.base (hL q hq)) (fun q h => hS.api h) (fun v H7 locs hq hF hL => ?_) (fun xx H7 locs hq hF hL => by obtain ⟨hv, -⟩ := hq; cases hv)
            obtain ⟨hv, ar2, hS2⟩ := hq
            cases hv
            refine W.eq (g2 := F0 m 95 ls [.int (nI Vs.length)]) rfl ?_
            exact fx_iret hx hb hr hlk hL (Nat.le_of_ble_eq_true rfl) (Nat.le_of_ble_eq_true rfl) d_L_join_95 (cEnd.r (by unfold so_join; simp only [hat, hat2]; rw [if_pos h19, if_neg hl2, if_pos (h19.1.resolve_left h53)]; rfl) hS2 rfl)
          · refine lv_aload_n hx hb d_L_join_56 rfl (lv_at hl 1 rfl) ?_
            refine fx_getN hx hb hown (kc_V hK _) hKv 2 (by decide) ((nl_L_44 hK _)) (fun _ h => h) hVo1 rfl d_L_join_57 ?_
            refine lv_aload hx hb d_L_join_60 (lv_at hl 0 rfl) ?_
            refine fx_getN hx hb hown (kc_V hK _) hKv 2 (by decide) ((nl_L_44 hK _)) (fun _ h => h) hVo2 rfl d_L_join_62 ?_
            refine fx_cS (B := (fun H q => H.size ≤ q) s.heap) KT_moved (ct_L_merged w e1 e2 u.2.2.1 u2.2.2.1 hsum) hx hfl hK hb (by rw [hml]; exact hl.1) hown (hw _ mm_L_82) (fx_Y.code (hw _ mk_L_merged)) (hw _ ms_L_merged) (hw _ mn_L) (show fx_N y_L_merged 2 by decide +kernel) rfl ⟨Nat.le_of_ble_eq_true rfl, Nat.le_of_ble_eq_true rfl, Nat.le_of_ble_eq_true rfl, Nat.le_of_ble_eq_true rfl⟩ (⟨hEl1, hEl2⟩) d_L_join_65 hL (fun q h => (show s.heap.size ≤ q from Nat.le_trans hx1.1 h)) (fun v H5 locs hq hF hL => ?_) (fun xx H5 locs hq hF hL => by obtain ⟨q9, hv, -⟩ := hq; cases hv)
            obtain ⟨q1, hv, hq1, hA1⟩ := hq
            cases hv
            have hq1z := hq1
            have hq1 := Nat.le_trans hx1.1 hq1
            have hxe : fx_Ex H4 H5 := hF.ex (fun q h => Nat.not_le.mpr h)
            have hx1 := hx1.tr hxe
            have hS := hS.ex hxe
            have hVo1 := hxe.kept hVo1
            have hEl1 := hxe.kept hEl1
            have hKy1 := hxe.kept hKy1
            have hVo2 := hxe.kept hVo2
            have hEl2 := hxe.kept hEl2
            have hKy2 := hxe.kept hKy2
            refine W.eq (g2 := F0 m 68 ls [.ref q1]) rfl ?_
            refine lv_goto (tgt := 83) hx hb d_L_join_68 rfl ?_
            refine lv_astore hx hb d_L_join_83 hl (by decide) rfl (fun ls hl => ?_)
            have hl : lv_has ls 6 [(5, .ref q1), (4, .ref b2), (3, .ref b), (0, .ref x), (1, .int v), (2, .int t)] := hl
            refine lv_aload_n hx hb d_L_join_85 rfl (lv_at hl 3 rfl) ?_
            refine lv_aload_n hx hb d_L_join_86 rfl (lv_at hl 2 rfl) ?_
            refine lv_aload hx hb d_L_join_87 (lv_at hl 0 rfl) ?_
            refine fx_cVN (B := (fun H q => H.size ≤ q) s.heap) KT_moved (ct_V_with w b e1 y1 q1 u.1 u.2.1) hx hfl hK hb (by rw [hml]; exact hl.1) hown (nl_L_56 hK _) (fx_Y.code (hw _ mk_V_with)) (hw _ mi_V_with) (hw _ mq_V_with) (show fx_N y_V_with 1 by decide +kernel) (va_recv (q0 := 0) hKv (fx_one hVo1) (show cls[1]? = some (R_V, T_V, 4) from rfl) rfl) rfl ⟨Nat.le_of_ble_eq_true rfl, Nat.le_of_ble_eq_true rfl, Nat.le_of_ble_eq_true rfl, Nat.le_of_ble_eq_true rfl⟩ (hVo1) d_L_join_89 hL (fun q h => (show s.heap.size ≤ q from Nat.le_trans hx1.1 h)) (fun v H6 locs hq hF hL => ?_) (fun xx H6 locs hq hF hL => by obtain ⟨q9, hv, -⟩ := hq; cases hv)
            obtain ⟨q2, hv, hq2, hVn⟩ := hq
            cases hv
            have hq2z := hq2
            have hq2 := Nat.le_trans hx1.1 hq2
            have hxe : fx_Ex H5 H6 := hF.ex (fun q h => Nat.not_le.mpr h)
            have hx1 := hx1.tr hxe
            have hS := hS.ex hxe
            have hVo1 := hxe.kept hVo1
            have hEl1 := hxe.kept hEl1
            have hKy1 := hxe.kept hKy1
            have hVo2 := hxe.kept hVo2
            have hEl2 := hxe.kept hEl2
            have hKy2 := hxe.kept hKy2
            have hA1 := hxe.kept hA1
            refine W.eq (g2 := F0 m 92 ls [.ref q2, .ref x]) rfl ?_
            refine fx_cV (B := (fun _ q => w.H0.size ≤ q ∧ ¬ F q) s.heap) KT_moved (ct_L_keep w F x al ar Vs q2 (u.1, u.2.1, sv_mrg u.2.2.1 u2.2.2.1, u.2.2.2) hl63 (⟨by show (sv_mrg u.2.2.1 u2.2.2.1).length ≤ 100; rw [sv_mrg_length]; exact hsum, fun h3 => (hj3 h3).elim, hok1.2.2⟩)) hx hfl hK hb (by rw [hml]; exact hl.1) hown (hw _ mm_L_36) (fx_Y.code (hw _ mk_L_keep)) (hw _ mi_L_keep) (hw _ mq_L_keep) (show fx_N y_L_keep 1 by decide +kernel) (va_recv (q0 := 0) hKv (fx_one hS.2.2.2.1) (show cls[0]? = some (R_L, T_L, 1) from rfl) rfl) rfl ⟨Nat.le_of_ble_eq_true rfl, Nat.le_of_ble_eq_true rfl, Nat.le_of_ble_eq_true rfl, Nat.le_of_ble_eq_true rfl⟩ (⟨hS, ⟨q1, y1, hVn, hA1, hKy1, hfn q2 hq2, hfn q1 hq1, hNy1⟩⟩) d_L_join_92 (fun q hq => hfr q.base (hL q hq)) (fun q h => hS.api h) (fun v H7 locs hq hF hL => ?_) (fun xx H7 locs hq hF hL => by obtain ⟨hv, -⟩ := hq; cases hv)
            obtain ⟨hv, ar2, hS2⟩ := hq
            cases hv
            refine W.eq (g2 := F0 m 95 ls [.int (nI Vs.length)]) rfl ?_
            exact fx_iret hx hb hr hlk hL (Nat.le_of_ble_eq_true rfl) (Nat.le_of_ble_eq_true rfl) d_L_join_95 (cEnd.r (by unfold so_join; simp only [hat, hat2]; rw [if_pos h19, if_neg hl2, if_neg (by rw [h53]; decide)]; rfl) hS2 rfl)
      · have h19 := zI_eq0.mp h19
        exact fx_throw (xc_IAE w) hx hfl hK hLow hb (by rw [hml]; exact hl.1) hown (hw _ mc_L_20) (hw _ mn_IllegalArgumentException) (show (76, "not two heaps or two chains of one form") ∈ kstr by decide) hnt hlk hL (hx1.1) ⟨Nat.le_of_ble_eq_true rfl, Nat.le_of_ble_eq_true rfl, Nat.le_of_ble_eq_true rfl, Nat.le_of_ble_eq_true rfl⟩ (Nat.le_of_ble_eq_true rfl) (Nat.le_of_ble_eq_true rfl) (fun q hq => hfr q.base (hL q hq)) d_L_join_22 d_L_join_25 d_L_join_26 d_L_join_28 d_L_join_31 (fun xx H' h7 hx1 h9 => have hxc : xcp w 0 xx H' := h9.x hK (by decide); cEnd.t (c := 1) (z := 0) (by unfold so_join; simp only [hat, hat2]; rw [if_neg h19]) (by decide) (hS0.ex hx1) rfl hxc)
set_option maxHeartbeats 4000000 in
set_option maxRecDepth 100000 in
theorem ct_L_empty (w : Wd) (F : Nat → Prop) (x al : Nat) (Vs : List sV) (k f : Int32) : fx_C (KT w) y_L_empty 3 (rmN 9 8 700) [.ref x, .int k, .int f] (fun H => cT w F x al Vs H) (cEnd w F x al (ecx 1 0) (so_empty Vs k f)) (fun _ q => w.H0.size ≤ q ∧ ¬ F q) := by
  refine fx_of (ret := (some (FieldType.int))) (cc := b_L_empty) (fun s hK => hK.1 _ mk_L_empty _) (Nat.le_of_ble_eq_true rfl) ?_
  intro p l e s m below meth c hx hfl hK hb hml hr hlk hnt hown hin hpre ls hl
  have hw : ∀ z ∈ gw, z.before ([.ref x, .int k, .int f] : List Value).toArray s = true := fun z hz => hK.1 z hz _
  have hKv := hK.2.1
  have hL : ∀ q ∈ ([] : List Loc), (fun H q => H.size ≤ q) s.heap q.base := fun q hq => by cases hq
  obtain ⟨ar, hS⟩ := hpre
  have hLow := hS.1
  have hS0 := hS
  have hx1 : fx_Ex s.heap s.heap := fx_Ex.rf
  have hfr : ∀ q, s.heap.size ≤ q → (fun _ q => w.H0.size ≤ q ∧ ¬ F q) s.heap q := fun q hq => ⟨Nat.le_trans hLow.1 hq, fun z => absurd (hS0.2.1 q z) (Nat.not_lt.mpr hq)⟩
  have hfn : ∀ q, s.heap.size ≤ q → cN F al ar q := fun q hq => hS0.fr (kE0 hK) hq
  have hVl : Vs.length ≤ 64 := by obtain ⟨-, -, -, -, -, cap, mc, f, -, -, -, -, -, h, -⟩ := hS0; exact h
  have hl : lv_has ls 3 [(0, .ref x), (1, .int k), (2, .int f)] := hl
  refine lv_iload_n hx hb d_L_empty_0 rfl (lv_at hl 1 rfl) ?_
  refine lv_iload_n hx hb d_L_empty_1 rfl (lv_at hl 2 rfl) ?_
  refine fx_cS (B := (fun H q => H.size ≤ q) s.heap) KT_moved (ct_L_isKindWithForm w k f) hx hfl hK hb (by rw [hml]; exact hl.1) hown (hw _ mm_L_16) (fx_Y.code (hw _ mk_L_isKindWithForm)) (hw _ ms_L_isKindWithForm) (hw _ mn_L) (show fx_N y_L_isKindWithForm 2 by decide +kernel) rfl ⟨Nat.le_of_ble_eq_true rfl, Nat.le_of_ble_eq_true rfl, Nat.le_of_ble_eq_true rfl, Nat.le_of_ble_eq_true rfl⟩ (hS.1) d_L_empty_2 hL (fun q h => h.elim) (fun v H1 locs hq hF hL => ?_) (fun xx H1 locs hq hF hL => by cases hq)
  cases hq
  obtain rfl : H1 = s.heap := hF.same (fun _ _ h => h)
  refine W.eq (g2 := F0 m 5 ls [.int (zI (0 ≤ k ∧ k ≤ 4 ∧ 0 ≤ f ∧ f ≤ (if k < 2 then 2 else if k < 4 then 1 else 0)))]) rfl ?_
  refine lv_if_ne (tgt := 18) hx hb d_L_empty_5 rfl (fun h5 => ?_) (fun h5 => ?_)
  · have h5 := zI_ne0.mp h5
    refine lv_aload_n hx hb d_L_empty_18 rfl (lv_at hl 0 rfl) ?_
    refine lv_iconst (v := nI 0) hx hb d_L_empty_19 rfl ?_
    by_cases hlim : 64 ≤ Vs.length ∨ nI 100 < nI 0
    · have hl2 : 64 ≤ Vs.length := hlim.elim id (fun z => absurd z (by decide))
      refine fx_cV (B := (fun H q => H.size ≤ q) s.heap) KT_moved (ct_L_refuseBeyondLimits w F x al ar Vs (nI 0)) hx hfl hK hb (by rw [hml]; exact hl.1) hown (hw _ mm_L_27) (fx_Y.code (hw _ mk_L_refuseBeyondLimits)) (hw _ mi_L_refuseBeyondLimits) (hw _ mq_L_refuseBeyondLimits) (show fx_N y_L_refuseBeyondLimits 1 by decide +kernel) (va_recv (q0 := 0) hKv (fx_one hS.2.2.2.1) (show cls[0]? = some (R_L, T_L, 1) from rfl) rfl) rfl ⟨Nat.le_of_ble_eq_true rfl, Nat.le_of_ble_eq_true rfl, Nat.le_of_ble_eq_true rfl, Nat.le_of_ble_eq_true rfl⟩ (hS) d_L_empty_20 hL (fun q h => (show s.heap.size ≤ q from Nat.le_trans hx1.1 h)) (fun v H2 locs hq hF hL => ?_) (fun xx H2 locs hq hF hL => by obtain ⟨y0, hv, hxc⟩ := hq.1 hlim; cases hv; exact fx_out rfl rfl rfl hnt hlk (fun q hq => hfr q.base (hL q hq)) (Nat.le_of_ble_eq_true rfl) (Nat.le_of_ble_eq_true rfl) (cEnd.t (c := 2) (z := 0) ((if_pos h5).trans (if_pos hl2)) (by decide) (hS.ex (hF.ex (fun q h => Nat.not_le.mpr h))) rfl hxc))
      obtain ⟨y0, hv, -⟩ := hq.1 hlim
      cases hv
    · have hl2 : ¬ 64 ≤ Vs.length := fun z => hlim (Or.inl z)
      have hl63 : Vs.length ≤ 63 := Nat.le_of_lt_succ (Nat.not_le.mp (fun z => hlim (Or.inl z)))
      refine fx_cV (B := (fun H q => H.size ≤ q) s.heap) KT_moved (ct_L_refuseBeyondLimits w F x al ar Vs (nI 0)) hx hfl hK hb (by rw [hml]; exact hl.1) hown (hw _ mm_L_27) (fx_Y.code (hw _ mk_L_refuseBeyondLimits)) (hw _ mi_L_refuseBeyondLimits) (hw _ mq_L_refuseBeyondLimits) (show fx_N y_L_refuseBeyondLimits 1 by decide +kernel) (va_recv (q0 := 0) hKv (fx_one hS.2.2.2.1) (show cls[0]? = some (R_L, T_L, 1) from rfl) rfl) rfl ⟨Nat.le_of_ble_eq_true rfl, Nat.le_of_ble_eq_true rfl, Nat.le_of_ble_eq_true rfl, Nat.le_of_ble_eq_true rfl⟩ (hS) d_L_empty_20 hL (fun q h => (show s.heap.size ≤ q from Nat.le_trans hx1.1 h)) (fun v H2 locs hq hF hL => ?_) (fun xx H2 locs hq hF hL => by have hv := hq.2 hlim; cases hv)
      have hv := hq.2 hlim
      cases hv
      have hxe : fx_Ex s.heap H2 := hF.ex (fun q h => Nat.not_le.mpr h)
      have hx1 := hx1.tr hxe
      have hS := hS.ex hxe
      refine W.eq (g2 := F0 m 23 ls []) rfl ?_
      refine lv_aload_n hx hb d_L_empty_23 rfl (lv_at hl 0 rfl) ?_
      refine fx_new (fs := [.int 0, .int 0, .null, .null]) hx hb hown (kc_V hK _) hKv (hw _ mc_L_31) (hw _ mt_V) (hw _ mn_V) (by decide) (Nat.le_of_ble_eq_true rfl) (Nat.le_of_ble_eq_true rfl) d_L_empty_24 (fun q2 H3 hq2 hN hG => ?_)
      have hq2z := hq2
      have hq2 : s.heap.size ≤ q2 := by rw [hq2]; exact hx1.1
      have hx1 := hx1.tr hG.ex
      have hS := hS.ex hG.ex
      refine lv_dup hx hb d_L_empty_27 rfl ?_
      refine lv_iload_n hx hb d_L_empty_28 rfl (lv_at hl 1 rfl) ?_
      refine lv_iload_n hx hb d_L_empty_29 rfl (lv_at hl 2 rfl) ?_
      refine lv_iconst (v := nI 0) hx hb d_L_empty_30 rfl ?_
      refine fx_newI (N := 0) hx hb hKv 0 rfl (hw _ ma_int) rfl (by decide) (Nat.le_of_ble_eq_true rfl) (Nat.le_of_ble_eq_true rfl) d_L_empty_31 (fun q1 H4 hq1 hO hG => ?_)
      have hA1 : cA w q1 [] H4 := fx_A.of hO rfl (fun j hj => absurd hj (Nat.not_lt_zero _))
      have n1 : q1 ≠ q2 := by rw [hq1]; exact Nat.ne_of_gt hN.lt
      have hq1 : s.heap.size ≤ q1 := by rw [hq1]; exact hx1.1
      have hgz := hG.1
      have hx1 := hx1.tr hG.ex
      have hS := hS.ex hG.ex
      have hN := hG.ex.kept hN
      refine lv_iconst (v := nI 0) hx hb d_L_empty_33 rfl ?_
      refine fx_newI (N := 0) hx hb hKv 0 rfl (hw _ ma_int) rfl (by decide) (Nat.le_of_ble_eq_true rfl) (Nat.le_of_ble_eq_true rfl) d_L_empty_34 (fun q0 H5 hq0 hO hG => ?_)
      have hA0 : cA w q0 [] H5 := fx_A.of hO rfl (fun j hj => absurd hj (Nat.not_lt_zero _))
      have n0 : q0 ≠ q2 := by rw [hq0]; exact Nat.ne_of_gt hN.lt
      have hq0 : s.heap.size ≤ q0 := by rw [hq0]; exact hx1.1
      have hgz := hG.1
      have hx1 := hx1.tr hG.ex
      have hS := hS.ex hG.ex
      have hN := hG.ex.kept hN
      have hA1 := hG.ex.kept hA1
      refine fx_cIN (B := (fun H q => H.size ≤ q) s.heap) KT_moved (ct_V_init w q2 q1 q0 k f) hx hfl hK hb (by rw [hml]; exact hl.1) hown (nl_L_33 hK _) (hw _ mk_V_init) (hw _ mi_V_init) rfl (show fx_N y_V_init 4 by decide +kernel) rfl ⟨Nat.le_of_ble_eq_true rfl, Nat.le_of_ble_eq_true rfl, Nat.le_of_ble_eq_true rfl, Nat.le_of_ble_eq_true rfl⟩ (hN) d_L_empty_36 hL (fun z hz => (show s.heap.size ≤ z by rw [hz]; exact hq2)) (fun v H6 locs hq hF hL => ?_) (fun xx H6 locs hq hF hL => by cases hq.1)
      obtain ⟨hv, hVn, hU⟩ := hq
      cases hv
      have hx1 := hx1.U hU hq2
      have hS := hS0.ex hx1
      have hA1 := hU.kept hA1 (n1)
      have hA0 := hU.kept hA0 (n0)
      refine W.eq (g2 := F0 m 39 ls [.ref q2, .ref x]) rfl ?_
      refine fx_cV (B := (fun _ q => w.H0.size ≤ q ∧ ¬ F q) s.heap) KT_moved (ct_L_keep w F x al ar Vs q2 (k, f, [], []) hl63 (⟨Nat.zero_le _, fun _ => rfl, Nat.zero_le _⟩)) hx hfl hK hb (by rw [hml]; exact hl.1) hown (hw _ mm_L_36) (fx_Y.code (hw _ mk_L_keep)) (hw _ mi_L_keep) (hw _ mq_L_keep) (show fx_N y_L_keep 1 by decide +kernel) (va_recv (q0 := 0) hKv (fx_one hS.2.2.2.1) (show cls[0]? = some (R_L, T_L, 1) from rfl) rfl) rfl ⟨Nat.le_of_ble_eq_true rfl, Nat.le_of_ble_eq_true rfl, Nat.le_of_ble_eq_true rfl, Nat.le_of_ble_eq_true rfl⟩ (⟨hS, ⟨q1, q0, hVn, hA1, hA0, hfn q2 hq2, hfn q1 hq1, hfn q0 hq0⟩⟩) d_L_empty_39 (fun q hq => hfr q.base (hL q hq)) (fun q h => hS.api h) (fun v H7 locs hq hF hL => ?_) (fun xx H7 locs hq hF hL => by obtain ⟨hv, -⟩ := hq; cases hv)
      obtain ⟨hv, ar2, hS2⟩ := hq
      cases hv
      refine W.eq (g2 := F0 m 42 ls [.int (nI Vs.length)]) rfl ?_
      exact fx_iret hx hb hr hlk hL (Nat.le_of_ble_eq_true rfl) (Nat.le_of_ble_eq_true rfl) d_L_empty_42 (cEnd.r ((if_pos h5).trans ((if_neg hl2).trans rfl)) hS2 rfl)
  · have h5 := zI_eq0.mp h5
    exact fx_throw (xc_IAE w) hx hfl hK hLow hb (by rw [hml]; exact hl.1) hown (hw _ mc_L_20) (hw _ mn_IllegalArgumentException) (show (22, "no such kind or form") ∈ kstr by decide) hnt hlk hL (hx1.1) ⟨Nat.le_of_ble_eq_true rfl, Nat.le_of_ble_eq_true rfl, Nat.le_of_ble_eq_true rfl, Nat.le_of_ble_eq_true rfl⟩ (Nat.le_of_ble_eq_true rfl) (Nat.le_of_ble_eq_true rfl) (fun q hq => hfr q.base (hL q hq)) d_L_empty_8 d_L_empty_11 d_L_empty_12 d_L_empty_14 d_L_empty_17 (fun xx H' h7 hx1 h9 => have hxc : xcp w 0 xx H' := h9.x hK (by decide); cEnd.t (c := 1) (z := 0) (if_neg h5) (by decide) (hS0.ex hx1) rfl hxc)
set_option maxHeartbeats 4000000 in
set_option maxRecDepth 100000 in
theorem ct_L_bind (w : Wd) (F : Nat → Prop) (x al : Nat) (Vs : List sV) (v key z : Int32) : fx_C (KT w) y_L_bind 7 (rmN 9 8 700) [.ref x, .int v, .int key, .int z] (fun H => cT w F x al Vs H) (cEnd w F x al (ecx 1 0) (so_bind Vs v key z)) (fun _ q => w.H0.size ≤ q ∧ ¬ F q) := by
  refine fx_of (ret := (some (FieldType.int))) (cc := b_L_bind) (fun s hK => hK.1 _ mk_L_bind _) (Nat.le_of_ble_eq_true rfl) ?_
  intro p l e s m below meth c hx hfl hK hb hml hr hlk hnt hown hin hpre ls hl
  have hw : ∀ zc ∈ gw, zc.before ([.ref x, .int v, .int key, .int z] : List Value).toArray s = true := fun z hz => hK.1 z hz _
  have hKv := hK.2.1
  have hL : ∀ q ∈ ([] : List Loc), (fun H q => H.size ≤ q) s.heap q.base := fun q hq => by cases hq
  obtain ⟨ar, hS⟩ := hpre
  have hLow := hS.1
  have hS0 := hS
  have hx1 : fx_Ex s.heap s.heap := fx_Ex.rf
  have hfr : ∀ q, s.heap.size ≤ q → (fun _ q => w.H0.size ≤ q ∧ ¬ F q) s.heap q := fun q hq => ⟨Nat.le_trans hLow.1 hq, fun z => absurd (hS0.2.1 q z) (Nat.not_lt.mpr hq)⟩
  have hfn : ∀ q, s.heap.size ≤ q → cN F al ar q := fun q hq => hS0.fr (kE0 hK) hq
  have hVl : Vs.length ≤ 64 := by obtain ⟨-, -, -, -, -, cap, mc, f, -, -, -, -, -, h, -⟩ := hS0; exact h
  have hl : lv_has ls 7 [(0, .ref x), (1, .int v), (2, .int key), (3, .int z)] := hl
  refine lv_aload_n hx hb d_L_bind_0 rfl (lv_at hl 0 rfl) ?_
  refine lv_iload_n hx hb d_L_bind_1 rfl (lv_at hl 1 rfl) ?_
  refine lv_iconst (v := nI 3) hx hb d_L_bind_2 rfl ?_
  rcases Classical.em (∃ u, sv_at Vs v = some u ∧ u.1 = 3) with ⟨u, hat, hP⟩ | hex
  · refine fx_cV (B := (fun H q => H.size ≤ q) s.heap) KT_moved (ct_L_foundOfKind w F x al ar Vs v 3) hx hfl hK hb (by rw [hml]; exact hl.1) hown (hw _ mm_L_89) (fx_Y.code (hw _ mk_L_foundOfKind)) (hw _ mi_L_foundOfKind) (hw _ mq_L_foundOfKind) (show fx_N y_L_foundOfKind 2 by decide +kernel) (va_recv (q0 := 0) hKv (fx_one hS.2.2.2.1) (show cls[0]? = some (R_L, T_L, 1) from rfl) rfl) rfl ⟨Nat.le_of_ble_eq_true rfl, Nat.le_of_ble_eq_true rfl, Nat.le_of_ble_eq_true rfl, Nat.le_of_ble_eq_true rfl⟩ (hS) d_L_bind_3 hL (fun q h => (show s.heap.size ≤ q from Nat.le_trans hx1.1 h)) (fun v H1 locs hq hF hL => ?_) (fun xx H1 locs hq hF hL => by obtain ⟨b0, hv, -⟩ := hq.2 u hat hP; cases hv)
    obtain ⟨b, hv, ⟨e1, y1, hVo1, hEl1, hKy1, hNb1, hNe1, hNy1⟩, hok1⟩ := hq.2 u hat hP
    cases hv
    have hxe : fx_Ex s.heap H1 := hF.ex (fun q h => Nat.not_le.mpr h)
    have hx1 := hx1.tr hxe
    have hS := hS.ex hxe
    have hz1 : u.2.2.1.length ≤ 100 := hok1.1
    have hzk1 : u.2.2.2.length ≤ 100 := hok1.2.2
    refine W.eq (g2 := F0 m 6 ls [.ref b]) rfl ?_
    refine lv_astore hx hb d_L_bind_6 hl (by decide) rfl (fun ls hl => ?_)
    have hl : lv_has ls 7 [(4, .ref b), (0, .ref x), (1, .int v), (2, .int key), (3, .int z)] := hl
    refine lv_iload_n hx hb d_L_bind_8 rfl (lv_at hl 3 rfl) ?_
    refine lv_if_lt (tgt := 19) hx hb d_L_bind_9 rfl (fun h9 => ?_) (fun h9 => ?_)
    · have h9k := h9
      exact fx_throw (xc_IAE w) hx hfl hK hLow hb (by rw [hml]; exact hl.1) hown (hw _ mc_L_20) (hw _ mn_IllegalArgumentException) (show (93, "no key that a map may have") ∈ kstr by decide) hnt hlk hL (hx1.1) ⟨Nat.le_of_ble_eq_true rfl, Nat.le_of_ble_eq_true rfl, Nat.le_of_ble_eq_true rfl, Nat.le_of_ble_eq_true rfl⟩ (Nat.le_of_ble_eq_true rfl) (Nat.le_of_ble_eq_true rfl) (fun q hq => hfr q.base (hL q hq)) d_L_bind_19 d_L_bind_22 d_L_bind_23 d_L_bind_25 d_L_bind_28 (fun xx H' h7 hx1 h9 => have hxc : xcp w 0 xx H' := h9.x hK (by decide); cEnd.t (c := 1) (z := 0) (by unfold so_bind; rw [hat]; dsimp only; rw [if_neg (fun z => absurd h9k (Int32.not_lt.mpr z.2.1))]) (by decide) (hS0.ex hx1) rfl hxc)
    · have h9k := h9
      refine lv_iload_n hx hb d_L_bind_12 rfl (lv_at hl 3 rfl) ?_
      refine lv_sipush (v := nI 255) hx hb d_L_bind_13 rfl ?_
      refine lv_icmp_le (tgt := 29) hx hb d_L_bind_16 rfl (fun h16 => ?_) (fun h16 => ?_)
      · have hB3 : u.1 = 3 ∧ 0 ≤ key ∧ key ≤ 255 := ⟨hP, Int32.not_lt.mp h9k, h16⟩
        have hkl := hok1.2.1 hP
        have hcb := sv_cb_le u.2.2.2 key
        refine lv_aload hx hb d_L_bind_29 (lv_at hl 0 rfl) ?_
        refine fx_getN hx hb hown (kc_V hK _) hKv 3 (by decide) ((nl_L_95 hK _)) (fun _ h => h) hVo1 rfl d_L_bind_31 ?_
        refine lv_iload_n hx hb d_L_bind_34 rfl (lv_at hl 3 rfl) ?_
        refine fx_cS (B := (fun H q => H.size ≤ q) s.heap) KT_moved (ct_L_countBelow w y1 u.2.2.2 key hzk1) hx hfl hK hb (by rw [hml]; exact hl.1) hown (hw _ mm_L_98) (fx_Y.code (hw _ mk_L_countBelow)) (hw _ ms_L_countBelow) (hw _ mn_L) (show fx_N y_L_countBelow 2 by decide +kernel) rfl ⟨Nat.le_of_ble_eq_true rfl, Nat.le_of_ble_eq_true rfl, Nat.le_of_ble_eq_true rfl, Nat.le_of_ble_eq_true rfl⟩ (hKy1) d_L_bind_35 hL (fun q h => h.elim) (fun v H2 locs hq hF hL => ?_) (fun xx H2 locs hq hF hL => by cases hq)
        cases hq
        obtain rfl : H2 = H1 := hF.same (fun _ _ h => h)
        refine W.eq (g2 := F0 m 38 ls [.int (nI (sv_cb u.2.2.2 key))]) rfl ?_
        refine lv_istore hx hb d_L_bind_38 hl (by decide) rfl (fun ls hl => ?_)
        have hl : lv_has ls 7 [(5, .int (nI (sv_cb u.2.2.2 key))), (4, .ref b), (0, .ref x), (1, .int v), (2, .int key), (3, .int z)] := hl
        refine lv_aload hx hb d_L_bind_40 (lv_at hl 1 rfl) ?_
        refine fx_getN hx hb hown (kc_V hK _) hKv 3 (by decide) ((nl_L_95 hK _)) (fun _ h => h) hVo1 rfl d_L_bind_42 ?_
        refine lv_iload hx hb d_L_bind_45 (lv_at hl 0 rfl) ?_
        refine lv_iload_n hx hb d_L_bind_47 rfl (lv_at hl 4 rfl) ?_
        refine fx_cS (B := (fun H q => H.size ≤ q) s.heap) KT_moved (ct_L_hasAt w y1 (sv_cb u.2.2.2 key) u.2.2.2 key hzk1 (Nat.le_trans (sv_cb_le _ _) hzk1)) hx hfl hK hb (by rw [hml]; exact hl.1) hown (hw _ mm_L_102) (fx_Y.code (hw _ mk_L_hasAt)) (hw _ ms_L_hasAt) (hw _ mn_L) (show fx_N y_L_hasAt 3 by decide +kernel) rfl ⟨Nat.le_of_ble_eq_true rfl, Nat.le_of_ble_eq_true rfl, Nat.le_of_ble_eq_true rfl, Nat.le_of_ble_eq_true rfl⟩ (hKy1) d_L_bind_48 hL (fun q h => h.elim) (fun v H3 locs hq hF hL => ?_) (fun xx H3 locs hq hF hL => by cases hq)
        cases hq
        obtain rfl : H3 = H2 := hF.same (fun _ _ h => h)
        refine W.eq (g2 := F0 m 51 ls [.int (zI (u.2.2.2[sv_cb u.2.2.2 key]? = some key))]) rfl ?_
        refine lv_if_eq (tgt := 85) hx hb d_L_bind_51 rfl (fun h51 => ?_) (fun h51 => ?_)
        · have h51 := zI_eq0.mp h51
          refine lv_aload_n hx hb d_L_bind_85 rfl (lv_at hl 2 rfl) ?_
          refine lv_aload hx hb d_L_bind_86 (lv_at hl 1 rfl) ?_
          refine fx_getN hx hb hown (kc_V hK _) hKv 2 (by decide) ((nl_L_44 hK _)) (fun _ h => h) hVo1 rfl d_L_bind_88 ?_
          refine fx_alen hx hb hKv 0 hEl1 rfl d_L_bind_91 ?_
          refine lv_iconst (v := nI 1) hx hb d_L_bind_92 rfl ?_
          refine lv_iadd hx hb d_L_bind_93 ?_
          refine fx_ti (y := nI (u.2.2.1.length + 1)) (nI_add _ 1) ?_
          by_cases hlim : 64 ≤ Vs.length ∨ nI 100 < nI (u.2.2.1.length + 1)
          · have hl2 : 64 ≤ Vs.length ∨ 100 ≤ u.2.2.1.length := hlim.imp id (fun z => by have := (nI_ltI (by decide) (by omega)).mp z; omega)
            refine fx_cV (B := (fun H q => H.size ≤ q) s.heap) KT_moved (ct_L_refuseBeyondLimits w F x al ar Vs (nI (u.2.2.1.length + 1))) hx hfl hK hb (by rw [hml]; exact hl.1) hown (hw _ mm_L_27) (fx_Y.code (hw _ mk_L_refuseBeyondLimits)) (hw _ mi_L_refuseBeyondLimits) (hw _ mq_L_refuseBeyondLimits) (show fx_N y_L_refuseBeyondLimits 1 by decide +kernel) (va_recv (q0 := 0) hKv (fx_one hS.2.2.2.1) (show cls[0]? = some (R_L, T_L, 1) from rfl) rfl) rfl ⟨Nat.le_of_ble_eq_true rfl, Nat.le_of_ble_eq_true rfl, Nat.le_of_ble_eq_true rfl, Nat.le_of_ble_eq_true rfl⟩ (hS) d_L_bind_94 hL (fun q h => (show s.heap.size ≤ q from Nat.le_trans hx1.1 h)) (fun v H4 locs hq hF hL => ?_) (fun xx H4 locs hq hF hL => by obtain ⟨y0, hv, hxc⟩ := hq.1 hlim; cases hv; exact fx_out rfl rfl rfl hnt hlk (fun q hq => hfr q.base (hL q hq)) (Nat.le_of_ble_eq_true rfl) (Nat.le_of_ble_eq_true rfl) (cEnd.t (c := 2) (z := 0) (by unfold so_bind; rw [hat]; dsimp only; rw [if_pos hB3, if_neg h51, if_pos hl2]) (by decide) (hS.ex (hF.ex (fun q h => Nat.not_le.mpr h))) rfl hxc))
            obtain ⟨y0, hv, -⟩ := hq.1 hlim
            cases hv
          · have hl2 : ¬ (64 ≤ Vs.length ∨ 100 ≤ u.2.2.1.length) := fun z => hlim (z.imp id (fun z => nI_lt (by omega) (by omega)))
            have hl63 : Vs.length ≤ 63 := Nat.le_of_lt_succ (Nat.not_le.mp (fun z => hlim (Or.inl z)))
            have hl99 : u.2.2.1.length ≤ 99 := Nat.le_of_lt_succ (Nat.not_le.mp (fun z => hl2 (Or.inr z)))
            refine fx_cV (B := (fun H q => H.size ≤ q) s.heap) KT_moved (ct_L_refuseBeyondLimits w F x al ar Vs (nI (u.2.2.1.length + 1))) hx hfl hK hb (by rw [hml]; exact hl.1) hown (hw _ mm_L_27) (fx_Y.code (hw _ mk_L_refuseBeyondLimits)) (hw _ mi_L_refuseBeyondLimits) (hw _ mq_L_refuseBeyondLimits) (show fx_N y_L_refuseBeyondLimits 1 by decide +kernel) (va_recv (q0 := 0) hKv (fx_one hS.2.2.2.1) (show cls[0]? = some (R_L, T_L, 1) from rfl) rfl) rfl ⟨Nat.le_of_ble_eq_true rfl, Nat.le_of_ble_eq_true rfl, Nat.le_of_ble_eq_true rfl, Nat.le_of_ble_eq_true rfl⟩ (hS) d_L_bind_94 hL (fun q h => (show s.heap.size ≤ q from Nat.le_trans hx1.1 h)) (fun v H4 locs hq hF hL => ?_) (fun xx H4 locs hq hF hL => by have hv := hq.2 hlim; cases hv)
            have hv := hq.2 hlim
            cases hv
            have hxe : fx_Ex H3 H4 := hF.ex (fun q h => Nat.not_le.mpr h)
            have hx1 := hx1.tr hxe
            have hS := hS.ex hxe
            have hVo1 := hxe.kept hVo1
            have hEl1 := hxe.kept hEl1
            have hKy1 := hxe.kept hKy1
            refine W.eq (g2 := F0 m 97 ls []) rfl ?_
            refine lv_aload hx hb d_L_bind_97 (lv_at hl 1 rfl) ?_
            refine fx_getN hx hb hown (kc_V hK _) hKv 3 (by decide) ((nl_L_95 hK _)) (fun _ h => h) hVo1 rfl d_L_bind_99 ?_
            refine lv_iload hx hb d_L_bind_102 (lv_at hl 0 rfl) ?_
            refine lv_iload_n hx hb d_L_bind_104 rfl (lv_at hl 4 rfl) ?_
            refine fx_cS (B := (fun H q => H.size ≤ q) s.heap) KT_moved (ct_L_inserted w y1 (sv_cb u.2.2.2 key) u.2.2.2 key hzk1 hcb) hx hfl hK hb (by rw [hml]; exact hl.1) hown (hw _ mm_L_52) (fx_Y.code (hw _ mk_L_inserted)) (hw _ ms_L_inserted) (hw _ mn_L) (show fx_N y_L_inserted 3 by decide +kernel) rfl ⟨Nat.le_of_ble_eq_true rfl, Nat.le_of_ble_eq_true rfl, Nat.le_of_ble_eq_true rfl, Nat.le_of_ble_eq_true rfl⟩ (hKy1) d_L_bind_105 hL (fun q h => (show s.heap.size ≤ q from Nat.le_trans hx1.1 h)) (fun v H5 locs hq hF hL => ?_) (fun xx H5 locs hq hF hL => by obtain ⟨q9, hv, -⟩ := hq; cases hv)
            obtain ⟨q0, hv, hq0, hA0⟩ := hq
            cases hv
            have hq0z := hq0
            have hq0 := Nat.le_trans hx1.1 hq0
            have hxe : fx_Ex H4 H5 := hF.ex (fun q h => Nat.not_le.mpr h)
            have hx1 := hx1.tr hxe
            have hS := hS.ex hxe
            have hVo1 := hxe.kept hVo1
            have hEl1 := hxe.kept hEl1
            have hKy1 := hxe.kept hKy1
            refine W.eq (g2 := F0 m 108 ls [.ref q0]) rfl ?_
            refine lv_astore hx hb d_L_bind_108 hl (by decide) rfl (fun ls hl => ?_)
            have hl : lv_has ls 7 [(6, .ref q0), (5, .int (nI (sv_cb u.2.2.2 key))), (4, .ref b), (0, .ref x), (1, .int v), (2, .int key), (3, .int z)] := hl
            refine lv_aload_n hx hb d_L_bind_110 rfl (lv_at hl 3 rfl) ?_
            refine fx_new (fs := [.int 0, .int 0, .null, .null]) hx hb hown (kc_V hK _) hKv (hw _ mc_L_31) (hw _ mt_V) (hw _ mn_V) (by decide) (Nat.le_of_ble_eq_true rfl) (Nat.le_of_ble_eq_true rfl) d_L_bind_111 (fun q2 H6 hq2 hN hG => ?_)
            have n0 : q0 ≠ q2 := by rw [hq2]; exact Nat.ne_of_lt hA0.lt
            have hq2z := hq2
            have hq2 : s.heap.size ≤ q2 := by rw [hq2]; exact hx1.1
            have hx1 := hx1.tr hG.ex
            have hS := hS.ex hG.ex
            have hVo1 := hG.ex.kept hVo1
            have hEl1 := hG.ex.kept hEl1
            have hKy1 := hG.ex.kept hKy1
            have hA0 := hG.ex.kept hA0
            refine lv_dup hx hb d_L_bind_114 rfl ?_
            refine lv_aload hx hb d_L_bind_115 (lv_at hl 2 rfl) ?_
            refine fx_getN hx hb hown (kc_V hK _) hKv 0 (by decide) ((nl_L_78 hK _)) (fun _ h => h) hVo1 rfl d_L_bind_117 ?_
            refine lv_aload hx hb d_L_bind_120 (lv_at hl 2 rfl) ?_
            refine fx_getN hx hb hown (kc_V hK _) hKv 1 (by decide) ((nl_L_109 hK _)) (fun _ h => h) hVo1 rfl d_L_bind_122 ?_
            refine lv_aload hx hb d_L_bind_125 (lv_at hl 2 rfl) ?_
            refine fx_getN hx hb hown (kc_V hK _) hKv 2 (by decide) ((nl_L_44 hK _)) (fun _ h => h) hVo1 rfl d_L_bind_127 ?_
            refine lv_iload hx hb d_L_bind_130 (lv_at hl 1 rfl) ?_
            refine lv_iload_n hx hb d_L_bind_132 rfl (lv_at hl 6 rfl) ?_
            refine fx_cS (B := (fun H q => H.size ≤ q) s.heap) KT_moved (ct_L_inserted w e1 (sv_cb u.2.2.2 key) u.2.2.1 z hz1 (by omega)) hx hfl hK hb (by rw [hml]; exact hl.1) hown (hw _ mm_L_52) (fx_Y.code (hw _ mk_L_inserted)) (hw _ ms_L_inserted) (hw _ mn_L) (show fx_N y_L_inserted 3 by decide +kernel) rfl ⟨Nat.le_of_ble_eq_true rfl, Nat.le_of_ble_eq_true rfl, Nat.le_of_ble_eq_true rfl, Nat.le_of_ble_eq_true rfl⟩ (hEl1) d_L_bind_133 hL (fun q h => (show s.heap.size ≤ q from Nat.le_trans hx1.1 h)) (fun v H7 locs hq hF hL => ?_) (fun xx H7 locs hq hF hL => by obtain ⟨q9, hv, -⟩ := hq; cases hv)
            obtain ⟨q1, hv, hq1, hA1⟩ := hq
            cases hv
            have hq1z := hq1
            have n1 : q1 ≠ q2 := Nat.ne_of_gt (Nat.lt_of_lt_of_le hN.lt hq1z)
            have hq1 := Nat.le_trans hx1.1 hq1
            have hxe : fx_Ex H6 H7 := hF.ex (fun q h => Nat.not_le.mpr h)
            have hx1 := hx1.tr hxe
            have hS := hS.ex hxe
            have hVo1 := hxe.kept hVo1
            have hEl1 := hxe.kept hEl1
            have hKy1 := hxe.kept hKy1
            have hA0 := hxe.kept hA0
            have hN := hxe.kept hN
            refine W.eq (g2 := F0 m 136 ls [.ref q1, .int u.2.1, .int u.1, .ref q2, .ref q2, .ref x]) rfl ?_
            refine lv_aload hx hb d_L_bind_136 (lv_at hl 0 rfl) ?_
            refine fx_cIN (B := (fun H q => H.size ≤ q) s.heap) KT_moved (ct_V_init w q2 q1 q0 u.1 u.2.1) hx hfl hK hb (by rw [hml]; exact hl.1) hown (nl_L_33 hK _) (hw _ mk_V_init) (hw _ mi_V_init) rfl (show fx_N y_V_init 4 by decide +kernel) rfl ⟨Nat.le_of_ble_eq_true rfl, Nat.le_of_ble_eq_true rfl, Nat.le_of_ble_eq_true rfl, Nat.le_of_ble_eq_true rfl⟩ (hN) d_L_bind_138 hL (fun z hz => (show s.heap.size ≤ z by rw [hz]; exact hq2)) (fun v H8 locs hq hF hL => ?_) (fun xx H8 locs hq hF hL => by cases hq.1)
            obtain ⟨hv, hVn, hU⟩ := hq
            cases hv
            have hx1 := hx1.U hU hq2
            have hS := hS0.ex hx1
            have hA1 := hU.kept hA1 (n1)
            have hA0 := hU.kept hA0 (n0)
            refine W.eq (g2 := F0 m 141 ls [.ref q2, .ref x]) rfl ?_
            refine fx_cV (B := (fun _ q => w.H0.size ≤ q ∧ ¬ F q) s.heap) KT_moved (ct_L_keep w F x al ar Vs q2 (u.1, u.2.1, sv_ins u.2.2.1 (sv_cb u.2.2.2 key) z, sv_ins u.2.2.2 (sv_cb u.2.2.2 key) key) hl63 (⟨by show (sv_ins u.2.2.1 (sv_cb u.2.2.2 key) z).length ≤ 100; rw [sv_ins_length (by omega)]; omega, fun _ => by show (sv_ins u.2.2.2 (sv_cb u.2.2.2 key) key).length = (sv_ins u.2.2.1 (sv_cb u.2.2.2 key) z).length; rw [sv_ins_length hcb, sv_ins_length (by omega), hkl], by show (sv_ins u.2.2.2 (sv_cb u.2.2.2 key) key).length ≤ 100; rw [sv_ins_length hcb]; omega⟩)) hx hfl hK hb (by rw [hml]; exact hl.1) hown (hw _ mm_L_36) (fx_Y.code (hw _ mk_L_keep)) (hw _ mi_L_keep) (hw _ mq_L_keep) (show fx_N y_L_keep 1 by decide +kernel) (va_recv (q0 := 0) hKv (fx_one hS.2.2.2.1) (show cls[0]? = some (R_L, T_L, 1) from rfl) rfl) rfl ⟨Nat.le_of_ble_eq_true rfl, Nat.le_of_ble_eq_true rfl, Nat.le_of_ble_eq_true rfl, Nat.le_of_ble_eq_true rfl⟩ (⟨hS, ⟨q1, q0, hVn, hA1, hA0, hfn q2 hq2, hfn q1 hq1, hfn q0 hq0⟩⟩) d_L_bind_141 (fun q hq => hfr q.base (hL q hq)) (fun q h => hS.api h) (fun v H9 locs hq hF hL => ?_) (fun xx H9 locs hq hF hL => by obtain ⟨hv, -⟩ := hq; cases hv)
            obtain ⟨hv, ar2, hS2⟩ := hq
            cases hv
            refine W.eq (g2 := F0 m 144 ls [.int (nI Vs.length)]) rfl ?_
            exact fx_iret hx hb hr hlk hL (Nat.le_of_ble_eq_true rfl) (Nat.le_of_ble_eq_true rfl) d_L_bind_144 (cEnd.r (by unfold so_bind; rw [hat]; dsimp only; rw [if_pos hB3, if_neg h51, if_neg hl2]; rfl) hS2 rfl)
        · have h51 := zI_ne0.mp h51
          have hjl : sv_cb u.2.2.2 key < u.2.2.1.length := by rw [← hkl]; exact (List.getElem?_eq_some_iff.mp h51).1
          refine lv_aload_n hx hb d_L_bind_54 rfl (lv_at hl 2 rfl) ?_
          refine lv_aload hx hb d_L_bind_55 (lv_at hl 1 rfl) ?_
          refine fx_getN hx hb hown (kc_V hK _) hKv 2 (by decide) ((nl_L_44 hK _)) (fun _ h => h) hVo1 rfl d_L_bind_57 ?_
          refine fx_alen hx hb hKv 0 hEl1 rfl d_L_bind_60 ?_
          by_cases hlim : 64 ≤ Vs.length ∨ nI 100 < nI u.2.2.1.length
          · have hl2 : 64 ≤ Vs.length := hlim.elim id (fun z => absurd z (nI_nlt hz1 (by decide)))
            refine fx_cV (B := (fun H q => H.size ≤ q) s.heap) KT_moved (ct_L_refuseBeyondLimits w F x al ar Vs (nI u.2.2.1.length)) hx hfl hK hb (by rw [hml]; exact hl.1) hown (hw _ mm_L_27) (fx_Y.code (hw _ mk_L_refuseBeyondLimits)) (hw _ mi_L_refuseBeyondLimits) (hw _ mq_L_refuseBeyondLimits) (show fx_N y_L_refuseBeyondLimits 1 by decide +kernel) (va_recv (q0 := 0) hKv (fx_one hS.2.2.2.1) (show cls[0]? = some (R_L, T_L, 1) from rfl) rfl) rfl ⟨Nat.le_of_ble_eq_true rfl, Nat.le_of_ble_eq_true rfl, Nat.le_of_ble_eq_true rfl, Nat.le_of_ble_eq_true rfl⟩ (hS) d_L_bind_61 hL (fun q h => (show s.heap.size ≤ q from Nat.le_trans hx1.1 h)) (fun v H4 locs hq hF hL => ?_) (fun xx H4 locs hq hF hL => by obtain ⟨y0, hv, hxc⟩ := hq.1 hlim; cases hv; exact fx_out rfl rfl rfl hnt hlk (fun q hq => hfr q.base (hL q hq)) (Nat.le_of_ble_eq_true rfl) (Nat.le_of_ble_eq_true rfl) (cEnd.t (c := 2) (z := 0) (by unfold so_bind; rw [hat]; dsimp only; rw [if_pos hB3, if_pos h51, if_pos hl2]) (by decide) (hS.ex (hF.ex (fun q h => Nat.not_le.mpr h))) rfl hxc))
            obtain ⟨y0, hv, -⟩ := hq.1 hlim
            cases hv
          · have hl2 : ¬ 64 ≤ Vs.length := fun z => hlim (Or.inl z)
            have hl63 : Vs.length ≤ 63 := Nat.le_of_lt_succ (Nat.not_le.mp (fun z => hlim (Or.inl z)))
            refine fx_cV (B := (fun H q => H.size ≤ q) s.heap) KT_moved (ct_L_refuseBeyondLimits w F x al ar Vs (nI u.2.2.1.length)) hx hfl hK hb (by rw [hml]; exact hl.1) hown (hw _ mm_L_27) (fx_Y.code (hw _ mk_L_refuseBeyondLimits)) (hw _ mi_L_refuseBeyondLimits) (hw _ mq_L_refuseBeyondLimits) (show fx_N y_L_refuseBeyondLimits 1 by decide +kernel) (va_recv (q0 := 0) hKv (fx_one hS.2.2.2.1) (show cls[0]? = some (R_L, T_L, 1) from rfl) rfl) rfl ⟨Nat.le_of_ble_eq_true rfl, Nat.le_of_ble_eq_true rfl, Nat.le_of_ble_eq_true rfl, Nat.le_of_ble_eq_true rfl⟩ (hS) d_L_bind_61 hL (fun q h => (show s.heap.size ≤ q from Nat.le_trans hx1.1 h)) (fun v H4 locs hq hF hL => ?_) (fun xx H4 locs hq hF hL => by have hv := hq.2 hlim; cases hv)
            have hv := hq.2 hlim
            cases hv
            have hxe : fx_Ex H3 H4 := hF.ex (fun q h => Nat.not_le.mpr h)
            have hx1 := hx1.tr hxe
            have hS := hS.ex hxe
            have hVo1 := hxe.kept hVo1
            have hEl1 := hxe.kept hEl1
            have hKy1 := hxe.kept hKy1
            refine W.eq (g2 := F0 m 64 ls []) rfl ?_
            refine lv_aload_n hx hb d_L_bind_64 rfl (lv_at hl 2 rfl) ?_
            refine lv_aload hx hb d_L_bind_65 (lv_at hl 1 rfl) ?_
            refine lv_aload hx hb d_L_bind_67 (lv_at hl 1 rfl) ?_
            refine fx_getN hx hb hown (kc_V hK _) hKv 2 (by decide) ((nl_L_44 hK _)) (fun _ h => h) hVo1 rfl d_L_bind_69 ?_
            refine lv_iload hx hb d_L_bind_72 (lv_at hl 0 rfl) ?_
            refine lv_iload_n hx hb d_L_bind_74 rfl (lv_at hl 5 rfl) ?_
            refine fx_cS (B := (fun H q => H.size ≤ q) s.heap) KT_moved (ct_L_replaced w e1 (sv_cb u.2.2.2 key) u.2.2.1 z hz1 hjl) hx hfl hK hb (by rw [hml]; exact hl.1) hown (hw _ mm_L_106) (fx_Y.code (hw _ mk_L_replaced)) (hw _ ms_L_replaced) (hw _ mn_L) (show fx_N y_L_replaced 3 by decide +kernel) rfl ⟨Nat.le_of_ble_eq_true rfl, Nat.le_of_ble_eq_true rfl, Nat.le_of_ble_eq_true rfl, Nat.le_of_ble_eq_true rfl⟩ (hEl1) d_L_bind_75 hL (fun q h => (show s.heap.size ≤ q from Nat.le_trans hx1.1 h)) (fun v H5 locs hq hF hL => ?_) (fun xx H5 locs hq hF hL => by obtain ⟨q9, hv, -⟩ := hq; cases hv)
            obtain ⟨q1, hv, hq1, hA1⟩ := hq
            cases hv
            have hq1z := hq1
            have hq1 := Nat.le_trans hx1.1 hq1
            have hxe : fx_Ex H4 H5 := hF.ex (fun q h => Nat.not_le.mpr h)
            have hx1 := hx1.tr hxe
            have hS := hS.ex hxe
            have hVo1 := hxe.kept hVo1
            have hEl1 := hxe.kept hEl1
            have hKy1 := hxe.kept hKy1
            refine W.eq (g2 := F0 m 78 ls [.ref q1, .ref b, .ref x]) rfl ?_
            refine fx_cVN (B := (fun H q => H.size ≤ q) s.heap) KT_moved (ct_V_with w b e1 y1 q1 u.1 u.2.1) hx hfl hK hb (by rw [hml]; exact hl.1) hown (nl_L_56 hK _) (fx_Y.code (hw _ mk_V_with)) (hw _ mi_V_with) (hw _ mq_V_with) (show fx_N y_V_with 1 by decide +kernel) (va_recv (q0 := 0) hKv (fx_one hVo1) (show cls[1]? = some (R_V, T_V, 4) from rfl) rfl) rfl ⟨Nat.le_of_ble_eq_true rfl, Nat.le_of_ble_eq_true rfl, Nat.le_of_ble_eq_true rfl, Nat.le_of_ble_eq_true rfl⟩ (hVo1) d_L_bind_78 hL (fun q h => (show s.heap.size ≤ q from Nat.le_trans hx1.1 h)) (fun v H6 locs hq hF hL => ?_) (fun xx H6 locs hq hF hL => by obtain ⟨q9, hv, -⟩ := hq; cases hv)
            obtain ⟨q2, hv, hq2, hVn⟩ := hq
            cases hv
            have hq2z := hq2
            have hq2 := Nat.le_trans hx1.1 hq2
            have hxe : fx_Ex H5 H6 := hF.ex (fun q h => Nat.not_le.mpr h)
            have hx1 := hx1.tr hxe
            have hS := hS.ex hxe
            have hVo1 := hxe.kept hVo1
            have hEl1 := hxe.kept hEl1
            have hKy1 := hxe.kept hKy1
            have hA1 := hxe.kept hA1
            refine W.eq (g2 := F0 m 81 ls [.ref q2, .ref x]) rfl ?_
            refine fx_cV (B := (fun _ q => w.H0.size ≤ q ∧ ¬ F q) s.heap) KT_moved (ct_L_keep w F x al ar Vs q2 (u.1, u.2.1, u.2.2.1.set (sv_cb u.2.2.2 key) z, u.2.2.2) hl63 (⟨by show (u.2.2.1.set (sv_cb u.2.2.2 key) z).length ≤ 100; rw [List.length_set]; exact hz1, fun h3 => by show u.2.2.2.length = (u.2.2.1.set (sv_cb u.2.2.2 key) z).length; rw [List.length_set]; exact hkl, hok1.2.2⟩)) hx hfl hK hb (by rw [hml]; exact hl.1) hown (hw _ mm_L_36) (fx_Y.code (hw _ mk_L_keep)) (hw _ mi_L_keep) (hw _ mq_L_keep) (show fx_N y_L_keep 1 by decide +kernel) (va_recv (q0 := 0) hKv (fx_one hS.2.2.2.1) (show cls[0]? = some (R_L, T_L, 1) from rfl) rfl) rfl ⟨Nat.le_of_ble_eq_true rfl, Nat.le_of_ble_eq_true rfl, Nat.le_of_ble_eq_true rfl, Nat.le_of_ble_eq_true rfl⟩ (⟨hS, ⟨q1, y1, hVn, hA1, hKy1, hfn q2 hq2, hfn q1 hq1, hNy1⟩⟩) d_L_bind_81 (fun q hq => hfr q.base (hL q hq)) (fun q h => hS.api h) (fun v H7 locs hq hF hL => ?_) (fun xx H7 locs hq hF hL => by obtain ⟨hv, -⟩ := hq; cases hv)
            obtain ⟨hv, ar2, hS2⟩ := hq
            cases hv
            refine W.eq (g2 := F0 m 84 ls [.int (nI Vs.length)]) rfl ?_
            exact fx_iret hx hb hr hlk hL (Nat.le_of_ble_eq_true rfl) (Nat.le_of_ble_eq_true rfl) d_L_bind_84 (cEnd.r (by unfold so_bind; rw [hat]; dsimp only; rw [if_pos hB3, if_pos h51, if_neg hl2]; rfl) hS2 rfl)
      · exact fx_throw (xc_IAE w) hx hfl hK hLow hb (by rw [hml]; exact hl.1) hown (hw _ mc_L_20) (hw _ mn_IllegalArgumentException) (show (93, "no key that a map may have") ∈ kstr by decide) hnt hlk hL (hx1.1) ⟨Nat.le_of_ble_eq_true rfl, Nat.le_of_ble_eq_true rfl, Nat.le_of_ble_eq_true rfl, Nat.le_of_ble_eq_true rfl⟩ (Nat.le_of_ble_eq_true rfl) (Nat.le_of_ble_eq_true rfl) (fun q hq => hfr q.base (hL q hq)) d_L_bind_19 d_L_bind_22 d_L_bind_23 d_L_bind_25 d_L_bind_28 (fun xx H' h7 hx1 h9 => have hxc : xcp w 0 xx H' := h9.x hK (by decide); cEnd.t (c := 1) (z := 0) (by unfold so_bind; rw [hat]; dsimp only; rw [if_neg (fun z => h16 z.2.2)]) (by decide) (hS0.ex hx1) rfl hxc)
  · have hno : ∀ u, sv_at Vs v = some u → ¬ u.1 = 3 := fun u h1 h2 => hex ⟨u, h1, h2⟩
    refine fx_cV (B := (fun H q => H.size ≤ q) s.heap) KT_moved (ct_L_foundOfKind w F x al ar Vs v 3) hx hfl hK hb (by rw [hml]; exact hl.1) hown (hw _ mm_L_89) (fx_Y.code (hw _ mk_L_foundOfKind)) (hw _ mi_L_foundOfKind) (hw _ mq_L_foundOfKind) (show fx_N y_L_foundOfKind 2 by decide +kernel) (va_recv (q0 := 0) hKv (fx_one hS.2.2.2.1) (show cls[0]? = some (R_L, T_L, 1) from rfl) rfl) rfl ⟨Nat.le_of_ble_eq_true rfl, Nat.le_of_ble_eq_true rfl, Nat.le_of_ble_eq_true rfl, Nat.le_of_ble_eq_true rfl⟩ (hS) d_L_bind_3 hL (fun q h => (show s.heap.size ≤ q from Nat.le_trans hx1.1 h)) (fun v H1 locs hq hF hL => ?_) (fun xx H1 locs hq hF hL => by obtain ⟨y0, hv, hxc⟩ := hq.1 hno; cases hv; exact fx_out rfl rfl rfl hnt hlk (fun q hq => hfr q.base (hL q hq)) (Nat.le_of_ble_eq_true rfl) (Nat.le_of_ble_eq_true rfl) (cEnd.t (c := 1) (z := 0) (so_no (P := fun u => u.1 = 3) hno (fun u hu => if_neg (fun z => hu z.1))) (by decide) (hS.ex (hF.ex (fun q h => Nat.not_le.mpr h))) rfl hxc))
    obtain ⟨y0, hv, -⟩ := hq.1 hno
    cases hv
