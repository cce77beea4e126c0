set_option maxHeartbeats 4000000 in
set_option maxRecDepth 100000 in
theorem ct_M_size (w : Wd) (am : Nat → Nat) (hI : mI am) (Vs : List sV) (v : Int32) : mApi w am y_M_size 2 (rmK 3) [.int v] Vs (so_size Vs v) := by
  intro S hA
  have hn : S.1 = nI Vs.length := hA.1
  have hVl : Vs.length ≤ 64 := hA.2.1
  refine fx_of (ret := some .int) (cc := b_M_size) (fun s hK => hK.1 _ mk_M_size _) (Nat.le_of_ble_eq_true rfl) ?_
  intro p l e s m below meth c hx hfl hK hb hml hr hlk hnt hown hin hP ls hl
  have hw : ∀ z ∈ gw, z.before (.ref (am 0) :: [.int v] : List Value).toArray s = true := fun z hz => hK.1 z hz _
  have hKv := hK.2.1
  have hS : va_S (mA am) s.heap s.heap [] := va_S.rf
  have hP : va_P w.D cls (mw w am S) s.heap := hP
  have hl : lv_has ls 2 [(0, .ref (am 0)), (1, .int v)] := hl
  refine lv_aload_n hx hb d_M_size_0 rfl (lv_at hl 0 rfl) ?_
  refine lv_aload_n hx hb d_M_size_1 rfl (lv_at hl 0 rfl) ?_
  refine lv_iload_n hx hb d_M_size_2 rfl (lv_at hl 1 rfl) ?_
  refine m_cV (ct_M_is w am hI S.1 S.2.1 S.2.2.1 S.2.2.2.1 S.2.2.2.2.1 S.2.2.2.2.2.1 S.2.2.2.2.2.2.1 S.2.2.2.2.2.2.2 v) hx hfl hK hb (by rw [hml]; exact hl.1) hown (hw _ mm_M_35) (hw _ mk_M_is) (hw _ mi_M_is) (hw _ mq_M_is) (show fx_N y_M_is 1 by decide +kernel) rfl ⟨Nat.le_of_ble_eq_true rfl, Nat.le_of_ble_eq_true rfl, Nat.le_of_ble_eq_true rfl, Nat.le_of_ble_eq_true rfl⟩ hP hS d_M_size_3 (fun H locs hP hS => ?_)
  have hP : va_P w.D cls (mw w am S) H := hP
  refine lv_if_eq (tgt := 13) hx hb d_M_size_6 rfl (fun h6 => ?_) (fun h6 => ?_)
  · have h6 := zI_eq0.mp h6
    rw [hn] at h6
    refine lv_iconst (v := nI 1) hx hb d_M_size_13 rfl ?_
    refine m_rThr hI hA (nI 1) hx hfl hK hb (by rw [hml]; exact hl.1) hown (hw _ mm_M_50) ⟨Nat.le_of_ble_eq_true rfl, Nat.le_of_ble_eq_true rfl, Nat.le_of_ble_eq_true rfl, Nat.le_of_ble_eq_true rfl⟩ hP hS d_M_size_14 (fun S1 hA hT H locs hP hS => ?_)
    have hn : S1.1 = nI Vs.length := hA.1
    refine lv_if_eq (tgt := 24) hx hb d_M_size_17 rfl (fun h9 => absurd h9 (by rw [zI_t (by decide)]; decide)) (fun _ => ?_)
    refine lv_iconst (v := nI 0) hx hb d_M_size_20 rfl ?_
    refine lv_goto (tgt := 30) hx hb d_M_size_21 rfl ?_
    exact fx_iret hx hb hr hlk hS.2.2 (Nat.le_of_ble_eq_true rfl) (Nat.le_of_ble_eq_true rfl) d_M_size_30 (⟨by rw [(show so_size Vs v = (1, 0, Vs) from by unfold so_size; rw [mAbs_none hA h6])]; exact rfl, S1, hP, by rw [(show so_size Vs v = (1, 0, Vs) from by unfold so_size; rw [mAbs_none hA h6])]; exact hA, by rw [(show so_size Vs v = (1, 0, Vs) from by unfold so_size; rw [mAbs_none hA h6])]; exact hT⟩)
  · have h6 := zI_ne0.mp h6
    rw [hn] at h6
    obtain ⟨a, o, ea, ha, ga, ta⟩ := mAbs_at hA h6.1 h6.2
    subst ea
    have ca : (nI a).toNatClampNeg = a := nI_clamp (by omega)
    have hl : lv_has ls 2 [(0, .ref (am 0)), (1, .int (nI a))] := hl
    refine lv_iconst (v := nI 0) hx hb d_M_size_9 rfl ?_
    refine lv_goto (tgt := 14) hx hb d_M_size_10 rfl ?_
    refine m_rThr hI hA (nI 0) hx hfl hK hb (by rw [hml]; exact hl.1) hown (hw _ mm_M_50) ⟨Nat.le_of_ble_eq_true rfl, Nat.le_of_ble_eq_true rfl, Nat.le_of_ble_eq_true rfl, Nat.le_of_ble_eq_true rfl⟩ hP hS d_M_size_14 (fun S1 hA hT H locs hP hS => ?_)
    have hn : S1.1 = nI Vs.length := hA.1
    refine lv_if_eq (tgt := 24) hx hb d_M_size_17 rfl (fun _ => ?_) (fun h9 => absurd (zI_f (by decide)) h9)
    obtain ⟨ka, fa, sa, qa, xa, ya⟩ := hA.2.2.1 a o ga
    have ka : S1.2.2.1 a = o.1 := ka
    have fa : S1.2.2.2.1 a = o.2.1 := fa
    have sa : S1.2.2.2.2.1 a = nI o.2.2.1.length := sa
    have la : o.2.2.1.length ≤ 100 := qa.1
    refine lv_aload_n hx hb d_M_size_24 rfl (lv_at hl 0 rfl) ?_
    refine fx_get hx hb hown (kc_M hK _) hKv 3 (by decide) (hw _ mf_M_16) (fun _ h => h) (hP 0 _ rfl) rfl d_M_size_25 ?_
    refine lv_iload_n hx hb d_M_size_28 rfl (lv_at hl 1 rfl) ?_
    refine fx_iald (j := a) hx hb hKv 0 (hP 3 _ rfl) rfl (rfl) (by omega) (by decide) d_M_size_29 ?_
    exact fx_iret hx hb hr hlk hS.2.2 (Nat.le_of_ble_eq_true rfl) (Nat.le_of_ble_eq_true rfl) d_M_size_30 (⟨by rw [(show so_size Vs (nI a) = (0, nI o.2.2.1.length, Vs) from by unfold so_size; rw [ta])]; exact congrArg (fun z => Outcome.returned (some (Value.int z))) sa, S1, hP, by rw [(show so_size Vs (nI a) = (0, nI o.2.2.1.length, Vs) from by unfold so_size; rw [ta])]; exact hA, by rw [(show so_size Vs (nI a) = (0, nI o.2.2.1.length, Vs) from by unfold so_size; rw [ta])]; exact hT⟩)
set_option maxHeartbeats 4000000 in
set_option maxRecDepth 100000 in
theorem ct_M_kind (w : Wd) (am : Nat → Nat) (hI : mI am) (Vs : List sV) (v : Int32) : mApi w am y_M_kind 2 (rmK 3) [.int v] Vs (so_kind Vs v) := by
  intro S hA
  have hn : S.1 = nI Vs.length := hA.1
  have hVl : Vs.length ≤ 64 := hA.2.1
  refine fx_of (ret := some .int) (cc := b_M_kind) (fun s hK => hK.1 _ mk_M_kind _) (Nat.le_of_ble_eq_true rfl) ?_
  intro p l e s m below meth c hx hfl hK hb hml hr hlk hnt hown hin hP ls hl
  have hw : ∀ z ∈ gw, z.before (.ref (am 0) :: [.int v] : List Value).toArray s = true := fun z hz => hK.1 z hz _
  have hKv := hK.2.1
  have hS : va_S (mA am) s.heap s.heap [] := va_S.rf
  have hP : va_P w.D cls (mw w am S) s.heap := hP
  have hl : lv_has ls 2 [(0, .ref (am 0)), (1, .int v)] := hl
  refine lv_aload_n hx hb d_M_kind_0 rfl (lv_at hl 0 rfl) ?_
  refine lv_aload_n hx hb d_M_kind_1 rfl (lv_at hl 0 rfl) ?_
  refine lv_iload_n hx hb d_M_kind_2 rfl (lv_at hl 1 rfl) ?_
  refine m_cV (ct_M_is w am hI S.1 S.2.1 S.2.2.1 S.2.2.2.1 S.2.2.2.2.1 S.2.2.2.2.2.1 S.2.2.2.2.2.2.1 S.2.2.2.2.2.2.2 v) hx hfl hK hb (by rw [hml]; exact hl.1) hown (hw _ mm_M_35) (hw _ mk_M_is) (hw _ mi_M_is) (hw _ mq_M_is) (show fx_N y_M_is 1 by decide +kernel) rfl ⟨Nat.le_of_ble_eq_true rfl, Nat.le_of_ble_eq_true rfl, Nat.le_of_ble_eq_true rfl, Nat.le_of_ble_eq_true rfl⟩ hP hS d_M_kind_3 (fun H locs hP hS => ?_)
  have hP : va_P w.D cls (mw w am S) H := hP
  refine lv_if_eq (tgt := 13) hx hb d_M_kind_6 rfl (fun h6 => ?_) (fun h6 => ?_)
  · have h6 := zI_eq0.mp h6
    rw [hn] at h6
    refine lv_iconst (v := nI 1) hx hb d_M_kind_13 rfl ?_
    refine m_rThr hI hA (nI 1) hx hfl hK hb (by rw [hml]; exact hl.1) hown (hw _ mm_M_50) ⟨Nat.le_of_ble_eq_true rfl, Nat.le_of_ble_eq_true rfl, Nat.le_of_ble_eq_true rfl, Nat.le_of_ble_eq_true rfl⟩ hP hS d_M_kind_14 (fun S1 hA hT H locs hP hS => ?_)
    have hn : S1.1 = nI Vs.length := hA.1
    refine lv_if_eq (tgt := 24) hx hb d_M_kind_17 rfl (fun h9 => absurd h9 (by rw [zI_t (by decide)]; decide)) (fun _ => ?_)
    refine lv_iconst (v := nI 0) hx hb d_M_kind_20 rfl ?_
    refine lv_goto (tgt := 40) hx hb d_M_kind_21 rfl ?_
    exact fx_iret hx hb hr hlk hS.2.2 (Nat.le_of_ble_eq_true rfl) (Nat.le_of_ble_eq_true rfl) d_M_kind_40 (⟨by rw [(show so_kind Vs v = (1, 0, Vs) from by unfold so_kind; rw [mAbs_none hA h6])]; exact rfl, S1, hP, by rw [(show so_kind Vs v = (1, 0, Vs) from by unfold so_kind; rw [mAbs_none hA h6])]; exact hA, by rw [(show so_kind Vs v = (1, 0, Vs) from by unfold so_kind; rw [mAbs_none hA h6])]; exact hT⟩)
  · have h6 := zI_ne0.mp h6
    rw [hn] at h6
    obtain ⟨a, o, ea, ha, ga, ta⟩ := mAbs_at hA h6.1 h6.2
    subst ea
    have ca : (nI a).toNatClampNeg = a := nI_clamp (by omega)
    have hl : lv_has ls 2 [(0, .ref (am 0)), (1, .int (nI a))] := hl
    refine lv_iconst (v := nI 0) hx hb d_M_kind_9 rfl ?_
    refine lv_goto (tgt := 14) hx hb d_M_kind_10 rfl ?_
    refine m_rThr hI hA (nI 0) hx hfl hK hb (by rw [hml]; exact hl.1) hown (hw _ mm_M_50) ⟨Nat.le_of_ble_eq_true rfl, Nat.le_of_ble_eq_true rfl, Nat.le_of_ble_eq_true rfl, Nat.le_of_ble_eq_true rfl⟩ hP hS d_M_kind_14 (fun S1 hA hT H locs hP hS => ?_)
    have hn : S1.1 = nI Vs.length := hA.1
    refine lv_if_eq (tgt := 24) hx hb d_M_kind_17 rfl (fun _ => ?_) (fun h9 => absurd (zI_f (by decide)) h9)
    obtain ⟨ka, fa, sa, qa, xa, ya⟩ := hA.2.2.1 a o ga
    have ka : S1.2.2.1 a = o.1 := ka
    have fa : S1.2.2.2.1 a = o.2.1 := fa
    have sa : S1.2.2.2.2.1 a = nI o.2.2.1.length := sa
    have la : o.2.2.1.length ≤ 100 := qa.1
    refine lv_bipush (v := nI 10) hx hb d_M_kind_24 rfl ?_
    refine lv_aload_n hx hb d_M_kind_26 rfl (lv_at hl 0 rfl) ?_
    refine fx_get hx hb hown (kc_M hK _) hKv 1 (by decide) (hw _ mf_M_7) (fun _ h => h) (hP 0 _ rfl) rfl d_M_kind_27 ?_
    refine lv_iload_n hx hb d_M_kind_30 rfl (lv_at hl 1 rfl) ?_
    refine fx_iald (j := a) hx hb hKv 0 (hP 1 _ rfl) rfl (rfl) (by omega) (by decide) d_M_kind_31 ?_
    refine lv_imul hx hb d_M_kind_32 ?_
    refine lv_aload_n hx hb d_M_kind_33 rfl (lv_at hl 0 rfl) ?_
    refine fx_get hx hb hown (kc_M hK _) hKv 2 (by decide) (hw _ mf_M_13) (fun _ h => h) (hP 0 _ rfl) rfl d_M_kind_34 ?_
    refine lv_iload_n hx hb d_M_kind_37 rfl (lv_at hl 1 rfl) ?_
    refine fx_iald (j := a) hx hb hKv 0 (hP 2 _ rfl) rfl (rfl) (by omega) (by decide) d_M_kind_38 ?_
    refine lv_iadd hx hb d_M_kind_39 ?_
    exact fx_iret hx hb hr hlk hS.2.2 (Nat.le_of_ble_eq_true rfl) (Nat.le_of_ble_eq_true rfl) d_M_kind_40 (⟨by rw [(show so_kind Vs (nI a) = (0, 10 * o.1 + o.2.1, Vs) from by unfold so_kind; rw [ta])]; exact congrArg (fun z => Outcome.returned (some (Value.int z))) (by rw [ka, fa]; rfl), S1, hP, by rw [(show so_kind Vs (nI a) = (0, 10 * o.1 + o.2.1, Vs) from by unfold so_kind; rw [ta])]; exact hA, by rw [(show so_kind Vs (nI a) = (0, 10 * o.1 + o.2.1, Vs) from by unfold so_kind; rw [ta])]; exact hT⟩)
set_option maxHeartbeats 4000000 in
set_option maxRecDepth 100000 in
theorem ct_M_at (w : Wd) (am : Nat → Nat) (hI : mI am) (Vs : List sV) (v i : Int32) : mApi w am y_M_at 3 (rmK 3) [.int v, .int i] Vs (so_at Vs v i) := by
  intro S hA
  have hn : S.1 = nI Vs.length := hA.1
  have hVl : Vs.length ≤ 64 := hA.2.1
  refine fx_of (ret := some .int) (cc := b_M_at) (fun s hK => hK.1 _ mk_M_at _) (Nat.le_of_ble_eq_true rfl) ?_
  intro p l e s m below meth c hx hfl hK hb hml hr hlk hnt hown hin hP ls hl
  have hw : ∀ z ∈ gw, z.before (.ref (am 0) :: [.int v, .int i] : List Value).toArray s = true := fun z hz => hK.1 z hz _
  have hKv := hK.2.1
  have hS : va_S (mA am) s.heap s.heap [] := va_S.rf
  have hP : va_P w.D cls (mw w am S) s.heap := hP
  have hl : lv_has ls 3 [(0, .ref (am 0)), (1, .int v), (2, .int i)] := hl
  refine lv_aload_n hx hb d_M_at_0 rfl (lv_at hl 0 rfl) ?_
  refine lv_aload_n hx hb d_M_at_1 rfl (lv_at hl 0 rfl) ?_
  refine lv_iload_n hx hb d_M_at_2 rfl (lv_at hl 1 rfl) ?_
  refine m_cV (ct_M_is w am hI S.1 S.2.1 S.2.2.1 S.2.2.2.1 S.2.2.2.2.1 S.2.2.2.2.2.1 S.2.2.2.2.2.2.1 S.2.2.2.2.2.2.2 v) hx hfl hK hb (by rw [hml]; exact hl.1) hown (hw _ mm_M_35) (hw _ mk_M_is) (hw _ mi_M_is) (hw _ mq_M_is) (show fx_N y_M_is 1 by decide +kernel) rfl ⟨Nat.le_of_ble_eq_true rfl, Nat.le_of_ble_eq_true rfl, Nat.le_of_ble_eq_true rfl, Nat.le_of_ble_eq_true rfl⟩ hP hS d_M_at_3 (fun H locs hP hS => ?_)
  have hP : va_P w.D cls (mw w am S) H := hP
  refine lv_if_ne (tgt := 13) hx hb d_M_at_6 rfl (fun h6 => ?_) (fun h6 => ?_)
  · have h6 := zI_ne0.mp h6
    rw [hn] at h6
    obtain ⟨a, o, ea, ha, ga, ta⟩ := mAbs_at hA h6.1 h6.2
    subst ea
    have ca : (nI a).toNatClampNeg = a := nI_clamp (by omega)
    have hl : lv_has ls 3 [(0, .ref (am 0)), (1, .int (nI a)), (2, .int i)] := hl
    obtain ⟨ka, fa, sa, qa, xa, ya⟩ := hA.2.2.1 a o ga
    have ka : S.2.2.1 a = o.1 := ka
    have fa : S.2.2.2.1 a = o.2.1 := fa
    have sa : S.2.2.2.2.1 a = nI o.2.2.1.length := sa
    have la : o.2.2.1.length ≤ 100 := qa.1
    refine lv_iload_n hx hb d_M_at_13 rfl (lv_at hl 2 rfl) ?_
    refine lv_if_lt (tgt := 27) hx hb d_M_at_14 rfl (fun h14 => ?_) (fun h14 => ?_)
    · refine lv_iconst (v := nI 2) hx hb d_M_at_27 rfl ?_
      refine lv_goto (tgt := 32) hx hb d_M_at_28 rfl ?_
      refine m_rThr hI hA (nI 2) hx hfl hK hb (by rw [hml]; exact hl.1) hown (hw _ mm_M_50) ⟨Nat.le_of_ble_eq_true rfl, Nat.le_of_ble_eq_true rfl, Nat.le_of_ble_eq_true rfl, Nat.le_of_ble_eq_true rfl⟩ hP hS d_M_at_32 (fun S1 hA hT H locs hP hS => ?_)
      have hn : S1.1 = nI Vs.length := hA.1
      refine lv_if_eq (tgt := 40) hx hb d_M_at_35 rfl (fun h9 => absurd h9 (by rw [zI_t (by decide)]; decide)) (fun _ => ?_)
      refine lv_iconst (v := nI 0) hx hb d_M_at_38 rfl ?_
      exact fx_iret hx hb hr hlk hS.2.2 (Nat.le_of_ble_eq_true rfl) (Nat.le_of_ble_eq_true rfl) d_M_at_39 (⟨by rw [(show so_at Vs (nI a) i = (2, 0, Vs) from by unfold so_at; rw [ta]; dsimp only; rw [if_pos (Or.inl h14)])]; exact rfl, S1, hP, by rw [(show so_at Vs (nI a) i = (2, 0, Vs) from by unfold so_at; rw [ta]; dsimp only; rw [if_pos (Or.inl h14)])]; exact hA, by rw [(show so_at Vs (nI a) i = (2, 0, Vs) from by unfold so_at; rw [ta]; dsimp only; rw [if_pos (Or.inl h14)])]; exact hT⟩)
    · refine lv_iload_n hx hb d_M_at_17 rfl (lv_at hl 2 rfl) ?_
      refine lv_aload_n hx hb d_M_at_18 rfl (lv_at hl 0 rfl) ?_
      refine fx_get hx hb hown (kc_M hK _) hKv 3 (by decide) (hw _ mf_M_16) (fun _ h => h) (hP 0 _ rfl) rfl d_M_at_19 ?_
      refine lv_iload_n hx hb d_M_at_22 rfl (lv_at hl 1 rfl) ?_
      refine fx_iald (j := a) hx hb hKv 0 (hP 3 _ rfl) rfl (rfl) (by omega) (by decide) d_M_at_23 ?_
      refine lv_icmp_lt (tgt := 31) hx hb d_M_at_24 rfl (fun h24 => ?_) (fun h24 => ?_)
      · rw [sa] at h24
        obtain ⟨b, hb1, eb⟩ := nI_of h14
        subst eb
        have hb0 : b < o.2.2.1.length := (nI_ltI hb1 (by omega)).mp h24
        have h24 : ¬ nI o.2.2.1.length ≤ nI b := fun z => absurd h24 (Int32.not_lt.mpr z)
        have hl : lv_has ls 3 [(0, .ref (am 0)), (1, .int (nI a)), (2, .int (nI b))] := hl
        refine lv_iconst (v := nI 0) hx hb d_M_at_31 rfl ?_
        refine m_rThr hI hA (nI 0) hx hfl hK hb (by rw [hml]; exact hl.1) hown (hw _ mm_M_50) ⟨Nat.le_of_ble_eq_true rfl, Nat.le_of_ble_eq_true rfl, Nat.le_of_ble_eq_true rfl, Nat.le_of_ble_eq_true rfl⟩ hP hS d_M_at_32 (fun S1 hA hT H locs hP hS => ?_)
        have hn : S1.1 = nI Vs.length := hA.1
        refine lv_if_eq (tgt := 40) hx hb d_M_at_35 rfl (fun _ => ?_) (fun h9 => absurd (zI_f (by decide)) h9)
        obtain ⟨ka, fa, sa, qa, xa, ya⟩ := hA.2.2.1 a o ga
        have ka : S1.2.2.1 a = o.1 := ka
        have fa : S1.2.2.2.1 a = o.2.1 := fa
        have sa : S1.2.2.2.2.1 a = nI o.2.2.1.length := sa
        have la : o.2.2.1.length ≤ 100 := qa.1
        refine lv_aload_n hx hb d_M_at_40 rfl (lv_at hl 0 rfl) ?_
        refine fx_get hx hb hown (kc_M hK _) hKv 4 (by decide) (hw _ mf_M_19) (fun _ h => h) (hP 0 _ rfl) rfl d_M_at_41 ?_
        refine lv_bipush (v := nI 100) hx hb d_M_at_44 rfl ?_
        refine lv_iload_n hx hb d_M_at_46 rfl (lv_at hl 1 rfl) ?_
        refine lv_imul hx hb d_M_at_47 ?_
        refine fx_ti (y := nI (100 * a)) (pk_mul 100 a) ?_
        refine lv_iload_n hx hb d_M_at_48 rfl (lv_at hl 2 rfl) ?_
        refine lv_iadd hx hb d_M_at_49 ?_
        refine fx_ti (y := nI (100 * a + b)) (nI_add _ _) ?_
        refine fx_iald (j := 100 * a + b) hx hb hKv 0 (hP 4 _ rfl) rfl (rfl) (by omega) (by decide) d_M_at_50 ?_
        exact fx_iret hx hb hr hlk hS.2.2 (Nat.le_of_ble_eq_true rfl) (Nat.le_of_ble_eq_true rfl) d_M_at_51 (⟨by rw [(show so_at Vs (nI a) (nI b) = (0, o.2.2.1.getD b 0, Vs) from by unfold so_at; rw [ta]; dsimp only; rw [if_neg (fun z => z.elim h14 h24), nI_clamp hb1])]; exact congrArg (fun z => Outcome.returned (some (Value.int z))) (xa b hb0), S1, hP, by rw [(show so_at Vs (nI a) (nI b) = (0, o.2.2.1.getD b 0, Vs) from by unfold so_at; rw [ta]; dsimp only; rw [if_neg (fun z => z.elim h14 h24), nI_clamp hb1])]; exact hA, by rw [(show so_at Vs (nI a) (nI b) = (0, o.2.2.1.getD b 0, Vs) from by unfold so_at; rw [ta]; dsimp only; rw [if_neg (fun z => z.elim h14 h24), nI_clamp hb1])]; exact hT⟩)
      · rw [sa] at h24
        have h24 := Int32.not_lt.mp h24
        refine lv_iconst (v := nI 2) hx hb d_M_at_27 rfl ?_
        refine lv_goto (tgt := 32) hx hb d_M_at_28 rfl ?_
        refine m_rThr hI hA (nI 2) hx hfl hK hb (by rw [hml]; exact hl.1) hown (hw _ mm_M_50) ⟨Nat.le_of_ble_eq_true rfl, Nat.le_of_ble_eq_true rfl, Nat.le_of_ble_eq_true rfl, Nat.le_of_ble_eq_true rfl⟩ hP hS d_M_at_32 (fun S1 hA hT H locs hP hS => ?_)
        have hn : S1.1 = nI Vs.length := hA.1
        refine lv_if_eq (tgt := 40) hx hb d_M_at_35 rfl (fun h9 => absurd h9 (by rw [zI_t (by decide)]; decide)) (fun _ => ?_)
        refine lv_iconst (v := nI 0) hx hb d_M_at_38 rfl ?_
        exact fx_iret hx hb hr hlk hS.2.2 (Nat.le_of_ble_eq_true rfl) (Nat.le_of_ble_eq_true rfl) d_M_at_39 (⟨by rw [(show so_at Vs (nI a) i = (2, 0, Vs) from by unfold so_at; rw [ta]; dsimp only; rw [if_pos (Or.inr h24)])]; exact rfl, S1, hP, by rw [(show so_at Vs (nI a) i = (2, 0, Vs) from by unfold so_at; rw [ta]; dsimp only; rw [if_pos (Or.inr h24)])]; exact hA, by rw [(show so_at Vs (nI a) i = (2, 0, Vs) from by unfold so_at; rw [ta]; dsimp only; rw [if_pos (Or.inr h24)])]; exact hT⟩)
  · have h6 := zI_eq0.mp h6
    rw [hn] at h6
    refine lv_iconst (v := nI 1) hx hb d_M_at_9 rfl ?_
    refine lv_goto (tgt := 32) hx hb d_M_at_10 rfl ?_
    refine m_rThr hI hA (nI 1) hx hfl hK hb (by rw [hml]; exact hl.1) hown (hw _ mm_M_50) ⟨Nat.le_of_ble_eq_true rfl, Nat.le_of_ble_eq_true rfl, Nat.le_of_ble_eq_true rfl, Nat.le_of_ble_eq_true rfl⟩ hP hS d_M_at_32 (fun S1 hA hT H locs hP hS => ?_)
    have hn : S1.1 = nI Vs.length := hA.1
    refine lv_if_eq (tgt := 40) hx hb d_M_at_35 rfl (fun h9 => absurd h9 (by rw [zI_t (by decide)]; decide)) (fun _ => ?_)
    refine lv_iconst (v := nI 0) hx hb d_M_at_38 rfl ?_
    exact fx_iret hx hb hr hlk hS.2.2 (Nat.le_of_ble_eq_true rfl) (Nat.le_of_ble_eq_true rfl) d_M_at_39 (⟨by rw [(show so_at Vs v i = (1, 0, Vs) from by unfold so_at; rw [mAbs_none hA h6])]; exact rfl, S1, hP, by rw [(show so_at Vs v i = (1, 0, Vs) from by unfold so_at; rw [mAbs_none hA h6])]; exact hA, by rw [(show so_at Vs v i = (1, 0, Vs) from by unfold so_at; rw [mAbs_none hA h6])]; exact hT⟩)
set_option maxHeartbeats 4000000 in
set_option maxRecDepth 100000 in
theorem ct_M_first (w : Wd) (am : Nat → Nat) (hI : mI am) (Vs : List sV) (v : Int32) : mApi w am y_M_first 2 (rmK 3) [.int v] Vs (so_first Vs v) := by
  intro S hA
  have hn : S.1 = nI Vs.length := hA.1
  have hVl : Vs.length ≤ 64 := hA.2.1
  refine fx_of (ret := some .int) (cc := b_M_first) (fun s hK => hK.1 _ mk_M_first _) (Nat.le_of_ble_eq_true rfl) ?_
  intro p l e s m below meth c hx hfl hK hb hml hr hlk hnt hown hin hP ls hl
  have hw : ∀ z ∈ gw, z.before (.ref (am 0) :: [.int v] : List Value).toArray s = true := fun z hz => hK.1 z hz _
  have hKv := hK.2.1
  have hS : va_S (mA am) s.heap s.heap [] := va_S.rf
  have hP : va_P w.D cls (mw w am S) s.heap := hP
  have hl : lv_has ls 2 [(0, .ref (am 0)), (1, .int v)] := hl
  refine lv_aload_n hx hb d_M_first_0 rfl (lv_at hl 0 rfl) ?_
  refine lv_aload_n hx hb d_M_first_1 rfl (lv_at hl 0 rfl) ?_
  refine lv_iload_n hx hb d_M_first_2 rfl (lv_at hl 1 rfl) ?_
  rw [show (mw w am S) = mw w am (nI Vs.length, S.2) by rw [← hn]] at hP
  refine m_cV (ct_M_isRow w am hI S.2.1 S.2.2.1 S.2.2.2.1 S.2.2.2.2.1 S.2.2.2.2.2.1 S.2.2.2.2.2.2.1 S.2.2.2.2.2.2.2 Vs.length v hVl) hx hfl hK hb (by rw [hml]; exact hl.1) hown (hw _ mm_M_57) (hw _ mk_M_isRow) (hw _ mi_M_isRow) (hw _ mq_M_isRow) (show fx_N y_M_isRow 1 by decide +kernel) rfl ⟨Nat.le_of_ble_eq_true rfl, Nat.le_of_ble_eq_true rfl, Nat.le_of_ble_eq_true rfl, Nat.le_of_ble_eq_true rfl⟩ hP hS d_M_first_3 (fun H locs hP hS => ?_)
  have hP : va_P w.D cls (mw w am S) H := by rw [show mw w am S = mw w am (nI Vs.length, S.2) by rw [← hn]]; exact hP
  refine lv_if_ne (tgt := 13) hx hb d_M_first_6 rfl (fun h6 => ?_) (fun h6 => ?_)
  · have h6 := zI_ne0.mp h6
    obtain ⟨a, o, ea, ha, ga, ta⟩ := mAbs_at hA h6.1.1 h6.1.2
    subst ea
    have ca : (nI a).toNatClampNeg = a := nI_clamp (by omega)
    have n3 : ¬ o.1 = 3 := fun z => h6.2 (by rw [ca]; exact (hA.2.2.1 a o ga).1.trans z)
    have hl : lv_has ls 2 [(0, .ref (am 0)), (1, .int (nI a))] := hl
    obtain ⟨ka, fa, sa, qa, xa, ya⟩ := hA.2.2.1 a o ga
    have ka : S.2.2.1 a = o.1 := ka
    have fa : S.2.2.2.1 a = o.2.1 := fa
    have sa : S.2.2.2.2.1 a = nI o.2.2.1.length := sa
    have la : o.2.2.1.length ≤ 100 := qa.1
    refine lv_aload_n hx hb d_M_first_13 rfl (lv_at hl 0 rfl) ?_
    refine fx_get hx hb hown (kc_M hK _) hKv 3 (by decide) (hw _ mf_M_16) (fun _ h => h) (hP 0 _ rfl) rfl d_M_first_14 ?_
    refine lv_iload_n hx hb d_M_first_17 rfl (lv_at hl 1 rfl) ?_
    refine fx_iald (j := a) hx hb hKv 0 (hP 3 _ rfl) rfl (rfl) (by omega) (by decide) d_M_first_18 ?_
    refine lv_if_ne (tgt := 26) hx hb d_M_first_19 rfl (fun h19 => ?_) (fun h19 => ?_)
    · have h19 : ¬ o.2.2.1.length = 0 := fun z => h19 (by rw [sa, z]; rfl)
      refine lv_iconst (v := nI 0) hx hb d_M_first_26 rfl ?_
      refine m_rThr hI hA (nI 0) hx hfl hK hb (by rw [hml]; exact hl.1) hown (hw _ mm_M_50) ⟨Nat.le_of_ble_eq_true rfl, Nat.le_of_ble_eq_true rfl, Nat.le_of_ble_eq_true rfl, Nat.le_of_ble_eq_true rfl⟩ hP hS d_M_first_27 (fun S1 hA hT H locs hP hS => ?_)
      have hn : S1.1 = nI Vs.length := hA.1
      refine lv_if_eq (tgt := 35) hx hb d_M_first_30 rfl (fun _ => ?_) (fun h9 => absurd (zI_f (by decide)) h9)
      obtain ⟨ka, fa, sa, qa, xa, ya⟩ := hA.2.2.1 a o ga
      have ka : S1.2.2.1 a = o.1 := ka
      have fa : S1.2.2.2.1 a = o.2.1 := fa
      have sa : S1.2.2.2.2.1 a = nI o.2.2.1.length := sa
      have la : o.2.2.1.length ≤ 100 := qa.1
      refine lv_aload_n hx hb d_M_first_35 rfl (lv_at hl 0 rfl) ?_
      refine fx_get hx hb hown (kc_M hK _) hKv 4 (by decide) (hw _ mf_M_19) (fun _ h => h) (hP 0 _ rfl) rfl d_M_first_36 ?_
      refine lv_bipush (v := nI 100) hx hb d_M_first_39 rfl ?_
      refine lv_iload_n hx hb d_M_first_41 rfl (lv_at hl 1 rfl) ?_
      refine lv_imul hx hb d_M_first_42 ?_
      refine fx_ti (y := nI (100 * a)) (pk_mul 100 a) ?_
      refine fx_iald (j := 100 * a + 0) hx hb hKv 0 (hP 4 _ rfl) rfl (rfl) (by omega) (by decide) d_M_first_43 ?_
      exact fx_iret hx hb hr hlk hS.2.2 (Nat.le_of_ble_eq_true rfl) (Nat.le_of_ble_eq_true rfl) d_M_first_44 (⟨by rw [(show so_first Vs (nI a) = (0, o.2.2.1.getD 0 0, Vs) from by unfold so_first; rw [ta]; dsimp only; rw [if_neg n3, if_neg h19])]; exact congrArg (fun z => Outcome.returned (some (Value.int z))) (xa 0 (by omega)), S1, hP, by rw [(show so_first Vs (nI a) = (0, o.2.2.1.getD 0 0, Vs) from by unfold so_first; rw [ta]; dsimp only; rw [if_neg n3, if_neg h19])]; exact hA, by rw [(show so_first Vs (nI a) = (0, o.2.2.1.getD 0 0, Vs) from by unfold so_first; rw [ta]; dsimp only; rw [if_neg n3, if_neg h19])]; exact hT⟩)
    · have h19 : o.2.2.1.length = 0 := by rw [sa] at h19; exact (nI_eq (by omega) (by decide)).mp h19
      refine lv_iconst (v := nI 2) hx hb d_M_first_22 rfl ?_
      refine lv_goto (tgt := 27) hx hb d_M_first_23 rfl ?_
      refine m_rThr hI hA (nI 2) hx hfl hK hb (by rw [hml]; exact hl.1) hown (hw _ mm_M_50) ⟨Nat.le_of_ble_eq_true rfl, Nat.le_of_ble_eq_true rfl, Nat.le_of_ble_eq_true rfl, Nat.le_of_ble_eq_true rfl⟩ hP hS d_M_first_27 (fun S1 hA hT H locs hP hS => ?_)
      have hn : S1.1 = nI Vs.length := hA.1
      refine lv_if_eq (tgt := 35) hx hb d_M_first_30 rfl (fun h9 => absurd h9 (by rw [zI_t (by decide)]; decide)) (fun _ => ?_)
      refine lv_iconst (v := nI 0) hx hb d_M_first_33 rfl ?_
      exact fx_iret hx hb hr hlk hS.2.2 (Nat.le_of_ble_eq_true rfl) (Nat.le_of_ble_eq_true rfl) d_M_first_34 (⟨by rw [(show so_first Vs (nI a) = (2, 0, Vs) from by unfold so_first; rw [ta]; dsimp only; rw [if_neg n3, if_pos h19])]; exact rfl, S1, hP, by rw [(show so_first Vs (nI a) = (2, 0, Vs) from by unfold so_first; rw [ta]; dsimp only; rw [if_neg n3, if_pos h19])]; exact hA, by rw [(show so_first Vs (nI a) = (2, 0, Vs) from by unfold so_first; rw [ta]; dsimp only; rw [if_neg n3, if_pos h19])]; exact hT⟩)
  · have h6 := zI_eq0.mp h6
    have h6 : so_first Vs v = (1, 0, Vs) := by
      by_cases hv : ¬ v < 0 ∧ v < nI Vs.length
      · obtain ⟨a, o, ea, ha, ga, ta⟩ := mAbs_at hA hv.1 hv.2
        have o3 : o.1 = 3 := Decidable.byContradiction (fun z => h6 ⟨hv, by rw [ea, nI_clamp (by omega)]; intro y; exact z ((hA.2.2.1 a o ga).1.symm.trans y)⟩)
        unfold so_first; rw [ta]; dsimp only; rw [if_pos o3]
      · unfold so_first; rw [mAbs_none hA hv]
    refine lv_iconst (v := nI 1) hx hb d_M_first_9 rfl ?_
    refine lv_goto (tgt := 27) hx hb d_M_first_10 rfl ?_
    refine m_rThr hI hA (nI 1) hx hfl hK hb (by rw [hml]; exact hl.1) hown (hw _ mm_M_50) ⟨Nat.le_of_ble_eq_true rfl, Nat.le_of_ble_eq_true rfl, Nat.le_of_ble_eq_true rfl, Nat.le_of_ble_eq_true rfl⟩ hP hS d_M_first_27 (fun S1 hA hT H locs hP hS => ?_)
    have hn : S1.1 = nI Vs.length := hA.1
    refine lv_if_eq (tgt := 35) hx hb d_M_first_30 rfl (fun h9 => absurd h9 (by rw [zI_t (by decide)]; decide)) (fun _ => ?_)
    refine lv_iconst (v := nI 0) hx hb d_M_first_33 rfl ?_
    exact fx_iret hx hb hr hlk hS.2.2 (Nat.le_of_ble_eq_true rfl) (Nat.le_of_ble_eq_true rfl) d_M_first_34 (⟨by rw [(show so_first Vs v = (1, 0, Vs) from h6)]; exact rfl, S1, hP, by rw [(show so_first Vs v = (1, 0, Vs) from h6)]; exact hA, by rw [(show so_first Vs v = (1, 0, Vs) from h6)]; exact hT⟩)
