set_option maxHeartbeats 4000000 in
set_option maxRecDepth 100000 in
theorem ct_M_rest (w : Wd) (am : Nat → Nat) (hI : mI am) (Vs : List sV) (v : Int32) : mApi w am y_M_rest 3 (rmK 3) [.int v] Vs (so_rest Vs v) := by
  intro S hA
  have hn : S.1 = nI Vs.length := hA.1
  have hVl : Vs.length ≤ 64 := hA.2.1
  refine fx_of (ret := some .int) (cc := b_M_rest) (fun s hK => hK.1 _ mk_M_rest _) (Nat.le_of_ble_eq_true rfl) ?_
  intro p l e s m below meth c hx hfl hK hb hml hr hlk hnt hown hin hP ls hl
  have hw : ∀ z ∈ gw, z.before (.ref (am 0) :: [.int v] : List Value).toArray s = true := fun z hz => hK.1 z hz _
  have hKv := hK.2.1
  have hS : va_S (mA am) s.heap s.heap [] := va_S.rf
  have hP : va_P w.D cls (mw w am S) s.heap := hP
  have hl : lv_has ls 3 [(0, .ref (am 0)), (1, .int v)] := hl
  refine lv_aload_n hx hb d_M_rest_0 rfl (lv_at hl 0 rfl) ?_
  refine lv_aload_n hx hb d_M_rest_1 rfl (lv_at hl 0 rfl) ?_
  refine lv_iload_n hx hb d_M_rest_2 rfl (lv_at hl 1 rfl) ?_
  rw [show (mw w am S) = mw w am (nI Vs.length, S.2) by rw [← hn]] at hP
  refine m_cV (ct_M_isRow w am hI S.2.1 S.2.2.1 S.2.2.2.1 S.2.2.2.2.1 S.2.2.2.2.2.1 S.2.2.2.2.2.2.1 S.2.2.2.2.2.2.2 Vs.length v hVl) hx hfl hK hb (by rw [hml]; exact hl.1) hown (hw _ mm_M_57) (hw _ mk_M_isRow) (hw _ mi_M_isRow) (hw _ mq_M_isRow) (show fx_N y_M_isRow 1 by decide +kernel) rfl ⟨Nat.le_of_ble_eq_true rfl, Nat.le_of_ble_eq_true rfl, Nat.le_of_ble_eq_true rfl, Nat.le_of_ble_eq_true rfl⟩ hP hS d_M_rest_3 (fun H locs hP hS => ?_)
  have hP : va_P w.D cls (mw w am S) H := by rw [show mw w am S = mw w am (nI Vs.length, S.2) by rw [← hn]]; exact hP
  refine lv_if_ne (tgt := 13) hx hb d_M_rest_6 rfl (fun h6 => ?_) (fun h6 => ?_)
  · have h6 := zI_ne0.mp h6
    obtain ⟨a, o, ea, ha, ga, ta⟩ := mAbs_at hA h6.1.1 h6.1.2
    subst ea
    have ca : (nI a).toNatClampNeg = a := nI_clamp (by omega)
    have n3 : ¬ o.1 = 3 := fun z => h6.2 (by rw [ca]; exact (hA.2.2.1 a o ga).1.trans z)
    have hl : lv_has ls 3 [(0, .ref (am 0)), (1, .int (nI a))] := hl
    obtain ⟨ka, fa, sa, qa, xa, ya⟩ := hA.2.2.1 a o ga
    have ka : S.2.2.1 a = o.1 := ka
    have fa : S.2.2.2.1 a = o.2.1 := fa
    have sa : S.2.2.2.2.1 a = nI o.2.2.1.length := sa
    have la : o.2.2.1.length ≤ 100 := qa.1
    refine lv_aload_n hx hb d_M_rest_13 rfl (lv_at hl 0 rfl) ?_
    refine m_cV (ct_M_isFull w am hI S.1 S.2.1 S.2.2.1 S.2.2.2.1 S.2.2.2.2.1 S.2.2.2.2.2.1 S.2.2.2.2.2.2.1 S.2.2.2.2.2.2.2) hx hfl hK hb (by rw [hml]; exact hl.1) hown (hw _ mm_M_46) (hw _ mk_M_isFull) (hw _ mi_M_isFull) (hw _ mq_M_isFull) (show fx_N y_M_isFull 0 by decide +kernel) rfl ⟨Nat.le_of_ble_eq_true rfl, Nat.le_of_ble_eq_true rfl, Nat.le_of_ble_eq_true rfl, Nat.le_of_ble_eq_true rfl⟩ hP hS d_M_rest_14 (fun H locs hP hS => ?_)
    have hP : va_P w.D cls (mw w am S) H := hP
    refine lv_if_eq (tgt := 24) hx hb d_M_rest_17 rfl (fun h17 => ?_) (fun h17 => ?_)
    · have h17 : ¬ 64 ≤ Vs.length := fun z => zI_eq0.mp h17 (by rw [hn]; exact nI_le z (by omega))
      refine lv_aload_n hx hb d_M_rest_24 rfl (lv_at hl 0 rfl) ?_
      refine fx_get hx hb hown (kc_M hK _) hKv 3 (by decide) (hw _ mf_M_16) (fun _ h => h) (hP 0 _ rfl) rfl d_M_rest_25 ?_
      refine lv_iload_n hx hb d_M_rest_28 rfl (lv_at hl 1 rfl) ?_
      refine fx_iald (j := a) hx hb hKv 0 (hP 3 _ rfl) rfl (rfl) (by omega) (by decide) d_M_rest_29 ?_
      refine lv_if_ne (tgt := 37) hx hb d_M_rest_30 rfl (fun h30 => ?_) (fun h30 => ?_)
      · have h30 : ¬ o.2.2.1.length = 0 := fun z => h30 (by rw [sa, z]; rfl)
        refine lv_iconst (v := nI 0) hx hb d_M_rest_37 rfl ?_
        refine m_rThr hI hA (nI 0) hx hfl hK hb (by rw [hml]; exact hl.1) hown (hw _ mm_M_50) ⟨Nat.le_of_ble_eq_true rfl, Nat.le_of_ble_eq_true rfl, Nat.le_of_ble_eq_true rfl, Nat.le_of_ble_eq_true rfl⟩ hP hS d_M_rest_38 (fun S1 hA hT H locs hP hS => ?_)
        have hn : S1.1 = nI Vs.length := hA.1
        refine lv_if_eq (tgt := 46) hx hb d_M_rest_41 rfl (fun _ => ?_) (fun h9 => absurd (zI_f (by decide)) h9)
        obtain ⟨ka, fa, sa, qa, xa, ya⟩ := hA.2.2.1 a o ga
        have ka : S1.2.2.1 a = o.1 := ka
        have fa : S1.2.2.2.1 a = o.2.1 := fa
        have sa : S1.2.2.2.2.1 a = nI o.2.2.1.length := sa
        have la : o.2.2.1.length ≤ 100 := qa.1
        refine lv_aload_n hx hb d_M_rest_46 rfl (lv_at hl 0 rfl) ?_
        refine lv_aload_n hx hb d_M_rest_47 rfl (lv_at hl 0 rfl) ?_
        refine fx_get hx hb hown (kc_M hK _) hKv 1 (by decide) (hw _ mf_M_7) (fun _ h => h) (hP 0 _ rfl) rfl d_M_rest_48 ?_
        refine lv_iload_n hx hb d_M_rest_51 rfl (lv_at hl 1 rfl) ?_
        refine fx_iald (j := a) hx hb hKv 0 (hP 1 _ rfl) rfl (rfl) (by omega) (by decide) d_M_rest_52 ?_
        refine fx_ti (y := o.1) (ka) ?_
        refine lv_aload_n hx hb d_M_rest_53 rfl (lv_at hl 0 rfl) ?_
        refine fx_get hx hb hown (kc_M hK _) hKv 2 (by decide) (hw _ mf_M_13) (fun _ h => h) (hP 0 _ rfl) rfl d_M_rest_54 ?_
        refine lv_iload_n hx hb d_M_rest_57 rfl (lv_at hl 1 rfl) ?_
        refine fx_iald (j := a) hx hb hKv 0 (hP 2 _ rfl) rfl (rfl) (by omega) (by decide) d_M_rest_58 ?_
        refine fx_ti (y := o.2.1) (fa) ?_
        refine m_rCreate hI hA (by omega) (o.1) (o.2.1) hx hfl hK hb (by rw [hml]; exact hl.1) hown (hw _ mm_M_53) ⟨Nat.le_of_ble_eq_true rfl, Nat.le_of_ble_eq_true rfl, Nat.le_of_ble_eq_true rfl, Nat.le_of_ble_eq_true rfl⟩ hP hS d_M_rest_59 (fun S2 hB hT1 H locs hP hS => ?_)
        have hT := hT1.trans hT
        refine lv_istore_n hx hb d_M_rest_62 rfl hl (by decide) rfl (fun ls hl => ?_)
        have hl : lv_has ls 3 [(2, .int (nI Vs.length)), (0, .ref (am 0)), (1, .int (nI a))] := hl
        obtain ⟨ka, fa, sa, qa, xa, ya⟩ := hB.2.2.1 a o ga
        have ka : S2.2.2.1 a = o.1 := ka
        have fa : S2.2.2.2.1 a = o.2.1 := fa
        have sa : S2.2.2.2.2.1 a = nI o.2.2.1.length := sa
        have la : o.2.2.1.length ≤ 100 := qa.1
        refine lv_aload_n hx hb d_M_rest_63 rfl (lv_at hl 1 rfl) ?_
        refine lv_iload_n hx hb d_M_rest_64 rfl (lv_at hl 2 rfl) ?_
        refine lv_iconst (v := nI 1) hx hb d_M_rest_65 rfl ?_
        refine lv_aload_n hx hb d_M_rest_66 rfl (lv_at hl 1 rfl) ?_
        refine fx_get hx hb hown (kc_M hK _) hKv 3 (by decide) (hw _ mf_M_16) (fun _ h => h) (hP 0 _ rfl) rfl d_M_rest_67 ?_
        refine lv_iload_n hx hb d_M_rest_70 rfl (lv_at hl 2 rfl) ?_
        refine fx_iald (j := a) hx hb hKv 0 (hP 3 _ rfl) rfl (rfl) (by omega) (by decide) d_M_rest_71 ?_
        refine fx_ti (y := nI o.2.2.1.length) (sa) ?_
        refine m_rAll hI hB (o := o) ga (by omega) (Nat.le_refl _) (by show 0 + (o.2.2.1.length - 1) ≤ 100; omega) (fun z => z) hx hfl hK hb (by rw [hml]; exact hl.1) hown (hw _ mm_M_63) ⟨Nat.le_of_ble_eq_true rfl, Nat.le_of_ble_eq_true rfl, Nat.le_of_ble_eq_true rfl, Nat.le_of_ble_eq_true rfl⟩ hP hS d_M_rest_72 (fun S3 hB hT1 H locs hP hS => ?_)
        have hT := hT1.trans hT
        have hF : mAbs S3 (Vs ++ [(o.1, o.2.1, o.2.2.1.drop 1, o.2.2.2)]) := by have := mB_done hB o.2.2.2 (fun z => absurd z n3) qa.2.2; simp only [List.nil_append, sv_cut_all] at this; exact this
        refine lv_iload_n hx hb d_M_rest_75 rfl (lv_at hl 0 rfl) ?_
        exact fx_iret hx hb hr hlk hS.2.2 (Nat.le_of_ble_eq_true rfl) (Nat.le_of_ble_eq_true rfl) d_M_rest_76 (⟨by rw [(show so_rest Vs (nI a) = sv_new Vs (o.1, o.2.1, o.2.2.1.drop 1, o.2.2.2) from by unfold so_rest; rw [ta]; dsimp only; rw [if_neg n3, if_neg h17, if_neg h30])]; exact rfl, S3, hP, by rw [(show so_rest Vs (nI a) = sv_new Vs (o.1, o.2.1, o.2.2.1.drop 1, o.2.2.2) from by unfold so_rest; rw [ta]; dsimp only; rw [if_neg n3, if_neg h17, if_neg h30])]; exact hF, by rw [(show so_rest Vs (nI a) = sv_new Vs (o.1, o.2.1, o.2.2.1.drop 1, o.2.2.2) from by unfold so_rest; rw [ta]; dsimp only; rw [if_neg n3, if_neg h17, if_neg h30])]; exact hT⟩)
      · have h30 : o.2.2.1.length = 0 := by rw [sa] at h30; exact (nI_eq (by omega) (by decide)).mp h30
        refine lv_iconst (v := nI 3) hx hb d_M_rest_33 rfl ?_
        refine lv_goto (tgt := 38) hx hb d_M_rest_34 rfl ?_
        refine m_rThr hI hA (nI 3) hx hfl hK hb (by rw [hml]; exact hl.1) hown (hw _ mm_M_50) ⟨Nat.le_of_ble_eq_true rfl, Nat.le_of_ble_eq_true rfl, Nat.le_of_ble_eq_true rfl, Nat.le_of_ble_eq_true rfl⟩ hP hS d_M_rest_38 (fun S1 hA hT H locs hP hS => ?_)
        have hn : S1.1 = nI Vs.length := hA.1
        refine lv_if_eq (tgt := 46) hx hb d_M_rest_41 rfl (fun h9 => absurd h9 (by rw [zI_t (by decide)]; decide)) (fun _ => ?_)
        refine lv_iconst (v := nI 0) hx hb d_M_rest_44 rfl ?_
        exact fx_iret hx hb hr hlk hS.2.2 (Nat.le_of_ble_eq_true rfl) (Nat.le_of_ble_eq_true rfl) d_M_rest_45 (⟨by rw [(show so_rest Vs (nI a) = (3, 0, Vs) from by unfold so_rest; rw [ta]; dsimp only; rw [if_neg n3, if_neg h17, if_pos h30])]; exact rfl, S1, hP, by rw [(show so_rest Vs (nI a) = (3, 0, Vs) from by unfold so_rest; rw [ta]; dsimp only; rw [if_neg n3, if_neg h17, if_pos h30])]; exact hA, by rw [(show so_rest Vs (nI a) = (3, 0, Vs) from by unfold so_rest; rw [ta]; dsimp only; rw [if_neg n3, if_neg h17, if_pos h30])]; exact hT⟩)
    · have h17 : 64 ≤ Vs.length := by have := zI_ne0.mp h17; rw [hn] at this; exact (nI_leI (by decide) (by omega)).mp this
      refine lv_iconst (v := nI 2) hx hb d_M_rest_20 rfl ?_
      refine lv_goto (tgt := 38) hx hb d_M_rest_21 rfl ?_
      refine m_rThr hI hA (nI 2) hx hfl hK hb (by rw [hml]; exact hl.1) hown (hw _ mm_M_50) ⟨Nat.le_of_ble_eq_true rfl, Nat.le_of_ble_eq_true rfl, Nat.le_of_ble_eq_true rfl, Nat.le_of_ble_eq_true rfl⟩ hP hS d_M_rest_38 (fun S1 hA hT H locs hP hS => ?_)
      have hn : S1.1 = nI Vs.length := hA.1
      refine lv_if_eq (tgt := 46) hx hb d_M_rest_41 rfl (fun h9 => absurd h9 (by rw [zI_t (by decide)]; decide)) (fun _ => ?_)
      refine lv_iconst (v := nI 0) hx hb d_M_rest_44 rfl ?_
      exact fx_iret hx hb hr hlk hS.2.2 (Nat.le_of_ble_eq_true rfl) (Nat.le_of_ble_eq_true rfl) d_M_rest_45 (⟨by rw [(show so_rest Vs (nI a) = (2, 0, Vs) from by unfold so_rest; rw [ta]; dsimp only; rw [if_neg n3, if_pos h17])]; exact rfl, S1, hP, by rw [(show so_rest Vs (nI a) = (2, 0, Vs) from by unfold so_rest; rw [ta]; dsimp only; rw [if_neg n3, if_pos h17])]; exact hA, by rw [(show so_rest Vs (nI a) = (2, 0, Vs) from by unfold so_rest; rw [ta]; dsimp only; rw [if_neg n3, if_pos h17])]; exact hT⟩)
  · have h6 := zI_eq0.mp h6
    have h6 : so_rest Vs v = (1, 0, Vs) := by
      by_cases hv : ¬ v < 0 ∧ v < nI Vs.length
      · obtain ⟨a, o, ea, ha, ga, ta⟩ := mAbs_at hA hv.1 hv.2
        have o3 : o.1 = 3 := Decidable.byContradiction (fun z => h6 ⟨hv, by rw [ea, nI_clamp (by omega)]; intro y; exact z ((hA.2.2.1 a o ga).1.symm.trans y)⟩)
        unfold so_rest; rw [ta]; dsimp only; rw [if_pos o3]
      · unfold so_rest; rw [mAbs_none hA hv]
    refine lv_iconst (v := nI 1) hx hb d_M_rest_9 rfl ?_
    refine lv_goto (tgt := 38) hx hb d_M_rest_10 rfl ?_
    refine m_rThr hI hA (nI 1) hx hfl hK hb (by rw [hml]; exact hl.1) hown (hw _ mm_M_50) ⟨Nat.le_of_ble_eq_true rfl, Nat.le_of_ble_eq_true rfl, Nat.le_of_ble_eq_true rfl, Nat.le_of_ble_eq_true rfl⟩ hP hS d_M_rest_38 (fun S1 hA hT H locs hP hS => ?_)
    have hn : S1.1 = nI Vs.length := hA.1
    refine lv_if_eq (tgt := 46) hx hb d_M_rest_41 rfl (fun h9 => absurd h9 (by rw [zI_t (by decide)]; decide)) (fun _ => ?_)
    refine lv_iconst (v := nI 0) hx hb d_M_rest_44 rfl ?_
    exact fx_iret hx hb hr hlk hS.2.2 (Nat.le_of_ble_eq_true rfl) (Nat.le_of_ble_eq_true rfl) d_M_rest_45 (⟨by rw [(show so_rest Vs v = (1, 0, Vs) from h6)]; exact rfl, S1, hP, by rw [(show so_rest Vs v = (1, 0, Vs) from h6)]; exact hA, by rw [(show so_rest Vs v = (1, 0, Vs) from h6)]; exact hT⟩)
set_option maxHeartbeats 4000000 in
set_option maxRecDepth 100000 in
theorem ct_M_add (w : Wd) (am : Nat → Nat) (hI : mI am) (Vs : List sV) (v x : Int32) : mApi w am y_M_add 5 (rmK 3) [.int v, .int x] Vs (so_add Vs v x) := by
  intro S hA
  have hn : S.1 = nI Vs.length := hA.1
  have hVl : Vs.length ≤ 64 := hA.2.1
  refine fx_of (ret := some .int) (cc := b_M_add) (fun s hK => hK.1 _ mk_M_add _) (Nat.le_of_ble_eq_true rfl) ?_
  intro p l e s m below meth c hx hfl hK hb hml hr hlk hnt hown hin hP ls hl
  have hw : ∀ z ∈ gw, z.before (.ref (am 0) :: [.int v, .int x] : List Value).toArray s = true := fun z hz => hK.1 z hz _
  have hKv := hK.2.1
  have hS : va_S (mA am) s.heap s.heap [] := va_S.rf
  have hP : va_P w.D cls (mw w am S) s.heap := hP
  have hl : lv_has ls 5 [(0, .ref (am 0)), (1, .int v), (2, .int x)] := hl
  refine lv_aload_n hx hb d_M_add_0 rfl (lv_at hl 0 rfl) ?_
  refine lv_aload_n hx hb d_M_add_1 rfl (lv_at hl 0 rfl) ?_
  refine lv_iload_n hx hb d_M_add_2 rfl (lv_at hl 1 rfl) ?_
  rw [show (mw w am S) = mw w am (nI Vs.length, S.2) by rw [← hn]] at hP
  refine m_cV (ct_M_isRow w am hI S.2.1 S.2.2.1 S.2.2.2.1 S.2.2.2.2.1 S.2.2.2.2.2.1 S.2.2.2.2.2.2.1 S.2.2.2.2.2.2.2 Vs.length v hVl) hx hfl hK hb (by rw [hml]; exact hl.1) hown (hw _ mm_M_57) (hw _ mk_M_isRow) (hw _ mi_M_isRow) (hw _ mq_M_isRow) (show fx_N y_M_isRow 1 by decide +kernel) rfl ⟨Nat.le_of_ble_eq_true rfl, Nat.le_of_ble_eq_true rfl, Nat.le_of_ble_eq_true rfl, Nat.le_of_ble_eq_true rfl⟩ hP hS d_M_add_3 (fun H locs hP hS => ?_)
  have hP : va_P w.D cls (mw w am S) H := by rw [show mw w am S = mw w am (nI Vs.length, S.2) by rw [← hn]]; exact hP
  refine lv_if_ne (tgt := 13) hx hb d_M_add_6 rfl (fun h6 => ?_) (fun h6 => ?_)
  · have h6 := zI_ne0.mp h6
    obtain ⟨a, o, ea, ha, ga, ta⟩ := mAbs_at hA h6.1.1 h6.1.2
    subst ea
    have ca : (nI a).toNatClampNeg = a := nI_clamp (by omega)
    have n3 : ¬ o.1 = 3 := fun z => h6.2 (by rw [ca]; exact (hA.2.2.1 a o ga).1.trans z)
    have hl : lv_has ls 5 [(0, .ref (am 0)), (1, .int (nI a)), (2, .int x)] := hl
    obtain ⟨ka, fa, sa, qa, xa, ya⟩ := hA.2.2.1 a o ga
    have ka : S.2.2.1 a = o.1 := ka
    have fa : S.2.2.2.1 a = o.2.1 := fa
    have sa : S.2.2.2.2.1 a = nI o.2.2.1.length := sa
    have la : o.2.2.1.length ≤ 100 := qa.1
    refine lv_aload_n hx hb d_M_add_13 rfl (lv_at hl 0 rfl) ?_
    refine m_cV (ct_M_isFull w am hI S.1 S.2.1 S.2.2.1 S.2.2.2.1 S.2.2.2.2.1 S.2.2.2.2.2.1 S.2.2.2.2.2.2.1 S.2.2.2.2.2.2.2) hx hfl hK hb (by rw [hml]; exact hl.1) hown (hw _ mm_M_46) (hw _ mk_M_isFull) (hw _ mi_M_isFull) (hw _ mq_M_isFull) (show fx_N y_M_isFull 0 by decide +kernel) rfl ⟨Nat.le_of_ble_eq_true rfl, Nat.le_of_ble_eq_true rfl, Nat.le_of_ble_eq_true rfl, Nat.le_of_ble_eq_true rfl⟩ hP hS d_M_add_14 (fun H locs hP hS => ?_)
    have hP : va_P w.D cls (mw w am S) H := hP
    refine lv_if_ne (tgt := 31) hx hb d_M_add_17 rfl (fun h17 => ?_) (fun h17 => ?_)
    · have h17 : 64 ≤ Vs.length := by have := zI_ne0.mp h17; rw [hn] at this; exact (nI_leI (by decide) (by omega)).mp this
      refine lv_iconst (v := nI 2) hx hb d_M_add_31 rfl ?_
      refine lv_goto (tgt := 36) hx hb d_M_add_32 rfl ?_
      refine m_rThr hI hA (nI 2) hx hfl hK hb (by rw [hml]; exact hl.1) hown (hw _ mm_M_50) ⟨Nat.le_of_ble_eq_true rfl, Nat.le_of_ble_eq_true rfl, Nat.le_of_ble_eq_true rfl, Nat.le_of_ble_eq_true rfl⟩ hP hS d_M_add_36 (fun S1 hA hT H locs hP hS => ?_)
      have hn : S1.1 = nI Vs.length := hA.1
      refine lv_if_eq (tgt := 44) hx hb d_M_add_39 rfl (fun h9 => absurd h9 (by rw [zI_t (by decide)]; decide)) (fun _ => ?_)
      refine lv_iconst (v := nI 0) hx hb d_M_add_42 rfl ?_
      exact fx_iret hx hb hr hlk hS.2.2 (Nat.le_of_ble_eq_true rfl) (Nat.le_of_ble_eq_true rfl) d_M_add_43 (⟨by rw [(show so_add Vs (nI a) x = (2, 0, Vs) from by unfold so_add; rw [ta]; dsimp only; rw [if_neg n3, if_pos (Or.inl h17)])]; exact rfl, S1, hP, by rw [(show so_add Vs (nI a) x = (2, 0, Vs) from by unfold so_add; rw [ta]; dsimp only; rw [if_neg n3, if_pos (Or.inl h17)])]; exact hA, by rw [(show so_add Vs (nI a) x = (2, 0, Vs) from by unfold so_add; rw [ta]; dsimp only; rw [if_neg n3, if_pos (Or.inl h17)])]; exact hT⟩)
    · have h17 : ¬ 64 ≤ Vs.length := fun z => zI_eq0.mp h17 (by rw [hn]; exact nI_le z (by omega))
      refine lv_aload_n hx hb d_M_add_20 rfl (lv_at hl 0 rfl) ?_
      refine fx_get hx hb hown (kc_M hK _) hKv 3 (by decide) (hw _ mf_M_16) (fun _ h => h) (hP 0 _ rfl) rfl d_M_add_21 ?_
      refine lv_iload_n hx hb d_M_add_24 rfl (lv_at hl 1 rfl) ?_
      refine fx_iald (j := a) hx hb hKv 0 (hP 3 _ rfl) rfl (rfl) (by omega) (by decide) d_M_add_25 ?_
      refine lv_bipush (v := nI 100) hx hb d_M_add_26 rfl ?_
      refine lv_icmp_lt (tgt := 35) hx hb d_M_add_28 rfl (fun h28 => ?_) (fun h28 => ?_)
      · have h28 : o.2.2.1.length < 100 := by rw [sa] at h28; exact (nI_ltI (by omega) (by decide)).mp h28
        refine lv_iconst (v := nI 0) hx hb d_M_add_35 rfl ?_
        refine m_rThr hI hA (nI 0) hx hfl hK hb (by rw [hml]; exact hl.1) hown (hw _ mm_M_50) ⟨Nat.le_of_ble_eq_true rfl, Nat.le_of_ble_eq_true rfl, Nat.le_of_ble_eq_true rfl, Nat.le_of_ble_eq_true rfl⟩ hP hS d_M_add_36 (fun S1 hA hT H locs hP hS => ?_)
        have hn : S1.1 = nI Vs.length := hA.1
        refine lv_if_eq (tgt := 44) hx hb d_M_add_39 rfl (fun _ => ?_) (fun h9 => absurd (zI_f (by decide)) h9)
        obtain ⟨ka, fa, sa, qa, xa, ya⟩ := hA.2.2.1 a o ga
        have ka : S1.2.2.1 a = o.1 := ka
        have fa : S1.2.2.2.1 a = o.2.1 := fa
        have sa : S1.2.2.2.2.1 a = nI o.2.2.1.length := sa
        have la : o.2.2.1.length ≤ 100 := qa.1
        refine lv_aload_n hx hb d_M_add_44 rfl (lv_at hl 0 rfl) ?_
        refine lv_aload_n hx hb d_M_add_45 rfl (lv_at hl 0 rfl) ?_
        refine fx_get hx hb hown (kc_M hK _) hKv 1 (by decide) (hw _ mf_M_7) (fun _ h => h) (hP 0 _ rfl) rfl d_M_add_46 ?_
        refine lv_iload_n hx hb d_M_add_49 rfl (lv_at hl 1 rfl) ?_
        refine fx_iald (j := a) hx hb hKv 0 (hP 1 _ rfl) rfl (rfl) (by omega) (by decide) d_M_add_50 ?_
        refine fx_ti (y := o.1) (ka) ?_
        refine lv_aload_n hx hb d_M_add_51 rfl (lv_at hl 0 rfl) ?_
        refine fx_get hx hb hown (kc_M hK _) hKv 2 (by decide) (hw _ mf_M_13) (fun _ h => h) (hP 0 _ rfl) rfl d_M_add_52 ?_
        refine lv_iload_n hx hb d_M_add_55 rfl (lv_at hl 1 rfl) ?_
        refine fx_iald (j := a) hx hb hKv 0 (hP 2 _ rfl) rfl (rfl) (by omega) (by decide) d_M_add_56 ?_
        refine fx_ti (y := o.2.1) (fa) ?_
        refine m_rCreate hI hA (by omega) (o.1) (o.2.1) hx hfl hK hb (by rw [hml]; exact hl.1) hown (hw _ mm_M_53) ⟨Nat.le_of_ble_eq_true rfl, Nat.le_of_ble_eq_true rfl, Nat.le_of_ble_eq_true rfl, Nat.le_of_ble_eq_true rfl⟩ hP hS d_M_add_57 (fun S2 hB hT1 H locs hP hS => ?_)
        have hT := hT1.trans hT
        refine lv_istore_n hx hb d_M_add_60 rfl hl (by decide) rfl (fun ls hl => ?_)
        have hl : lv_has ls 5 [(3, .int (nI Vs.length)), (0, .ref (am 0)), (1, .int (nI a)), (2, .int x)] := hl
        obtain ⟨ka, fa, sa, qa, xa, ya⟩ := hB.2.2.1 a o ga
        have ka : S2.2.2.1 a = o.1 := ka
        have fa : S2.2.2.2.1 a = o.2.1 := fa
        have sa : S2.2.2.2.2.1 a = nI o.2.2.1.length := sa
        have la : o.2.2.1.length ≤ 100 := qa.1
        refine lv_aload_n hx hb d_M_add_61 rfl (lv_at hl 1 rfl) ?_
        refine fx_get hx hb hown (kc_M hK _) hKv 1 (by decide) (hw _ mf_M_7) (fun _ h => h) (hP 0 _ rfl) rfl d_M_add_62 ?_
        refine lv_iload_n hx hb d_M_add_65 rfl (lv_at hl 2 rfl) ?_
        refine fx_iald (j := a) hx hb hKv 0 (hP 1 _ rfl) rfl (rfl) (by omega) (by decide) d_M_add_66 ?_
        refine lv_iconst (v := nI 1) hx hb d_M_add_67 rfl ?_
        refine lv_icmp_ne (tgt := 80) hx hb d_M_add_68 rfl (fun h68 => ?_) (fun h68 => ?_)
        · have h68 : ¬ o.1 = 1 := by rw [ka] at h68; exact h68
          refine lv_aload_n hx hb d_M_add_80 rfl (lv_at hl 1 rfl) ?_
          refine fx_get hx hb hown (kc_M hK _) hKv 1 (by decide) (hw _ mf_M_7) (fun _ h => h) (hP 0 _ rfl) rfl d_M_add_81 ?_
          refine lv_iload_n hx hb d_M_add_84 rfl (lv_at hl 2 rfl) ?_
          refine fx_iald (j := a) hx hb hKv 0 (hP 1 _ rfl) rfl (rfl) (by omega) (by decide) d_M_add_85 ?_
          refine lv_iconst (v := nI 2) hx hb d_M_add_86 rfl ?_
          refine lv_icmp_ne (tgt := 94) hx hb d_M_add_87 rfl (fun h87 => ?_) (fun h87 => ?_)
          · have h87 : ¬ o.1 = 2 := by rw [ka] at h87; exact h87
            refine lv_aload_n hx hb d_M_add_94 rfl (lv_at hl 1 rfl) ?_
            refine fx_get hx hb hown (kc_M hK _) hKv 3 (by decide) (hw _ mf_M_16) (fun _ h => h) (hP 0 _ rfl) rfl d_M_add_95 ?_
            refine lv_iload_n hx hb d_M_add_98 rfl (lv_at hl 2 rfl) ?_
            refine fx_iald (j := a) hx hb hKv 0 (hP 3 _ rfl) rfl (rfl) (by omega) (by decide) d_M_add_99 ?_
            refine fx_ti (y := nI o.2.2.1.length) (sa) ?_
            have hp : sv_plc o x = o.2.2.1.length := by unfold sv_plc; rw [if_neg h87, if_neg h68]
            have hPl : o.2.2.1.length ≤ o.2.2.1.length := Nat.le_refl _
            refine lv_istore hx hb d_M_add_100 hl (by decide) rfl (fun ls hl => ?_)
            have hl : lv_has ls 5 [(4, .int (nI o.2.2.1.length)), (3, .int (nI Vs.length)), (0, .ref (am 0)), (1, .int (nI a)), (2, .int x)] := hl
            refine lv_aload_n hx hb d_M_add_102 rfl (lv_at hl 2 rfl) ?_
            refine lv_iload_n hx hb d_M_add_103 rfl (lv_at hl 3 rfl) ?_
            refine lv_iconst (v := nI 0) hx hb d_M_add_104 rfl ?_
            refine lv_iload hx hb d_M_add_105 (lv_at hl 0 rfl) ?_
            refine m_rAll hI hB (o := o) ga (Nat.zero_le _) (hPl) (by show 0 + (o.2.2.1.length - 0) ≤ 100; omega) (fun z => z) hx hfl hK hb (by rw [hml]; exact hl.1) hown (hw _ mm_M_63) ⟨Nat.le_of_ble_eq_true rfl, Nat.le_of_ble_eq_true rfl, Nat.le_of_ble_eq_true rfl, Nat.le_of_ble_eq_true rfl⟩ hP hS d_M_add_107 (fun S3 hB hT1 H locs hP hS => ?_)
            have hT := hT1.trans hT
            simp only [List.nil_append, sv_cut_0] at hB
            refine lv_aload_n hx hb d_M_add_110 rfl (lv_at hl 2 rfl) ?_
            refine lv_iconst (v := nI 0) hx hb d_M_add_111 rfl ?_
            refine lv_iload_n hx hb d_M_add_112 rfl (lv_at hl 4 rfl) ?_
            refine m_rPut hI hB (by rw [List.length_take]; omega) (nI 0) x hx hfl hK hb (by rw [hml]; exact hl.1) hown (hw _ mm_M_42) ⟨Nat.le_of_ble_eq_true rfl, Nat.le_of_ble_eq_true rfl, Nat.le_of_ble_eq_true rfl, Nat.le_of_ble_eq_true rfl⟩ hP hS d_M_add_113 (fun S4 hB hT1 H locs hP hS => ?_)
            have hT := hT1.trans hT
            refine lv_aload_n hx hb d_M_add_116 rfl (lv_at hl 2 rfl) ?_
            refine lv_iload_n hx hb d_M_add_117 rfl (lv_at hl 3 rfl) ?_
            refine lv_iload hx hb d_M_add_118 (lv_at hl 0 rfl) ?_
            refine lv_aload_n hx hb d_M_add_120 rfl (lv_at hl 2 rfl) ?_
            refine fx_get hx hb hown (kc_M hK _) hKv 3 (by decide) (hw _ mf_M_16) (fun _ h => h) (hP 0 _ rfl) rfl d_M_add_121 ?_
            refine lv_iload_n hx hb d_M_add_124 rfl (lv_at hl 3 rfl) ?_
            refine fx_iald (j := a) hx hb hKv 0 (hP 3 _ rfl) rfl (rfl) (by omega) (by decide) d_M_add_125 ?_
            obtain ⟨ka, fa, sa, qa, xa, ya⟩ := hB.2.2.1 a o ga
            have ka : S4.2.2.1 a = o.1 := ka
            have fa : S4.2.2.2.1 a = o.2.1 := fa
            have sa : S4.2.2.2.2.1 a = nI o.2.2.1.length := sa
            have la : o.2.2.1.length ≤ 100 := qa.1
            refine fx_ti (y := nI o.2.2.1.length) (sa) ?_
            refine m_rAll hI hB (o := o) ga (hPl) (Nat.le_refl _) (by simp only [List.length_append, List.length_take, List.length_singleton]; omega) (fun z => z) hx hfl hK hb (by rw [hml]; exact hl.1) hown (hw _ mm_M_63) ⟨Nat.le_of_ble_eq_true rfl, Nat.le_of_ble_eq_true rfl, Nat.le_of_ble_eq_true rfl, Nat.le_of_ble_eq_true rfl⟩ hP hS d_M_add_126 (fun S5 hB hT1 H locs hP hS => ?_)
            have hT := hT1.trans hT
            have hF : mAbs S5 (Vs ++ [(o.1, o.2.1, sv_ins o.2.2.1 (o.2.2.1.length) x, o.2.2.2)]) := by have := mB_done hB o.2.2.2 (fun z => absurd z n3) qa.2.2; simp only [sv_cut_all, List.append_assoc, List.singleton_append] at this; exact this
            refine lv_iload_n hx hb d_M_add_129 rfl (lv_at hl 1 rfl) ?_
            exact fx_iret hx hb hr hlk hS.2.2 (Nat.le_of_ble_eq_true rfl) (Nat.le_of_ble_eq_true rfl) d_M_add_130 (⟨by rw [(show so_add Vs (nI a) x = sv_new Vs (o.1, o.2.1, sv_ins o.2.2.1 (o.2.2.1.length) x, o.2.2.2) from by unfold so_add; rw [ta]; dsimp only; rw [if_neg n3, if_neg (fun z => z.elim h17 (by omega)), hp])]; exact rfl, S5, hP, by rw [(show so_add Vs (nI a) x = sv_new Vs (o.1, o.2.1, sv_ins o.2.2.1 (o.2.2.1.length) x, o.2.2.2) from by unfold so_add; rw [ta]; dsimp only; rw [if_neg n3, if_neg (fun z => z.elim h17 (by omega)), hp])]; exact hF, by rw [(show so_add Vs (nI a) x = sv_new Vs (o.1, o.2.1, sv_ins o.2.2.1 (o.2.2.1.length) x, o.2.2.2) from by unfold so_add; rw [ta]; dsimp only; rw [if_neg n3, if_neg (fun z => z.elim h17 (by omega)), hp])]; exact hT⟩)
          · have h87 : o.1 = 2 := by rw [ka] at h87; exact h87
            have hp : sv_plc o x = 0 := by unfold sv_plc; rw [if_pos h87]
            have hPl : 0 ≤ o.2.2.1.length := Nat.zero_le _
            refine lv_iconst (v := nI 0) hx hb d_M_add_90 rfl ?_
            refine lv_goto (tgt := 100) hx hb d_M_add_91 rfl ?_
            refine lv_istore hx hb d_M_add_100 hl (by decide) rfl (fun ls hl => ?_)
            have hl : lv_has ls 5 [(4, .int (nI 0)), (3, .int (nI Vs.length)), (0, .ref (am 0)), (1, .int (nI a)), (2, .int x)] := hl
            refine lv_aload_n hx hb d_M_add_102 rfl (lv_at hl 2 rfl) ?_
            refine lv_iload_n hx hb d_M_add_103 rfl (lv_at hl 3 rfl) ?_
            refine lv_iconst (v := nI 0) hx hb d_M_add_104 rfl ?_
            refine lv_iload hx hb d_M_add_105 (lv_at hl 0 rfl) ?_
            refine m_rAll hI hB (o := o) ga (Nat.zero_le _) (hPl) (by show 0 + (0 - 0) ≤ 100; omega) (fun z => z) hx hfl hK hb (by rw [hml]; exact hl.1) hown (hw _ mm_M_63) ⟨Nat.le_of_ble_eq_true rfl, Nat.le_of_ble_eq_true rfl, Nat.le_of_ble_eq_true rfl, Nat.le_of_ble_eq_true rfl⟩ hP hS d_M_add_107 (fun S3 hB hT1 H locs hP hS => ?_)
            have hT := hT1.trans hT
            simp only [List.nil_append, sv_cut_0] at hB
            refine lv_aload_n hx hb d_M_add_110 rfl (lv_at hl 2 rfl) ?_
            refine lv_iconst (v := nI 0) hx hb d_M_add_111 rfl ?_
            refine lv_iload_n hx hb d_M_add_112 rfl (lv_at hl 4 rfl) ?_
            refine m_rPut hI hB (by rw [List.length_take]; omega) (nI 0) x hx hfl hK hb (by rw [hml]; exact hl.1) hown (hw _ mm_M_42) ⟨Nat.le_of_ble_eq_true rfl, Nat.le_of_ble_eq_true rfl, Nat.le_of_ble_eq_true rfl, Nat.le_of_ble_eq_true rfl⟩ hP hS d_M_add_113 (fun S4 hB hT1 H locs hP hS => ?_)
            have hT := hT1.trans hT
            refine lv_aload_n hx hb d_M_add_116 rfl (lv_at hl 2 rfl) ?_
            refine lv_iload_n hx hb d_M_add_117 rfl (lv_at hl 3 rfl) ?_
            refine lv_iload hx hb d_M_add_118 (lv_at hl 0 rfl) ?_
            refine lv_aload_n hx hb d_M_add_120 rfl (lv_at hl 2 rfl) ?_
            refine fx_get hx hb hown (kc_M hK _) hKv 3 (by decide) (hw _ mf_M_16) (fun _ h => h) (hP 0 _ rfl) rfl d_M_add_121 ?_
            refine lv_iload_n hx hb d_M_add_124 rfl (lv_at hl 3 rfl) ?_
            refine fx_iald (j := a) hx hb hKv 0 (hP 3 _ rfl) rfl (rfl) (by omega) (by decide) d_M_add_125 ?_
            obtain ⟨ka, fa, sa, qa, xa, ya⟩ := hB.2.2.1 a o ga
            have ka : S4.2.2.1 a = o.1 := ka
            have fa : S4.2.2.2.1 a = o.2.1 := fa
            have sa : S4.2.2.2.2.1 a = nI o.2.2.1.length := sa
            have la : o.2.2.1.length ≤ 100 := qa.1
            refine fx_ti (y := nI o.2.2.1.length) (sa) ?_
            refine m_rAll hI hB (o := o) ga (hPl) (Nat.le_refl _) (by simp only [List.length_append, List.length_take, List.length_singleton]; omega) (fun z => z) hx hfl hK hb (by rw [hml]; exact hl.1) hown (hw _ mm_M_63) ⟨Nat.le_of_ble_eq_true rfl, Nat.le_of_ble_eq_true rfl, Nat.le_of_ble_eq_true rfl, Nat.le_of_ble_eq_true rfl⟩ hP hS d_M_add_126 (fun S5 hB hT1 H locs hP hS => ?_)
            have hT := hT1.trans hT
            have hF : mAbs S5 (Vs ++ [(o.1, o.2.1, sv_ins o.2.2.1 (0) x, o.2.2.2)]) := by have := mB_done hB o.2.2.2 (fun z => absurd z n3) qa.2.2; simp only [sv_cut_all, List.append_assoc, List.singleton_append] at this; exact this
            refine lv_iload_n hx hb d_M_add_129 rfl (lv_at hl 1 rfl) ?_
            exact fx_iret hx hb hr hlk hS.2.2 (Nat.le_of_ble_eq_true rfl) (Nat.le_of_ble_eq_true rfl) d_M_add_130 (⟨by rw [(show so_add Vs (nI a) x = sv_new Vs (o.1, o.2.1, sv_ins o.2.2.1 (0) x, o.2.2.2) from by unfold so_add; rw [ta]; dsimp only; rw [if_neg n3, if_neg (fun z => z.elim h17 (by omega)), hp])]; exact rfl, S5, hP, by rw [(show so_add Vs (nI a) x = sv_new Vs (o.1, o.2.1, sv_ins o.2.2.1 (0) x, o.2.2.2) from by unfold so_add; rw [ta]; dsimp only; rw [if_neg n3, if_neg (fun z => z.elim h17 (by omega)), hp])]; exact hF, by rw [(show so_add Vs (nI a) x = sv_new Vs (o.1, o.2.1, sv_ins o.2.2.1 (0) x, o.2.2.2) from by unfold so_add; rw [ta]; dsimp only; rw [if_neg n3, if_neg (fun z => z.elim h17 (by omega)), hp])]; exact hT⟩)
        · have h68 : o.1 = 1 := by rw [ka] at h68; exact h68
          refine lv_aload_n hx hb d_M_add_71 rfl (lv_at hl 1 rfl) ?_
          refine lv_iload_n hx hb d_M_add_72 rfl (lv_at hl 2 rfl) ?_
          refine lv_iload_n hx hb d_M_add_73 rfl (lv_at hl 3 rfl) ?_
          have hp : sv_plc o x = sv_cb o.2.2.1 x := by unfold sv_plc; rw [if_neg (by rw [h68]; decide), if_pos h68]
          have hPl : sv_cb o.2.2.1 x ≤ o.2.2.1.length := sv_cb_le _ _
          refine m_cV (ct_M_below w am hI S2.1 S2.2.1 S2.2.2.1 S2.2.2.2.1 S2.2.2.2.2.1 S2.2.2.2.2.2.1 S2.2.2.2.2.2.2.1 S2.2.2.2.2.2.2.2 a o.2.2.1 x (by omega) la sa xa) hx hfl hK hb (by rw [hml]; exact hl.1) hown (hw _ mm_M_60) (hw _ mk_M_below) (hw _ mi_M_below) (hw _ mq_M_below) (show fx_N y_M_below 2 by decide +kernel) rfl ⟨Nat.le_of_ble_eq_true rfl, Nat.le_of_ble_eq_true rfl, Nat.le_of_ble_eq_true rfl, Nat.le_of_ble_eq_true rfl⟩ hP hS d_M_add_74 (fun H locs hP hS => ?_)
          have hP : va_P w.D cls (mw w am S2) H := hP
          refine lv_goto (tgt := 100) hx hb d_M_add_77 rfl ?_
          refine lv_istore hx hb d_M_add_100 hl (by decide) rfl (fun ls hl => ?_)
          have hl : lv_has ls 5 [(4, .int (nI (sv_cb o.2.2.1 x))), (3, .int (nI Vs.length)), (0, .ref (am 0)), (1, .int (nI a)), (2, .int x)] := hl
          refine lv_aload_n hx hb d_M_add_102 rfl (lv_at hl 2 rfl) ?_
          refine lv_iload_n hx hb d_M_add_103 rfl (lv_at hl 3 rfl) ?_
          refine lv_iconst (v := nI 0) hx hb d_M_add_104 rfl ?_
          refine lv_iload hx hb d_M_add_105 (lv_at hl 0 rfl) ?_
          refine m_rAll hI hB (o := o) ga (Nat.zero_le _) (hPl) (by show 0 + (sv_cb o.2.2.1 x - 0) ≤ 100; omega) (fun z => z) hx hfl hK hb (by rw [hml]; exact hl.1) hown (hw _ mm_M_63) ⟨Nat.le_of_ble_eq_true rfl, Nat.le_of_ble_eq_true rfl, Nat.le_of_ble_eq_true rfl, Nat.le_of_ble_eq_true rfl⟩ hP hS d_M_add_107 (fun S3 hB hT1 H locs hP hS => ?_)
          have hT := hT1.trans hT
          simp only [List.nil_append, sv_cut_0] at hB
          refine lv_aload_n hx hb d_M_add_110 rfl (lv_at hl 2 rfl) ?_
          refine lv_iconst (v := nI 0) hx hb d_M_add_111 rfl ?_
          refine lv_iload_n hx hb d_M_add_112 rfl (lv_at hl 4 rfl) ?_
          refine m_rPut hI hB (by rw [List.length_take]; omega) (nI 0) x hx hfl hK hb (by rw [hml]; exact hl.1) hown (hw _ mm_M_42) ⟨Nat.le_of_ble_eq_true rfl, Nat.le_of_ble_eq_true rfl, Nat.le_of_ble_eq_true rfl, Nat.le_of_ble_eq_true rfl⟩ hP hS d_M_add_113 (fun S4 hB hT1 H locs hP hS => ?_)
          have hT := hT1.trans hT
          refine lv_aload_n hx hb d_M_add_116 rfl (lv_at hl 2 rfl) ?_
          refine lv_iload_n hx hb d_M_add_117 rfl (lv_at hl 3 rfl) ?_
          refine lv_iload hx hb d_M_add_118 (lv_at hl 0 rfl) ?_
          refine lv_aload_n hx hb d_M_add_120 rfl (lv_at hl 2 rfl) ?_
          refine fx_get hx hb hown (kc_M hK _) hKv 3 (by decide) (hw _ mf_M_16) (fun _ h => h) (hP 0 _ rfl) rfl d_M_add_121 ?_
          refine lv_iload_n hx hb d_M_add_124 rfl (lv_at hl 3 rfl) ?_
          refine fx_iald (j := a) hx hb hKv 0 (hP 3 _ rfl) rfl (rfl) (by omega) (by decide) d_M_add_125 ?_
          obtain ⟨ka, fa, sa, qa, xa, ya⟩ := hB.2.2.1 a o ga
          have ka : S4.2.2.1 a = o.1 := ka
          have fa : S4.2.2.2.1 a = o.2.1 := fa
          have sa : S4.2.2.2.2.1 a = nI o.2.2.1.length := sa
          have la : o.2.2.1.length ≤ 100 := qa.1
          refine fx_ti (y := nI o.2.2.1.length) (sa) ?_
          refine m_rAll hI hB (o := o) ga (hPl) (Nat.le_refl _) (by simp only [List.length_append, List.length_take, List.length_singleton]; omega) (fun z => z) hx hfl hK hb (by rw [hml]; exact hl.1) hown (hw _ mm_M_63) ⟨Nat.le_of_ble_eq_true rfl, Nat.le_of_ble_eq_true rfl, Nat.le_of_ble_eq_true rfl, Nat.le_of_ble_eq_true rfl⟩ hP hS d_M_add_126 (fun S5 hB hT1 H locs hP hS => ?_)
          have hT := hT1.trans hT
          have hF : mAbs S5 (Vs ++ [(o.1, o.2.1, sv_ins o.2.2.1 (sv_cb o.2.2.1 x) x, o.2.2.2)]) := by have := mB_done hB o.2.2.2 (fun z => absurd z n3) qa.2.2; simp only [sv_cut_all, List.append_assoc, List.singleton_append] at this; exact this
          refine lv_iload_n hx hb d_M_add_129 rfl (lv_at hl 1 rfl) ?_
          exact fx_iret hx hb hr hlk hS.2.2 (Nat.le_of_ble_eq_true rfl) (Nat.le_of_ble_eq_true rfl) d_M_add_130 (⟨by rw [(show so_add Vs (nI a) x = sv_new Vs (o.1, o.2.1, sv_ins o.2.2.1 (sv_cb o.2.2.1 x) x, o.2.2.2) from by unfold so_add; rw [ta]; dsimp only; rw [if_neg n3, if_neg (fun z => z.elim h17 (by omega)), hp])]; exact rfl, S5, hP, by rw [(show so_add Vs (nI a) x = sv_new Vs (o.1, o.2.1, sv_ins o.2.2.1 (sv_cb o.2.2.1 x) x, o.2.2.2) from by unfold so_add; rw [ta]; dsimp only; rw [if_neg n3, if_neg (fun z => z.elim h17 (by omega)), hp])]; exact hF, by rw [(show so_add Vs (nI a) x = sv_new Vs (o.1, o.2.1, sv_ins o.2.2.1 (sv_cb o.2.2.1 x) x, o.2.2.2) from by unfold so_add; rw [ta]; dsimp only; rw [if_neg n3, if_neg (fun z => z.elim h17 (by omega)), hp])]; exact hT⟩)
      · have h28 : 100 ≤ o.2.2.1.length := by rw [sa] at h28; exact Nat.not_lt.mp (fun z => h28 (nI_lt z (by decide)))
        refine lv_iconst (v := nI 2) hx hb d_M_add_31 rfl ?_
        refine lv_goto (tgt := 36) hx hb d_M_add_32 rfl ?_
        refine m_rThr hI hA (nI 2) hx hfl hK hb (by rw [hml]; exact hl.1) hown (hw _ mm_M_50) ⟨Nat.le_of_ble_eq_true rfl, Nat.le_of_ble_eq_true rfl, Nat.le_of_ble_eq_true rfl, Nat.le_of_ble_eq_true rfl⟩ hP hS d_M_add_36 (fun S1 hA hT H locs hP hS => ?_)
        have hn : S1.1 = nI Vs.length := hA.1
        refine lv_if_eq (tgt := 44) hx hb d_M_add_39 rfl (fun h9 => absurd h9 (by rw [zI_t (by decide)]; decide)) (fun _ => ?_)
        refine lv_iconst (v := nI 0) hx hb d_M_add_42 rfl ?_
        exact fx_iret hx hb hr hlk hS.2.2 (Nat.le_of_ble_eq_true rfl) (Nat.le_of_ble_eq_true rfl) d_M_add_43 (⟨by rw [(show so_add Vs (nI a) x = (2, 0, Vs) from by unfold so_add; rw [ta]; dsimp only; rw [if_neg n3, if_pos (Or.inr h28)])]; exact rfl, S1, hP, by rw [(show so_add Vs (nI a) x = (2, 0, Vs) from by unfold so_add; rw [ta]; dsimp only; rw [if_neg n3, if_pos (Or.inr h28)])]; exact hA, by rw [(show so_add Vs (nI a) x = (2, 0, Vs) from by unfold so_add; rw [ta]; dsimp only; rw [if_neg n3, if_pos (Or.inr h28)])]; exact hT⟩)
  · have h6 := zI_eq0.mp h6
    have h6 : so_add Vs v x = (1, 0, Vs) := by
      by_cases hv : ¬ v < 0 ∧ v < nI Vs.length
      · obtain ⟨a, o, ea, ha, ga, ta⟩ := mAbs_at hA hv.1 hv.2
        have o3 : o.1 = 3 := Decidable.byContradiction (fun z => h6 ⟨hv, by rw [ea, nI_clamp (by omega)]; intro y; exact z ((hA.2.2.1 a o ga).1.symm.trans y)⟩)
        unfold so_add; rw [ta]; dsimp only; rw [if_pos o3]
      · unfold so_add; rw [mAbs_none hA hv]
    refine lv_iconst (v := nI 1) hx hb d_M_add_9 rfl ?_
    refine lv_goto (tgt := 36) hx hb d_M_add_10 rfl ?_
    refine m_rThr hI hA (nI 1) hx hfl hK hb (by rw [hml]; exact hl.1) hown (hw _ mm_M_50) ⟨Nat.le_of_ble_eq_true rfl, Nat.le_of_ble_eq_true rfl, Nat.le_of_ble_eq_true rfl, Nat.le_of_ble_eq_true rfl⟩ hP hS d_M_add_36 (fun S1 hA hT H locs hP hS => ?_)
    have hn : S1.1 = nI Vs.length := hA.1
    refine lv_if_eq (tgt := 44) hx hb d_M_add_39 rfl (fun h9 => absurd h9 (by rw [zI_t (by decide)]; decide)) (fun _ => ?_)
    refine lv_iconst (v := nI 0) hx hb d_M_add_42 rfl ?_
    exact fx_iret hx hb hr hlk hS.2.2 (Nat.le_of_ble_eq_true rfl) (Nat.le_of_ble_eq_true rfl) d_M_add_43 (⟨by rw [(show so_add Vs v x = (1, 0, Vs) from h6)]; exact rfl, S1, hP, by rw [(show so_add Vs v x = (1, 0, Vs) from h6)]; exact hA, by rw [(show so_add Vs v x = (1, 0, Vs) from h6)]; exact hT⟩)
