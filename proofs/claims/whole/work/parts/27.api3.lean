set_option maxHeartbeats 4000000 in
set_option maxRecDepth 100000 in
theorem ct_M_update (w : Wd) (am : Nat → Nat) (hI : mI am) (Vs : List sV) (v i x : Int32) : mApi w am y_M_update 6 (rmK 3) [.int v, .int i, .int x] Vs (so_update Vs v i x) := by
  intro S hA
  have hn : S.1 = nI Vs.length := hA.1
  have hVl : Vs.length ≤ 64 := hA.2.1
  refine fx_of (ret := some .int) (cc := b_M_update) (fun s hK => hK.1 _ mk_M_update _) (Nat.le_of_ble_eq_true rfl) ?_
  intro p l e s m below meth c hx hfl hK hb hml hr hlk hnt hown hin hP ls hl
  have hw : ∀ z ∈ gw, z.before (.ref (am 0) :: [.int v, .int i, .int x] : List Value).toArray s = true := fun z hz => hK.1 z hz _
  have hKv := hK.2.1
  have hS : va_S (mA am) s.heap s.heap [] := va_S.rf
  have hP : va_P w.D cls (mw w am S) s.heap := hP
  have hl : lv_has ls 6 [(0, .ref (am 0)), (1, .int v), (2, .int i), (3, .int x)] := hl
  refine lv_aload_n hx hb d_M_update_0 rfl (lv_at hl 0 rfl) ?_
  refine lv_iload_n hx hb d_M_update_1 rfl (lv_at hl 1 rfl) ?_
  refine m_cV (ct_M_is w am hI S.1 S.2.1 S.2.2.1 S.2.2.2.1 S.2.2.2.2.1 S.2.2.2.2.2.1 S.2.2.2.2.2.2.1 S.2.2.2.2.2.2.2 v) hx hfl hK hb (by rw [hml]; exact hl.1) hown (hw _ mm_M_35) (hw _ mk_M_is) (hw _ mi_M_is) (hw _ mq_M_is) (show fx_N y_M_is 1 by decide +kernel) rfl ⟨Nat.le_of_ble_eq_true rfl, Nat.le_of_ble_eq_true rfl, Nat.le_of_ble_eq_true rfl, Nat.le_of_ble_eq_true rfl⟩ hP hS d_M_update_2 (fun H locs hP hS => ?_)
  have hP : va_P w.D cls (mw w am S) H := hP
  refine lv_if_eq (tgt := 22) hx hb d_M_update_5 rfl (fun h5 => ?_) (fun h5 => ?_)
  · have h5 := zI_eq0.mp h5
    rw [hn] at h5
    have hz : so_update Vs v i x = (1, 0, Vs) := by unfold so_update; rw [mAbs_none hA h5]
    refine lv_iconst (v := nI 0) hx hb d_M_update_22 rfl ?_
    refine lv_istore hx hb d_M_update_23 hl (by decide) rfl (fun ls hl => ?_)
    have hl : lv_has ls 6 [(4, .int (nI 0)), (0, .ref (am 0)), (1, .int v), (2, .int i), (3, .int x)] := hl
    refine lv_aload_n hx hb d_M_update_25 rfl (lv_at hl 1 rfl) ?_
    refine lv_iload hx hb d_M_update_26 (lv_at hl 0 rfl) ?_
    refine lv_if_ne (tgt := 35) hx hb d_M_update_28 rfl (fun h9 => absurd rfl h9) (fun _ => ?_)
    refine lv_iconst (v := nI 1) hx hb d_M_update_31 rfl ?_
    refine lv_goto (tgt := 65) hx hb d_M_update_32 rfl ?_
    refine m_rThr hI hA (nI 1) hx hfl hK hb (by rw [hml]; exact hl.1) hown (hw _ mm_M_50) ⟨Nat.le_of_ble_eq_true rfl, Nat.le_of_ble_eq_true rfl, Nat.le_of_ble_eq_true rfl, Nat.le_of_ble_eq_true rfl⟩ hP hS d_M_update_65 (fun S1 hA hT H locs hP hS => ?_)
    have hn : S1.1 = nI Vs.length := hA.1
    refine lv_if_eq (tgt := 73) hx hb d_M_update_68 rfl (fun h9 => absurd h9 (by rw [zI_t (by decide)]; decide)) (fun _ => ?_)
    refine lv_iconst (v := nI 0) hx hb d_M_update_71 rfl ?_
    exact fx_iret hx hb hr hlk hS.2.2 (Nat.le_of_ble_eq_true rfl) (Nat.le_of_ble_eq_true rfl) d_M_update_72 (⟨by rw [(show so_update Vs v i x = (1, 0, Vs) from hz)]; exact rfl, S1, hP, by rw [(show so_update Vs v i x = (1, 0, Vs) from hz)]; exact hA, by rw [(show so_update Vs v i x = (1, 0, Vs) from hz)]; exact hT⟩)
  · have h5 := zI_ne0.mp h5
    rw [hn] at h5
    obtain ⟨a, o, ea, ha, ga, ta⟩ := mAbs_at hA h5.1 h5.2
    subst ea
    have ca : (nI a).toNatClampNeg = a := nI_clamp (by omega)
    have hl : lv_has ls 6 [(0, .ref (am 0)), (1, .int (nI a)), (2, .int i), (3, .int x)] := hl
    obtain ⟨ka, fa, sa, qa, xa, ya⟩ := hA.2.2.1 a o ga
    have ka : S.2.2.1 a = o.1 := ka
    have fa : S.2.2.2.1 a = o.2.1 := fa
    have sa : S.2.2.2.2.1 a = nI o.2.2.1.length := sa
    have la : o.2.2.1.length ≤ 100 := qa.1
    refine lv_aload_n hx hb d_M_update_8 rfl (lv_at hl 0 rfl) ?_
    refine fx_get hx hb hown (kc_M hK _) hKv 1 (by decide) (hw _ mf_M_7) (fun _ h => h) (hP 0 _ rfl) rfl d_M_update_9 ?_
    refine lv_iload_n hx hb d_M_update_12 rfl (lv_at hl 1 rfl) ?_
    refine fx_iald (j := a) hx hb hKv 0 (hP 1 _ rfl) rfl (rfl) (by omega) (by decide) d_M_update_13 ?_
    refine lv_iconst (v := nI 2) hx hb d_M_update_14 rfl ?_
    refine lv_icmp_ne (tgt := 22) hx hb d_M_update_15 rfl (fun h15 => ?_) (fun h15 => ?_)
    · have n2 : ¬ o.1 = 2 := by rw [ka] at h15; exact h15
      refine lv_iconst (v := nI 0) hx hb d_M_update_22 rfl ?_
      refine lv_istore hx hb d_M_update_23 hl (by decide) rfl (fun ls hl => ?_)
      have hl : lv_has ls 6 [(4, .int (nI 0)), (0, .ref (am 0)), (1, .int (nI a)), (2, .int i), (3, .int x)] := hl
      refine lv_aload_n hx hb d_M_update_25 rfl (lv_at hl 1 rfl) ?_
      refine lv_iload hx hb d_M_update_26 (lv_at hl 0 rfl) ?_
      refine lv_if_ne (tgt := 35) hx hb d_M_update_28 rfl (fun h9 => absurd rfl h9) (fun _ => ?_)
      refine lv_iconst (v := nI 1) hx hb d_M_update_31 rfl ?_
      refine lv_goto (tgt := 65) hx hb d_M_update_32 rfl ?_
      refine m_rThr hI hA (nI 1) hx hfl hK hb (by rw [hml]; exact hl.1) hown (hw _ mm_M_50) ⟨Nat.le_of_ble_eq_true rfl, Nat.le_of_ble_eq_true rfl, Nat.le_of_ble_eq_true rfl, Nat.le_of_ble_eq_true rfl⟩ hP hS d_M_update_65 (fun S1 hA hT H locs hP hS => ?_)
      have hn : S1.1 = nI Vs.length := hA.1
      refine lv_if_eq (tgt := 73) hx hb d_M_update_68 rfl (fun h9 => absurd h9 (by rw [zI_t (by decide)]; decide)) (fun _ => ?_)
      refine lv_iconst (v := nI 0) hx hb d_M_update_71 rfl ?_
      exact fx_iret hx hb hr hlk hS.2.2 (Nat.le_of_ble_eq_true rfl) (Nat.le_of_ble_eq_true rfl) d_M_update_72 (⟨by rw [(show so_update Vs (nI a) i x = (1, 0, Vs) from by unfold so_update; rw [ta]; dsimp only; rw [if_neg n2])]; exact rfl, S1, hP, by rw [(show so_update Vs (nI a) i x = (1, 0, Vs) from by unfold so_update; rw [ta]; dsimp only; rw [if_neg n2])]; exact hA, by rw [(show so_update Vs (nI a) i x = (1, 0, Vs) from by unfold so_update; rw [ta]; dsimp only; rw [if_neg n2])]; exact hT⟩)
    · have n2 : o.1 = 2 := by rw [ka] at h15; exact h15
      refine lv_iconst (v := nI 1) hx hb d_M_update_18 rfl ?_
      refine lv_goto (tgt := 23) hx hb d_M_update_19 rfl ?_
      refine lv_istore hx hb d_M_update_23 hl (by decide) rfl (fun ls hl => ?_)
      have hl : lv_has ls 6 [(4, .int (nI 1)), (0, .ref (am 0)), (1, .int (nI a)), (2, .int i), (3, .int x)] := hl
      refine lv_aload_n hx hb d_M_update_25 rfl (lv_at hl 1 rfl) ?_
      refine lv_iload hx hb d_M_update_26 (lv_at hl 0 rfl) ?_
      refine lv_if_ne (tgt := 35) hx hb d_M_update_28 rfl (fun _ => ?_) (fun h9 => absurd h9 (by decide))
      refine lv_aload_n hx hb d_M_update_35 rfl (lv_at hl 1 rfl) ?_
      refine m_cV (ct_M_isFull w am hI S.1 S.2.1 S.2.2.1 S.2.2.2.1 S.2.2.2.2.1 S.2.2.2.2.2.1 S.2.2.2.2.2.2.1 S.2.2.2.2.2.2.2) hx hfl hK hb (by rw [hml]; exact hl.1) hown (hw _ mm_M_46) (hw _ mk_M_isFull) (hw _ mi_M_isFull) (hw _ mq_M_isFull) (show fx_N y_M_isFull 0 by decide +kernel) rfl ⟨Nat.le_of_ble_eq_true rfl, Nat.le_of_ble_eq_true rfl, Nat.le_of_ble_eq_true rfl, Nat.le_of_ble_eq_true rfl⟩ hP hS d_M_update_36 (fun H locs hP hS => ?_)
      have hP : va_P w.D cls (mw w am S) H := hP
      refine lv_if_eq (tgt := 46) hx hb d_M_update_39 rfl (fun h39 => ?_) (fun h39 => ?_)
      · have h39 : ¬ 64 ≤ Vs.length := fun z => zI_eq0.mp h39 (by rw [hn]; exact nI_le z (by omega))
        refine lv_iload_n hx hb d_M_update_46 rfl (lv_at hl 3 rfl) ?_
        refine lv_if_lt (tgt := 60) hx hb d_M_update_47 rfl (fun h47 => ?_) (fun h47 => ?_)
        · refine lv_iconst (v := nI 3) hx hb d_M_update_60 rfl ?_
          refine lv_goto (tgt := 65) hx hb d_M_update_61 rfl ?_
          refine m_rThr hI hA (nI 3) hx hfl hK hb (by rw [hml]; exact hl.1) hown (hw _ mm_M_50) ⟨Nat.le_of_ble_eq_true rfl, Nat.le_of_ble_eq_true rfl, Nat.le_of_ble_eq_true rfl, Nat.le_of_ble_eq_true rfl⟩ hP hS d_M_update_65 (fun S1 hA hT H locs hP hS => ?_)
          have hn : S1.1 = nI Vs.length := hA.1
          refine lv_if_eq (tgt := 73) hx hb d_M_update_68 rfl (fun h9 => absurd h9 (by rw [zI_t (by decide)]; decide)) (fun _ => ?_)
          refine lv_iconst (v := nI 0) hx hb d_M_update_71 rfl ?_
          exact fx_iret hx hb hr hlk hS.2.2 (Nat.le_of_ble_eq_true rfl) (Nat.le_of_ble_eq_true rfl) d_M_update_72 (⟨by rw [(show so_update Vs (nI a) i x = (3, 0, Vs) from by unfold so_update; rw [ta]; dsimp only; rw [if_pos n2, if_neg h39, if_pos (Or.inl h47)])]; exact rfl, S1, hP, by rw [(show so_update Vs (nI a) i x = (3, 0, Vs) from by unfold so_update; rw [ta]; dsimp only; rw [if_pos n2, if_neg h39, if_pos (Or.inl h47)])]; exact hA, by rw [(show so_update Vs (nI a) i x = (3, 0, Vs) from by unfold so_update; rw [ta]; dsimp only; rw [if_pos n2, if_neg h39, if_pos (Or.inl h47)])]; exact hT⟩)
        · refine lv_iload_n hx hb d_M_update_50 rfl (lv_at hl 3 rfl) ?_
          refine lv_aload_n hx hb d_M_update_51 rfl (lv_at hl 1 rfl) ?_
          refine fx_get hx hb hown (kc_M hK _) hKv 3 (by decide) (hw _ mf_M_16) (fun _ h => h) (hP 0 _ rfl) rfl d_M_update_52 ?_
          refine lv_iload_n hx hb d_M_update_55 rfl (lv_at hl 2 rfl) ?_
          refine fx_iald (j := a) hx hb hKv 0 (hP 3 _ rfl) rfl (rfl) (by omega) (by decide) d_M_update_56 ?_
          refine lv_icmp_lt (tgt := 64) hx hb d_M_update_57 rfl (fun h57 => ?_) (fun h57 => ?_)
          · rw [sa] at h57
            obtain ⟨b, hb1, eb⟩ := nI_of h47
            subst eb
            have hb0 : b < o.2.2.1.length := (nI_ltI hb1 (by omega)).mp h57
            have h57 : ¬ nI o.2.2.1.length ≤ nI b := fun z => absurd h57 (Int32.not_lt.mpr z)
            have hl : lv_has ls 6 [(4, .int (nI 1)), (0, .ref (am 0)), (1, .int (nI a)), (2, .int (nI b)), (3, .int x)] := hl
            refine lv_iconst (v := nI 0) hx hb d_M_update_64 rfl ?_
            refine m_rThr hI hA (nI 0) hx hfl hK hb (by rw [hml]; exact hl.1) hown (hw _ mm_M_50) ⟨Nat.le_of_ble_eq_true rfl, Nat.le_of_ble_eq_true rfl, Nat.le_of_ble_eq_true rfl, Nat.le_of_ble_eq_true rfl⟩ hP hS d_M_update_65 (fun S1 hA hT H locs hP hS => ?_)
            have hn : S1.1 = nI Vs.length := hA.1
            refine lv_if_eq (tgt := 73) hx hb d_M_update_68 rfl (fun _ => ?_) (fun h9 => absurd (zI_f (by decide)) h9)
            obtain ⟨ka, fa, sa, qa, xa, ya⟩ := hA.2.2.1 a o ga
            have ka : S1.2.2.1 a = o.1 := ka
            have fa : S1.2.2.2.1 a = o.2.1 := fa
            have sa : S1.2.2.2.2.1 a = nI o.2.2.1.length := sa
            have la : o.2.2.1.length ≤ 100 := qa.1
            refine lv_aload_n hx hb d_M_update_73 rfl (lv_at hl 1 rfl) ?_
            refine lv_iconst (v := nI 2) hx hb d_M_update_74 rfl ?_
            refine fx_ti (y := o.1) (n2.symm) ?_
            refine lv_aload_n hx hb d_M_update_75 rfl (lv_at hl 1 rfl) ?_
            refine fx_get hx hb hown (kc_M hK _) hKv 2 (by decide) (hw _ mf_M_13) (fun _ h => h) (hP 0 _ rfl) rfl d_M_update_76 ?_
            refine lv_iload_n hx hb d_M_update_79 rfl (lv_at hl 2 rfl) ?_
            refine fx_iald (j := a) hx hb hKv 0 (hP 2 _ rfl) rfl (rfl) (by omega) (by decide) d_M_update_80 ?_
            refine fx_ti (y := o.2.1) (fa) ?_
            refine m_rCreate hI hA (by omega) (o.1) (o.2.1) hx hfl hK hb (by rw [hml]; exact hl.1) hown (hw _ mm_M_53) ⟨Nat.le_of_ble_eq_true rfl, Nat.le_of_ble_eq_true rfl, Nat.le_of_ble_eq_true rfl, Nat.le_of_ble_eq_true rfl⟩ hP hS d_M_update_81 (fun S2 hB hT1 H locs hP hS => ?_)
            have hT := hT1.trans hT
            refine lv_istore hx hb d_M_update_84 hl (by decide) rfl (fun ls hl => ?_)
            have hl : lv_has ls 6 [(5, .int (nI Vs.length)), (4, .int (nI 1)), (0, .ref (am 0)), (1, .int (nI a)), (2, .int (nI b)), (3, .int x)] := hl
            refine lv_aload_n hx hb d_M_update_86 rfl (lv_at hl 2 rfl) ?_
            refine lv_iload_n hx hb d_M_update_87 rfl (lv_at hl 3 rfl) ?_
            refine lv_iconst (v := nI 0) hx hb d_M_update_88 rfl ?_
            refine lv_iload_n hx hb d_M_update_89 rfl (lv_at hl 4 rfl) ?_
            refine m_rAll hI hB (o := o) ga (Nat.zero_le _) (by omega) (by show 0 + (b - 0) ≤ 100; omega) (fun z => z) hx hfl hK hb (by rw [hml]; exact hl.1) hown (hw _ mm_M_63) ⟨Nat.le_of_ble_eq_true rfl, Nat.le_of_ble_eq_true rfl, Nat.le_of_ble_eq_true rfl, Nat.le_of_ble_eq_true rfl⟩ hP hS d_M_update_90 (fun S3 hB hT1 H locs hP hS => ?_)
            have hT := hT1.trans hT
            simp only [List.nil_append, sv_cut_0] at hB
            refine lv_aload_n hx hb d_M_update_93 rfl (lv_at hl 2 rfl) ?_
            refine lv_iconst (v := nI 0) hx hb d_M_update_94 rfl ?_
            refine lv_iload_n hx hb d_M_update_95 rfl (lv_at hl 5 rfl) ?_
            refine m_rPut hI hB (by rw [List.length_take]; omega) (nI 0) x hx hfl hK hb (by rw [hml]; exact hl.1) hown (hw _ mm_M_42) ⟨Nat.le_of_ble_eq_true rfl, Nat.le_of_ble_eq_true rfl, Nat.le_of_ble_eq_true rfl, Nat.le_of_ble_eq_true rfl⟩ hP hS d_M_update_96 (fun S4 hB hT1 H locs hP hS => ?_)
            have hT := hT1.trans hT
            refine lv_aload_n hx hb d_M_update_99 rfl (lv_at hl 2 rfl) ?_
            refine lv_iload_n hx hb d_M_update_100 rfl (lv_at hl 3 rfl) ?_
            refine lv_iload_n hx hb d_M_update_101 rfl (lv_at hl 4 rfl) ?_
            refine lv_iconst (v := nI 1) hx hb d_M_update_102 rfl ?_
            refine lv_iadd hx hb d_M_update_103 ?_
            refine fx_ti (y := nI (b + 1)) (nI_1 b) ?_
            refine lv_aload_n hx hb d_M_update_104 rfl (lv_at hl 2 rfl) ?_
            refine fx_get hx hb hown (kc_M hK _) hKv 3 (by decide) (hw _ mf_M_16) (fun _ h => h) (hP 0 _ rfl) rfl d_M_update_105 ?_
            refine lv_iload_n hx hb d_M_update_108 rfl (lv_at hl 3 rfl) ?_
            refine fx_iald (j := a) hx hb hKv 0 (hP 3 _ rfl) rfl (rfl) (by omega) (by decide) d_M_update_109 ?_
            obtain ⟨ka, fa, sa, qa, xa, ya⟩ := hB.2.2.1 a o ga
            have ka : S4.2.2.1 a = o.1 := ka
            have fa : S4.2.2.2.1 a = o.2.1 := fa
            have sa : S4.2.2.2.2.1 a = nI o.2.2.1.length := sa
            have la : o.2.2.1.length ≤ 100 := qa.1
            refine fx_ti (y := nI o.2.2.1.length) (sa) ?_
            refine m_rAll hI hB (o := o) ga (by omega) (Nat.le_refl _) (by simp only [List.length_append, List.length_take, List.length_singleton]; omega) (fun z => z) hx hfl hK hb (by rw [hml]; exact hl.1) hown (hw _ mm_M_63) ⟨Nat.le_of_ble_eq_true rfl, Nat.le_of_ble_eq_true rfl, Nat.le_of_ble_eq_true rfl, Nat.le_of_ble_eq_true rfl⟩ hP hS d_M_update_110 (fun S5 hB hT1 H locs hP hS => ?_)
            have hT := hT1.trans hT
            have hF : mAbs S5 (Vs ++ [(o.1, o.2.1, o.2.2.1.set b x, o.2.2.2)]) := by have := mB_done hB o.2.2.2 (fun z => absurd (n2.symm.trans z) (by decide)) qa.2.2; simp only [sv_cut_all, List.append_assoc, List.singleton_append, sv_set hb0] at this; exact this
            refine lv_iload hx hb d_M_update_113 (lv_at hl 0 rfl) ?_
            exact fx_iret hx hb hr hlk hS.2.2 (Nat.le_of_ble_eq_true rfl) (Nat.le_of_ble_eq_true rfl) d_M_update_115 (⟨by rw [(show so_update Vs (nI a) (nI b) x = sv_new Vs (o.1, o.2.1, o.2.2.1.set b x, o.2.2.2) from by unfold so_update; rw [ta]; dsimp only; rw [if_pos n2, if_neg h39, if_neg (fun z => z.elim h47 h57), nI_clamp hb1])]; exact rfl, S5, hP, by rw [(show so_update Vs (nI a) (nI b) x = sv_new Vs (o.1, o.2.1, o.2.2.1.set b x, o.2.2.2) from by unfold so_update; rw [ta]; dsimp only; rw [if_pos n2, if_neg h39, if_neg (fun z => z.elim h47 h57), nI_clamp hb1])]; exact hF, by rw [(show so_update Vs (nI a) (nI b) x = sv_new Vs (o.1, o.2.1, o.2.2.1.set b x, o.2.2.2) from by unfold so_update; rw [ta]; dsimp only; rw [if_pos n2, if_neg h39, if_neg (fun z => z.elim h47 h57), nI_clamp hb1])]; exact hT⟩)
          · rw [sa] at h57
            have h57 := Int32.not_lt.mp h57
            refine lv_iconst (v := nI 3) hx hb d_M_update_60 rfl ?_
            refine lv_goto (tgt := 65) hx hb d_M_update_61 rfl ?_
            refine m_rThr hI hA (nI 3) hx hfl hK hb (by rw [hml]; exact hl.1) hown (hw _ mm_M_50) ⟨Nat.le_of_ble_eq_true rfl, Nat.le_of_ble_eq_true rfl, Nat.le_of_ble_eq_true rfl, Nat.le_of_ble_eq_true rfl⟩ hP hS d_M_update_65 (fun S1 hA hT H locs hP hS => ?_)
            have hn : S1.1 = nI Vs.length := hA.1
            refine lv_if_eq (tgt := 73) hx hb d_M_update_68 rfl (fun h9 => absurd h9 (by rw [zI_t (by decide)]; decide)) (fun _ => ?_)
            refine lv_iconst (v := nI 0) hx hb d_M_update_71 rfl ?_
            exact fx_iret hx hb hr hlk hS.2.2 (Nat.le_of_ble_eq_true rfl) (Nat.le_of_ble_eq_true rfl) d_M_update_72 (⟨by rw [(show so_update Vs (nI a) i x = (3, 0, Vs) from by unfold so_update; rw [ta]; dsimp only; rw [if_pos n2, if_neg h39, if_pos (Or.inr h57)])]; exact rfl, S1, hP, by rw [(show so_update Vs (nI a) i x = (3, 0, Vs) from by unfold so_update; rw [ta]; dsimp only; rw [if_pos n2, if_neg h39, if_pos (Or.inr h57)])]; exact hA, by rw [(show so_update Vs (nI a) i x = (3, 0, Vs) from by unfold so_update; rw [ta]; dsimp only; rw [if_pos n2, if_neg h39, if_pos (Or.inr h57)])]; exact hT⟩)
      · have h39 : 64 ≤ Vs.length := by have := zI_ne0.mp h39; rw [hn] at this; exact (nI_leI (by decide) (by omega)).mp this
        refine lv_iconst (v := nI 2) hx hb d_M_update_42 rfl ?_
        refine lv_goto (tgt := 65) hx hb d_M_update_43 rfl ?_
        refine m_rThr hI hA (nI 2) hx hfl hK hb (by rw [hml]; exact hl.1) hown (hw _ mm_M_50) ⟨Nat.le_of_ble_eq_true rfl, Nat.le_of_ble_eq_true rfl, Nat.le_of_ble_eq_true rfl, Nat.le_of_ble_eq_true rfl⟩ hP hS d_M_update_65 (fun S1 hA hT H locs hP hS => ?_)
        have hn : S1.1 = nI Vs.length := hA.1
        refine lv_if_eq (tgt := 73) hx hb d_M_update_68 rfl (fun h9 => absurd h9 (by rw [zI_t (by decide)]; decide)) (fun _ => ?_)
        refine lv_iconst (v := nI 0) hx hb d_M_update_71 rfl ?_
        exact fx_iret hx hb hr hlk hS.2.2 (Nat.le_of_ble_eq_true rfl) (Nat.le_of_ble_eq_true rfl) d_M_update_72 (⟨by rw [(show so_update Vs (nI a) i x = (2, 0, Vs) from by unfold so_update; rw [ta]; dsimp only; rw [if_pos n2, if_pos h39])]; exact rfl, S1, hP, by rw [(show so_update Vs (nI a) i x = (2, 0, Vs) from by unfold so_update; rw [ta]; dsimp only; rw [if_pos n2, if_pos h39])]; exact hA, by rw [(show so_update Vs (nI a) i x = (2, 0, Vs) from by unfold so_update; rw [ta]; dsimp only; rw [if_pos n2, if_pos h39])]; exact hT⟩)
set_option maxHeartbeats 4000000 in
set_option maxRecDepth 100000 in
theorem ct_M_value (w : Wd) (am : Nat → Nat) (hI : mI am) (Vs : List sV) (v key : Int32) : mApi w am y_M_value 5 (rmK 3) [.int v, .int key] Vs (so_value Vs v key) := by
  intro S hA
  have hn : S.1 = nI Vs.length := hA.1
  have hVl : Vs.length ≤ 64 := hA.2.1
  refine fx_of (ret := some .int) (cc := b_M_value) (fun s hK => hK.1 _ mk_M_value _) (Nat.le_of_ble_eq_true rfl) ?_
  intro p l e s m below meth c hx hfl hK hb hml hr hlk hnt hown hin hP ls hl
  have hw : ∀ z ∈ gw, z.before (.ref (am 0) :: [.int v, .int key] : List Value).toArray s = true := fun z hz => hK.1 z hz _
  have hKv := hK.2.1
  have hS : va_S (mA am) s.heap s.heap [] := va_S.rf
  have hP : va_P w.D cls (mw w am S) s.heap := hP
  have hl : lv_has ls 5 [(0, .ref (am 0)), (1, .int v), (2, .int key)] := hl
  refine lv_aload_n hx hb d_M_value_0 rfl (lv_at hl 0 rfl) ?_
  refine lv_iload_n hx hb d_M_value_1 rfl (lv_at hl 1 rfl) ?_
  refine m_cV (ct_M_is w am hI S.1 S.2.1 S.2.2.1 S.2.2.2.1 S.2.2.2.2.1 S.2.2.2.2.2.1 S.2.2.2.2.2.2.1 S.2.2.2.2.2.2.2 v) hx hfl hK hb (by rw [hml]; exact hl.1) hown (hw _ mm_M_35) (hw _ mk_M_is) (hw _ mi_M_is) (hw _ mq_M_is) (show fx_N y_M_is 1 by decide +kernel) rfl ⟨Nat.le_of_ble_eq_true rfl, Nat.le_of_ble_eq_true rfl, Nat.le_of_ble_eq_true rfl, Nat.le_of_ble_eq_true rfl⟩ hP hS d_M_value_2 (fun H locs hP hS => ?_)
  have hP : va_P w.D cls (mw w am S) H := hP
  refine lv_if_eq (tgt := 20) hx hb d_M_value_5 rfl (fun h5 => ?_) (fun h5 => ?_)
  · have h5 := zI_eq0.mp h5
    rw [hn] at h5
    have hz : so_value Vs v key = (1, 0, Vs) := by unfold so_value; rw [mAbs_none hA h5]
    refine lv_iconst (v := nI 0) hx hb d_M_value_20 rfl ?_
    refine lv_istore_n hx hb d_M_value_21 rfl hl (by decide) rfl (fun ls hl => ?_)
    have hl : lv_has ls 5 [(3, .int (nI 0)), (0, .ref (am 0)), (1, .int v), (2, .int key)] := hl
    refine lv_iload_n hx hb d_M_value_22 rfl (lv_at hl 0 rfl) ?_
    refine lv_if_eq (tgt := 35) hx hb d_M_value_23 rfl (fun _ => ?_) (fun h9 => absurd rfl h9)
    refine lv_iconst (v := nI 0) hx hb d_M_value_35 rfl ?_
    refine lv_istore hx hb d_M_value_36 hl (by decide) rfl (fun ls hl => ?_)
    have hl : lv_has ls 5 [(4, .int (nI 0)), (3, .int (nI 0)), (0, .ref (am 0)), (1, .int v), (2, .int key)] := hl
    refine lv_aload_n hx hb d_M_value_38 rfl (lv_at hl 2 rfl) ?_
    refine lv_iload_n hx hb d_M_value_39 rfl (lv_at hl 1 rfl) ?_
    refine lv_if_ne (tgt := 47) hx hb d_M_value_40 rfl (fun h9 => absurd rfl h9) (fun _ => ?_)
    refine lv_iconst (v := nI 1) hx hb d_M_value_43 rfl ?_
    refine lv_goto (tgt := 63) hx hb d_M_value_44 rfl ?_
    refine m_rThr hI hA (nI 1) hx hfl hK hb (by rw [hml]; exact hl.1) hown (hw _ mm_M_50) ⟨Nat.le_of_ble_eq_true rfl, Nat.le_of_ble_eq_true rfl, Nat.le_of_ble_eq_true rfl, Nat.le_of_ble_eq_true rfl⟩ hP hS d_M_value_63 (fun S1 hA hT H locs hP hS => ?_)
    have hn : S1.1 = nI Vs.length := hA.1
    refine lv_if_eq (tgt := 71) hx hb d_M_value_66 rfl (fun h9 => absurd h9 (by rw [zI_t (by decide)]; decide)) (fun _ => ?_)
    refine lv_iconst (v := nI 0) hx hb d_M_value_69 rfl ?_
    exact fx_iret hx hb hr hlk hS.2.2 (Nat.le_of_ble_eq_true rfl) (Nat.le_of_ble_eq_true rfl) d_M_value_70 (⟨by rw [(show so_value Vs v key = (1, 0, Vs) from hz)]; exact rfl, S1, hP, by rw [(show so_value Vs v key = (1, 0, Vs) from hz)]; exact hA, by rw [(show so_value Vs v key = (1, 0, Vs) from hz)]; exact hT⟩)
  · have h5 := zI_ne0.mp h5
    rw [hn] at h5
    obtain ⟨a, o, ea, ha, ga, ta⟩ := mAbs_at hA h5.1 h5.2
    subst ea
    have ca : (nI a).toNatClampNeg = a := nI_clamp (by omega)
    have hl : lv_has ls 5 [(0, .ref (am 0)), (1, .int (nI a)), (2, .int key)] := hl
    obtain ⟨ka, fa, sa, qa, xa, ya⟩ := hA.2.2.1 a o ga
    have ka : S.2.2.1 a = o.1 := ka
    have fa : S.2.2.2.1 a = o.2.1 := fa
    have sa : S.2.2.2.2.1 a = nI o.2.2.1.length := sa
    have la : o.2.2.1.length ≤ 100 := qa.1
    refine lv_aload_n hx hb d_M_value_8 rfl (lv_at hl 0 rfl) ?_
    refine lv_iload_n hx hb d_M_value_9 rfl (lv_at hl 1 rfl) ?_
    refine m_cV (ct_M_isMap w am hI S.1 S.2.1 S.2.2.1 S.2.2.2.1 S.2.2.2.2.1 S.2.2.2.2.2.1 S.2.2.2.2.2.2.1 S.2.2.2.2.2.2.2 a (by omega)) hx hfl hK hb (by rw [hml]; exact hl.1) hown (hw _ mm_M_39) (hw _ mk_M_isMap) (hw _ mi_M_isMap) (hw _ mq_M_isMap) (show fx_N y_M_isMap 1 by decide +kernel) rfl ⟨Nat.le_of_ble_eq_true rfl, Nat.le_of_ble_eq_true rfl, Nat.le_of_ble_eq_true rfl, Nat.le_of_ble_eq_true rfl⟩ hP hS d_M_value_10 (fun H locs hP hS => ?_)
    have hP : va_P w.D cls (mw w am S) H := hP
    refine lv_if_eq (tgt := 20) hx hb d_M_value_13 rfl (fun h13 => ?_) (fun h13 => ?_)
    · have n3 : ¬ o.1 = 3 := fun z => zI_eq0.mp h13 (ka.trans z)
      refine lv_iconst (v := nI 0) hx hb d_M_value_20 rfl ?_
      refine lv_istore_n hx hb d_M_value_21 rfl hl (by decide) rfl (fun ls hl => ?_)
      have hl : lv_has ls 5 [(3, .int (nI 0)), (0, .ref (am 0)), (1, .int (nI a)), (2, .int key)] := hl
      refine lv_iload_n hx hb d_M_value_22 rfl (lv_at hl 0 rfl) ?_
      refine lv_if_eq (tgt := 35) hx hb d_M_value_23 rfl (fun _ => ?_) (fun h9 => absurd rfl h9)
      refine lv_iconst (v := nI 0) hx hb d_M_value_35 rfl ?_
      refine lv_istore hx hb d_M_value_36 hl (by decide) rfl (fun ls hl => ?_)
      have hl : lv_has ls 5 [(4, .int (nI 0)), (3, .int (nI 0)), (0, .ref (am 0)), (1, .int (nI a)), (2, .int key)] := hl
      refine lv_aload_n hx hb d_M_value_38 rfl (lv_at hl 2 rfl) ?_
      refine lv_iload_n hx hb d_M_value_39 rfl (lv_at hl 1 rfl) ?_
      refine lv_if_ne (tgt := 47) hx hb d_M_value_40 rfl (fun h9 => absurd rfl h9) (fun _ => ?_)
      refine lv_iconst (v := nI 1) hx hb d_M_value_43 rfl ?_
      refine lv_goto (tgt := 63) hx hb d_M_value_44 rfl ?_
      refine m_rThr hI hA (nI 1) hx hfl hK hb (by rw [hml]; exact hl.1) hown (hw _ mm_M_50) ⟨Nat.le_of_ble_eq_true rfl, Nat.le_of_ble_eq_true rfl, Nat.le_of_ble_eq_true rfl, Nat.le_of_ble_eq_true rfl⟩ hP hS d_M_value_63 (fun S1 hA hT H locs hP hS => ?_)
      have hn : S1.1 = nI Vs.length := hA.1
      refine lv_if_eq (tgt := 71) hx hb d_M_value_66 rfl (fun h9 => absurd h9 (by rw [zI_t (by decide)]; decide)) (fun _ => ?_)
      refine lv_iconst (v := nI 0) hx hb d_M_value_69 rfl ?_
      exact fx_iret hx hb hr hlk hS.2.2 (Nat.le_of_ble_eq_true rfl) (Nat.le_of_ble_eq_true rfl) d_M_value_70 (⟨by rw [(show so_value Vs (nI a) key = (1, 0, Vs) from by unfold so_value; rw [ta]; dsimp only; rw [if_neg n3])]; exact rfl, S1, hP, by rw [(show so_value Vs (nI a) key = (1, 0, Vs) from by unfold so_value; rw [ta]; dsimp only; rw [if_neg n3])]; exact hA, by rw [(show so_value Vs (nI a) key = (1, 0, Vs) from by unfold so_value; rw [ta]; dsimp only; rw [if_neg n3])]; exact hT⟩)
    · have n3 : o.1 = 3 := ka.symm.trans (zI_ne0.mp h13)
      have hcl : sv_cb o.2.2.2 key ≤ o.2.2.1.length := by rw [← qa.2.1 n3]; exact sv_cb_le _ _
      refine lv_iconst (v := nI 1) hx hb d_M_value_16 rfl ?_
      refine lv_goto (tgt := 21) hx hb d_M_value_17 rfl ?_
      refine lv_istore_n hx hb d_M_value_21 rfl hl (by decide) rfl (fun ls hl => ?_)
      have hl : lv_has ls 5 [(3, .int (nI 1)), (0, .ref (am 0)), (1, .int (nI a)), (2, .int key)] := hl
      refine lv_iload_n hx hb d_M_value_22 rfl (lv_at hl 0 rfl) ?_
      refine lv_if_eq (tgt := 35) hx hb d_M_value_23 rfl (fun h9 => absurd h9 (by decide)) (fun _ => ?_)
      refine lv_aload_n hx hb d_M_value_26 rfl (lv_at hl 1 rfl) ?_
      refine lv_iload_n hx hb d_M_value_27 rfl (lv_at hl 2 rfl) ?_
      refine lv_iload_n hx hb d_M_value_28 rfl (lv_at hl 3 rfl) ?_
      refine m_cV (ct_M_placeOf w am hI S.1 S.2.1 S.2.2.1 S.2.2.2.1 S.2.2.2.2.1 S.2.2.2.2.2.1 S.2.2.2.2.2.2.1 S.2.2.2.2.2.2.2 a o.2.2.2 key (by omega) qa.2.2 (by rw [sa, qa.2.1 n3]) (fun j hj => ya n3 j (by rw [← qa.2.1 n3]; exact hj))) hx hfl hK hb (by rw [hml]; exact hl.1) hown (hw _ mm_M_67) (hw _ mk_M_placeOf) (hw _ mi_M_placeOf) (hw _ mq_M_placeOf) (show fx_N y_M_placeOf 2 by decide +kernel) rfl ⟨Nat.le_of_ble_eq_true rfl, Nat.le_of_ble_eq_true rfl, Nat.le_of_ble_eq_true rfl, Nat.le_of_ble_eq_true rfl⟩ hP hS d_M_value_29 (fun H locs hP hS => ?_)
      have hP : va_P w.D cls (mw w am S) H := hP
      refine lv_goto (tgt := 36) hx hb d_M_value_32 rfl ?_
      refine lv_istore hx hb d_M_value_36 hl (by decide) rfl (fun ls hl => ?_)
      have hl : lv_has ls 5 [(4, .int (nI (sv_cb o.2.2.2 key))), (3, .int (nI 1)), (0, .ref (am 0)), (1, .int (nI a)), (2, .int key)] := hl
      refine lv_aload_n hx hb d_M_value_38 rfl (lv_at hl 2 rfl) ?_
      refine lv_iload_n hx hb d_M_value_39 rfl (lv_at hl 1 rfl) ?_
      refine lv_if_ne (tgt := 47) hx hb d_M_value_40 rfl (fun _ => ?_) (fun h9 => absurd h9 (by decide))
      refine lv_aload_n hx hb d_M_value_47 rfl (lv_at hl 2 rfl) ?_
      refine lv_iload_n hx hb d_M_value_48 rfl (lv_at hl 3 rfl) ?_
      refine lv_iload hx hb d_M_value_49 (lv_at hl 0 rfl) ?_
      refine lv_iload_n hx hb d_M_value_51 rfl (lv_at hl 4 rfl) ?_
      refine m_cV (ct_M_hasAt w am hI S.1 S.2.1 S.2.2.1 S.2.2.2.1 S.2.2.2.2.1 S.2.2.2.2.2.1 S.2.2.2.2.2.2.1 S.2.2.2.2.2.2.2 a (sv_cb o.2.2.2 key) key o.2.2.1.length (by omega) la (Nat.le_trans (sv_cb_le _ _) qa.2.2) sa) hx hfl hK hb (by rw [hml]; exact hl.1) hown (hw _ mm_M_70) (hw _ mk_M_hasAt) (hw _ mi_M_hasAt) (hw _ mq_M_hasAt) (show fx_N y_M_hasAt 3 by decide +kernel) rfl ⟨Nat.le_of_ble_eq_true rfl, Nat.le_of_ble_eq_true rfl, Nat.le_of_ble_eq_true rfl, Nat.le_of_ble_eq_true rfl⟩ hP hS d_M_value_52 (fun H locs hP hS => ?_)
      have hP : va_P w.D cls (mw w am S) H := hP
      refine lv_if_ne (tgt := 62) hx hb d_M_value_55 rfl (fun h55 => ?_) (fun h55 => ?_)
      · have hcb : sv_cb o.2.2.2 key < o.2.2.1.length := (zI_ne0.mp h55).1
        have h55 := (m_has (qa.2.1 n3) (ya n3)).mp (zI_ne0.mp h55)
        refine lv_iconst (v := nI 0) hx hb d_M_value_62 rfl ?_
        refine m_rThr hI hA (nI 0) hx hfl hK hb (by rw [hml]; exact hl.1) hown (hw _ mm_M_50) ⟨Nat.le_of_ble_eq_true rfl, Nat.le_of_ble_eq_true rfl, Nat.le_of_ble_eq_true rfl, Nat.le_of_ble_eq_true rfl⟩ hP hS d_M_value_63 (fun S1 hA hT H locs hP hS => ?_)
        have hn : S1.1 = nI Vs.length := hA.1
        refine lv_if_eq (tgt := 71) hx hb d_M_value_66 rfl (fun _ => ?_) (fun h9 => absurd (zI_f (by decide)) h9)
        obtain ⟨ka, fa, sa, qa, xa, ya⟩ := hA.2.2.1 a o ga
        have ka : S1.2.2.1 a = o.1 := ka
        have fa : S1.2.2.2.1 a = o.2.1 := fa
        have sa : S1.2.2.2.2.1 a = nI o.2.2.1.length := sa
        have la : o.2.2.1.length ≤ 100 := qa.1
        refine lv_aload_n hx hb d_M_value_71 rfl (lv_at hl 2 rfl) ?_
        refine fx_get hx hb hown (kc_M hK _) hKv 4 (by decide) (hw _ mf_M_19) (fun _ h => h) (hP 0 _ rfl) rfl d_M_value_72 ?_
        refine lv_bipush (v := nI 100) hx hb d_M_value_75 rfl ?_
        refine lv_iload_n hx hb d_M_value_77 rfl (lv_at hl 3 rfl) ?_
        refine lv_imul hx hb d_M_value_78 ?_
        refine fx_ti (y := nI (100 * a)) (pk_mul 100 a) ?_
        refine lv_iload hx hb d_M_value_79 (lv_at hl 0 rfl) ?_
        refine lv_iadd hx hb d_M_value_81 ?_
        refine fx_ti (y := nI (100 * a + sv_cb o.2.2.2 key)) (nI_add _ _) ?_
        refine fx_iald (j := 100 * a + sv_cb o.2.2.2 key) hx hb hKv 0 (hP 4 _ rfl) rfl (rfl) (by omega) (by decide) d_M_value_82 ?_
        exact fx_iret hx hb hr hlk hS.2.2 (Nat.le_of_ble_eq_true rfl) (Nat.le_of_ble_eq_true rfl) d_M_value_83 (⟨by rw [(show so_value Vs (nI a) key = (0, o.2.2.1.getD (sv_cb o.2.2.2 key) 0, Vs) from by unfold so_value; rw [ta]; dsimp only; rw [if_pos n3, if_pos h55])]; exact congrArg (fun z => Outcome.returned (some (Value.int z))) (xa _ hcb), S1, hP, by rw [(show so_value Vs (nI a) key = (0, o.2.2.1.getD (sv_cb o.2.2.2 key) 0, Vs) from by unfold so_value; rw [ta]; dsimp only; rw [if_pos n3, if_pos h55])]; exact hA, by rw [(show so_value Vs (nI a) key = (0, o.2.2.1.getD (sv_cb o.2.2.2 key) 0, Vs) from by unfold so_value; rw [ta]; dsimp only; rw [if_pos n3, if_pos h55])]; exact hT⟩)
      · have h55 : ¬ o.2.2.2[sv_cb o.2.2.2 key]? = some key := fun z => zI_eq0.mp h55 ((m_has (qa.2.1 n3) (ya n3)).mpr z)
        refine lv_iconst (v := nI 2) hx hb d_M_value_58 rfl ?_
        refine lv_goto (tgt := 63) hx hb d_M_value_59 rfl ?_
        refine m_rThr hI hA (nI 2) hx hfl hK hb (by rw [hml]; exact hl.1) hown (hw _ mm_M_50) ⟨Nat.le_of_ble_eq_true rfl, Nat.le_of_ble_eq_true rfl, Nat.le_of_ble_eq_true rfl, Nat.le_of_ble_eq_true rfl⟩ hP hS d_M_value_63 (fun S1 hA hT H locs hP hS => ?_)
        have hn : S1.1 = nI Vs.length := hA.1
        refine lv_if_eq (tgt := 71) hx hb d_M_value_66 rfl (fun h9 => absurd h9 (by rw [zI_t (by decide)]; decide)) (fun _ => ?_)
        refine lv_iconst (v := nI 0) hx hb d_M_value_69 rfl ?_
        exact fx_iret hx hb hr hlk hS.2.2 (Nat.le_of_ble_eq_true rfl) (Nat.le_of_ble_eq_true rfl) d_M_value_70 (⟨by rw [(show so_value Vs (nI a) key = (2, 0, Vs) from by unfold so_value; rw [ta]; dsimp only; rw [if_pos n3, if_neg h55])]; exact rfl, S1, hP, by rw [(show so_value Vs (nI a) key = (2, 0, Vs) from by unfold so_value; rw [ta]; dsimp only; rw [if_pos n3, if_neg h55])]; exact hA, by rw [(show so_value Vs (nI a) key = (2, 0, Vs) from by unfold so_value; rw [ta]; dsimp only; rw [if_pos n3, if_neg h55])]; exact hT⟩)
set_option maxHeartbeats 4000000 in
set_option maxRecDepth 100000 in
theorem ct_M_bind (w : Wd) (am : Nat → Nat) (hI : mI am) (Vs : List sV) (v key x : Int32) : mApi w am y_M_bind 8 (rmK 3) [.int v, .int key, .int x] Vs (so_bind Vs v key x) := by
  intro S hA
  have hn : S.1 = nI Vs.length := hA.1
  have hVl : Vs.length ≤ 64 := hA.2.1
  refine fx_of (ret := some .int) (cc := b_M_bind) (fun s hK => hK.1 _ mk_M_bind _) (Nat.le_of_ble_eq_true rfl) ?_
  intro p l e s m below meth c hx hfl hK hb hml hr hlk hnt hown hin hP ls hl
  have hw : ∀ z ∈ gw, z.before (.ref (am 0) :: [.int v, .int key, .int x] : List Value).toArray s = true := fun z hz => hK.1 z hz _
  have hKv := hK.2.1
  have hS : va_S (mA am) s.heap s.heap [] := va_S.rf
  have hP : va_P w.D cls (mw w am S) s.heap := hP
  have hl : lv_has ls 8 [(0, .ref (am 0)), (1, .int v), (2, .int key), (3, .int x)] := hl
  refine lv_aload_n hx hb d_M_bind_0 rfl (lv_at hl 0 rfl) ?_
  refine lv_iload_n hx hb d_M_bind_1 rfl (lv_at hl 1 rfl) ?_
  refine m_cV (ct_M_is w am hI S.1 S.2.1 S.2.2.1 S.2.2.2.1 S.2.2.2.2.1 S.2.2.2.2.2.1 S.2.2.2.2.2.2.1 S.2.2.2.2.2.2.2 v) hx hfl hK hb (by rw [hml]; exact hl.1) hown (hw _ mm_M_35) (hw _ mk_M_is) (hw _ mi_M_is) (hw _ mq_M_is) (show fx_N y_M_is 1 by decide +kernel) rfl ⟨Nat.le_of_ble_eq_true rfl, Nat.le_of_ble_eq_true rfl, Nat.le_of_ble_eq_true rfl, Nat.le_of_ble_eq_true rfl⟩ hP hS d_M_bind_2 (fun H locs hP hS => ?_)
  have hP : va_P w.D cls (mw w am S) H := hP
  refine lv_if_eq (tgt := 31) hx hb d_M_bind_5 rfl (fun h5 => ?_) (fun h5 => ?_)
  · have h5 := zI_eq0.mp h5
    rw [hn] at h5
    have hz : so_bind Vs v key x = (1, 0, Vs) := by unfold so_bind; rw [mAbs_none hA h5]
    refine lv_iconst (v := nI 0) hx hb d_M_bind_31 rfl ?_
    refine lv_istore hx hb d_M_bind_32 hl (by decide) rfl (fun ls hl => ?_)
    have hl : lv_has ls 8 [(4, .int (nI 0)), (0, .ref (am 0)), (1, .int v), (2, .int key), (3, .int x)] := hl
    refine lv_iload hx hb d_M_bind_34 (lv_at hl 0 rfl) ?_
    refine lv_if_eq (tgt := 48) hx hb d_M_bind_36 rfl (fun _ => ?_) (fun h9 => absurd rfl h9)
    refine lv_iconst (v := nI 0) hx hb d_M_bind_48 rfl ?_
    refine lv_istore hx hb d_M_bind_49 hl (by decide) rfl (fun ls hl => ?_)
    have hl : lv_has ls 8 [(5, .int (nI 0)), (4, .int (nI 0)), (0, .ref (am 0)), (1, .int v), (2, .int key), (3, .int x)] := hl
    refine lv_iload hx hb d_M_bind_51 (lv_at hl 1 rfl) ?_
    refine lv_if_eq (tgt := 71) hx hb d_M_bind_53 rfl (fun _ => ?_) (fun h9 => absurd rfl h9)
    refine lv_iconst (v := nI 0) hx hb d_M_bind_71 rfl ?_
    refine lv_istore hx hb d_M_bind_72 hl (by decide) rfl (fun ls hl => ?_)
    have hl : lv_has ls 8 [(6, .int (nI 0)), (5, .int (nI 0)), (4, .int (nI 0)), (0, .ref (am 0)), (1, .int v), (2, .int key), (3, .int x)] := hl
    refine lv_aload_n hx hb d_M_bind_74 rfl (lv_at hl 3 rfl) ?_
    refine lv_iload hx hb d_M_bind_75 (lv_at hl 2 rfl) ?_
    refine lv_if_ne (tgt := 84) hx hb d_M_bind_77 rfl (fun h9 => absurd rfl h9) (fun _ => ?_)
    refine lv_iconst (v := nI 1) hx hb d_M_bind_80 rfl ?_
    refine lv_goto (tgt := 112) hx hb d_M_bind_81 rfl ?_
    refine m_rThr hI hA (nI 1) hx hfl hK hb (by rw [hml]; exact hl.1) hown (hw _ mm_M_50) ⟨Nat.le_of_ble_eq_true rfl, Nat.le_of_ble_eq_true rfl, Nat.le_of_ble_eq_true rfl, Nat.le_of_ble_eq_true rfl⟩ hP hS d_M_bind_112 (fun S1 hA hT H locs hP hS => ?_)
    have hn : S1.1 = nI Vs.length := hA.1
    refine lv_if_eq (tgt := 120) hx hb d_M_bind_115 rfl (fun h9 => absurd h9 (by rw [zI_t (by decide)]; decide)) (fun _ => ?_)
    refine lv_iconst (v := nI 0) hx hb d_M_bind_118 rfl ?_
    exact fx_iret hx hb hr hlk hS.2.2 (Nat.le_of_ble_eq_true rfl) (Nat.le_of_ble_eq_true rfl) d_M_bind_119 (⟨by rw [(show so_bind Vs v key x = (1, 0, Vs) from hz)]; exact rfl, S1, hP, by rw [(show so_bind Vs v key x = (1, 0, Vs) from hz)]; exact hA, by rw [(show so_bind Vs v key x = (1, 0, Vs) from hz)]; exact hT⟩)
  · have h5 := zI_ne0.mp h5
    rw [hn] at h5
    obtain ⟨a, o, ea, ha, ga, ta⟩ := mAbs_at hA h5.1 h5.2
    subst ea
    have ca : (nI a).toNatClampNeg = a := nI_clamp (by omega)
    have hl : lv_has ls 8 [(0, .ref (am 0)), (1, .int (nI a)), (2, .int key), (3, .int x)] := hl
    obtain ⟨ka, fa, sa, qa, xa, ya⟩ := hA.2.2.1 a o ga
    have ka : S.2.2.1 a = o.1 := ka
    have fa : S.2.2.2.1 a = o.2.1 := fa
    have sa : S.2.2.2.2.1 a = nI o.2.2.1.length := sa
    have la : o.2.2.1.length ≤ 100 := qa.1
    refine lv_aload_n hx hb d_M_bind_8 rfl (lv_at hl 0 rfl) ?_
    refine lv_iload_n hx hb d_M_bind_9 rfl (lv_at hl 1 rfl) ?_
    refine m_cV (ct_M_isMap w am hI S.1 S.2.1 S.2.2.1 S.2.2.2.1 S.2.2.2.2.1 S.2.2.2.2.2.1 S.2.2.2.2.2.2.1 S.2.2.2.2.2.2.2 a (by omega)) hx hfl hK hb (by rw [hml]; exact hl.1) hown (hw _ mm_M_39) (hw _ mk_M_isMap) (hw _ mi_M_isMap) (hw _ mq_M_isMap) (show fx_N y_M_isMap 1 by decide +kernel) rfl ⟨Nat.le_of_ble_eq_true rfl, Nat.le_of_ble_eq_true rfl, Nat.le_of_ble_eq_true rfl, Nat.le_of_ble_eq_true rfl⟩ hP hS d_M_bind_10 (fun H locs hP hS => ?_)
    have hP : va_P w.D cls (mw w am S) H := hP
    refine lv_if_eq (tgt := 31) hx hb d_M_bind_13 rfl (fun h13 => ?_) (fun h13 => ?_)
    · have n3 : ¬ o.1 = 3 := fun z => zI_eq0.mp h13 (ka.trans z)
      refine lv_iconst (v := nI 0) hx hb d_M_bind_31 rfl ?_
      refine lv_istore hx hb d_M_bind_32 hl (by decide) rfl (fun ls hl => ?_)
      have hl : lv_has ls 8 [(4, .int (nI 0)), (0, .ref (am 0)), (1, .int (nI a)), (2, .int key), (3, .int x)] := hl
      refine lv_iload hx hb d_M_bind_34 (lv_at hl 0 rfl) ?_
      refine lv_if_eq (tgt := 48) hx hb d_M_bind_36 rfl (fun _ => ?_) (fun h9 => absurd rfl h9)
      refine lv_iconst (v := nI 0) hx hb d_M_bind_48 rfl ?_
      refine lv_istore hx hb d_M_bind_49 hl (by decide) rfl (fun ls hl => ?_)
      have hl : lv_has ls 8 [(5, .int (nI 0)), (4, .int (nI 0)), (0, .ref (am 0)), (1, .int (nI a)), (2, .int key), (3, .int x)] := hl
      refine lv_iload hx hb d_M_bind_51 (lv_at hl 1 rfl) ?_
      refine lv_if_eq (tgt := 71) hx hb d_M_bind_53 rfl (fun _ => ?_) (fun h9 => absurd rfl h9)
      refine lv_iconst (v := nI 0) hx hb d_M_bind_71 rfl ?_
      refine lv_istore hx hb d_M_bind_72 hl (by decide) rfl (fun ls hl => ?_)
      have hl : lv_has ls 8 [(6, .int (nI 0)), (5, .int (nI 0)), (4, .int (nI 0)), (0, .ref (am 0)), (1, .int (nI a)), (2, .int key), (3, .int x)] := hl
      refine lv_aload_n hx hb d_M_bind_74 rfl (lv_at hl 3 rfl) ?_
      refine lv_iload hx hb d_M_bind_75 (lv_at hl 2 rfl) ?_
      refine lv_if_ne (tgt := 84) hx hb d_M_bind_77 rfl (fun h9 => absurd rfl h9) (fun _ => ?_)
      refine lv_iconst (v := nI 1) hx hb d_M_bind_80 rfl ?_
      refine lv_goto (tgt := 112) hx hb d_M_bind_81 rfl ?_
      refine m_rThr hI hA (nI 1) hx hfl hK hb (by rw [hml]; exact hl.1) hown (hw _ mm_M_50) ⟨Nat.le_of_ble_eq_true rfl, Nat.le_of_ble_eq_true rfl, Nat.le_of_ble_eq_true rfl, Nat.le_of_ble_eq_true rfl⟩ hP hS d_M_bind_112 (fun S1 hA hT H locs hP hS => ?_)
      have hn : S1.1 = nI Vs.length := hA.1
      refine lv_if_eq (tgt := 120) hx hb d_M_bind_115 rfl (fun h9 => absurd h9 (by rw [zI_t (by decide)]; decide)) (fun _ => ?_)
      refine lv_iconst (v := nI 0) hx hb d_M_bind_118 rfl ?_
      exact fx_iret hx hb hr hlk hS.2.2 (Nat.le_of_ble_eq_true rfl) (Nat.le_of_ble_eq_true rfl) d_M_bind_119 (⟨by rw [(show so_bind Vs (nI a) key x = (1, 0, Vs) from by unfold so_bind; rw [ta]; dsimp only; rw [if_neg (fun z => n3 z.1)])]; exact rfl, S1, hP, by rw [(show so_bind Vs (nI a) key x = (1, 0, Vs) from by unfold so_bind; rw [ta]; dsimp only; rw [if_neg (fun z => n3 z.1)])]; exact hA, by rw [(show so_bind Vs (nI a) key x = (1, 0, Vs) from by unfold so_bind; rw [ta]; dsimp only; rw [if_neg (fun z => n3 z.1)])]; exact hT⟩)
    · have n3 : o.1 = 3 := ka.symm.trans (zI_ne0.mp h13)
      have hcl : sv_cb o.2.2.2 key ≤ o.2.2.1.length := by rw [← qa.2.1 n3]; exact sv_cb_le _ _
      refine lv_iload_n hx hb d_M_bind_16 rfl (lv_at hl 2 rfl) ?_
      refine lv_if_lt (tgt := 31) hx hb d_M_bind_17 rfl (fun h17 => ?_) (fun h17 => ?_)
      · refine lv_iconst (v := nI 0) hx hb d_M_bind_31 rfl ?_
        refine lv_istore hx hb d_M_bind_32 hl (by decide) rfl (fun ls hl => ?_)
        have hl : lv_has ls 8 [(4, .int (nI 0)), (0, .ref (am 0)), (1, .int (nI a)), (2, .int key), (3, .int x)] := hl
        refine lv_iload hx hb d_M_bind_34 (lv_at hl 0 rfl) ?_
        refine lv_if_eq (tgt := 48) hx hb d_M_bind_36 rfl (fun _ => ?_) (fun h9 => absurd rfl h9)
        refine lv_iconst (v := nI 0) hx hb d_M_bind_48 rfl ?_
        refine lv_istore hx hb d_M_bind_49 hl (by decide) rfl (fun ls hl => ?_)
        have hl : lv_has ls 8 [(5, .int (nI 0)), (4, .int (nI 0)), (0, .ref (am 0)), (1, .int (nI a)), (2, .int key), (3, .int x)] := hl
        refine lv_iload hx hb d_M_bind_51 (lv_at hl 1 rfl) ?_
        refine lv_if_eq (tgt := 71) hx hb d_M_bind_53 rfl (fun _ => ?_) (fun h9 => absurd rfl h9)
        refine lv_iconst (v := nI 0) hx hb d_M_bind_71 rfl ?_
        refine lv_istore hx hb d_M_bind_72 hl (by decide) rfl (fun ls hl => ?_)
        have hl : lv_has ls 8 [(6, .int (nI 0)), (5, .int (nI 0)), (4, .int (nI 0)), (0, .ref (am 0)), (1, .int (nI a)), (2, .int key), (3, .int x)] := hl
        refine lv_aload_n hx hb d_M_bind_74 rfl (lv_at hl 3 rfl) ?_
        refine lv_iload hx hb d_M_bind_75 (lv_at hl 2 rfl) ?_
        refine lv_if_ne (tgt := 84) hx hb d_M_bind_77 rfl (fun h9 => absurd rfl h9) (fun _ => ?_)
        refine lv_iconst (v := nI 1) hx hb d_M_bind_80 rfl ?_
        refine lv_goto (tgt := 112) hx hb d_M_bind_81 rfl ?_
        refine m_rThr hI hA (nI 1) hx hfl hK hb (by rw [hml]; exact hl.1) hown (hw _ mm_M_50) ⟨Nat.le_of_ble_eq_true rfl, Nat.le_of_ble_eq_true rfl, Nat.le_of_ble_eq_true rfl, Nat.le_of_ble_eq_true rfl⟩ hP hS d_M_bind_112 (fun S1 hA hT H locs hP hS => ?_)
        have hn : S1.1 = nI Vs.length := hA.1
        refine lv_if_eq (tgt := 120) hx hb d_M_bind_115 rfl (fun h9 => absurd h9 (by rw [zI_t (by decide)]; decide)) (fun _ => ?_)
        refine lv_iconst (v := nI 0) hx hb d_M_bind_118 rfl ?_
        exact fx_iret hx hb hr hlk hS.2.2 (Nat.le_of_ble_eq_true rfl) (Nat.le_of_ble_eq_true rfl) d_M_bind_119 (⟨by rw [(show so_bind Vs (nI a) key x = (1, 0, Vs) from by unfold so_bind; rw [ta]; dsimp only; rw [if_neg (fun z => absurd h17 (Int32.not_lt.mpr z.2.1))])]; exact rfl, S1, hP, by rw [(show so_bind Vs (nI a) key x = (1, 0, Vs) from by unfold so_bind; rw [ta]; dsimp only; rw [if_neg (fun z => absurd h17 (Int32.not_lt.mpr z.2.1))])]; exact hA, by rw [(show so_bind Vs (nI a) key x = (1, 0, Vs) from by unfold so_bind; rw [ta]; dsimp only; rw [if_neg (fun z => absurd h17 (Int32.not_lt.mpr z.2.1))])]; exact hT⟩)
      · refine lv_iload_n hx hb d_M_bind_20 rfl (lv_at hl 2 rfl) ?_
        refine lv_sipush (v := nI 255) hx hb d_M_bind_21 rfl ?_
        refine lv_icmp_gt (tgt := 31) hx hb d_M_bind_24 rfl (fun h24 => ?_) (fun h24 => ?_)
        · refine lv_iconst (v := nI 0) hx hb d_M_bind_31 rfl ?_
          refine lv_istore hx hb d_M_bind_32 hl (by decide) rfl (fun ls hl => ?_)
          have hl : lv_has ls 8 [(4, .int (nI 0)), (0, .ref (am 0)), (1, .int (nI a)), (2, .int key), (3, .int x)] := hl
          refine lv_iload hx hb d_M_bind_34 (lv_at hl 0 rfl) ?_
          refine lv_if_eq (tgt := 48) hx hb d_M_bind_36 rfl (fun _ => ?_) (fun h9 => absurd rfl h9)
          refine lv_iconst (v := nI 0) hx hb d_M_bind_48 rfl ?_
          refine lv_istore hx hb d_M_bind_49 hl (by decide) rfl (fun ls hl => ?_)
          have hl : lv_has ls 8 [(5, .int (nI 0)), (4, .int (nI 0)), (0, .ref (am 0)), (1, .int (nI a)), (2, .int key), (3, .int x)] := hl
          refine lv_iload hx hb d_M_bind_51 (lv_at hl 1 rfl) ?_
          refine lv_if_eq (tgt := 71) hx hb d_M_bind_53 rfl (fun _ => ?_) (fun h9 => absurd rfl h9)
          refine lv_iconst (v := nI 0) hx hb d_M_bind_71 rfl ?_
          refine lv_istore hx hb d_M_bind_72 hl (by decide) rfl (fun ls hl => ?_)
          have hl : lv_has ls 8 [(6, .int (nI 0)), (5, .int (nI 0)), (4, .int (nI 0)), (0, .ref (am 0)), (1, .int (nI a)), (2, .int key), (3, .int x)] := hl
          refine lv_aload_n hx hb d_M_bind_74 rfl (lv_at hl 3 rfl) ?_
          refine lv_iload hx hb d_M_bind_75 (lv_at hl 2 rfl) ?_
          refine lv_if_ne (tgt := 84) hx hb d_M_bind_77 rfl (fun h9 => absurd rfl h9) (fun _ => ?_)
          refine lv_iconst (v := nI 1) hx hb d_M_bind_80 rfl ?_
          refine lv_goto (tgt := 112) hx hb d_M_bind_81 rfl ?_
          refine m_rThr hI hA (nI 1) hx hfl hK hb (by rw [hml]; exact hl.1) hown (hw _ mm_M_50) ⟨Nat.le_of_ble_eq_true rfl, Nat.le_of_ble_eq_true rfl, Nat.le_of_ble_eq_true rfl, Nat.le_of_ble_eq_true rfl⟩ hP hS d_M_bind_112 (fun S1 hA hT H locs hP hS => ?_)
          have hn : S1.1 = nI Vs.length := hA.1
          refine lv_if_eq (tgt := 120) hx hb d_M_bind_115 rfl (fun h9 => absurd h9 (by rw [zI_t (by decide)]; decide)) (fun _ => ?_)
          refine lv_iconst (v := nI 0) hx hb d_M_bind_118 rfl ?_
          exact fx_iret hx hb hr hlk hS.2.2 (Nat.le_of_ble_eq_true rfl) (Nat.le_of_ble_eq_true rfl) d_M_bind_119 (⟨by rw [(show so_bind Vs (nI a) key x = (1, 0, Vs) from by unfold so_bind; rw [ta]; dsimp only; rw [if_neg (fun z => absurd h24 (Int32.not_lt.mpr z.2.2))])]; exact rfl, S1, hP, by rw [(show so_bind Vs (nI a) key x = (1, 0, Vs) from by unfold so_bind; rw [ta]; dsimp only; rw [if_neg (fun z => absurd h24 (Int32.not_lt.mpr z.2.2))])]; exact hA, by rw [(show so_bind Vs (nI a) key x = (1, 0, Vs) from by unfold so_bind; rw [ta]; dsimp only; rw [if_neg (fun z => absurd h24 (Int32.not_lt.mpr z.2.2))])]; exact hT⟩)
        · refine lv_iconst (v := nI 1) hx hb d_M_bind_27 rfl ?_
          refine lv_goto (tgt := 32) hx hb d_M_bind_28 rfl ?_
          refine lv_istore hx hb d_M_bind_32 hl (by decide) rfl (fun ls hl => ?_)
          have hl : lv_has ls 8 [(4, .int (nI 1)), (0, .ref (am 0)), (1, .int (nI a)), (2, .int key), (3, .int x)] := hl
          refine lv_iload hx hb d_M_bind_34 (lv_at hl 0 rfl) ?_
          refine lv_if_eq (tgt := 48) hx hb d_M_bind_36 rfl (fun h9 => absurd h9 (by decide)) (fun _ => ?_)
          refine lv_aload_n hx hb d_M_bind_39 rfl (lv_at hl 1 rfl) ?_
          refine lv_iload_n hx hb d_M_bind_40 rfl (lv_at hl 2 rfl) ?_
          refine lv_iload_n hx hb d_M_bind_41 rfl (lv_at hl 3 rfl) ?_
          refine m_cV (ct_M_placeOf w am hI S.1 S.2.1 S.2.2.1 S.2.2.2.1 S.2.2.2.2.1 S.2.2.2.2.2.1 S.2.2.2.2.2.2.1 S.2.2.2.2.2.2.2 a o.2.2.2 key (by omega) qa.2.2 (by rw [sa, qa.2.1 n3]) (fun j hj => ya n3 j (by rw [← qa.2.1 n3]; exact hj))) hx hfl hK hb (by rw [hml]; exact hl.1) hown (hw _ mm_M_67) (hw _ mk_M_placeOf) (hw _ mi_M_placeOf) (hw _ mq_M_placeOf) (show fx_N y_M_placeOf 2 by decide +kernel) rfl ⟨Nat.le_of_ble_eq_true rfl, Nat.le_of_ble_eq_true rfl, Nat.le_of_ble_eq_true rfl, Nat.le_of_ble_eq_true rfl⟩ hP hS d_M_bind_42 (fun H locs hP hS => ?_)
          have hP : va_P w.D cls (mw w am S) H := hP
          refine lv_goto (tgt := 49) hx hb d_M_bind_45 rfl ?_
          refine lv_istore hx hb d_M_bind_49 hl (by decide) rfl (fun ls hl => ?_)
          have hl : lv_has ls 8 [(5, .int (nI (sv_cb o.2.2.2 key))), (4, .int (nI 1)), (0, .ref (am 0)), (1, .int (nI a)), (2, .int key), (3, .int x)] := hl
          refine lv_iload hx hb d_M_bind_51 (lv_at hl 1 rfl) ?_
          refine lv_if_eq (tgt := 71) hx hb d_M_bind_53 rfl (fun h9 => absurd h9 (by decide)) (fun _ => ?_)
          refine lv_aload_n hx hb d_M_bind_56 rfl (lv_at hl 2 rfl) ?_
          refine lv_iload_n hx hb d_M_bind_57 rfl (lv_at hl 3 rfl) ?_
          refine lv_iload hx hb d_M_bind_58 (lv_at hl 0 rfl) ?_
          refine lv_iload_n hx hb d_M_bind_60 rfl (lv_at hl 4 rfl) ?_
          refine m_cV (ct_M_hasAt w am hI S.1 S.2.1 S.2.2.1 S.2.2.2.1 S.2.2.2.2.1 S.2.2.2.2.2.1 S.2.2.2.2.2.2.1 S.2.2.2.2.2.2.2 a (sv_cb o.2.2.2 key) key o.2.2.1.length (by omega) la (Nat.le_trans (sv_cb_le _ _) qa.2.2) sa) hx hfl hK hb (by rw [hml]; exact hl.1) hown (hw _ mm_M_70) (hw _ mk_M_hasAt) (hw _ mi_M_hasAt) (hw _ mq_M_hasAt) (show fx_N y_M_hasAt 3 by decide +kernel) rfl ⟨Nat.le_of_ble_eq_true rfl, Nat.le_of_ble_eq_true rfl, Nat.le_of_ble_eq_true rfl, Nat.le_of_ble_eq_true rfl⟩ hP hS d_M_bind_61 (fun H locs hP hS => ?_)
          have hP : va_P w.D cls (mw w am S) H := hP
          refine lv_if_eq (tgt := 71) hx hb d_M_bind_64 rfl (fun h64 => ?_) (fun h64 => ?_)
          · have h64 : ¬ o.2.2.2[sv_cb o.2.2.2 key]? = some key := fun z => zI_eq0.mp h64 ((m_has (qa.2.1 n3) (ya n3)).mpr z)
            refine lv_iconst (v := nI 0) hx hb d_M_bind_71 rfl ?_
            refine lv_istore hx hb d_M_bind_72 hl (by decide) rfl (fun ls hl => ?_)
            have hl : lv_has ls 8 [(6, .int (nI 0)), (5, .int (nI (sv_cb o.2.2.2 key))), (4, .int (nI 1)), (0, .ref (am 0)), (1, .int (nI a)), (2, .int key), (3, .int x)] := hl
            refine lv_aload_n hx hb d_M_bind_74 rfl (lv_at hl 3 rfl) ?_
            refine lv_iload hx hb d_M_bind_75 (lv_at hl 2 rfl) ?_
            refine lv_if_ne (tgt := 84) hx hb d_M_bind_77 rfl (fun _ => ?_) (fun h9 => absurd h9 (by decide))
            refine lv_aload_n hx hb d_M_bind_84 rfl (lv_at hl 3 rfl) ?_
            refine m_cV (ct_M_isFull w am hI S.1 S.2.1 S.2.2.1 S.2.2.2.1 S.2.2.2.2.1 S.2.2.2.2.2.1 S.2.2.2.2.2.2.1 S.2.2.2.2.2.2.2) hx hfl hK hb (by rw [hml]; exact hl.1) hown (hw _ mm_M_46) (hw _ mk_M_isFull) (hw _ mi_M_isFull) (hw _ mq_M_isFull) (show fx_N y_M_isFull 0 by decide +kernel) rfl ⟨Nat.le_of_ble_eq_true rfl, Nat.le_of_ble_eq_true rfl, Nat.le_of_ble_eq_true rfl, Nat.le_of_ble_eq_true rfl⟩ hP hS d_M_bind_85 (fun H locs hP hS => ?_)
            have hP : va_P w.D cls (mw w am S) H := hP
            refine lv_if_ne (tgt := 107) hx hb d_M_bind_88 rfl (fun h88 => ?_) (fun h88 => ?_)
            · have h88 : 64 ≤ Vs.length := by have := zI_ne0.mp h88; rw [hn] at this; exact (nI_leI (by decide) (by omega)).mp this
              refine lv_iconst (v := nI 2) hx hb d_M_bind_107 rfl ?_
              refine lv_goto (tgt := 112) hx hb d_M_bind_108 rfl ?_
              refine m_rThr hI hA (nI 2) hx hfl hK hb (by rw [hml]; exact hl.1) hown (hw _ mm_M_50) ⟨Nat.le_of_ble_eq_true rfl, Nat.le_of_ble_eq_true rfl, Nat.le_of_ble_eq_true rfl, Nat.le_of_ble_eq_true rfl⟩ hP hS d_M_bind_112 (fun S1 hA hT H locs hP hS => ?_)
              have hn : S1.1 = nI Vs.length := hA.1
              refine lv_if_eq (tgt := 120) hx hb d_M_bind_115 rfl (fun h9 => absurd h9 (by rw [zI_t (by decide)]; decide)) (fun _ => ?_)
              refine lv_iconst (v := nI 0) hx hb d_M_bind_118 rfl ?_
              exact fx_iret hx hb hr hlk hS.2.2 (Nat.le_of_ble_eq_true rfl) (Nat.le_of_ble_eq_true rfl) d_M_bind_119 (⟨by rw [(show so_bind Vs (nI a) key x = (2, 0, Vs) from by unfold so_bind; rw [ta]; dsimp only; rw [if_pos ⟨n3, Int32.not_lt.mp h17, Int32.not_lt.mp h24⟩, if_neg h64, if_pos (Or.inl h88)])]; exact rfl, S1, hP, by rw [(show so_bind Vs (nI a) key x = (2, 0, Vs) from by unfold so_bind; rw [ta]; dsimp only; rw [if_pos ⟨n3, Int32.not_lt.mp h17, Int32.not_lt.mp h24⟩, if_neg h64, if_pos (Or.inl h88)])]; exact hA, by rw [(show so_bind Vs (nI a) key x = (2, 0, Vs) from by unfold so_bind; rw [ta]; dsimp only; rw [if_pos ⟨n3, Int32.not_lt.mp h17, Int32.not_lt.mp h24⟩, if_neg h64, if_pos (Or.inl h88)])]; exact hT⟩)
            · have h88 : ¬ 64 ≤ Vs.length := fun z => zI_eq0.mp h88 (by rw [hn]; exact nI_le z (by omega))
              refine lv_iload hx hb d_M_bind_91 (lv_at hl 0 rfl) ?_
              refine lv_if_ne (tgt := 111) hx hb d_M_bind_93 rfl (fun h9 => absurd rfl h9) (fun _ => ?_)
              refine lv_aload_n hx hb d_M_bind_96 rfl (lv_at hl 3 rfl) ?_
              refine fx_get hx hb hown (kc_M hK _) hKv 3 (by decide) (hw _ mf_M_16) (fun _ h => h) (hP 0 _ rfl) rfl d_M_bind_97 ?_
              refine lv_iload_n hx hb d_M_bind_100 rfl (lv_at hl 4 rfl) ?_
              refine fx_iald (j := a) hx hb hKv 0 (hP 3 _ rfl) rfl (rfl) (by omega) (by decide) d_M_bind_101 ?_
              refine lv_bipush (v := nI 100) hx hb d_M_bind_102 rfl ?_
              refine lv_icmp_lt (tgt := 111) hx hb d_M_bind_104 rfl (fun h104 => ?_) (fun h104 => ?_)
              · have h104 : o.2.2.1.length < 100 := by rw [sa] at h104; exact (nI_ltI (by omega) (by decide)).mp h104
                refine lv_iconst (v := nI 0) hx hb d_M_bind_111 rfl ?_
                refine m_rThr hI hA (nI 0) hx hfl hK hb (by rw [hml]; exact hl.1) hown (hw _ mm_M_50) ⟨Nat.le_of_ble_eq_true rfl, Nat.le_of_ble_eq_true rfl, Nat.le_of_ble_eq_true rfl, Nat.le_of_ble_eq_true rfl⟩ hP hS d_M_bind_112 (fun S1 hA hT H locs hP hS => ?_)
                have hn : S1.1 = nI Vs.length := hA.1
                refine lv_if_eq (tgt := 120) hx hb d_M_bind_115 rfl (fun _ => ?_) (fun h9 => absurd (zI_f (by decide)) h9)
                obtain ⟨ka, fa, sa, qa, xa, ya⟩ := hA.2.2.1 a o ga
                have ka : S1.2.2.1 a = o.1 := ka
                have fa : S1.2.2.2.1 a = o.2.1 := fa
                have sa : S1.2.2.2.2.1 a = nI o.2.2.1.length := sa
                have la : o.2.2.1.length ≤ 100 := qa.1
                refine lv_aload_n hx hb d_M_bind_120 rfl (lv_at hl 3 rfl) ?_
                refine lv_iconst (v := nI 3) hx hb d_M_bind_121 rfl ?_
                refine fx_ti (y := o.1) (n3.symm) ?_
                refine lv_aload_n hx hb d_M_bind_122 rfl (lv_at hl 3 rfl) ?_
                refine fx_get hx hb hown (kc_M hK _) hKv 2 (by decide) (hw _ mf_M_13) (fun _ h => h) (hP 0 _ rfl) rfl d_M_bind_123 ?_
                refine lv_iload_n hx hb d_M_bind_126 rfl (lv_at hl 4 rfl) ?_
                refine fx_iald (j := a) hx hb hKv 0 (hP 2 _ rfl) rfl (rfl) (by omega) (by decide) d_M_bind_127 ?_
                refine fx_ti (y := o.2.1) (fa) ?_
                refine m_rCreate hI hA (by omega) (o.1) (o.2.1) hx hfl hK hb (by rw [hml]; exact hl.1) hown (hw _ mm_M_53) ⟨Nat.le_of_ble_eq_true rfl, Nat.le_of_ble_eq_true rfl, Nat.le_of_ble_eq_true rfl, Nat.le_of_ble_eq_true rfl⟩ hP hS d_M_bind_128 (fun S2 hB hT1 H locs hP hS => ?_)
                have hT := hT1.trans hT
                refine lv_istore hx hb d_M_bind_131 hl (by decide) rfl (fun ls hl => ?_)
                have hl : lv_has ls 8 [(7, .int (nI Vs.length)), (6, .int (nI 0)), (5, .int (nI (sv_cb o.2.2.2 key))), (4, .int (nI 1)), (0, .ref (am 0)), (1, .int (nI a)), (2, .int key), (3, .int x)] := hl
                refine lv_aload_n hx hb d_M_bind_133 rfl (lv_at hl 4 rfl) ?_
                refine lv_iload_n hx hb d_M_bind_134 rfl (lv_at hl 5 rfl) ?_
                refine lv_iconst (v := nI 0) hx hb d_M_bind_135 rfl ?_
                refine lv_iload hx hb d_M_bind_136 (lv_at hl 2 rfl) ?_
                refine m_rAll hI hB (o := o) ga (Nat.zero_le _) (hcl) (by show 0 + (sv_cb o.2.2.2 key - 0) ≤ 100; omega) (fun z => z) hx hfl hK hb (by rw [hml]; exact hl.1) hown (hw _ mm_M_63) ⟨Nat.le_of_ble_eq_true rfl, Nat.le_of_ble_eq_true rfl, Nat.le_of_ble_eq_true rfl, Nat.le_of_ble_eq_true rfl⟩ hP hS d_M_bind_138 (fun S3 hB hT1 H locs hP hS => ?_)
                have hT := hT1.trans hT
                simp only [List.nil_append, sv_cut_0] at hB
                refine lv_aload_n hx hb d_M_bind_141 rfl (lv_at hl 4 rfl) ?_
                refine lv_iload_n hx hb d_M_bind_142 rfl (lv_at hl 6 rfl) ?_
                refine lv_iload_n hx hb d_M_bind_143 rfl (lv_at hl 7 rfl) ?_
                refine m_rPut hI hB (by rw [List.length_take]; omega) key x hx hfl hK hb (by rw [hml]; exact hl.1) hown (hw _ mm_M_42) ⟨Nat.le_of_ble_eq_true rfl, Nat.le_of_ble_eq_true rfl, Nat.le_of_ble_eq_true rfl, Nat.le_of_ble_eq_true rfl⟩ hP hS d_M_bind_144 (fun S4 hB hT1 H locs hP hS => ?_)
                have hT := hT1.trans hT
                refine lv_aload_n hx hb d_M_bind_147 rfl (lv_at hl 4 rfl) ?_
                refine lv_iload_n hx hb d_M_bind_148 rfl (lv_at hl 5 rfl) ?_
                refine lv_iload hx hb d_M_bind_149 (lv_at hl 1 rfl) ?_
                refine lv_if_eq (tgt := 161) hx hb d_M_bind_151 rfl (fun _ => ?_) (fun h9 => absurd rfl h9)
                refine lv_iload hx hb d_M_bind_161 (lv_at hl 2 rfl) ?_
                refine lv_aload_n hx hb d_M_bind_163 rfl (lv_at hl 4 rfl) ?_
                refine fx_get hx hb hown (kc_M hK _) hKv 3 (by decide) (hw _ mf_M_16) (fun _ h => h) (hP 0 _ rfl) rfl d_M_bind_164 ?_
                refine lv_iload_n hx hb d_M_bind_167 rfl (lv_at hl 5 rfl) ?_
                refine fx_iald (j := a) hx hb hKv 0 (hP 3 _ rfl) rfl (rfl) (by omega) (by decide) d_M_bind_168 ?_
                obtain ⟨ka, fa, sa, qa, xa, ya⟩ := hB.2.2.1 a o ga
                have ka : S4.2.2.1 a = o.1 := ka
                have fa : S4.2.2.2.1 a = o.2.1 := fa
                have sa : S4.2.2.2.2.1 a = nI o.2.2.1.length := sa
                have la : o.2.2.1.length ≤ 100 := qa.1
                refine fx_ti (y := nI o.2.2.1.length) (sa) ?_
                refine m_rAll hI hB (o := o) ga (by omega) (Nat.le_refl _) (by simp only [List.length_append, List.length_take, List.length_singleton]; omega) (fun _ => n3) hx hfl hK hb (by rw [hml]; exact hl.1) hown (hw _ mm_M_63) ⟨Nat.le_of_ble_eq_true rfl, Nat.le_of_ble_eq_true rfl, Nat.le_of_ble_eq_true rfl, Nat.le_of_ble_eq_true rfl⟩ hP hS d_M_bind_169 (fun S5 hB hT1 H locs hP hS => ?_)
                have hT := hT1.trans hT
                have hF : mAbs S5 (Vs ++ [(o.1, o.2.1, sv_ins o.2.2.1 (sv_cb o.2.2.2 key) x, sv_ins o.2.2.2 (sv_cb o.2.2.2 key) key)]) := by have := mB_done hB (sv_ins o.2.2.2 (sv_cb o.2.2.2 key) key) (fun z => by rw [← qa.2.1 n3]; simp only [sv_cut_all, List.append_assoc, List.singleton_append]; rfl) (by rw [sv_ins_length (sv_cb_le _ _), qa.2.1 n3]; omega); simp only [sv_cut_all, List.append_assoc, List.singleton_append] at this; exact this
                refine lv_iload hx hb d_M_bind_172 (lv_at hl 0 rfl) ?_
                exact fx_iret hx hb hr hlk hS.2.2 (Nat.le_of_ble_eq_true rfl) (Nat.le_of_ble_eq_true rfl) d_M_bind_174 (⟨by rw [(show so_bind Vs (nI a) key x = sv_new Vs (o.1, o.2.1, sv_ins o.2.2.1 (sv_cb o.2.2.2 key) x, sv_ins o.2.2.2 (sv_cb o.2.2.2 key) key) from by unfold so_bind; rw [ta]; dsimp only; rw [if_pos ⟨n3, Int32.not_lt.mp h17, Int32.not_lt.mp h24⟩, if_neg h64, if_neg (fun z => z.elim h88 (by omega))])]; exact rfl, S5, hP, by rw [(show so_bind Vs (nI a) key x = sv_new Vs (o.1, o.2.1, sv_ins o.2.2.1 (sv_cb o.2.2.2 key) x, sv_ins o.2.2.2 (sv_cb o.2.2.2 key) key) from by unfold so_bind; rw [ta]; dsimp only; rw [if_pos ⟨n3, Int32.not_lt.mp h17, Int32.not_lt.mp h24⟩, if_neg h64, if_neg (fun z => z.elim h88 (by omega))])]; exact hF, by rw [(show so_bind Vs (nI a) key x = sv_new Vs (o.1, o.2.1, sv_ins o.2.2.1 (sv_cb o.2.2.2 key) x, sv_ins o.2.2.2 (sv_cb o.2.2.2 key) key) from by unfold so_bind; rw [ta]; dsimp only; rw [if_pos ⟨n3, Int32.not_lt.mp h17, Int32.not_lt.mp h24⟩, if_neg h64, if_neg (fun z => z.elim h88 (by omega))])]; exact hT⟩)
              · have h104 : 100 ≤ o.2.2.1.length := by rw [sa] at h104; exact Nat.not_lt.mp (fun z => h104 (nI_lt z (by decide)))
                refine lv_iconst (v := nI 2) hx hb d_M_bind_107 rfl ?_
                refine lv_goto (tgt := 112) hx hb d_M_bind_108 rfl ?_
                refine m_rThr hI hA (nI 2) hx hfl hK hb (by rw [hml]; exact hl.1) hown (hw _ mm_M_50) ⟨Nat.le_of_ble_eq_true rfl, Nat.le_of_ble_eq_true rfl, Nat.le_of_ble_eq_true rfl, Nat.le_of_ble_eq_true rfl⟩ hP hS d_M_bind_112 (fun S1 hA hT H locs hP hS => ?_)
                have hn : S1.1 = nI Vs.length := hA.1
                refine lv_if_eq (tgt := 120) hx hb d_M_bind_115 rfl (fun h9 => absurd h9 (by rw [zI_t (by decide)]; decide)) (fun _ => ?_)
                refine lv_iconst (v := nI 0) hx hb d_M_bind_118 rfl ?_
                exact fx_iret hx hb hr hlk hS.2.2 (Nat.le_of_ble_eq_true rfl) (Nat.le_of_ble_eq_true rfl) d_M_bind_119 (⟨by rw [(show so_bind Vs (nI a) key x = (2, 0, Vs) from by unfold so_bind; rw [ta]; dsimp only; rw [if_pos ⟨n3, Int32.not_lt.mp h17, Int32.not_lt.mp h24⟩, if_neg h64, if_pos (Or.inr h104)])]; exact rfl, S1, hP, by rw [(show so_bind Vs (nI a) key x = (2, 0, Vs) from by unfold so_bind; rw [ta]; dsimp only; rw [if_pos ⟨n3, Int32.not_lt.mp h17, Int32.not_lt.mp h24⟩, if_neg h64, if_pos (Or.inr h104)])]; exact hA, by rw [(show so_bind Vs (nI a) key x = (2, 0, Vs) from by unfold so_bind; rw [ta]; dsimp only; rw [if_pos ⟨n3, Int32.not_lt.mp h17, Int32.not_lt.mp h24⟩, if_neg h64, if_pos (Or.inr h104)])]; exact hT⟩)
          · have hcb : sv_cb o.2.2.2 key < o.2.2.1.length := (zI_ne0.mp h64).1
            have h64 := (m_has (qa.2.1 n3) (ya n3)).mp (zI_ne0.mp h64)
            refine lv_iconst (v := nI 1) hx hb d_M_bind_67 rfl ?_
            refine lv_goto (tgt := 72) hx hb d_M_bind_68 rfl ?_
            refine lv_istore hx hb d_M_bind_72 hl (by decide) rfl (fun ls hl => ?_)
            have hl : lv_has ls 8 [(6, .int (nI 1)), (5, .int (nI (sv_cb o.2.2.2 key))), (4, .int (nI 1)), (0, .ref (am 0)), (1, .int (nI a)), (2, .int key), (3, .int x)] := hl
            refine lv_aload_n hx hb d_M_bind_74 rfl (lv_at hl 3 rfl) ?_
            refine lv_iload hx hb d_M_bind_75 (lv_at hl 2 rfl) ?_
            refine lv_if_ne (tgt := 84) hx hb d_M_bind_77 rfl (fun _ => ?_) (fun h9 => absurd h9 (by decide))
            refine lv_aload_n hx hb d_M_bind_84 rfl (lv_at hl 3 rfl) ?_
            refine m_cV (ct_M_isFull w am hI S.1 S.2.1 S.2.2.1 S.2.2.2.1 S.2.2.2.2.1 S.2.2.2.2.2.1 S.2.2.2.2.2.2.1 S.2.2.2.2.2.2.2) hx hfl hK hb (by rw [hml]; exact hl.1) hown (hw _ mm_M_46) (hw _ mk_M_isFull) (hw _ mi_M_isFull) (hw _ mq_M_isFull) (show fx_N y_M_isFull 0 by decide +kernel) rfl ⟨Nat.le_of_ble_eq_true rfl, Nat.le_of_ble_eq_true rfl, Nat.le_of_ble_eq_true rfl, Nat.le_of_ble_eq_true rfl⟩ hP hS d_M_bind_85 (fun H locs hP hS => ?_)
            have hP : va_P w.D cls (mw w am S) H := hP
            refine lv_if_ne (tgt := 107) hx hb d_M_bind_88 rfl (fun h88 => ?_) (fun h88 => ?_)
            · have h88 : 64 ≤ Vs.length := by have := zI_ne0.mp h88; rw [hn] at this; exact (nI_leI (by decide) (by omega)).mp this
              refine lv_iconst (v := nI 2) hx hb d_M_bind_107 rfl ?_
              refine lv_goto (tgt := 112) hx hb d_M_bind_108 rfl ?_
              refine m_rThr hI hA (nI 2) hx hfl hK hb (by rw [hml]; exact hl.1) hown (hw _ mm_M_50) ⟨Nat.le_of_ble_eq_true rfl, Nat.le_of_ble_eq_true rfl, Nat.le_of_ble_eq_true rfl, Nat.le_of_ble_eq_true rfl⟩ hP hS d_M_bind_112 (fun S1 hA hT H locs hP hS => ?_)
              have hn : S1.1 = nI Vs.length := hA.1
              refine lv_if_eq (tgt := 120) hx hb d_M_bind_115 rfl (fun h9 => absurd h9 (by rw [zI_t (by decide)]; decide)) (fun _ => ?_)
              refine lv_iconst (v := nI 0) hx hb d_M_bind_118 rfl ?_
              exact fx_iret hx hb hr hlk hS.2.2 (Nat.le_of_ble_eq_true rfl) (Nat.le_of_ble_eq_true rfl) d_M_bind_119 (⟨by rw [(show so_bind Vs (nI a) key x = (2, 0, Vs) from by unfold so_bind; rw [ta]; dsimp only; rw [if_pos ⟨n3, Int32.not_lt.mp h17, Int32.not_lt.mp h24⟩, if_pos h64, if_pos h88])]; exact rfl, S1, hP, by rw [(show so_bind Vs (nI a) key x = (2, 0, Vs) from by unfold so_bind; rw [ta]; dsimp only; rw [if_pos ⟨n3, Int32.not_lt.mp h17, Int32.not_lt.mp h24⟩, if_pos h64, if_pos h88])]; exact hA, by rw [(show so_bind Vs (nI a) key x = (2, 0, Vs) from by unfold so_bind; rw [ta]; dsimp only; rw [if_pos ⟨n3, Int32.not_lt.mp h17, Int32.not_lt.mp h24⟩, if_pos h64, if_pos h88])]; exact hT⟩)
            · have h88 : ¬ 64 ≤ Vs.length := fun z => zI_eq0.mp h88 (by rw [hn]; exact nI_le z (by omega))
              refine lv_iload hx hb d_M_bind_91 (lv_at hl 0 rfl) ?_
              refine lv_if_ne (tgt := 111) hx hb d_M_bind_93 rfl (fun _ => ?_) (fun h9 => absurd h9 (by decide))
              refine lv_iconst (v := nI 0) hx hb d_M_bind_111 rfl ?_
              refine m_rThr hI hA (nI 0) hx hfl hK hb (by rw [hml]; exact hl.1) hown (hw _ mm_M_50) ⟨Nat.le_of_ble_eq_true rfl, Nat.le_of_ble_eq_true rfl, Nat.le_of_ble_eq_true rfl, Nat.le_of_ble_eq_true rfl⟩ hP hS d_M_bind_112 (fun S1 hA hT H locs hP hS => ?_)
              have hn : S1.1 = nI Vs.length := hA.1
              refine lv_if_eq (tgt := 120) hx hb d_M_bind_115 rfl (fun _ => ?_) (fun h9 => absurd (zI_f (by decide)) h9)
              obtain ⟨ka, fa, sa, qa, xa, ya⟩ := hA.2.2.1 a o ga
              have ka : S1.2.2.1 a = o.1 := ka
              have fa : S1.2.2.2.1 a = o.2.1 := fa
              have sa : S1.2.2.2.2.1 a = nI o.2.2.1.length := sa
              have la : o.2.2.1.length ≤ 100 := qa.1
              refine lv_aload_n hx hb d_M_bind_120 rfl (lv_at hl 3 rfl) ?_
              refine lv_iconst (v := nI 3) hx hb d_M_bind_121 rfl ?_
              refine fx_ti (y := o.1) (n3.symm) ?_
              refine lv_aload_n hx hb d_M_bind_122 rfl (lv_at hl 3 rfl) ?_
              refine fx_get hx hb hown (kc_M hK _) hKv 2 (by decide) (hw _ mf_M_13) (fun _ h => h) (hP 0 _ rfl) rfl d_M_bind_123 ?_
              refine lv_iload_n hx hb d_M_bind_126 rfl (lv_at hl 4 rfl) ?_
              refine fx_iald (j := a) hx hb hKv 0 (hP 2 _ rfl) rfl (rfl) (by omega) (by decide) d_M_bind_127 ?_
              refine fx_ti (y := o.2.1) (fa) ?_
              refine m_rCreate hI hA (by omega) (o.1) (o.2.1) hx hfl hK hb (by rw [hml]; exact hl.1) hown (hw _ mm_M_53) ⟨Nat.le_of_ble_eq_true rfl, Nat.le_of_ble_eq_true rfl, Nat.le_of_ble_eq_true rfl, Nat.le_of_ble_eq_true rfl⟩ hP hS d_M_bind_128 (fun S2 hB hT1 H locs hP hS => ?_)
              have hT := hT1.trans hT
              refine lv_istore hx hb d_M_bind_131 hl (by decide) rfl (fun ls hl => ?_)
              have hl : lv_has ls 8 [(7, .int (nI Vs.length)), (6, .int (nI 1)), (5, .int (nI (sv_cb o.2.2.2 key))), (4, .int (nI 1)), (0, .ref (am 0)), (1, .int (nI a)), (2, .int key), (3, .int x)] := hl
              refine lv_aload_n hx hb d_M_bind_133 rfl (lv_at hl 4 rfl) ?_
              refine lv_iload_n hx hb d_M_bind_134 rfl (lv_at hl 5 rfl) ?_
              refine lv_iconst (v := nI 0) hx hb d_M_bind_135 rfl ?_
              refine lv_iload hx hb d_M_bind_136 (lv_at hl 2 rfl) ?_
              refine m_rAll hI hB (o := o) ga (Nat.zero_le _) (hcl) (by show 0 + (sv_cb o.2.2.2 key - 0) ≤ 100; omega) (fun z => z) hx hfl hK hb (by rw [hml]; exact hl.1) hown (hw _ mm_M_63) ⟨Nat.le_of_ble_eq_true rfl, Nat.le_of_ble_eq_true rfl, Nat.le_of_ble_eq_true rfl, Nat.le_of_ble_eq_true rfl⟩ hP hS d_M_bind_138 (fun S3 hB hT1 H locs hP hS => ?_)
              have hT := hT1.trans hT
              simp only [List.nil_append, sv_cut_0] at hB
              refine lv_aload_n hx hb d_M_bind_141 rfl (lv_at hl 4 rfl) ?_
              refine lv_iload_n hx hb d_M_bind_142 rfl (lv_at hl 6 rfl) ?_
              refine lv_iload_n hx hb d_M_bind_143 rfl (lv_at hl 7 rfl) ?_
              refine m_rPut hI hB (by rw [List.length_take]; omega) key x hx hfl hK hb (by rw [hml]; exact hl.1) hown (hw _ mm_M_42) ⟨Nat.le_of_ble_eq_true rfl, Nat.le_of_ble_eq_true rfl, Nat.le_of_ble_eq_true rfl, Nat.le_of_ble_eq_true rfl⟩ hP hS d_M_bind_144 (fun S4 hB hT1 H locs hP hS => ?_)
              have hT := hT1.trans hT
              refine lv_aload_n hx hb d_M_bind_147 rfl (lv_at hl 4 rfl) ?_
              refine lv_iload_n hx hb d_M_bind_148 rfl (lv_at hl 5 rfl) ?_
              refine lv_iload hx hb d_M_bind_149 (lv_at hl 1 rfl) ?_
              refine lv_if_eq (tgt := 161) hx hb d_M_bind_151 rfl (fun h9 => absurd h9 (by decide)) (fun _ => ?_)
              refine lv_iload hx hb d_M_bind_154 (lv_at hl 2 rfl) ?_
              refine lv_iconst (v := nI 1) hx hb d_M_bind_156 rfl ?_
              refine lv_iadd hx hb d_M_bind_157 ?_
              refine fx_ti (y := nI (sv_cb o.2.2.2 key + 1)) (nI_1 _) ?_
              refine lv_goto (tgt := 163) hx hb d_M_bind_158 rfl ?_
              refine lv_aload_n hx hb d_M_bind_163 rfl (lv_at hl 4 rfl) ?_
              refine fx_get hx hb hown (kc_M hK _) hKv 3 (by decide) (hw _ mf_M_16) (fun _ h => h) (hP 0 _ rfl) rfl d_M_bind_164 ?_
              refine lv_iload_n hx hb d_M_bind_167 rfl (lv_at hl 5 rfl) ?_
              refine fx_iald (j := a) hx hb hKv 0 (hP 3 _ rfl) rfl (rfl) (by omega) (by decide) d_M_bind_168 ?_
              obtain ⟨ka, fa, sa, qa, xa, ya⟩ := hB.2.2.1 a o ga
              have ka : S4.2.2.1 a = o.1 := ka
              have fa : S4.2.2.2.1 a = o.2.1 := fa
              have sa : S4.2.2.2.2.1 a = nI o.2.2.1.length := sa
              have la : o.2.2.1.length ≤ 100 := qa.1
              refine fx_ti (y := nI o.2.2.1.length) (sa) ?_
              refine m_rAll hI hB (o := o) ga (by omega) (Nat.le_refl _) (by simp only [List.length_append, List.length_take, List.length_singleton]; omega) (fun _ => n3) hx hfl hK hb (by rw [hml]; exact hl.1) hown (hw _ mm_M_63) ⟨Nat.le_of_ble_eq_true rfl, Nat.le_of_ble_eq_true rfl, Nat.le_of_ble_eq_true rfl, Nat.le_of_ble_eq_true rfl⟩ hP hS d_M_bind_169 (fun S5 hB hT1 H locs hP hS => ?_)
              have hT := hT1.trans hT
              have hF : mAbs S5 (Vs ++ [(o.1, o.2.1, o.2.2.1.set (sv_cb o.2.2.2 key) x, o.2.2.2)]) := by have := mB_done hB o.2.2.2 (fun z => by rw [← qa.2.1 n3]; simp only [sv_cut_all, List.append_assoc, List.singleton_append]; exact (sv_same h64).symm) qa.2.2; simp only [sv_cut_all, List.append_assoc, List.singleton_append, sv_set hcb] at this; exact this
              refine lv_iload hx hb d_M_bind_172 (lv_at hl 0 rfl) ?_
              exact fx_iret hx hb hr hlk hS.2.2 (Nat.le_of_ble_eq_true rfl) (Nat.le_of_ble_eq_true rfl) d_M_bind_174 (⟨by rw [(show so_bind Vs (nI a) key x = sv_new Vs (o.1, o.2.1, o.2.2.1.set (sv_cb o.2.2.2 key) x, o.2.2.2) from by unfold so_bind; rw [ta]; dsimp only; rw [if_pos ⟨n3, Int32.not_lt.mp h17, Int32.not_lt.mp h24⟩, if_pos h64, if_neg h88])]; exact rfl, S5, hP, by rw [(show so_bind Vs (nI a) key x = sv_new Vs (o.1, o.2.1, o.2.2.1.set (sv_cb o.2.2.2 key) x, o.2.2.2) from by unfold so_bind; rw [ta]; dsimp only; rw [if_pos ⟨n3, Int32.not_lt.mp h17, Int32.not_lt.mp h24⟩, if_pos h64, if_neg h88])]; exact hF, by rw [(show so_bind Vs (nI a) key x = sv_new Vs (o.1, o.2.1, o.2.2.1.set (sv_cb o.2.2.2 key) x, o.2.2.2) from by unfold so_bind; rw [ta]; dsimp only; rw [if_pos ⟨n3, Int32.not_lt.mp h17, Int32.not_lt.mp h24⟩, if_pos h64, if_neg h88])]; exact hT⟩)
set_option maxHeartbeats 4000000 in
set_option maxRecDepth 100000 in
theorem ct_M_empty (w : Wd) (am : Nat → Nat) (hI : mI am) (Vs : List sV) (k f : Int32) : mApi w am y_M_empty 5 (rmK 3) [.int k, .int f] Vs (so_empty Vs k f) := by
  intro S hA
  have hn : S.1 = nI Vs.length := hA.1
  have hVl : Vs.length ≤ 64 := hA.2.1
  refine fx_of (ret := some .int) (cc := b_M_empty) (fun s hK => hK.1 _ mk_M_empty _) (Nat.le_of_ble_eq_true rfl) ?_
  intro p l e s m below meth c hx hfl hK hb hml hr hlk hnt hown hin hP ls hl
  have hw : ∀ z ∈ gw, z.before (.ref (am 0) :: [.int k, .int f] : List Value).toArray s = true := fun z hz => hK.1 z hz _
  have hKv := hK.2.1
  have hS : va_S (mA am) s.heap s.heap [] := va_S.rf
  have hP : va_P w.D cls (mw w am S) s.heap := hP
  have hl : lv_has ls 5 [(0, .ref (am 0)), (1, .int k), (2, .int f)] := hl
  refine lv_iload_n hx hb d_M_empty_0 rfl (lv_at hl 1 rfl) ?_
  refine lv_iconst (v := nI 2) hx hb d_M_empty_1 rfl ?_
  refine lv_icmp_ge (tgt := 9) hx hb d_M_empty_2 rfl (fun h2 => ?_) (fun h2 => ?_)
  · refine lv_iload_n hx hb d_M_empty_9 rfl (lv_at hl 1 rfl) ?_
    refine lv_iconst (v := nI 4) hx hb d_M_empty_10 rfl ?_
    refine lv_icmp_ge (tgt := 18) hx hb d_M_empty_11 rfl (fun h11 => ?_) (fun h11 => ?_)
    · refine lv_iconst (v := nI 0) hx hb d_M_empty_18 rfl ?_
      have hm : (if k < 2 then (2 : Int32) else if k < 4 then 1 else 0) = nI 0 := by rw [if_neg (c := k < 2) (Int32.not_lt.mpr h2), if_neg (c := k < 4) (Int32.not_lt.mpr h11)]; rfl
      refine lv_istore_n hx hb d_M_empty_19 rfl hl (by decide) rfl (fun ls hl => ?_)
      have hl : lv_has ls 5 [(3, .int (nI 0)), (0, .ref (am 0)), (1, .int k), (2, .int f)] := hl
      refine lv_iload_n hx hb d_M_empty_20 rfl (lv_at hl 2 rfl) ?_
      refine lv_if_lt (tgt := 42) hx hb d_M_empty_21 rfl (fun h21 => ?_) (fun h21 => ?_)
      · refine lv_iconst (v := nI 0) hx hb d_M_empty_42 rfl ?_
        refine lv_istore hx hb d_M_empty_43 hl (by decide) rfl (fun ls hl => ?_)
        have hl : lv_has ls 5 [(4, .int (nI 0)), (3, .int (nI 0)), (0, .ref (am 0)), (1, .int k), (2, .int f)] := hl
        refine lv_aload_n hx hb d_M_empty_45 rfl (lv_at hl 2 rfl) ?_
        refine lv_iload hx hb d_M_empty_46 (lv_at hl 0 rfl) ?_
        refine lv_if_ne (tgt := 55) hx hb d_M_empty_48 rfl (fun h9 => absurd rfl h9) (fun _ => ?_)
        refine lv_iconst (v := nI 1) hx hb d_M_empty_51 rfl ?_
        refine lv_goto (tgt := 67) hx hb d_M_empty_52 rfl ?_
        refine m_rThr hI hA (nI 1) hx hfl hK hb (by rw [hml]; exact hl.1) hown (hw _ mm_M_50) ⟨Nat.le_of_ble_eq_true rfl, Nat.le_of_ble_eq_true rfl, Nat.le_of_ble_eq_true rfl, Nat.le_of_ble_eq_true rfl⟩ hP hS d_M_empty_67 (fun S1 hA hT H locs hP hS => ?_)
        have hn : S1.1 = nI Vs.length := hA.1
        refine lv_if_eq (tgt := 75) hx hb d_M_empty_70 rfl (fun h9 => absurd h9 (by rw [zI_t (by decide)]; decide)) (fun _ => ?_)
        refine lv_iconst (v := nI 0) hx hb d_M_empty_73 rfl ?_
        exact fx_iret hx hb hr hlk hS.2.2 (Nat.le_of_ble_eq_true rfl) (Nat.le_of_ble_eq_true rfl) d_M_empty_74 (⟨by rw [(show so_empty Vs k f = (1, 0, Vs) from by unfold so_empty; rw [if_neg (fun z => absurd h21 (Int32.not_lt.mpr z.1))])]; exact rfl, S1, hP, by rw [(show so_empty Vs k f = (1, 0, Vs) from by unfold so_empty; rw [if_neg (fun z => absurd h21 (Int32.not_lt.mpr z.1))])]; exact hA, by rw [(show so_empty Vs k f = (1, 0, Vs) from by unfold so_empty; rw [if_neg (fun z => absurd h21 (Int32.not_lt.mpr z.1))])]; exact hT⟩)
      · refine lv_iload_n hx hb d_M_empty_24 rfl (lv_at hl 2 rfl) ?_
        refine lv_iconst (v := nI 4) hx hb d_M_empty_25 rfl ?_
        refine lv_icmp_gt (tgt := 42) hx hb d_M_empty_26 rfl (fun h26 => ?_) (fun h26 => ?_)
        · refine lv_iconst (v := nI 0) hx hb d_M_empty_42 rfl ?_
          refine lv_istore hx hb d_M_empty_43 hl (by decide) rfl (fun ls hl => ?_)
          have hl : lv_has ls 5 [(4, .int (nI 0)), (3, .int (nI 0)), (0, .ref (am 0)), (1, .int k), (2, .int f)] := hl
          refine lv_aload_n hx hb d_M_empty_45 rfl (lv_at hl 2 rfl) ?_
          refine lv_iload hx hb d_M_empty_46 (lv_at hl 0 rfl) ?_
          refine lv_if_ne (tgt := 55) hx hb d_M_empty_48 rfl (fun h9 => absurd rfl h9) (fun _ => ?_)
          refine lv_iconst (v := nI 1) hx hb d_M_empty_51 rfl ?_
          refine lv_goto (tgt := 67) hx hb d_M_empty_52 rfl ?_
          refine m_rThr hI hA (nI 1) hx hfl hK hb (by rw [hml]; exact hl.1) hown (hw _ mm_M_50) ⟨Nat.le_of_ble_eq_true rfl, Nat.le_of_ble_eq_true rfl, Nat.le_of_ble_eq_true rfl, Nat.le_of_ble_eq_true rfl⟩ hP hS d_M_empty_67 (fun S1 hA hT H locs hP hS => ?_)
          have hn : S1.1 = nI Vs.length := hA.1
          refine lv_if_eq (tgt := 75) hx hb d_M_empty_70 rfl (fun h9 => absurd h9 (by rw [zI_t (by decide)]; decide)) (fun _ => ?_)
          refine lv_iconst (v := nI 0) hx hb d_M_empty_73 rfl ?_
          exact fx_iret hx hb hr hlk hS.2.2 (Nat.le_of_ble_eq_true rfl) (Nat.le_of_ble_eq_true rfl) d_M_empty_74 (⟨by rw [(show so_empty Vs k f = (1, 0, Vs) from by unfold so_empty; rw [if_neg (fun z => absurd z.2.1 (Int32.not_le.mpr h26))])]; exact rfl, S1, hP, by rw [(show so_empty Vs k f = (1, 0, Vs) from by unfold so_empty; rw [if_neg (fun z => absurd z.2.1 (Int32.not_le.mpr h26))])]; exact hA, by rw [(show so_empty Vs k f = (1, 0, Vs) from by unfold so_empty; rw [if_neg (fun z => absurd z.2.1 (Int32.not_le.mpr h26))])]; exact hT⟩)
        · refine lv_iload_n hx hb d_M_empty_29 rfl (lv_at hl 3 rfl) ?_
          refine lv_if_lt (tgt := 42) hx hb d_M_empty_30 rfl (fun h30 => ?_) (fun h30 => ?_)
          · refine lv_iconst (v := nI 0) hx hb d_M_empty_42 rfl ?_
            refine lv_istore hx hb d_M_empty_43 hl (by decide) rfl (fun ls hl => ?_)
            have hl : lv_has ls 5 [(4, .int (nI 0)), (3, .int (nI 0)), (0, .ref (am 0)), (1, .int k), (2, .int f)] := hl
            refine lv_aload_n hx hb d_M_empty_45 rfl (lv_at hl 2 rfl) ?_
            refine lv_iload hx hb d_M_empty_46 (lv_at hl 0 rfl) ?_
            refine lv_if_ne (tgt := 55) hx hb d_M_empty_48 rfl (fun h9 => absurd rfl h9) (fun _ => ?_)
            refine lv_iconst (v := nI 1) hx hb d_M_empty_51 rfl ?_
            refine lv_goto (tgt := 67) hx hb d_M_empty_52 rfl ?_
            refine m_rThr hI hA (nI 1) hx hfl hK hb (by rw [hml]; exact hl.1) hown (hw _ mm_M_50) ⟨Nat.le_of_ble_eq_true rfl, Nat.le_of_ble_eq_true rfl, Nat.le_of_ble_eq_true rfl, Nat.le_of_ble_eq_true rfl⟩ hP hS d_M_empty_67 (fun S1 hA hT H locs hP hS => ?_)
            have hn : S1.1 = nI Vs.length := hA.1
            refine lv_if_eq (tgt := 75) hx hb d_M_empty_70 rfl (fun h9 => absurd h9 (by rw [zI_t (by decide)]; decide)) (fun _ => ?_)
            refine lv_iconst (v := nI 0) hx hb d_M_empty_73 rfl ?_
            exact fx_iret hx hb hr hlk hS.2.2 (Nat.le_of_ble_eq_true rfl) (Nat.le_of_ble_eq_true rfl) d_M_empty_74 (⟨by rw [(show so_empty Vs k f = (1, 0, Vs) from by unfold so_empty; rw [if_neg (fun z => absurd h30 (Int32.not_lt.mpr z.2.2.1))])]; exact rfl, S1, hP, by rw [(show so_empty Vs k f = (1, 0, Vs) from by unfold so_empty; rw [if_neg (fun z => absurd h30 (Int32.not_lt.mpr z.2.2.1))])]; exact hA, by rw [(show so_empty Vs k f = (1, 0, Vs) from by unfold so_empty; rw [if_neg (fun z => absurd h30 (Int32.not_lt.mpr z.2.2.1))])]; exact hT⟩)
          · refine lv_iload_n hx hb d_M_empty_33 rfl (lv_at hl 3 rfl) ?_
            refine lv_iload_n hx hb d_M_empty_34 rfl (lv_at hl 0 rfl) ?_
            refine lv_icmp_gt (tgt := 42) hx hb d_M_empty_35 rfl (fun h35 => ?_) (fun h35 => ?_)
            · refine lv_iconst (v := nI 0) hx hb d_M_empty_42 rfl ?_
              refine lv_istore hx hb d_M_empty_43 hl (by decide) rfl (fun ls hl => ?_)
              have hl : lv_has ls 5 [(4, .int (nI 0)), (3, .int (nI 0)), (0, .ref (am 0)), (1, .int k), (2, .int f)] := hl
              refine lv_aload_n hx hb d_M_empty_45 rfl (lv_at hl 2 rfl) ?_
              refine lv_iload hx hb d_M_empty_46 (lv_at hl 0 rfl) ?_
              refine lv_if_ne (tgt := 55) hx hb d_M_empty_48 rfl (fun h9 => absurd rfl h9) (fun _ => ?_)
              refine lv_iconst (v := nI 1) hx hb d_M_empty_51 rfl ?_
              refine lv_goto (tgt := 67) hx hb d_M_empty_52 rfl ?_
              refine m_rThr hI hA (nI 1) hx hfl hK hb (by rw [hml]; exact hl.1) hown (hw _ mm_M_50) ⟨Nat.le_of_ble_eq_true rfl, Nat.le_of_ble_eq_true rfl, Nat.le_of_ble_eq_true rfl, Nat.le_of_ble_eq_true rfl⟩ hP hS d_M_empty_67 (fun S1 hA hT H locs hP hS => ?_)
              have hn : S1.1 = nI Vs.length := hA.1
              refine lv_if_eq (tgt := 75) hx hb d_M_empty_70 rfl (fun h9 => absurd h9 (by rw [zI_t (by decide)]; decide)) (fun _ => ?_)
              refine lv_iconst (v := nI 0) hx hb d_M_empty_73 rfl ?_
              exact fx_iret hx hb hr hlk hS.2.2 (Nat.le_of_ble_eq_true rfl) (Nat.le_of_ble_eq_true rfl) d_M_empty_74 (⟨by rw [(show so_empty Vs k f = (1, 0, Vs) from by unfold so_empty; rw [hm, if_neg (fun z => absurd z.2.2.2 (Int32.not_le.mpr h35))])]; exact rfl, S1, hP, by rw [(show so_empty Vs k f = (1, 0, Vs) from by unfold so_empty; rw [hm, if_neg (fun z => absurd z.2.2.2 (Int32.not_le.mpr h35))])]; exact hA, by rw [(show so_empty Vs k f = (1, 0, Vs) from by unfold so_empty; rw [hm, if_neg (fun z => absurd z.2.2.2 (Int32.not_le.mpr h35))])]; exact hT⟩)
            · refine lv_iconst (v := nI 1) hx hb d_M_empty_38 rfl ?_
              refine lv_goto (tgt := 43) hx hb d_M_empty_39 rfl ?_
              refine lv_istore hx hb d_M_empty_43 hl (by decide) rfl (fun ls hl => ?_)
              have hl : lv_has ls 5 [(4, .int (nI 1)), (3, .int (nI 0)), (0, .ref (am 0)), (1, .int k), (2, .int f)] := hl
              refine lv_aload_n hx hb d_M_empty_45 rfl (lv_at hl 2 rfl) ?_
              refine lv_iload hx hb d_M_empty_46 (lv_at hl 0 rfl) ?_
              refine lv_if_ne (tgt := 55) hx hb d_M_empty_48 rfl (fun _ => ?_) (fun h9 => absurd h9 (by decide))
              refine lv_aload_n hx hb d_M_empty_55 rfl (lv_at hl 2 rfl) ?_
              refine m_cV (ct_M_isFull w am hI S.1 S.2.1 S.2.2.1 S.2.2.2.1 S.2.2.2.2.1 S.2.2.2.2.2.1 S.2.2.2.2.2.2.1 S.2.2.2.2.2.2.2) hx hfl hK hb (by rw [hml]; exact hl.1) hown (hw _ mm_M_46) (hw _ mk_M_isFull) (hw _ mi_M_isFull) (hw _ mq_M_isFull) (show fx_N y_M_isFull 0 by decide +kernel) rfl ⟨Nat.le_of_ble_eq_true rfl, Nat.le_of_ble_eq_true rfl, Nat.le_of_ble_eq_true rfl, Nat.le_of_ble_eq_true rfl⟩ hP hS d_M_empty_56 (fun H locs hP hS => ?_)
              have hP : va_P w.D cls (mw w am S) H := hP
              refine lv_if_eq (tgt := 66) hx hb d_M_empty_59 rfl (fun h59 => ?_) (fun h59 => ?_)
              · have h59 : ¬ 64 ≤ Vs.length := fun z => zI_eq0.mp h59 (by rw [hn]; exact nI_le z (by omega))
                refine lv_iconst (v := nI 0) hx hb d_M_empty_66 rfl ?_
                refine m_rThr hI hA (nI 0) hx hfl hK hb (by rw [hml]; exact hl.1) hown (hw _ mm_M_50) ⟨Nat.le_of_ble_eq_true rfl, Nat.le_of_ble_eq_true rfl, Nat.le_of_ble_eq_true rfl, Nat.le_of_ble_eq_true rfl⟩ hP hS d_M_empty_67 (fun S1 hA hT H locs hP hS => ?_)
                have hn : S1.1 = nI Vs.length := hA.1
                refine lv_if_eq (tgt := 75) hx hb d_M_empty_70 rfl (fun _ => ?_) (fun h9 => absurd (zI_f (by decide)) h9)
                refine lv_aload_n hx hb d_M_empty_75 rfl (lv_at hl 2 rfl) ?_
                refine lv_iload_n hx hb d_M_empty_76 rfl (lv_at hl 3 rfl) ?_
                refine lv_iload_n hx hb d_M_empty_77 rfl (lv_at hl 4 rfl) ?_
                refine m_rCreate hI hA (by omega) k f hx hfl hK hb (by rw [hml]; exact hl.1) hown (hw _ mm_M_53) ⟨Nat.le_of_ble_eq_true rfl, Nat.le_of_ble_eq_true rfl, Nat.le_of_ble_eq_true rfl, Nat.le_of_ble_eq_true rfl⟩ hP hS d_M_empty_78 (fun S2 hB hT1 H locs hP hS => ?_)
                have hT := hT1.trans hT
                have hF : mAbs S2 (Vs ++ [(k, f, [], [])]) := mB_done hB [] (fun _ => rfl) (Nat.zero_le _)
                exact fx_iret hx hb hr hlk hS.2.2 (Nat.le_of_ble_eq_true rfl) (Nat.le_of_ble_eq_true rfl) d_M_empty_81 (⟨by rw [(show so_empty Vs k f = sv_new Vs (k, f, [], []) from by unfold so_empty; rw [hm, if_pos ⟨Int32.not_lt.mp h21, Int32.not_lt.mp h26, Int32.not_lt.mp h30, Int32.not_lt.mp h35⟩, if_neg h59])]; exact rfl, S2, hP, by rw [(show so_empty Vs k f = sv_new Vs (k, f, [], []) from by unfold so_empty; rw [hm, if_pos ⟨Int32.not_lt.mp h21, Int32.not_lt.mp h26, Int32.not_lt.mp h30, Int32.not_lt.mp h35⟩, if_neg h59])]; exact hF, by rw [(show so_empty Vs k f = sv_new Vs (k, f, [], []) from by unfold so_empty; rw [hm, if_pos ⟨Int32.not_lt.mp h21, Int32.not_lt.mp h26, Int32.not_lt.mp h30, Int32.not_lt.mp h35⟩, if_neg h59])]; exact hT⟩)
              · have h59 : 64 ≤ Vs.length := by have := zI_ne0.mp h59; rw [hn] at this; exact (nI_leI (by decide) (by omega)).mp this
                refine lv_iconst (v := nI 2) hx hb d_M_empty_62 rfl ?_
                refine lv_goto (tgt := 67) hx hb d_M_empty_63 rfl ?_
                refine m_rThr hI hA (nI 2) hx hfl hK hb (by rw [hml]; exact hl.1) hown (hw _ mm_M_50) ⟨Nat.le_of_ble_eq_true rfl, Nat.le_of_ble_eq_true rfl, Nat.le_of_ble_eq_true rfl, Nat.le_of_ble_eq_true rfl⟩ hP hS d_M_empty_67 (fun S1 hA hT H locs hP hS => ?_)
                have hn : S1.1 = nI Vs.length := hA.1
                refine lv_if_eq (tgt := 75) hx hb d_M_empty_70 rfl (fun h9 => absurd h9 (by rw [zI_t (by decide)]; decide)) (fun _ => ?_)
                refine lv_iconst (v := nI 0) hx hb d_M_empty_73 rfl ?_
                exact fx_iret hx hb hr hlk hS.2.2 (Nat.le_of_ble_eq_true rfl) (Nat.le_of_ble_eq_true rfl) d_M_empty_74 (⟨by rw [(show so_empty Vs k f = (2, 0, Vs) from by unfold so_empty; rw [hm, if_pos ⟨Int32.not_lt.mp h21, Int32.not_lt.mp h26, Int32.not_lt.mp h30, Int32.not_lt.mp h35⟩, if_pos h59])]; exact rfl, S1, hP, by rw [(show so_empty Vs k f = (2, 0, Vs) from by unfold so_empty; rw [hm, if_pos ⟨Int32.not_lt.mp h21, Int32.not_lt.mp h26, Int32.not_lt.mp h30, Int32.not_lt.mp h35⟩, if_pos h59])]; exact hA, by rw [(show so_empty Vs k f = (2, 0, Vs) from by unfold so_empty; rw [hm, if_pos ⟨Int32.not_lt.mp h21, Int32.not_lt.mp h26, Int32.not_lt.mp h30, Int32.not_lt.mp h35⟩, if_pos h59])]; exact hT⟩)
    · refine lv_iconst (v := nI 1) hx hb d_M_empty_14 rfl ?_
      refine lv_goto (tgt := 19) hx hb d_M_empty_15 rfl ?_
      have hm : (if k < 2 then (2 : Int32) else if k < 4 then 1 else 0) = nI 1 := by rw [if_neg (c := k < 2) (Int32.not_lt.mpr h2), if_pos (c := k < 4) (Int32.not_le.mp h11)]; rfl
      refine lv_istore_n hx hb d_M_empty_19 rfl hl (by decide) rfl (fun ls hl => ?_)
      have hl : lv_has ls 5 [(3, .int (nI 1)), (0, .ref (am 0)), (1, .int k), (2, .int f)] := hl
      refine lv_iload_n hx hb d_M_empty_20 rfl (lv_at hl 2 rfl) ?_
      refine lv_if_lt (tgt := 42) hx hb d_M_empty_21 rfl (fun h21 => ?_) (fun h21 => ?_)
      · refine lv_iconst (v := nI 0) hx hb d_M_empty_42 rfl ?_
        refine lv_istore hx hb d_M_empty_43 hl (by decide) rfl (fun ls hl => ?_)
        have hl : lv_has ls 5 [(4, .int (nI 0)), (3, .int (nI 1)), (0, .ref (am 0)), (1, .int k), (2, .int f)] := hl
        refine lv_aload_n hx hb d_M_empty_45 rfl (lv_at hl 2 rfl) ?_
        refine lv_iload hx hb d_M_empty_46 (lv_at hl 0 rfl) ?_
        refine lv_if_ne (tgt := 55) hx hb d_M_empty_48 rfl (fun h9 => absurd rfl h9) (fun _ => ?_)
        refine lv_iconst (v := nI 1) hx hb d_M_empty_51 rfl ?_
        refine lv_goto (tgt := 67) hx hb d_M_empty_52 rfl ?_
        refine m_rThr hI hA (nI 1) hx hfl hK hb (by rw [hml]; exact hl.1) hown (hw _ mm_M_50) ⟨Nat.le_of_ble_eq_true rfl, Nat.le_of_ble_eq_true rfl, Nat.le_of_ble_eq_true rfl, Nat.le_of_ble_eq_true rfl⟩ hP hS d_M_empty_67 (fun S1 hA hT H locs hP hS => ?_)
        have hn : S1.1 = nI Vs.length := hA.1
        refine lv_if_eq (tgt := 75) hx hb d_M_empty_70 rfl (fun h9 => absurd h9 (by rw [zI_t (by decide)]; decide)) (fun _ => ?_)
        refine lv_iconst (v := nI 0) hx hb d_M_empty_73 rfl ?_
        exact fx_iret hx hb hr hlk hS.2.2 (Nat.le_of_ble_eq_true rfl) (Nat.le_of_ble_eq_true rfl) d_M_empty_74 (⟨by rw [(show so_empty Vs k f = (1, 0, Vs) from by unfold so_empty; rw [if_neg (fun z => absurd h21 (Int32.not_lt.mpr z.1))])]; exact rfl, S1, hP, by rw [(show so_empty Vs k f = (1, 0, Vs) from by unfold so_empty; rw [if_neg (fun z => absurd h21 (Int32.not_lt.mpr z.1))])]; exact hA, by rw [(show so_empty Vs k f = (1, 0, Vs) from by unfold so_empty; rw [if_neg (fun z => absurd h21 (Int32.not_lt.mpr z.1))])]; exact hT⟩)
      · refine lv_iload_n hx hb d_M_empty_24 rfl (lv_at hl 2 rfl) ?_
        refine lv_iconst (v := nI 4) hx hb d_M_empty_25 rfl ?_
        refine lv_icmp_gt (tgt := 42) hx hb d_M_empty_26 rfl (fun h26 => ?_) (fun h26 => ?_)
        · refine lv_iconst (v := nI 0) hx hb d_M_empty_42 rfl ?_
          refine lv_istore hx hb d_M_empty_43 hl (by decide) rfl (fun ls hl => ?_)
          have hl : lv_has ls 5 [(4, .int (nI 0)), (3, .int (nI 1)), (0, .ref (am 0)), (1, .int k), (2, .int f)] := hl
          refine lv_aload_n hx hb d_M_empty_45 rfl (lv_at hl 2 rfl) ?_
          refine lv_iload hx hb d_M_empty_46 (lv_at hl 0 rfl) ?_
          refine lv_if_ne (tgt := 55) hx hb d_M_empty_48 rfl (fun h9 => absurd rfl h9) (fun _ => ?_)
          refine lv_iconst (v := nI 1) hx hb d_M_empty_51 rfl ?_
          refine lv_goto (tgt := 67) hx hb d_M_empty_52 rfl ?_
          refine m_rThr hI hA (nI 1) hx hfl hK hb (by rw [hml]; exact hl.1) hown (hw _ mm_M_50) ⟨Nat.le_of_ble_eq_true rfl, Nat.le_of_ble_eq_true rfl, Nat.le_of_ble_eq_true rfl, Nat.le_of_ble_eq_true rfl⟩ hP hS d_M_empty_67 (fun S1 hA hT H locs hP hS => ?_)
          have hn : S1.1 = nI Vs.length := hA.1
          refine lv_if_eq (tgt := 75) hx hb d_M_empty_70 rfl (fun h9 => absurd h9 (by rw [zI_t (by decide)]; decide)) (fun _ => ?_)
          refine lv_iconst (v := nI 0) hx hb d_M_empty_73 rfl ?_
          exact fx_iret hx hb hr hlk hS.2.2 (Nat.le_of_ble_eq_true rfl) (Nat.le_of_ble_eq_true rfl) d_M_empty_74 (⟨by rw [(show so_empty Vs k f = (1, 0, Vs) from by unfold so_empty; rw [if_neg (fun z => absurd z.2.1 (Int32.not_le.mpr h26))])]; exact rfl, S1, hP, by rw [(show so_empty Vs k f = (1, 0, Vs) from by unfold so_empty; rw [if_neg (fun z => absurd z.2.1 (Int32.not_le.mpr h26))])]; exact hA, by rw [(show so_empty Vs k f = (1, 0, Vs) from by unfold so_empty; rw [if_neg (fun z => absurd z.2.1 (Int32.not_le.mpr h26))])]; exact hT⟩)
        · refine lv_iload_n hx hb d_M_empty_29 rfl (lv_at hl 3 rfl) ?_
          refine lv_if_lt (tgt := 42) hx hb d_M_empty_30 rfl (fun h30 => ?_) (fun h30 => ?_)
          · refine lv_iconst (v := nI 0) hx hb d_M_empty_42 rfl ?_
            refine lv_istore hx hb d_M_empty_43 hl (by decide) rfl (fun ls hl => ?_)
            have hl : lv_has ls 5 [(4, .int (nI 0)), (3, .int (nI 1)), (0, .ref (am 0)), (1, .int k), (2, .int f)] := hl
            refine lv_aload_n hx hb d_M_empty_45 rfl (lv_at hl 2 rfl) ?_
            refine lv_iload hx hb d_M_empty_46 (lv_at hl 0 rfl) ?_
            refine lv_if_ne (tgt := 55) hx hb d_M_empty_48 rfl (fun h9 => absurd rfl h9) (fun _ => ?_)
            refine lv_iconst (v := nI 1) hx hb d_M_empty_51 rfl ?_
            refine lv_goto (tgt := 67) hx hb d_M_empty_52 rfl ?_
            refine m_rThr hI hA (nI 1) hx hfl hK hb (by rw [hml]; exact hl.1) hown (hw _ mm_M_50) ⟨Nat.le_of_ble_eq_true rfl, Nat.le_of_ble_eq_true rfl, Nat.le_of_ble_eq_true rfl, Nat.le_of_ble_eq_true rfl⟩ hP hS d_M_empty_67 (fun S1 hA hT H locs hP hS => ?_)
            have hn : S1.1 = nI Vs.length := hA.1
            refine lv_if_eq (tgt := 75) hx hb d_M_empty_70 rfl (fun h9 => absurd h9 (by rw [zI_t (by decide)]; decide)) (fun _ => ?_)
            refine lv_iconst (v := nI 0) hx hb d_M_empty_73 rfl ?_
            exact fx_iret hx hb hr hlk hS.2.2 (Nat.le_of_ble_eq_true rfl) (Nat.le_of_ble_eq_true rfl) d_M_empty_74 (⟨by rw [(show so_empty Vs k f = (1, 0, Vs) from by unfold so_empty; rw [if_neg (fun z => absurd h30 (Int32.not_lt.mpr z.2.2.1))])]; exact rfl, S1, hP, by rw [(show so_empty Vs k f = (1, 0, Vs) from by unfold so_empty; rw [if_neg (fun z => absurd h30 (Int32.not_lt.mpr z.2.2.1))])]; exact hA, by rw [(show so_empty Vs k f = (1, 0, Vs) from by unfold so_empty; rw [if_neg (fun z => absurd h30 (Int32.not_lt.mpr z.2.2.1))])]; exact hT⟩)
          · refine lv_iload_n hx hb d_M_empty_33 rfl (lv_at hl 3 rfl) ?_
            refine lv_iload_n hx hb d_M_empty_34 rfl (lv_at hl 0 rfl) ?_
            refine lv_icmp_gt (tgt := 42) hx hb d_M_empty_35 rfl (fun h35 => ?_) (fun h35 => ?_)
            · refine lv_iconst (v := nI 0) hx hb d_M_empty_42 rfl ?_
              refine lv_istore hx hb d_M_empty_43 hl (by decide) rfl (fun ls hl => ?_)
              have hl : lv_has ls 5 [(4, .int (nI 0)), (3, .int (nI 1)), (0, .ref (am 0)), (1, .int k), (2, .int f)] := hl
              refine lv_aload_n hx hb d_M_empty_45 rfl (lv_at hl 2 rfl) ?_
              refine lv_iload hx hb d_M_empty_46 (lv_at hl 0 rfl) ?_
              refine lv_if_ne (tgt := 55) hx hb d_M_empty_48 rfl (fun h9 => absurd rfl h9) (fun _ => ?_)
              refine lv_iconst (v := nI 1) hx hb d_M_empty_51 rfl ?_
              refine lv_goto (tgt := 67) hx hb d_M_empty_52 rfl ?_
              refine m_rThr hI hA (nI 1) hx hfl hK hb (by rw [hml]; exact hl.1) hown (hw _ mm_M_50) ⟨Nat.le_of_ble_eq_true rfl, Nat.le_of_ble_eq_true rfl, Nat.le_of_ble_eq_true rfl, Nat.le_of_ble_eq_true rfl⟩ hP hS d_M_empty_67 (fun S1 hA hT H locs hP hS => ?_)
              have hn : S1.1 = nI Vs.length := hA.1
              refine lv_if_eq (tgt := 75) hx hb d_M_empty_70 rfl (fun h9 => absurd h9 (by rw [zI_t (by decide)]; decide)) (fun _ => ?_)
              refine lv_iconst (v := nI 0) hx hb d_M_empty_73 rfl ?_
              exact fx_iret hx hb hr hlk hS.2.2 (Nat.le_of_ble_eq_true rfl) (Nat.le_of_ble_eq_true rfl) d_M_empty_74 (⟨by rw [(show so_empty Vs k f = (1, 0, Vs) from by unfold so_empty; rw [hm, if_neg (fun z => absurd z.2.2.2 (Int32.not_le.mpr h35))])]; exact rfl, S1, hP, by rw [(show so_empty Vs k f = (1, 0, Vs) from by unfold so_empty; rw [hm, if_neg (fun z => absurd z.2.2.2 (Int32.not_le.mpr h35))])]; exact hA, by rw [(show so_empty Vs k f = (1, 0, Vs) from by unfold so_empty; rw [hm, if_neg (fun z => absurd z.2.2.2 (Int32.not_le.mpr h35))])]; exact hT⟩)
            · refine lv_iconst (v := nI 1) hx hb d_M_empty_38 rfl ?_
              refine lv_goto (tgt := 43) hx hb d_M_empty_39 rfl ?_
              refine lv_istore hx hb d_M_empty_43 hl (by decide) rfl (fun ls hl => ?_)
              have hl : lv_has ls 5 [(4, .int (nI 1)), (3, .int (nI 1)), (0, .ref (am 0)), (1, .int k), (2, .int f)] := hl
              refine lv_aload_n hx hb d_M_empty_45 rfl (lv_at hl 2 rfl) ?_
              refine lv_iload hx hb d_M_empty_46 (lv_at hl 0 rfl) ?_
              refine lv_if_ne (tgt := 55) hx hb d_M_empty_48 rfl (fun _ => ?_) (fun h9 => absurd h9 (by decide))
              refine lv_aload_n hx hb d_M_empty_55 rfl (lv_at hl 2 rfl) ?_
              refine m_cV (ct_M_isFull w am hI S.1 S.2.1 S.2.2.1 S.2.2.2.1 S.2.2.2.2.1 S.2.2.2.2.2.1 S.2.2.2.2.2.2.1 S.2.2.2.2.2.2.2) hx hfl hK hb (by rw [hml]; exact hl.1) hown (hw _ mm_M_46) (hw _ mk_M_isFull) (hw _ mi_M_isFull) (hw _ mq_M_isFull) (show fx_N y_M_isFull 0 by decide +kernel) rfl ⟨Nat.le_of_ble_eq_true rfl, Nat.le_of_ble_eq_true rfl, Nat.le_of_ble_eq_true rfl, Nat.le_of_ble_eq_true rfl⟩ hP hS d_M_empty_56 (fun H locs hP hS => ?_)
              have hP : va_P w.D cls (mw w am S) H := hP
              refine lv_if_eq (tgt := 66) hx hb d_M_empty_59 rfl (fun h59 => ?_) (fun h59 => ?_)
              · have h59 : ¬ 64 ≤ Vs.length := fun z => zI_eq0.mp h59 (by rw [hn]; exact nI_le z (by omega))
                refine lv_iconst (v := nI 0) hx hb d_M_empty_66 rfl ?_
                refine m_rThr hI hA (nI 0) hx hfl hK hb (by rw [hml]; exact hl.1) hown (hw _ mm_M_50) ⟨Nat.le_of_ble_eq_true rfl, Nat.le_of_ble_eq_true rfl, Nat.le_of_ble_eq_true rfl, Nat.le_of_ble_eq_true rfl⟩ hP hS d_M_empty_67 (fun S1 hA hT H locs hP hS => ?_)
                have hn : S1.1 = nI Vs.length := hA.1
                refine lv_if_eq (tgt := 75) hx hb d_M_empty_70 rfl (fun _ => ?_) (fun h9 => absurd (zI_f (by decide)) h9)
                refine lv_aload_n hx hb d_M_empty_75 rfl (lv_at hl 2 rfl) ?_
                refine lv_iload_n hx hb d_M_empty_76 rfl (lv_at hl 3 rfl) ?_
                refine lv_iload_n hx hb d_M_empty_77 rfl (lv_at hl 4 rfl) ?_
                refine m_rCreate hI hA (by omega) k f hx hfl hK hb (by rw [hml]; exact hl.1) hown (hw _ mm_M_53) ⟨Nat.le_of_ble_eq_true rfl, Nat.le_of_ble_eq_true rfl, Nat.le_of_ble_eq_true rfl, Nat.le_of_ble_eq_true rfl⟩ hP hS d_M_empty_78 (fun S2 hB hT1 H locs hP hS => ?_)
                have hT := hT1.trans hT
                have hF : mAbs S2 (Vs ++ [(k, f, [], [])]) := mB_done hB [] (fun _ => rfl) (Nat.zero_le _)
                exact fx_iret hx hb hr hlk hS.2.2 (Nat.le_of_ble_eq_true rfl) (Nat.le_of_ble_eq_true rfl) d_M_empty_81 (⟨by rw [(show so_empty Vs k f = sv_new Vs (k, f, [], []) from by unfold so_empty; rw [hm, if_pos ⟨Int32.not_lt.mp h21, Int32.not_lt.mp h26, Int32.not_lt.mp h30, Int32.not_lt.mp h35⟩, if_neg h59])]; exact rfl, S2, hP, by rw [(show so_empty Vs k f = sv_new Vs (k, f, [], []) from by unfold so_empty; rw [hm, if_pos ⟨Int32.not_lt.mp h21, Int32.not_lt.mp h26, Int32.not_lt.mp h30, Int32.not_lt.mp h35⟩, if_neg h59])]; exact hF, by rw [(show so_empty Vs k f = sv_new Vs (k, f, [], []) from by unfold so_empty; rw [hm, if_pos ⟨Int32.not_lt.mp h21, Int32.not_lt.mp h26, Int32.not_lt.mp h30, Int32.not_lt.mp h35⟩, if_neg h59])]; exact hT⟩)
              · have h59 : 64 ≤ Vs.length := by have := zI_ne0.mp h59; rw [hn] at this; exact (nI_leI (by decide) (by omega)).mp this
                refine lv_iconst (v := nI 2) hx hb d_M_empty_62 rfl ?_
                refine lv_goto (tgt := 67) hx hb d_M_empty_63 rfl ?_
                refine m_rThr hI hA (nI 2) hx hfl hK hb (by rw [hml]; exact hl.1) hown (hw _ mm_M_50) ⟨Nat.le_of_ble_eq_true rfl, Nat.le_of_ble_eq_true rfl, Nat.le_of_ble_eq_true rfl, Nat.le_of_ble_eq_true rfl⟩ hP hS d_M_empty_67 (fun S1 hA hT H locs hP hS => ?_)
                have hn : S1.1 = nI Vs.length := hA.1
                refine lv_if_eq (tgt := 75) hx hb d_M_empty_70 rfl (fun h9 => absurd h9 (by rw [zI_t (by decide)]; decide)) (fun _ => ?_)
                refine lv_iconst (v := nI 0) hx hb d_M_empty_73 rfl ?_
                exact fx_iret hx hb hr hlk hS.2.2 (Nat.le_of_ble_eq_true rfl) (Nat.le_of_ble_eq_true rfl) d_M_empty_74 (⟨by rw [(show so_empty Vs k f = (2, 0, Vs) from by unfold so_empty; rw [hm, if_pos ⟨Int32.not_lt.mp h21, Int32.not_lt.mp h26, Int32.not_lt.mp h30, Int32.not_lt.mp h35⟩, if_pos h59])]; exact rfl, S1, hP, by rw [(show so_empty Vs k f = (2, 0, Vs) from by unfold so_empty; rw [hm, if_pos ⟨Int32.not_lt.mp h21, Int32.not_lt.mp h26, Int32.not_lt.mp h30, Int32.not_lt.mp h35⟩, if_pos h59])]; exact hA, by rw [(show so_empty Vs k f = (2, 0, Vs) from by unfold so_empty; rw [hm, if_pos ⟨Int32.not_lt.mp h21, Int32.not_lt.mp h26, Int32.not_lt.mp h30, Int32.not_lt.mp h35⟩, if_pos h59])]; exact hT⟩)
  · refine lv_iconst (v := nI 2) hx hb d_M_empty_5 rfl ?_
    refine lv_goto (tgt := 19) hx hb d_M_empty_6 rfl ?_
    have hm : (if k < 2 then (2 : Int32) else if k < 4 then 1 else 0) = nI 2 := by rw [if_pos (c := k < 2) (Int32.not_le.mp h2)]; rfl
    refine lv_istore_n hx hb d_M_empty_19 rfl hl (by decide) rfl (fun ls hl => ?_)
    have hl : lv_has ls 5 [(3, .int (nI 2)), (0, .ref (am 0)), (1, .int k), (2, .int f)] := hl
    refine lv_iload_n hx hb d_M_empty_20 rfl (lv_at hl 2 rfl) ?_
    refine lv_if_lt (tgt := 42) hx hb d_M_empty_21 rfl (fun h21 => ?_) (fun h21 => ?_)
    · refine lv_iconst (v := nI 0) hx hb d_M_empty_42 rfl ?_
      refine lv_istore hx hb d_M_empty_43 hl (by decide) rfl (fun ls hl => ?_)
      have hl : lv_has ls 5 [(4, .int (nI 0)), (3, .int (nI 2)), (0, .ref (am 0)), (1, .int k), (2, .int f)] := hl
      refine lv_aload_n hx hb d_M_empty_45 rfl (lv_at hl 2 rfl) ?_
      refine lv_iload hx hb d_M_empty_46 (lv_at hl 0 rfl) ?_
      refine lv_if_ne (tgt := 55) hx hb d_M_empty_48 rfl (fun h9 => absurd rfl h9) (fun _ => ?_)
      refine lv_iconst (v := nI 1) hx hb d_M_empty_51 rfl ?_
      refine lv_goto (tgt := 67) hx hb d_M_empty_52 rfl ?_
      refine m_rThr hI hA (nI 1) hx hfl hK hb (by rw [hml]; exact hl.1) hown (hw _ mm_M_50) ⟨Nat.le_of_ble_eq_true rfl, Nat.le_of_ble_eq_true rfl, Nat.le_of_ble_eq_true rfl, Nat.le_of_ble_eq_true rfl⟩ hP hS d_M_empty_67 (fun S1 hA hT H locs hP hS => ?_)
      have hn : S1.1 = nI Vs.length := hA.1
      refine lv_if_eq (tgt := 75) hx hb d_M_empty_70 rfl (fun h9 => absurd h9 (by rw [zI_t (by decide)]; decide)) (fun _ => ?_)
      refine lv_iconst (v := nI 0) hx hb d_M_empty_73 rfl ?_
      exact fx_iret hx hb hr hlk hS.2.2 (Nat.le_of_ble_eq_true rfl) (Nat.le_of_ble_eq_true rfl) d_M_empty_74 (⟨by rw [(show so_empty Vs k f = (1, 0, Vs) from by unfold so_empty; rw [if_neg (fun z => absurd h21 (Int32.not_lt.mpr z.1))])]; exact rfl, S1, hP, by rw [(show so_empty Vs k f = (1, 0, Vs) from by unfold so_empty; rw [if_neg (fun z => absurd h21 (Int32.not_lt.mpr z.1))])]; exact hA, by rw [(show so_empty Vs k f = (1, 0, Vs) from by unfold so_empty; rw [if_neg (fun z => absurd h21 (Int32.not_lt.mpr z.1))])]; exact hT⟩)
    · refine lv_iload_n hx hb d_M_empty_24 rfl (lv_at hl 2 rfl) ?_
      refine lv_iconst (v := nI 4) hx hb d_M_empty_25 rfl ?_
      refine lv_icmp_gt (tgt := 42) hx hb d_M_empty_26 rfl (fun h26 => ?_) (fun h26 => ?_)
      · refine lv_iconst (v := nI 0) hx hb d_M_empty_42 rfl ?_
        refine lv_istore hx hb d_M_empty_43 hl (by decide) rfl (fun ls hl => ?_)
        have hl : lv_has ls 5 [(4, .int (nI 0)), (3, .int (nI 2)), (0, .ref (am 0)), (1, .int k), (2, .int f)] := hl
        refine lv_aload_n hx hb d_M_empty_45 rfl (lv_at hl 2 rfl) ?_
        refine lv_iload hx hb d_M_empty_46 (lv_at hl 0 rfl) ?_
        refine lv_if_ne (tgt := 55) hx hb d_M_empty_48 rfl (fun h9 => absurd rfl h9) (fun _ => ?_)
        refine lv_iconst (v := nI 1) hx hb d_M_empty_51 rfl ?_
        refine lv_goto (tgt := 67) hx hb d_M_empty_52 rfl ?_
        refine m_rThr hI hA (nI 1) hx hfl hK hb (by rw [hml]; exact hl.1) hown (hw _ mm_M_50) ⟨Nat.le_of_ble_eq_true rfl, Nat.le_of_ble_eq_true rfl, Nat.le_of_ble_eq_true rfl, Nat.le_of_ble_eq_true rfl⟩ hP hS d_M_empty_67 (fun S1 hA hT H locs hP hS => ?_)
        have hn : S1.1 = nI Vs.length := hA.1
        refine lv_if_eq (tgt := 75) hx hb d_M_empty_70 rfl (fun h9 => absurd h9 (by rw [zI_t (by decide)]; decide)) (fun _ => ?_)
        refine lv_iconst (v := nI 0) hx hb d_M_empty_73 rfl ?_
        exact fx_iret hx hb hr hlk hS.2.2 (Nat.le_of_ble_eq_true rfl) (Nat.le_of_ble_eq_true rfl) d_M_empty_74 (⟨by rw [(show so_empty Vs k f = (1, 0, Vs) from by unfold so_empty; rw [if_neg (fun z => absurd z.2.1 (Int32.not_le.mpr h26))])]; exact rfl, S1, hP, by rw [(show so_empty Vs k f = (1, 0, Vs) from by unfold so_empty; rw [if_neg (fun z => absurd z.2.1 (Int32.not_le.mpr h26))])]; exact hA, by rw [(show so_empty Vs k f = (1, 0, Vs) from by unfold so_empty; rw [if_neg (fun z => absurd z.2.1 (Int32.not_le.mpr h26))])]; exact hT⟩)
      · refine lv_iload_n hx hb d_M_empty_29 rfl (lv_at hl 3 rfl) ?_
        refine lv_if_lt (tgt := 42) hx hb d_M_empty_30 rfl (fun h30 => ?_) (fun h30 => ?_)
        · refine lv_iconst (v := nI 0) hx hb d_M_empty_42 rfl ?_
          refine lv_istore hx hb d_M_empty_43 hl (by decide) rfl (fun ls hl => ?_)
          have hl : lv_has ls 5 [(4, .int (nI 0)), (3, .int (nI 2)), (0, .ref (am 0)), (1, .int k), (2, .int f)] := hl
          refine lv_aload_n hx hb d_M_empty_45 rfl (lv_at hl 2 rfl) ?_
          refine lv_iload hx hb d_M_empty_46 (lv_at hl 0 rfl) ?_
          refine lv_if_ne (tgt := 55) hx hb d_M_empty_48 rfl (fun h9 => absurd rfl h9) (fun _ => ?_)
          refine lv_iconst (v := nI 1) hx hb d_M_empty_51 rfl ?_
          refine lv_goto (tgt := 67) hx hb d_M_empty_52 rfl ?_
          refine m_rThr hI hA (nI 1) hx hfl hK hb (by rw [hml]; exact hl.1) hown (hw _ mm_M_50) ⟨Nat.le_of_ble_eq_true rfl, Nat.le_of_ble_eq_true rfl, Nat.le_of_ble_eq_true rfl, Nat.le_of_ble_eq_true rfl⟩ hP hS d_M_empty_67 (fun S1 hA hT H locs hP hS => ?_)
          have hn : S1.1 = nI Vs.length := hA.1
          refine lv_if_eq (tgt := 75) hx hb d_M_empty_70 rfl (fun h9 => absurd h9 (by rw [zI_t (by decide)]; decide)) (fun _ => ?_)
          refine lv_iconst (v := nI 0) hx hb d_M_empty_73 rfl ?_
          exact fx_iret hx hb hr hlk hS.2.2 (Nat.le_of_ble_eq_true rfl) (Nat.le_of_ble_eq_true rfl) d_M_empty_74 (⟨by rw [(show so_empty Vs k f = (1, 0, Vs) from by unfold so_empty; rw [if_neg (fun z => absurd h30 (Int32.not_lt.mpr z.2.2.1))])]; exact rfl, S1, hP, by rw [(show so_empty Vs k f = (1, 0, Vs) from by unfold so_empty; rw [if_neg (fun z => absurd h30 (Int32.not_lt.mpr z.2.2.1))])]; exact hA, by rw [(show so_empty Vs k f = (1, 0, Vs) from by unfold so_empty; rw [if_neg (fun z => absurd h30 (Int32.not_lt.mpr z.2.2.1))])]; exact hT⟩)
        · refine lv_iload_n hx hb d_M_empty_33 rfl (lv_at hl 3 rfl) ?_
          refine lv_iload_n hx hb d_M_empty_34 rfl (lv_at hl 0 rfl) ?_
          refine lv_icmp_gt (tgt := 42) hx hb d_M_empty_35 rfl (fun h35 => ?_) (fun h35 => ?_)
          · refine lv_iconst (v := nI 0) hx hb d_M_empty_42 rfl ?_
            refine lv_istore hx hb d_M_empty_43 hl (by decide) rfl (fun ls hl => ?_)
            have hl : lv_has ls 5 [(4, .int (nI 0)), (3, .int (nI 2)), (0, .ref (am 0)), (1, .int k), (2, .int f)] := hl
            refine lv_aload_n hx hb d_M_empty_45 rfl (lv_at hl 2 rfl) ?_
            refine lv_iload hx hb d_M_empty_46 (lv_at hl 0 rfl) ?_
            refine lv_if_ne (tgt := 55) hx hb d_M_empty_48 rfl (fun h9 => absurd rfl h9) (fun _ => ?_)
            refine lv_iconst (v := nI 1) hx hb d_M_empty_51 rfl ?_
            refine lv_goto (tgt := 67) hx hb d_M_empty_52 rfl ?_
            refine m_rThr hI hA (nI 1) hx hfl hK hb (by rw [hml]; exact hl.1) hown (hw _ mm_M_50) ⟨Nat.le_of_ble_eq_true rfl, Nat.le_of_ble_eq_true rfl, Nat.le_of_ble_eq_true rfl, Nat.le_of_ble_eq_true rfl⟩ hP hS d_M_empty_67 (fun S1 hA hT H locs hP hS => ?_)
            have hn : S1.1 = nI Vs.length := hA.1
            refine lv_if_eq (tgt := 75) hx hb d_M_empty_70 rfl (fun h9 => absurd h9 (by rw [zI_t (by decide)]; decide)) (fun _ => ?_)
            refine lv_iconst (v := nI 0) hx hb d_M_empty_73 rfl ?_
            exact fx_iret hx hb hr hlk hS.2.2 (Nat.le_of_ble_eq_true rfl) (Nat.le_of_ble_eq_true rfl) d_M_empty_74 (⟨by rw [(show so_empty Vs k f = (1, 0, Vs) from by unfold so_empty; rw [hm, if_neg (fun z => absurd z.2.2.2 (Int32.not_le.mpr h35))])]; exact rfl, S1, hP, by rw [(show so_empty Vs k f = (1, 0, Vs) from by unfold so_empty; rw [hm, if_neg (fun z => absurd z.2.2.2 (Int32.not_le.mpr h35))])]; exact hA, by rw [(show so_empty Vs k f = (1, 0, Vs) from by unfold so_empty; rw [hm, if_neg (fun z => absurd z.2.2.2 (Int32.not_le.mpr h35))])]; exact hT⟩)
          · refine lv_iconst (v := nI 1) hx hb d_M_empty_38 rfl ?_
            refine lv_goto (tgt := 43) hx hb d_M_empty_39 rfl ?_
            refine lv_istore hx hb d_M_empty_43 hl (by decide) rfl (fun ls hl => ?_)
            have hl : lv_has ls 5 [(4, .int (nI 1)), (3, .int (nI 2)), (0, .ref (am 0)), (1, .int k), (2, .int f)] := hl
            refine lv_aload_n hx hb d_M_empty_45 rfl (lv_at hl 2 rfl) ?_
            refine lv_iload hx hb d_M_empty_46 (lv_at hl 0 rfl) ?_
            refine lv_if_ne (tgt := 55) hx hb d_M_empty_48 rfl (fun _ => ?_) (fun h9 => absurd h9 (by decide))
            refine lv_aload_n hx hb d_M_empty_55 rfl (lv_at hl 2 rfl) ?_
            refine m_cV (ct_M_isFull w am hI S.1 S.2.1 S.2.2.1 S.2.2.2.1 S.2.2.2.2.1 S.2.2.2.2.2.1 S.2.2.2.2.2.2.1 S.2.2.2.2.2.2.2) hx hfl hK hb (by rw [hml]; exact hl.1) hown (hw _ mm_M_46) (hw _ mk_M_isFull) (hw _ mi_M_isFull) (hw _ mq_M_isFull) (show fx_N y_M_isFull 0 by decide +kernel) rfl ⟨Nat.le_of_ble_eq_true rfl, Nat.le_of_ble_eq_true rfl, Nat.le_of_ble_eq_true rfl, Nat.le_of_ble_eq_true rfl⟩ hP hS d_M_empty_56 (fun H locs hP hS => ?_)
            have hP : va_P w.D cls (mw w am S) H := hP
            refine lv_if_eq (tgt := 66) hx hb d_M_empty_59 rfl (fun h59 => ?_) (fun h59 => ?_)
            · have h59 : ¬ 64 ≤ Vs.length := fun z => zI_eq0.mp h59 (by rw [hn]; exact nI_le z (by omega))
              refine lv_iconst (v := nI 0) hx hb d_M_empty_66 rfl ?_
              refine m_rThr hI hA (nI 0) hx hfl hK hb (by rw [hml]; exact hl.1) hown (hw _ mm_M_50) ⟨Nat.le_of_ble_eq_true rfl, Nat.le_of_ble_eq_true rfl, Nat.le_of_ble_eq_true rfl, Nat.le_of_ble_eq_true rfl⟩ hP hS d_M_empty_67 (fun S1 hA hT H locs hP hS => ?_)
              have hn : S1.1 = nI Vs.length := hA.1
              refine lv_if_eq (tgt := 75) hx hb d_M_empty_70 rfl (fun _ => ?_) (fun h9 => absurd (zI_f (by decide)) h9)
              refine lv_aload_n hx hb d_M_empty_75 rfl (lv_at hl 2 rfl) ?_
              refine lv_iload_n hx hb d_M_empty_76 rfl (lv_at hl 3 rfl) ?_
              refine lv_iload_n hx hb d_M_empty_77 rfl (lv_at hl 4 rfl) ?_
              refine m_rCreate hI hA (by omega) k f hx hfl hK hb (by rw [hml]; exact hl.1) hown (hw _ mm_M_53) ⟨Nat.le_of_ble_eq_true rfl, Nat.le_of_ble_eq_true rfl, Nat.le_of_ble_eq_true rfl, Nat.le_of_ble_eq_true rfl⟩ hP hS d_M_empty_78 (fun S2 hB hT1 H locs hP hS => ?_)
              have hT := hT1.trans hT
              have hF : mAbs S2 (Vs ++ [(k, f, [], [])]) := mB_done hB [] (fun _ => rfl) (Nat.zero_le _)
              exact fx_iret hx hb hr hlk hS.2.2 (Nat.le_of_ble_eq_true rfl) (Nat.le_of_ble_eq_true rfl) d_M_empty_81 (⟨by rw [(show so_empty Vs k f = sv_new Vs (k, f, [], []) from by unfold so_empty; rw [hm, if_pos ⟨Int32.not_lt.mp h21, Int32.not_lt.mp h26, Int32.not_lt.mp h30, Int32.not_lt.mp h35⟩, if_neg h59])]; exact rfl, S2, hP, by rw [(show so_empty Vs k f = sv_new Vs (k, f, [], []) from by unfold so_empty; rw [hm, if_pos ⟨Int32.not_lt.mp h21, Int32.not_lt.mp h26, Int32.not_lt.mp h30, Int32.not_lt.mp h35⟩, if_neg h59])]; exact hF, by rw [(show so_empty Vs k f = sv_new Vs (k, f, [], []) from by unfold so_empty; rw [hm, if_pos ⟨Int32.not_lt.mp h21, Int32.not_lt.mp h26, Int32.not_lt.mp h30, Int32.not_lt.mp h35⟩, if_neg h59])]; exact hT⟩)
            · have h59 : 64 ≤ Vs.length := by have := zI_ne0.mp h59; rw [hn] at this; exact (nI_leI (by decide) (by omega)).mp this
              refine lv_iconst (v := nI 2) hx hb d_M_empty_62 rfl ?_
              refine lv_goto (tgt := 67) hx hb d_M_empty_63 rfl ?_
              refine m_rThr hI hA (nI 2) hx hfl hK hb (by rw [hml]; exact hl.1) hown (hw _ mm_M_50) ⟨Nat.le_of_ble_eq_true rfl, Nat.le_of_ble_eq_true rfl, Nat.le_of_ble_eq_true rfl, Nat.le_of_ble_eq_true rfl⟩ hP hS d_M_empty_67 (fun S1 hA hT H locs hP hS => ?_)
              have hn : S1.1 = nI Vs.length := hA.1
              refine lv_if_eq (tgt := 75) hx hb d_M_empty_70 rfl (fun h9 => absurd h9 (by rw [zI_t (by decide)]; decide)) (fun _ => ?_)
              refine lv_iconst (v := nI 0) hx hb d_M_empty_73 rfl ?_
              exact fx_iret hx hb hr hlk hS.2.2 (Nat.le_of_ble_eq_true rfl) (Nat.le_of_ble_eq_true rfl) d_M_empty_74 (⟨by rw [(show so_empty Vs k f = (2, 0, Vs) from by unfold so_empty; rw [hm, if_pos ⟨Int32.not_lt.mp h21, Int32.not_lt.mp h26, Int32.not_lt.mp h30, Int32.not_lt.mp h35⟩, if_pos h59])]; exact rfl, S1, hP, by rw [(show so_empty Vs k f = (2, 0, Vs) from by unfold so_empty; rw [hm, if_pos ⟨Int32.not_lt.mp h21, Int32.not_lt.mp h26, Int32.not_lt.mp h30, Int32.not_lt.mp h35⟩, if_pos h59])]; exact hA, by rw [(show so_empty Vs k f = (2, 0, Vs) from by unfold so_empty; rw [hm, if_pos ⟨Int32.not_lt.mp h21, Int32.not_lt.mp h26, Int32.not_lt.mp h30, Int32.not_lt.mp h35⟩, if_pos h59])]; exact hT⟩)
