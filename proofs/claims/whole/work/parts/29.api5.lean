theorem sv_drop_cons {xs : List Int32} {i : Nat} (h : i < xs.length) : xs.drop i = xs.getD i 0 :: xs.drop (i + 1) := by
  rw [List.drop_eq_getElem_cons h, List.getD_eq_getElem?_getD, List.getElem?_eq_getElem h]
  rfl
theorem sv_drop_get (xs : List Int32) (i : Nat) : (xs.drop i).getD 0 0 = xs.getD i 0 := by
  simp only [List.getD_eq_getElem?_getD, List.getElem?_drop, Nat.add_zero]
theorem mg_l {n i j : Nat} {xs ys out T : List Int32} (hi : i < xs.length) (hc : j = ys.length ∨ xs.getD i 0 ≤ ys.getD j 0) (h : out ++ sv_mg (n + 1) (xs.drop i) (ys.drop j) = T) : (out ++ [xs.getD i 0]) ++ sv_mg n (xs.drop (i + 1)) (ys.drop j) = T := by
  rw [sv_drop_cons hi, sv_mg_left (hc.imp (fun z => by rw [z, List.drop_length]) (fun z => by rw [sv_drop_get]; exact z))] at h
  rw [List.append_assoc]
  exact h
theorem mg_r {n i j : Nat} {xs ys out T : List Int32} (hj : j < ys.length) (hc : i = xs.length ∨ ¬ xs.getD i 0 ≤ ys.getD j 0) (h : out ++ sv_mg (n + 1) (xs.drop i) (ys.drop j) = T) : (out ++ [ys.getD j 0]) ++ sv_mg n (xs.drop i) (ys.drop (j + 1)) = T := by
  rw [sv_drop_cons hj, sv_mg_right (hc.imp (fun z => by rw [z, List.drop_length]) (fun z => by rw [sv_drop_get]; exact z))] at h
  rw [List.append_assoc]
  exact h
set_option maxHeartbeats 4000000 in
set_option maxRecDepth 100000 in
theorem ct_M_join (w : Wd) (am : Nat → Nat) (hI : mI am) (Vs : List sV) (v u : Int32) : mApi w am y_M_join 8 (rmK 3) [.int v, .int u] Vs (so_join Vs v u) := by
  intro S hA
  have hn : S.1 = nI Vs.length := hA.1
  have hVl : Vs.length ≤ 64 := hA.2.1
  refine fx_of (ret := some .int) (cc := b_M_join) (fun s hK => hK.1 _ mk_M_join _) (Nat.le_of_ble_eq_true rfl) ?_
  intro p l e s m below meth c hx hfl hK hb hml hr hlk hnt hown hin hP ls hl
  have hw : ∀ z ∈ gw, z.before (.ref (am 0) :: [.int v, .int u] : List Value).toArray s = true := fun z hz => hK.1 z hz _
  have hKv := hK.2.1
  have hS : va_S (mA am) s.heap s.heap [] := va_S.rf
  have hP : va_P w.D cls (mw w am S) s.heap := hP
  have hl : lv_has ls 8 [(0, .ref (am 0)), (1, .int v), (2, .int u)] := hl
  refine lv_aload_n hx hb d_M_join_0 rfl (lv_at hl 0 rfl) ?_
  refine lv_iload_n hx hb d_M_join_1 rfl (lv_at hl 1 rfl) ?_
  refine m_cV (ct_M_is w am hI S.1 S.2.1 S.2.2.1 S.2.2.2.1 S.2.2.2.2.1 S.2.2.2.2.2.1 S.2.2.2.2.2.2.1 S.2.2.2.2.2.2.2 v) hx hfl hK hb (by rw [hml]; exact hl.1) hown (hw _ mm_M_35) (hw _ mk_M_is) (hw _ mi_M_is) (hw _ mq_M_is) (show fx_N y_M_is 1 by decide +kernel) rfl ⟨Nat.le_of_ble_eq_true rfl, Nat.le_of_ble_eq_true rfl, Nat.le_of_ble_eq_true rfl, Nat.le_of_ble_eq_true rfl⟩ hP hS d_M_join_2 (fun H locs hP hS => ?_)
  have hP : va_P w.D cls (mw w am S) H := hP
  refine lv_if_eq (tgt := 70) hx hb d_M_join_5 rfl (fun h5 => ?_) (fun h5 => ?_)
  · have h5 := zI_eq0.mp h5
    rw [hn] at h5
    refine lv_iconst (v := nI 0) hx hb d_M_join_70 rfl ?_
    refine lv_istore_n hx hb d_M_join_71 rfl hl (by decide) rfl (fun ls hl => ?_)
    have hl : lv_has ls 8 [(3, .int (nI 0)), (0, .ref (am 0)), (1, .int v), (2, .int u)] := hl
    refine lv_aload_n hx hb d_M_join_72 rfl (lv_at hl 1 rfl) ?_
    refine lv_iload_n hx hb d_M_join_73 rfl (lv_at hl 0 rfl) ?_
    refine lv_if_ne (tgt := 81) hx hb d_M_join_74 rfl (fun h9 => absurd rfl h9) (fun _ => ?_)
    refine lv_iconst (v := nI 1) hx hb d_M_join_77 rfl ?_
    refine lv_goto (tgt := 111) hx hb d_M_join_78 rfl ?_
    refine m_rThr hI hA (nI 1) hx hfl hK hb (by rw [hml]; exact hl.1) hown (hw _ mm_M_50) ⟨Nat.le_of_ble_eq_true rfl, Nat.le_of_ble_eq_true rfl, Nat.le_of_ble_eq_true rfl, Nat.le_of_ble_eq_true rfl⟩ hP hS d_M_join_111 (fun S1 hA hT H locs hP hS => ?_)
    have hn : S1.1 = nI Vs.length := hA.1
    refine lv_if_eq (tgt := 119) hx hb d_M_join_114 rfl (fun h9 => absurd h9 (by rw [zI_t (by decide)]; decide)) (fun _ => ?_)
    refine lv_iconst (v := nI 0) hx hb d_M_join_117 rfl ?_
    exact fx_iret hx hb hr hlk hS.2.2 (Nat.le_of_ble_eq_true rfl) (Nat.le_of_ble_eq_true rfl) d_M_join_118 (⟨by rw [(show so_join Vs v u = (1, 0, Vs) from by unfold so_join; rw [mAbs_none hA h5])]; exact rfl, S1, hP, by rw [(show so_join Vs v u = (1, 0, Vs) from by unfold so_join; rw [mAbs_none hA h5])]; exact hA, by rw [(show so_join Vs v u = (1, 0, Vs) from by unfold so_join; rw [mAbs_none hA h5])]; exact hT⟩)
  · have h5 := zI_ne0.mp h5
    rw [hn] at h5
    obtain ⟨a, o, ea, ha, ga, ta⟩ := mAbs_at hA h5.1 h5.2
    subst ea
    have ca : (nI a).toNatClampNeg = a := nI_clamp (by omega)
    have hl : lv_has ls 8 [(0, .ref (am 0)), (1, .int (nI a)), (2, .int u)] := hl
    refine lv_aload_n hx hb d_M_join_8 rfl (lv_at hl 0 rfl) ?_
    refine lv_iload_n hx hb d_M_join_9 rfl (lv_at hl 2 rfl) ?_
    refine m_cV (ct_M_is w am hI S.1 S.2.1 S.2.2.1 S.2.2.2.1 S.2.2.2.2.1 S.2.2.2.2.2.1 S.2.2.2.2.2.2.1 S.2.2.2.2.2.2.2 u) hx hfl hK hb (by rw [hml]; exact hl.1) hown (hw _ mm_M_35) (hw _ mk_M_is) (hw _ mi_M_is) (hw _ mq_M_is) (show fx_N y_M_is 1 by decide +kernel) rfl ⟨Nat.le_of_ble_eq_true rfl, Nat.le_of_ble_eq_true rfl, Nat.le_of_ble_eq_true rfl, Nat.le_of_ble_eq_true rfl⟩ hP hS d_M_join_10 (fun H locs hP hS => ?_)
    have hP : va_P w.D cls (mw w am S) H := hP
    refine lv_if_eq (tgt := 70) hx hb d_M_join_13 rfl (fun h13 => ?_) (fun h13 => ?_)
    · have h13 := zI_eq0.mp h13
      rw [hn] at h13
      refine lv_iconst (v := nI 0) hx hb d_M_join_70 rfl ?_
      refine lv_istore_n hx hb d_M_join_71 rfl hl (by decide) rfl (fun ls hl => ?_)
      have hl : lv_has ls 8 [(3, .int (nI 0)), (0, .ref (am 0)), (1, .int (nI a)), (2, .int u)] := hl
      refine lv_aload_n hx hb d_M_join_72 rfl (lv_at hl 1 rfl) ?_
      refine lv_iload_n hx hb d_M_join_73 rfl (lv_at hl 0 rfl) ?_
      refine lv_if_ne (tgt := 81) hx hb d_M_join_74 rfl (fun h9 => absurd rfl h9) (fun _ => ?_)
      refine lv_iconst (v := nI 1) hx hb d_M_join_77 rfl ?_
      refine lv_goto (tgt := 111) hx hb d_M_join_78 rfl ?_
      refine m_rThr hI hA (nI 1) hx hfl hK hb (by rw [hml]; exact hl.1) hown (hw _ mm_M_50) ⟨Nat.le_of_ble_eq_true rfl, Nat.le_of_ble_eq_true rfl, Nat.le_of_ble_eq_true rfl, Nat.le_of_ble_eq_true rfl⟩ hP hS d_M_join_111 (fun S1 hA hT H locs hP hS => ?_)
      have hn : S1.1 = nI Vs.length := hA.1
      refine lv_if_eq (tgt := 119) hx hb d_M_join_114 rfl (fun h9 => absurd h9 (by rw [zI_t (by decide)]; decide)) (fun _ => ?_)
      refine lv_iconst (v := nI 0) hx hb d_M_join_117 rfl ?_
      exact fx_iret hx hb hr hlk hS.2.2 (Nat.le_of_ble_eq_true rfl) (Nat.le_of_ble_eq_true rfl) d_M_join_118 (⟨by rw [(show so_join Vs (nI a) u = (1, 0, Vs) from by unfold so_join; rw [ta, mAbs_none hA h13])]; exact rfl, S1, hP, by rw [(show so_join Vs (nI a) u = (1, 0, Vs) from by unfold so_join; rw [ta, mAbs_none hA h13])]; exact hA, by rw [(show so_join Vs (nI a) u = (1, 0, Vs) from by unfold so_join; rw [ta, mAbs_none hA h13])]; exact hT⟩)
    · have h13 := zI_ne0.mp h13
      rw [hn] at h13
      obtain ⟨b, q, eb, hb0, gb, tb⟩ := mAbs_at hA h13.1 h13.2
      subst eb
      have hl : lv_has ls 8 [(0, .ref (am 0)), (1, .int (nI a)), (2, .int (nI b))] := hl
      obtain ⟨ka, fa, sa, qa, xa, ya⟩ := hA.2.2.1 a o ga
      have ka : S.2.2.1 a = o.1 := ka
      have fa : S.2.2.2.1 a = o.2.1 := fa
      have sa : S.2.2.2.2.1 a = nI o.2.2.1.length := sa
      have la : o.2.2.1.length ≤ 100 := qa.1
      obtain ⟨kb, fb, sb, qb, xb, yb⟩ := hA.2.2.1 b q gb
      have kb : S.2.2.1 b = q.1 := kb
      have fb : S.2.2.2.1 b = q.2.1 := fb
      have sb : S.2.2.2.2.1 b = nI q.2.2.1.length := sb
      have lb : q.2.2.1.length ≤ 100 := qb.1
      refine lv_aload_n hx hb d_M_join_16 rfl (lv_at hl 0 rfl) ?_
      refine fx_get hx hb hown (kc_M hK _) hKv 1 (by decide) (hw _ mf_M_7) (fun _ h => h) (hP 0 _ rfl) rfl d_M_join_17 ?_
      refine lv_iload_n hx hb d_M_join_20 rfl (lv_at hl 1 rfl) ?_
      refine fx_iald (j := a) hx hb hKv 0 (hP 1 _ rfl) rfl (rfl) (by omega) (by decide) d_M_join_21 ?_
      refine lv_iconst (v := nI 1) hx hb d_M_join_22 rfl ?_
      refine lv_icmp_eq (tgt := 36) hx hb d_M_join_23 rfl (fun h23 => ?_) (fun h23 => ?_)
      · have h23 : o.1 = 1 := by rw [ka] at h23; exact h23
        refine lv_aload_n hx hb d_M_join_36 rfl (lv_at hl 0 rfl) ?_
        refine fx_get hx hb hown (kc_M hK _) hKv 1 (by decide) (hw _ mf_M_7) (fun _ h => h) (hP 0 _ rfl) rfl d_M_join_37 ?_
        refine lv_iload_n hx hb d_M_join_40 rfl (lv_at hl 1 rfl) ?_
        refine fx_iald (j := a) hx hb hKv 0 (hP 1 _ rfl) rfl (rfl) (by omega) (by decide) d_M_join_41 ?_
        refine lv_aload_n hx hb d_M_join_42 rfl (lv_at hl 0 rfl) ?_
        refine fx_get hx hb hown (kc_M hK _) hKv 1 (by decide) (hw _ mf_M_7) (fun _ h => h) (hP 0 _ rfl) rfl d_M_join_43 ?_
        refine lv_iload_n hx hb d_M_join_46 rfl (lv_at hl 2 rfl) ?_
        refine fx_iald (j := b) hx hb hKv 0 (hP 1 _ rfl) rfl (rfl) (by omega) (by decide) d_M_join_47 ?_
        refine lv_icmp_ne (tgt := 70) hx hb d_M_join_48 rfl (fun h48 => ?_) (fun h48 => ?_)
        · have h48 : ¬ o.1 = q.1 := by rw [ka, kb] at h48; exact h48
          refine lv_iconst (v := nI 0) hx hb d_M_join_70 rfl ?_
          refine lv_istore_n hx hb d_M_join_71 rfl hl (by decide) rfl (fun ls hl => ?_)
          have hl : lv_has ls 8 [(3, .int (nI 0)), (0, .ref (am 0)), (1, .int (nI a)), (2, .int (nI b))] := hl
          refine lv_aload_n hx hb d_M_join_72 rfl (lv_at hl 1 rfl) ?_
          refine lv_iload_n hx hb d_M_join_73 rfl (lv_at hl 0 rfl) ?_
          refine lv_if_ne (tgt := 81) hx hb d_M_join_74 rfl (fun h9 => absurd rfl h9) (fun _ => ?_)
          refine lv_iconst (v := nI 1) hx hb d_M_join_77 rfl ?_
          refine lv_goto (tgt := 111) hx hb d_M_join_78 rfl ?_
          refine m_rThr hI hA (nI 1) hx hfl hK hb (by rw [hml]; exact hl.1) hown (hw _ mm_M_50) ⟨Nat.le_of_ble_eq_true rfl, Nat.le_of_ble_eq_true rfl, Nat.le_of_ble_eq_true rfl, Nat.le_of_ble_eq_true rfl⟩ hP hS d_M_join_111 (fun S1 hA hT H locs hP hS => ?_)
          have hn : S1.1 = nI Vs.length := hA.1
          refine lv_if_eq (tgt := 119) hx hb d_M_join_114 rfl (fun h9 => absurd h9 (by rw [zI_t (by decide)]; decide)) (fun _ => ?_)
          refine lv_iconst (v := nI 0) hx hb d_M_join_117 rfl ?_
          exact fx_iret hx hb hr hlk hS.2.2 (Nat.le_of_ble_eq_true rfl) (Nat.le_of_ble_eq_true rfl) d_M_join_118 (⟨by rw [(show so_join Vs (nI a) (nI b) = (1, 0, Vs) from by unfold so_join; rw [ta, tb]; dsimp only; rw [if_neg (fun z => h48 z.2.1)])]; exact rfl, S1, hP, by rw [(show so_join Vs (nI a) (nI b) = (1, 0, Vs) from by unfold so_join; rw [ta, tb]; dsimp only; rw [if_neg (fun z => h48 z.2.1)])]; exact hA, by rw [(show so_join Vs (nI a) (nI b) = (1, 0, Vs) from by unfold so_join; rw [ta, tb]; dsimp only; rw [if_neg (fun z => h48 z.2.1)])]; exact hT⟩)
        · have h48 : o.1 = q.1 := by rw [ka, kb] at h48; exact h48
          refine lv_aload_n hx hb d_M_join_51 rfl (lv_at hl 0 rfl) ?_
          refine fx_get hx hb hown (kc_M hK _) hKv 2 (by decide) (hw _ mf_M_13) (fun _ h => h) (hP 0 _ rfl) rfl d_M_join_52 ?_
          refine lv_iload_n hx hb d_M_join_55 rfl (lv_at hl 1 rfl) ?_
          refine fx_iald (j := a) hx hb hKv 0 (hP 2 _ rfl) rfl (rfl) (by omega) (by decide) d_M_join_56 ?_
          refine lv_aload_n hx hb d_M_join_57 rfl (lv_at hl 0 rfl) ?_
          refine fx_get hx hb hown (kc_M hK _) hKv 2 (by decide) (hw _ mf_M_13) (fun _ h => h) (hP 0 _ rfl) rfl d_M_join_58 ?_
          refine lv_iload_n hx hb d_M_join_61 rfl (lv_at hl 2 rfl) ?_
          refine fx_iald (j := b) hx hb hKv 0 (hP 2 _ rfl) rfl (rfl) (by omega) (by decide) d_M_join_62 ?_
          refine lv_icmp_ne (tgt := 70) hx hb d_M_join_63 rfl (fun h63 => ?_) (fun h63 => ?_)
          · have h63 : ¬ o.2.1 = q.2.1 := by rw [fa, fb] at h63; exact h63
            refine lv_iconst (v := nI 0) hx hb d_M_join_70 rfl ?_
            refine lv_istore_n hx hb d_M_join_71 rfl hl (by decide) rfl (fun ls hl => ?_)
            have hl : lv_has ls 8 [(3, .int (nI 0)), (0, .ref (am 0)), (1, .int (nI a)), (2, .int (nI b))] := hl
            refine lv_aload_n hx hb d_M_join_72 rfl (lv_at hl 1 rfl) ?_
            refine lv_iload_n hx hb d_M_join_73 rfl (lv_at hl 0 rfl) ?_
            refine lv_if_ne (tgt := 81) hx hb d_M_join_74 rfl (fun h9 => absurd rfl h9) (fun _ => ?_)
            refine lv_iconst (v := nI 1) hx hb d_M_join_77 rfl ?_
            refine lv_goto (tgt := 111) hx hb d_M_join_78 rfl ?_
            refine m_rThr hI hA (nI 1) hx hfl hK hb (by rw [hml]; exact hl.1) hown (hw _ mm_M_50) ⟨Nat.le_of_ble_eq_true rfl, Nat.le_of_ble_eq_true rfl, Nat.le_of_ble_eq_true rfl, Nat.le_of_ble_eq_true rfl⟩ hP hS d_M_join_111 (fun S1 hA hT H locs hP hS => ?_)
            have hn : S1.1 = nI Vs.length := hA.1
            refine lv_if_eq (tgt := 119) hx hb d_M_join_114 rfl (fun h9 => absurd h9 (by rw [zI_t (by decide)]; decide)) (fun _ => ?_)
            refine lv_iconst (v := nI 0) hx hb d_M_join_117 rfl ?_
            exact fx_iret hx hb hr hlk hS.2.2 (Nat.le_of_ble_eq_true rfl) (Nat.le_of_ble_eq_true rfl) d_M_join_118 (⟨by rw [(show so_join Vs (nI a) (nI b) = (1, 0, Vs) from by unfold so_join; rw [ta, tb]; dsimp only; rw [if_neg (fun z => h63 z.2.2)])]; exact rfl, S1, hP, by rw [(show so_join Vs (nI a) (nI b) = (1, 0, Vs) from by unfold so_join; rw [ta, tb]; dsimp only; rw [if_neg (fun z => h63 z.2.2)])]; exact hA, by rw [(show so_join Vs (nI a) (nI b) = (1, 0, Vs) from by unfold so_join; rw [ta, tb]; dsimp only; rw [if_neg (fun z => h63 z.2.2)])]; exact hT⟩)
          · have h63 : o.2.1 = q.2.1 := by rw [fa, fb] at h63; exact h63
            refine lv_iconst (v := nI 1) hx hb d_M_join_66 rfl ?_
            refine lv_goto (tgt := 71) hx hb d_M_join_67 rfl ?_
            refine lv_istore_n hx hb d_M_join_71 rfl hl (by decide) rfl (fun ls hl => ?_)
            have hl : lv_has ls 8 [(3, .int (nI 1)), (0, .ref (am 0)), (1, .int (nI a)), (2, .int (nI b))] := hl
            refine lv_aload_n hx hb d_M_join_72 rfl (lv_at hl 1 rfl) ?_
            refine lv_iload_n hx hb d_M_join_73 rfl (lv_at hl 0 rfl) ?_
            refine lv_if_ne (tgt := 81) hx hb d_M_join_74 rfl (fun _ => ?_) (fun h9 => absurd h9 (by decide))
            refine lv_aload_n hx hb d_M_join_81 rfl (lv_at hl 1 rfl) ?_
            refine m_cV (ct_M_isFull w am hI S.1 S.2.1 S.2.2.1 S.2.2.2.1 S.2.2.2.2.1 S.2.2.2.2.2.1 S.2.2.2.2.2.2.1 S.2.2.2.2.2.2.2) hx hfl hK hb (by rw [hml]; exact hl.1) hown (hw _ mm_M_46) (hw _ mk_M_isFull) (hw _ mi_M_isFull) (hw _ mq_M_isFull) (show fx_N y_M_isFull 0 by decide +kernel) rfl ⟨Nat.le_of_ble_eq_true rfl, Nat.le_of_ble_eq_true rfl, Nat.le_of_ble_eq_true rfl, Nat.le_of_ble_eq_true rfl⟩ hP hS d_M_join_82 (fun H locs hP hS => ?_)
            have hP : va_P w.D cls (mw w am S) H := hP
            refine lv_if_ne (tgt := 106) hx hb d_M_join_85 rfl (fun h85 => ?_) (fun h85 => ?_)
            · have h85 : 64 ≤ Vs.length := by have := zI_ne0.mp h85; rw [hn] at this; exact (nI_leI (by decide) (by omega)).mp this
              refine lv_iconst (v := nI 2) hx hb d_M_join_106 rfl ?_
              refine lv_goto (tgt := 111) hx hb d_M_join_107 rfl ?_
              refine m_rThr hI hA (nI 2) hx hfl hK hb (by rw [hml]; exact hl.1) hown (hw _ mm_M_50) ⟨Nat.le_of_ble_eq_true rfl, Nat.le_of_ble_eq_true rfl, Nat.le_of_ble_eq_true rfl, Nat.le_of_ble_eq_true rfl⟩ hP hS d_M_join_111 (fun S1 hA hT H locs hP hS => ?_)
              have hn : S1.1 = nI Vs.length := hA.1
              refine lv_if_eq (tgt := 119) hx hb d_M_join_114 rfl (fun h9 => absurd h9 (by rw [zI_t (by decide)]; decide)) (fun _ => ?_)
              refine lv_iconst (v := nI 0) hx hb d_M_join_117 rfl ?_
              exact fx_iret hx hb hr hlk hS.2.2 (Nat.le_of_ble_eq_true rfl) (Nat.le_of_ble_eq_true rfl) d_M_join_118 (⟨by rw [(show so_join Vs (nI a) (nI b) = (2, 0, Vs) from by unfold so_join; rw [ta, tb]; dsimp only; rw [if_pos ⟨Or.inl h23, h48, h63⟩, if_pos (Or.inl h85)])]; exact rfl, S1, hP, by rw [(show so_join Vs (nI a) (nI b) = (2, 0, Vs) from by unfold so_join; rw [ta, tb]; dsimp only; rw [if_pos ⟨Or.inl h23, h48, h63⟩, if_pos (Or.inl h85)])]; exact hA, by rw [(show so_join Vs (nI a) (nI b) = (2, 0, Vs) from by unfold so_join; rw [ta, tb]; dsimp only; rw [if_pos ⟨Or.inl h23, h48, h63⟩, if_pos (Or.inl h85)])]; exact hT⟩)
            · have h85 : ¬ 64 ≤ Vs.length := fun z => zI_eq0.mp h85 (by rw [hn]; exact nI_le z (by omega))
              refine lv_aload_n hx hb d_M_join_88 rfl (lv_at hl 1 rfl) ?_
              refine fx_get hx hb hown (kc_M hK _) hKv 3 (by decide) (hw _ mf_M_16) (fun _ h => h) (hP 0 _ rfl) rfl d_M_join_89 ?_
              refine lv_iload_n hx hb d_M_join_92 rfl (lv_at hl 2 rfl) ?_
              refine fx_iald (j := a) hx hb hKv 0 (hP 3 _ rfl) rfl (rfl) (by omega) (by decide) d_M_join_93 ?_
              refine lv_aload_n hx hb d_M_join_94 rfl (lv_at hl 1 rfl) ?_
              refine fx_get hx hb hown (kc_M hK _) hKv 3 (by decide) (hw _ mf_M_16) (fun _ h => h) (hP 0 _ rfl) rfl d_M_join_95 ?_
              refine lv_iload_n hx hb d_M_join_98 rfl (lv_at hl 3 rfl) ?_
              refine fx_iald (j := b) hx hb hKv 0 (hP 3 _ rfl) rfl (rfl) (by omega) (by decide) d_M_join_99 ?_
              refine lv_iadd hx hb d_M_join_100 ?_
              refine fx_ti (y := nI (o.2.2.1.length + q.2.2.1.length)) (by rw [sa, sb]; exact nI_add _ _) ?_
              refine lv_bipush (v := nI 100) hx hb d_M_join_101 rfl ?_
              refine lv_icmp_le (tgt := 110) hx hb d_M_join_103 rfl (fun h103 => ?_) (fun h103 => ?_)
              · have h103 : o.2.2.1.length + q.2.2.1.length ≤ 100 := (nI_leI (by omega) (by decide)).mp h103
                refine lv_iconst (v := nI 0) hx hb d_M_join_110 rfl ?_
                refine m_rThr hI hA (nI 0) hx hfl hK hb (by rw [hml]; exact hl.1) hown (hw _ mm_M_50) ⟨Nat.le_of_ble_eq_true rfl, Nat.le_of_ble_eq_true rfl, Nat.le_of_ble_eq_true rfl, Nat.le_of_ble_eq_true rfl⟩ hP hS d_M_join_111 (fun S1 hA hT H locs hP hS => ?_)
                have hn : S1.1 = nI Vs.length := hA.1
                refine lv_if_eq (tgt := 119) hx hb d_M_join_114 rfl (fun _ => ?_) (fun h9 => absurd (zI_f (by decide)) h9)
                obtain ⟨ka, fa, sa, qa, xa, ya⟩ := hA.2.2.1 a o ga
                have ka : S1.2.2.1 a = o.1 := ka
                have fa : S1.2.2.2.1 a = o.2.1 := fa
                have sa : S1.2.2.2.2.1 a = nI o.2.2.1.length := sa
                have la : o.2.2.1.length ≤ 100 := qa.1
                obtain ⟨kb, fb, sb, qb, xb, yb⟩ := hA.2.2.1 b q gb
                have kb : S1.2.2.1 b = q.1 := kb
                have fb : S1.2.2.2.1 b = q.2.1 := fb
                have sb : S1.2.2.2.2.1 b = nI q.2.2.1.length := sb
                have lb : q.2.2.1.length ≤ 100 := qb.1
                have n3 : ¬ o.1 = 3 := by rw [h23]; decide
                refine lv_aload_n hx hb d_M_join_119 rfl (lv_at hl 1 rfl) ?_
                refine lv_aload_n hx hb d_M_join_120 rfl (lv_at hl 1 rfl) ?_
                refine fx_get hx hb hown (kc_M hK _) hKv 1 (by decide) (hw _ mf_M_7) (fun _ h => h) (hP 0 _ rfl) rfl d_M_join_121 ?_
                refine lv_iload_n hx hb d_M_join_124 rfl (lv_at hl 2 rfl) ?_
                refine fx_iald (j := a) hx hb hKv 0 (hP 1 _ rfl) rfl (rfl) (by omega) (by decide) d_M_join_125 ?_
                refine fx_ti (y := o.1) (ka) ?_
                refine lv_aload_n hx hb d_M_join_126 rfl (lv_at hl 1 rfl) ?_
                refine fx_get hx hb hown (kc_M hK _) hKv 2 (by decide) (hw _ mf_M_13) (fun _ h => h) (hP 0 _ rfl) rfl d_M_join_127 ?_
                refine lv_iload_n hx hb d_M_join_130 rfl (lv_at hl 2 rfl) ?_
                refine fx_iald (j := a) hx hb hKv 0 (hP 2 _ rfl) rfl (rfl) (by omega) (by decide) d_M_join_131 ?_
                refine fx_ti (y := o.2.1) (fa) ?_
                refine m_rCreate hI hA (by omega) (o.1) (o.2.1) hx hfl hK hb (by rw [hml]; exact hl.1) hown (hw _ mm_M_53) ⟨Nat.le_of_ble_eq_true rfl, Nat.le_of_ble_eq_true rfl, Nat.le_of_ble_eq_true rfl, Nat.le_of_ble_eq_true rfl⟩ hP hS d_M_join_132 (fun S2 hB hT1 H locs hP hS => ?_)
                have hT := hT1.trans hT
                refine lv_istore hx hb d_M_join_135 hl (by decide) rfl (fun ls hl => ?_)
                have hl : lv_has ls 8 [(4, .int (nI Vs.length)), (3, .int (nI 1)), (0, .ref (am 0)), (1, .int (nI a)), (2, .int (nI b))] := hl
                obtain ⟨ka, fa, sa, qa, xa, ya⟩ := hB.2.2.1 a o ga
                have ka : S2.2.2.1 a = o.1 := ka
                have fa : S2.2.2.2.1 a = o.2.1 := fa
                have sa : S2.2.2.2.2.1 a = nI o.2.2.1.length := sa
                have la : o.2.2.1.length ≤ 100 := qa.1
                obtain ⟨kb, fb, sb, qb, xb, yb⟩ := hB.2.2.1 b q gb
                have kb : S2.2.2.1 b = q.1 := kb
                have fb : S2.2.2.2.1 b = q.2.1 := fb
                have sb : S2.2.2.2.2.1 b = nI q.2.2.1.length := sb
                have lb : q.2.2.1.length ≤ 100 := qb.1
                refine lv_aload_n hx hb d_M_join_137 rfl (lv_at hl 2 rfl) ?_
                refine fx_get hx hb hown (kc_M hK _) hKv 1 (by decide) (hw _ mf_M_7) (fun _ h => h) (hP 0 _ rfl) rfl d_M_join_138 ?_
                refine lv_iload_n hx hb d_M_join_141 rfl (lv_at hl 3 rfl) ?_
                refine fx_iald (j := a) hx hb hKv 0 (hP 1 _ rfl) rfl (rfl) (by omega) (by decide) d_M_join_142 ?_
                refine lv_iconst (v := nI 4) hx hb d_M_join_143 rfl ?_
                refine lv_icmp_ne (tgt := 174) hx hb d_M_join_144 rfl (fun _ => ?_) (fun h9 => absurd (ka.symm.trans h9) (by rw [h23]; decide))
                refine lv_iconst (v := nI 0) hx hb d_M_join_174 rfl ?_
                refine lv_istore hx hb d_M_join_175 hl (by decide) rfl (fun ls hl => ?_)
                have hl : lv_has ls 8 [(5, .int (nI 0)), (4, .int (nI Vs.length)), (3, .int (nI 1)), (0, .ref (am 0)), (1, .int (nI a)), (2, .int (nI b))] := hl
                refine lv_iconst (v := nI 0) hx hb d_M_join_177 rfl ?_
                refine lv_istore hx hb d_M_join_178 hl (by decide) rfl (fun ls hl => ?_)
                have hl : lv_has ls 8 [(6, .int (nI 0)), (5, .int (nI 0)), (4, .int (nI Vs.length)), (3, .int (nI 1)), (0, .ref (am 0)), (1, .int (nI a)), (2, .int (nI b))] := hl
                refine fx_gen (fun Q0 hQ0 => ?_)
                have loop : ∀ (k i j : Nat), i ≤ o.2.2.1.length → j ≤ q.2.2.1.length → (o.2.2.1.length - i) + (q.2.2.1.length - j) = k → ∀ (S : mS) (out ks : List Int32), mB S Vs o.1 o.2.1 out ks → S.2.1 = nI 0 → out.length = i + j → out ++ sv_mg k (o.2.2.1.drop i) (q.2.2.1.drop j) = sv_mrg o.2.2.1 q.2.2.1 → ∀ (H : Heap) (locs : List Loc) (ls : Array Slot), va_P w.D cls (mw w am S) H → va_S (mA am) s.heap H locs → lv_has ls 8 [(6, .int (nI j)), (5, .int (nI i)), (4, .int (nI Vs.length)), (3, .int (nI 1)), (0, .ref (am 0)), (1, .int (nI a)), (2, .int (nI b))] → W p l e (rmK 3) s m (.ref (am 0) :: [.int (nI a), .int (nI b)] : List Value).toArray below meth c H locs 0 0 Q0 (F0 m 180 ls []) := by
                  intro k
                  induction k with
                  | zero =>
                    intro i j hil hjl hk S out ks hB hT hol hmg H locs ls hP hS hl
                    obtain ⟨ka, fa, sa, qa, xa, ya⟩ := hB.2.2.1 a o ga
                    have ka : S.2.2.1 a = o.1 := ka
                    have fa : S.2.2.2.1 a = o.2.1 := fa
                    have sa : S.2.2.2.2.1 a = nI o.2.2.1.length := sa
                    have la : o.2.2.1.length ≤ 100 := qa.1
                    obtain ⟨kb, fb, sb, qb, xb, yb⟩ := hB.2.2.1 b q gb
                    have kb : S.2.2.1 b = q.1 := kb
                    have fb : S.2.2.2.1 b = q.2.1 := fb
                    have sb : S.2.2.2.2.1 b = nI q.2.2.1.length := sb
                    have lb : q.2.2.1.length ≤ 100 := qb.1
                    have ei : i = o.2.2.1.length := by omega
                    have ej : j = q.2.2.1.length := by omega
                    have hF : mAbs S (Vs ++ [(o.1, o.2.1, sv_mrg o.2.2.1 q.2.2.1, o.2.2.2)]) := by have := mB_done hB o.2.2.2 (fun z => absurd z n3) qa.2.2; rw [← hmg, show sv_mg 0 (o.2.2.1.drop i) (q.2.2.1.drop j) = [] from rfl, List.append_nil]; exact this
                    rw [hQ0]
                    refine lv_iload hx hb d_M_join_180 (lv_at hl 1 rfl) ?_
                    refine lv_aload_n hx hb d_M_join_182 rfl (lv_at hl 4 rfl) ?_
                    refine fx_get hx hb hown (kc_M hK _) hKv 3 (by decide) (hw _ mf_M_16) (fun _ h => h) (hP 0 _ rfl) rfl d_M_join_183 ?_
                    refine lv_iload_n hx hb d_M_join_186 rfl (lv_at hl 5 rfl) ?_
                    refine fx_iald (j := a) hx hb hKv 0 (hP 3 _ rfl) rfl (rfl) (by omega) (by decide) d_M_join_187 ?_
                    refine lv_icmp_lt (tgt := 202) hx hb d_M_join_188 rfl (fun h9 => absurd h9 (by rw [sa, ei]; exact nI_nlt (Nat.le_refl _) (by omega))) (fun _ => ?_)
                    refine lv_iload hx hb d_M_join_191 (lv_at hl 0 rfl) ?_
                    refine lv_aload_n hx hb d_M_join_193 rfl (lv_at hl 4 rfl) ?_
                    refine fx_get hx hb hown (kc_M hK _) hKv 3 (by decide) (hw _ mf_M_16) (fun _ h => h) (hP 0 _ rfl) rfl d_M_join_194 ?_
                    refine lv_iload_n hx hb d_M_join_197 rfl (lv_at hl 6 rfl) ?_
                    refine fx_iald (j := b) hx hb hKv 0 (hP 3 _ rfl) rfl (rfl) (by omega) (by decide) d_M_join_198 ?_
                    refine lv_icmp_ge (tgt := 330) hx hb d_M_join_199 rfl (fun _ => ?_) (fun h9 => absurd (by rw [sb, ej]; exact nI_le (Nat.le_refl _) (by omega)) h9)
                    refine lv_iload hx hb d_M_join_330 (lv_at hl 2 rfl) ?_
                    exact fx_iret hx hb hr hlk hS.2.2 (Nat.le_of_ble_eq_true rfl) (Nat.le_of_ble_eq_true rfl) d_M_join_332 (⟨by rw [(show so_join Vs (nI a) (nI b) = sv_new Vs (o.1, o.2.1, sv_mrg o.2.2.1 q.2.2.1, o.2.2.2) from by unfold so_join; rw [ta, tb]; dsimp only; rw [if_pos ⟨Or.inl h23, h48, h63⟩, if_neg (fun z => z.elim h85 (by omega)), if_neg (by rw [h23]; decide)])]; exact rfl, S, hP, by rw [(show so_join Vs (nI a) (nI b) = sv_new Vs (o.1, o.2.1, sv_mrg o.2.2.1 q.2.2.1, o.2.2.2) from by unfold so_join; rw [ta, tb]; dsimp only; rw [if_pos ⟨Or.inl h23, h48, h63⟩, if_neg (fun z => z.elim h85 (by omega)), if_neg (by rw [h23]; decide)])]; exact hF, by rw [(show so_join Vs (nI a) (nI b) = sv_new Vs (o.1, o.2.1, sv_mrg o.2.2.1 q.2.2.1, o.2.2.2) from by unfold so_join; rw [ta, tb]; dsimp only; rw [if_pos ⟨Or.inl h23, h48, h63⟩, if_neg (fun z => z.elim h85 (by omega)), if_neg (by rw [h23]; decide)])]; exact hT⟩)
                  | succ k ih =>
                    intro i j hil hjl hk S out ks hB hT hol hmg H locs ls hP hS hl
                    obtain ⟨ka, fa, sa, qa, xa, ya⟩ := hB.2.2.1 a o ga
                    have ka : S.2.2.1 a = o.1 := ka
                    have fa : S.2.2.2.1 a = o.2.1 := fa
                    have sa : S.2.2.2.2.1 a = nI o.2.2.1.length := sa
                    have la : o.2.2.1.length ≤ 100 := qa.1
                    obtain ⟨kb, fb, sb, qb, xb, yb⟩ := hB.2.2.1 b q gb
                    have kb : S.2.2.1 b = q.1 := kb
                    have fb : S.2.2.2.1 b = q.2.1 := fb
                    have sb : S.2.2.2.2.1 b = nI q.2.2.1.length := sb
                    have lb : q.2.2.1.length ≤ 100 := qb.1
                    refine lv_iload hx hb d_M_join_180 (lv_at hl 1 rfl) ?_
                    refine lv_aload_n hx hb d_M_join_182 rfl (lv_at hl 4 rfl) ?_
                    refine fx_get hx hb hown (kc_M hK _) hKv 3 (by decide) (hw _ mf_M_16) (fun _ h => h) (hP 0 _ rfl) rfl d_M_join_183 ?_
                    refine lv_iload_n hx hb d_M_join_186 rfl (lv_at hl 5 rfl) ?_
                    refine fx_iald (j := a) hx hb hKv 0 (hP 3 _ rfl) rfl (rfl) (by omega) (by decide) d_M_join_187 ?_
                    refine lv_icmp_lt (tgt := 202) hx hb d_M_join_188 rfl (fun h188 => ?_) (fun h188 => ?_)
                    · have hi : i < o.2.2.1.length := by rw [sa] at h188; exact (nI_ltI (by omega) (by omega)).mp h188
                      refine lv_iload hx hb d_M_join_202 (lv_at hl 0 rfl) ?_
                      refine lv_aload_n hx hb d_M_join_204 rfl (lv_at hl 4 rfl) ?_
                      refine fx_get hx hb hown (kc_M hK _) hKv 3 (by decide) (hw _ mf_M_16) (fun _ h => h) (hP 0 _ rfl) rfl d_M_join_205 ?_
                      refine lv_iload_n hx hb d_M_join_208 rfl (lv_at hl 6 rfl) ?_
                      refine fx_iald (j := b) hx hb hKv 0 (hP 3 _ rfl) rfl (rfl) (by omega) (by decide) d_M_join_209 ?_
                      refine lv_icmp_eq (tgt := 251) hx hb d_M_join_210 rfl (fun h210 => ?_) (fun h210 => ?_)
                      · have hj : j = q.2.2.1.length := by rw [sb] at h210; exact (nI_eq (by omega) (by omega)).mp h210
                        refine lv_iconst (v := nI 1) hx hb d_M_join_251 rfl ?_
                        refine lv_goto (tgt := 256) hx hb d_M_join_252 rfl ?_
                        refine lv_istore hx hb d_M_join_256 hl (by decide) rfl (fun ls hl => ?_)
                        have hl : lv_has ls 8 [(7, .int (nI 1)), (6, .int (nI j)), (5, .int (nI i)), (4, .int (nI Vs.length)), (3, .int (nI 1)), (0, .ref (am 0)), (1, .int (nI a)), (2, .int (nI b))] := hl
                        refine lv_aload_n hx hb d_M_join_258 rfl (lv_at hl 5 rfl) ?_
                        refine lv_iconst (v := nI 0) hx hb d_M_join_259 rfl ?_
                        refine lv_iload hx hb d_M_join_260 (lv_at hl 0 rfl) ?_
                        refine lv_if_eq (tgt := 280) hx hb d_M_join_262 rfl (fun h9 => absurd h9 (by decide)) (fun _ => ?_)
                        refine lv_aload_n hx hb d_M_join_265 rfl (lv_at hl 5 rfl) ?_
                        refine fx_get hx hb hown (kc_M hK _) hKv 4 (by decide) (hw _ mf_M_19) (fun _ h => h) (hP 0 _ rfl) rfl d_M_join_266 ?_
                        refine lv_bipush (v := nI 100) hx hb d_M_join_269 rfl ?_
                        refine lv_iload_n hx hb d_M_join_271 rfl (lv_at hl 6 rfl) ?_
                        refine lv_imul hx hb d_M_join_272 ?_
                        refine fx_ti (y := nI (100 * a)) (pk_mul 100 a) ?_
                        refine lv_iload hx hb d_M_join_273 (lv_at hl 2 rfl) ?_
                        refine lv_iadd hx hb d_M_join_275 ?_
                        refine fx_ti (y := nI (100 * a + i)) (nI_add _ _) ?_
                        refine fx_iald (j := 100 * a + i) hx hb hKv 0 (hP 4 _ rfl) rfl (rfl) (by omega) (by decide) d_M_join_276 ?_
                        refine fx_ti (y := o.2.2.1.getD i 0) (xa i (by omega)) ?_
                        refine lv_goto (tgt := 292) hx hb d_M_join_277 rfl ?_
                        refine m_rPut hI hB (by omega) (nI 0) (o.2.2.1.getD i 0) hx hfl hK hb (by rw [hml]; exact hl.1) hown (hw _ mm_M_42) ⟨Nat.le_of_ble_eq_true rfl, Nat.le_of_ble_eq_true rfl, Nat.le_of_ble_eq_true rfl, Nat.le_of_ble_eq_true rfl⟩ hP hS d_M_join_292 (fun S51 hB hT1 H locs hP hS => ?_)
                        have hT := hT1.trans hT
                        refine lv_iload hx hb d_M_join_295 (lv_at hl 0 rfl) ?_
                        refine lv_if_eq (tgt := 307) hx hb d_M_join_297 rfl (fun h9 => absurd h9 (by decide)) (fun _ => ?_)
                        refine lv_iload hx hb d_M_join_300 (lv_at hl 2 rfl) ?_
                        refine lv_iconst (v := nI 1) hx hb d_M_join_302 rfl ?_
                        refine lv_iadd hx hb d_M_join_303 ?_
                        refine fx_ti (y := nI (i + 1)) (nI_1 i) ?_
                        refine lv_goto (tgt := 309) hx hb d_M_join_304 rfl ?_
                        refine lv_istore hx hb d_M_join_309 hl (by decide) rfl (fun ls hl => ?_)
                        have hl : lv_has ls 8 [(5, .int (nI (i + 1))), (7, .int (nI 1)), (6, .int (nI j)), (4, .int (nI Vs.length)), (3, .int (nI 1)), (0, .ref (am 0)), (1, .int (nI a)), (2, .int (nI b))] := hl
                        refine lv_iload hx hb d_M_join_311 (lv_at hl 1 rfl) ?_
                        refine lv_if_eq (tgt := 321) hx hb d_M_join_313 rfl (fun h9 => absurd h9 (by decide)) (fun _ => ?_)
                        refine lv_iload hx hb d_M_join_316 (lv_at hl 2 rfl) ?_
                        refine lv_goto (tgt := 325) hx hb d_M_join_318 rfl ?_
                        refine lv_istore hx hb d_M_join_325 hl (by decide) rfl (fun ls hl => ?_)
                        have hl : lv_has ls 8 [(6, .int (nI j)), (5, .int (nI (i + 1))), (7, .int (nI 1)), (4, .int (nI Vs.length)), (3, .int (nI 1)), (0, .ref (am 0)), (1, .int (nI a)), (2, .int (nI b))] := hl
                        refine lv_goto (tgt := 180) hx hb d_M_join_327 rfl ?_
                        exact ih (i + 1) j (by omega) hjl (by omega) S51 _ _ hB hT (by rw [List.length_append, hol]; show i + j + 1 = _; omega) (mg_l (by omega) (Or.inl hj) hmg) H locs ls hP hS (lv_sub hl [0, 1, 3, 4, 5, 6, 7] rfl)
                      · have hj : j < q.2.2.1.length := by rw [sb] at h210; exact Nat.lt_of_le_of_ne hjl (fun z => h210 (by rw [z]))
                        refine lv_iload hx hb d_M_join_213 (lv_at hl 1 rfl) ?_
                        refine lv_aload_n hx hb d_M_join_215 rfl (lv_at hl 4 rfl) ?_
                        refine fx_get hx hb hown (kc_M hK _) hKv 3 (by decide) (hw _ mf_M_16) (fun _ h => h) (hP 0 _ rfl) rfl d_M_join_216 ?_
                        refine lv_iload_n hx hb d_M_join_219 rfl (lv_at hl 5 rfl) ?_
                        refine fx_iald (j := a) hx hb hKv 0 (hP 3 _ rfl) rfl (rfl) (by omega) (by decide) d_M_join_220 ?_
                        refine lv_icmp_ge (tgt := 255) hx hb d_M_join_221 rfl (fun h221 => ?_) (fun h221 => ?_)
                        · have hi2 : o.2.2.1.length ≤ i := by rw [sa] at h221; exact (nI_leI (by omega) (by omega)).mp h221
                          exact absurd hi (by omega)
                        · have hi2 : i < o.2.2.1.length := by rw [sa] at h221; exact Nat.not_le.mp (fun z => h221 (nI_le z (by omega)))
                          refine lv_aload_n hx hb d_M_join_224 rfl (lv_at hl 4 rfl) ?_
                          refine fx_get hx hb hown (kc_M hK _) hKv 4 (by decide) (hw _ mf_M_19) (fun _ h => h) (hP 0 _ rfl) rfl d_M_join_225 ?_
                          refine lv_bipush (v := nI 100) hx hb d_M_join_228 rfl ?_
                          refine lv_iload_n hx hb d_M_join_230 rfl (lv_at hl 5 rfl) ?_
                          refine lv_imul hx hb d_M_join_231 ?_
                          refine fx_ti (y := nI (100 * a)) (pk_mul 100 a) ?_
                          refine lv_iload hx hb d_M_join_232 (lv_at hl 1 rfl) ?_
                          refine lv_iadd hx hb d_M_join_234 ?_
                          refine fx_ti (y := nI (100 * a + i)) (nI_add _ _) ?_
                          refine fx_iald (j := 100 * a + i) hx hb hKv 0 (hP 4 _ rfl) rfl (rfl) (by omega) (by decide) d_M_join_235 ?_
                          refine lv_aload_n hx hb d_M_join_236 rfl (lv_at hl 4 rfl) ?_
                          refine fx_get hx hb hown (kc_M hK _) hKv 4 (by decide) (hw _ mf_M_19) (fun _ h => h) (hP 0 _ rfl) rfl d_M_join_237 ?_
                          refine lv_bipush (v := nI 100) hx hb d_M_join_240 rfl ?_
                          refine lv_iload_n hx hb d_M_join_242 rfl (lv_at hl 6 rfl) ?_
                          refine lv_imul hx hb d_M_join_243 ?_
                          refine fx_ti (y := nI (100 * b)) (pk_mul 100 b) ?_
                          refine lv_iload hx hb d_M_join_244 (lv_at hl 0 rfl) ?_
                          refine lv_iadd hx hb d_M_join_246 ?_
                          refine fx_ti (y := nI (100 * b + j)) (nI_add _ _) ?_
                          refine fx_iald (j := 100 * b + j) hx hb hKv 0 (hP 4 _ rfl) rfl (rfl) (by omega) (by decide) d_M_join_247 ?_
                          refine lv_icmp_gt (tgt := 255) hx hb d_M_join_248 rfl (fun h248 => ?_) (fun h248 => ?_)
                          · have h248 : ¬ o.2.2.1.getD i 0 ≤ q.2.2.1.getD j 0 := by rw [xa i hi, xb j hj] at h248; exact Int32.not_le.mpr h248
                            refine lv_iconst (v := nI 0) hx hb d_M_join_255 rfl ?_
                            refine lv_istore hx hb d_M_join_256 hl (by decide) rfl (fun ls hl => ?_)
                            have hl : lv_has ls 8 [(7, .int (nI 0)), (6, .int (nI j)), (5, .int (nI i)), (4, .int (nI Vs.length)), (3, .int (nI 1)), (0, .ref (am 0)), (1, .int (nI a)), (2, .int (nI b))] := hl
                            refine lv_aload_n hx hb d_M_join_258 rfl (lv_at hl 5 rfl) ?_
                            refine lv_iconst (v := nI 0) hx hb d_M_join_259 rfl ?_
                            refine lv_iload hx hb d_M_join_260 (lv_at hl 0 rfl) ?_
                            refine lv_if_eq (tgt := 280) hx hb d_M_join_262 rfl (fun _ => ?_) (fun h9 => absurd rfl h9)
                            refine lv_aload_n hx hb d_M_join_280 rfl (lv_at hl 5 rfl) ?_
                            refine fx_get hx hb hown (kc_M hK _) hKv 4 (by decide) (hw _ mf_M_19) (fun _ h => h) (hP 0 _ rfl) rfl d_M_join_281 ?_
                            refine lv_bipush (v := nI 100) hx hb d_M_join_284 rfl ?_
                            refine lv_iload_n hx hb d_M_join_286 rfl (lv_at hl 7 rfl) ?_
                            refine lv_imul hx hb d_M_join_287 ?_
                            refine fx_ti (y := nI (100 * b)) (pk_mul 100 b) ?_
                            refine lv_iload hx hb d_M_join_288 (lv_at hl 1 rfl) ?_
                            refine lv_iadd hx hb d_M_join_290 ?_
                            refine fx_ti (y := nI (100 * b + j)) (nI_add _ _) ?_
                            refine fx_iald (j := 100 * b + j) hx hb hKv 0 (hP 4 _ rfl) rfl (rfl) (by omega) (by decide) d_M_join_291 ?_
                            refine fx_ti (y := q.2.2.1.getD j 0) (xb j (by omega)) ?_
                            refine m_rPut hI hB (by omega) (nI 0) (q.2.2.1.getD j 0) hx hfl hK hb (by rw [hml]; exact hl.1) hown (hw _ mm_M_42) ⟨Nat.le_of_ble_eq_true rfl, Nat.le_of_ble_eq_true rfl, Nat.le_of_ble_eq_true rfl, Nat.le_of_ble_eq_true rfl⟩ hP hS d_M_join_292 (fun S51 hB hT1 H locs hP hS => ?_)
                            have hT := hT1.trans hT
                            refine lv_iload hx hb d_M_join_295 (lv_at hl 0 rfl) ?_
                            refine lv_if_eq (tgt := 307) hx hb d_M_join_297 rfl (fun _ => ?_) (fun h9 => absurd rfl h9)
                            refine lv_iload hx hb d_M_join_307 (lv_at hl 2 rfl) ?_
                            refine lv_istore hx hb d_M_join_309 hl (by decide) rfl (fun ls hl => ?_)
                            have hl : lv_has ls 8 [(5, .int (nI i)), (7, .int (nI 0)), (6, .int (nI j)), (4, .int (nI Vs.length)), (3, .int (nI 1)), (0, .ref (am 0)), (1, .int (nI a)), (2, .int (nI b))] := hl
                            refine lv_iload hx hb d_M_join_311 (lv_at hl 1 rfl) ?_
                            refine lv_if_eq (tgt := 321) hx hb d_M_join_313 rfl (fun _ => ?_) (fun h9 => absurd rfl h9)
                            refine lv_iload hx hb d_M_join_321 (lv_at hl 2 rfl) ?_
                            refine lv_iconst (v := nI 1) hx hb d_M_join_323 rfl ?_
                            refine lv_iadd hx hb d_M_join_324 ?_
                            refine fx_ti (y := nI (j + 1)) (nI_1 j) ?_
                            refine lv_istore hx hb d_M_join_325 hl (by decide) rfl (fun ls hl => ?_)
                            have hl : lv_has ls 8 [(6, .int (nI (j + 1))), (5, .int (nI i)), (7, .int (nI 0)), (4, .int (nI Vs.length)), (3, .int (nI 1)), (0, .ref (am 0)), (1, .int (nI a)), (2, .int (nI b))] := hl
                            refine lv_goto (tgt := 180) hx hb d_M_join_327 rfl ?_
                            exact ih i (j + 1) hil (by omega) (by omega) S51 _ _ hB hT (by rw [List.length_append, hol]; show i + j + 1 = _; omega) (mg_r (by omega) (Or.inr h248) hmg) H locs ls hP hS (lv_sub hl [0, 1, 3, 4, 5, 6, 7] rfl)
                          · have h248 : o.2.2.1.getD i 0 ≤ q.2.2.1.getD j 0 := by rw [xa i hi, xb j hj] at h248; exact Int32.not_lt.mp h248
                            refine lv_iconst (v := nI 1) hx hb d_M_join_251 rfl ?_
                            refine lv_goto (tgt := 256) hx hb d_M_join_252 rfl ?_
                            refine lv_istore hx hb d_M_join_256 hl (by decide) rfl (fun ls hl => ?_)
                            have hl : lv_has ls 8 [(7, .int (nI 1)), (6, .int (nI j)), (5, .int (nI i)), (4, .int (nI Vs.length)), (3, .int (nI 1)), (0, .ref (am 0)), (1, .int (nI a)), (2, .int (nI b))] := hl
                            refine lv_aload_n hx hb d_M_join_258 rfl (lv_at hl 5 rfl) ?_
                            refine lv_iconst (v := nI 0) hx hb d_M_join_259 rfl ?_
                            refine lv_iload hx hb d_M_join_260 (lv_at hl 0 rfl) ?_
                            refine lv_if_eq (tgt := 280) hx hb d_M_join_262 rfl (fun h9 => absurd h9 (by decide)) (fun _ => ?_)
                            refine lv_aload_n hx hb d_M_join_265 rfl (lv_at hl 5 rfl) ?_
                            refine fx_get hx hb hown (kc_M hK _) hKv 4 (by decide) (hw _ mf_M_19) (fun _ h => h) (hP 0 _ rfl) rfl d_M_join_266 ?_
                            refine lv_bipush (v := nI 100) hx hb d_M_join_269 rfl ?_
                            refine lv_iload_n hx hb d_M_join_271 rfl (lv_at hl 6 rfl) ?_
                            refine lv_imul hx hb d_M_join_272 ?_
                            refine fx_ti (y := nI (100 * a)) (pk_mul 100 a) ?_
                            refine lv_iload hx hb d_M_join_273 (lv_at hl 2 rfl) ?_
                            refine lv_iadd hx hb d_M_join_275 ?_
                            refine fx_ti (y := nI (100 * a + i)) (nI_add _ _) ?_
                            refine fx_iald (j := 100 * a + i) hx hb hKv 0 (hP 4 _ rfl) rfl (rfl) (by omega) (by decide) d_M_join_276 ?_
                            refine fx_ti (y := o.2.2.1.getD i 0) (xa i (by omega)) ?_
                            refine lv_goto (tgt := 292) hx hb d_M_join_277 rfl ?_
                            refine m_rPut hI hB (by omega) (nI 0) (o.2.2.1.getD i 0) hx hfl hK hb (by rw [hml]; exact hl.1) hown (hw _ mm_M_42) ⟨Nat.le_of_ble_eq_true rfl, Nat.le_of_ble_eq_true rfl, Nat.le_of_ble_eq_true rfl, Nat.le_of_ble_eq_true rfl⟩ hP hS d_M_join_292 (fun S51 hB hT1 H locs hP hS => ?_)
                            have hT := hT1.trans hT
                            refine lv_iload hx hb d_M_join_295 (lv_at hl 0 rfl) ?_
                            refine lv_if_eq (tgt := 307) hx hb d_M_join_297 rfl (fun h9 => absurd h9 (by decide)) (fun _ => ?_)
                            refine lv_iload hx hb d_M_join_300 (lv_at hl 2 rfl) ?_
                            refine lv_iconst (v := nI 1) hx hb d_M_join_302 rfl ?_
                            refine lv_iadd hx hb d_M_join_303 ?_
                            refine fx_ti (y := nI (i + 1)) (nI_1 i) ?_
                            refine lv_goto (tgt := 309) hx hb d_M_join_304 rfl ?_
                            refine lv_istore hx hb d_M_join_309 hl (by decide) rfl (fun ls hl => ?_)
                            have hl : lv_has ls 8 [(5, .int (nI (i + 1))), (7, .int (nI 1)), (6, .int (nI j)), (4, .int (nI Vs.length)), (3, .int (nI 1)), (0, .ref (am 0)), (1, .int (nI a)), (2, .int (nI b))] := hl
                            refine lv_iload hx hb d_M_join_311 (lv_at hl 1 rfl) ?_
                            refine lv_if_eq (tgt := 321) hx hb d_M_join_313 rfl (fun h9 => absurd h9 (by decide)) (fun _ => ?_)
                            refine lv_iload hx hb d_M_join_316 (lv_at hl 2 rfl) ?_
                            refine lv_goto (tgt := 325) hx hb d_M_join_318 rfl ?_
                            refine lv_istore hx hb d_M_join_325 hl (by decide) rfl (fun ls hl => ?_)
                            have hl : lv_has ls 8 [(6, .int (nI j)), (5, .int (nI (i + 1))), (7, .int (nI 1)), (4, .int (nI Vs.length)), (3, .int (nI 1)), (0, .ref (am 0)), (1, .int (nI a)), (2, .int (nI b))] := hl
                            refine lv_goto (tgt := 180) hx hb d_M_join_327 rfl ?_
                            exact ih (i + 1) j (by omega) hjl (by omega) S51 _ _ hB hT (by rw [List.length_append, hol]; show i + j + 1 = _; omega) (mg_l (by omega) (Or.inr h248) hmg) H locs ls hP hS (lv_sub hl [0, 1, 3, 4, 5, 6, 7] rfl)
                    · have hi : i = o.2.2.1.length := by rw [sa] at h188; exact Nat.le_antisymm hil (Nat.not_lt.mp (fun z => h188 (nI_lt z (by omega))))
                      refine lv_iload hx hb d_M_join_191 (lv_at hl 0 rfl) ?_
                      refine lv_aload_n hx hb d_M_join_193 rfl (lv_at hl 4 rfl) ?_
                      refine fx_get hx hb hown (kc_M hK _) hKv 3 (by decide) (hw _ mf_M_16) (fun _ h => h) (hP 0 _ rfl) rfl d_M_join_194 ?_
                      refine lv_iload_n hx hb d_M_join_197 rfl (lv_at hl 6 rfl) ?_
                      refine fx_iald (j := b) hx hb hKv 0 (hP 3 _ rfl) rfl (rfl) (by omega) (by decide) d_M_join_198 ?_
                      refine lv_icmp_ge (tgt := 330) hx hb d_M_join_199 rfl (fun h199 => ?_) (fun h199 => ?_)
                      · rw [sb] at h199
                        have h199 := (nI_leI (by omega) (by omega)).mp h199
                        exact absurd hk (by omega)
                      · have hj0 : j < q.2.2.1.length := by rw [sb] at h199; exact Nat.not_le.mp (fun z => h199 (nI_le z (by omega)))
                        refine lv_iload hx hb d_M_join_202 (lv_at hl 0 rfl) ?_
                        refine lv_aload_n hx hb d_M_join_204 rfl (lv_at hl 4 rfl) ?_
                        refine fx_get hx hb hown (kc_M hK _) hKv 3 (by decide) (hw _ mf_M_16) (fun _ h => h) (hP 0 _ rfl) rfl d_M_join_205 ?_
                        refine lv_iload_n hx hb d_M_join_208 rfl (lv_at hl 6 rfl) ?_
                        refine fx_iald (j := b) hx hb hKv 0 (hP 3 _ rfl) rfl (rfl) (by omega) (by decide) d_M_join_209 ?_
                        refine lv_icmp_eq (tgt := 251) hx hb d_M_join_210 rfl (fun h210 => ?_) (fun h210 => ?_)
                        · have hj : j = q.2.2.1.length := by rw [sb] at h210; exact (nI_eq (by omega) (by omega)).mp h210
                          exact absurd hk (by omega)
                        · have hj : j < q.2.2.1.length := by rw [sb] at h210; exact Nat.lt_of_le_of_ne hjl (fun z => h210 (by rw [z]))
                          refine lv_iload hx hb d_M_join_213 (lv_at hl 1 rfl) ?_
                          refine lv_aload_n hx hb d_M_join_215 rfl (lv_at hl 4 rfl) ?_
                          refine fx_get hx hb hown (kc_M hK _) hKv 3 (by decide) (hw _ mf_M_16) (fun _ h => h) (hP 0 _ rfl) rfl d_M_join_216 ?_
                          refine lv_iload_n hx hb d_M_join_219 rfl (lv_at hl 5 rfl) ?_
                          refine fx_iald (j := a) hx hb hKv 0 (hP 3 _ rfl) rfl (rfl) (by omega) (by decide) d_M_join_220 ?_
                          refine lv_icmp_ge (tgt := 255) hx hb d_M_join_221 rfl (fun h221 => ?_) (fun h221 => ?_)
                          · have hi2 : o.2.2.1.length ≤ i := by rw [sa] at h221; exact (nI_leI (by omega) (by omega)).mp h221
                            refine lv_iconst (v := nI 0) hx hb d_M_join_255 rfl ?_
                            refine lv_istore hx hb d_M_join_256 hl (by decide) rfl (fun ls hl => ?_)
                            have hl : lv_has ls 8 [(7, .int (nI 0)), (6, .int (nI j)), (5, .int (nI i)), (4, .int (nI Vs.length)), (3, .int (nI 1)), (0, .ref (am 0)), (1, .int (nI a)), (2, .int (nI b))] := hl
                            refine lv_aload_n hx hb d_M_join_258 rfl (lv_at hl 5 rfl) ?_
                            refine lv_iconst (v := nI 0) hx hb d_M_join_259 rfl ?_
                            refine lv_iload hx hb d_M_join_260 (lv_at hl 0 rfl) ?_
                            refine lv_if_eq (tgt := 280) hx hb d_M_join_262 rfl (fun _ => ?_) (fun h9 => absurd rfl h9)
                            refine lv_aload_n hx hb d_M_join_280 rfl (lv_at hl 5 rfl) ?_
                            refine fx_get hx hb hown (kc_M hK _) hKv 4 (by decide) (hw _ mf_M_19) (fun _ h => h) (hP 0 _ rfl) rfl d_M_join_281 ?_
                            refine lv_bipush (v := nI 100) hx hb d_M_join_284 rfl ?_
                            refine lv_iload_n hx hb d_M_join_286 rfl (lv_at hl 7 rfl) ?_
                            refine lv_imul hx hb d_M_join_287 ?_
                            refine fx_ti (y := nI (100 * b)) (pk_mul 100 b) ?_
                            refine lv_iload hx hb d_M_join_288 (lv_at hl 1 rfl) ?_
                            refine lv_iadd hx hb d_M_join_290 ?_
                            refine fx_ti (y := nI (100 * b + j)) (nI_add _ _) ?_
                            refine fx_iald (j := 100 * b + j) hx hb hKv 0 (hP 4 _ rfl) rfl (rfl) (by omega) (by decide) d_M_join_291 ?_
                            refine fx_ti (y := q.2.2.1.getD j 0) (xb j (by omega)) ?_
                            refine m_rPut hI hB (by omega) (nI 0) (q.2.2.1.getD j 0) hx hfl hK hb (by rw [hml]; exact hl.1) hown (hw _ mm_M_42) ⟨Nat.le_of_ble_eq_true rfl, Nat.le_of_ble_eq_true rfl, Nat.le_of_ble_eq_true rfl, Nat.le_of_ble_eq_true rfl⟩ hP hS d_M_join_292 (fun S51 hB hT1 H locs hP hS => ?_)
                            have hT := hT1.trans hT
                            refine lv_iload hx hb d_M_join_295 (lv_at hl 0 rfl) ?_
                            refine lv_if_eq (tgt := 307) hx hb d_M_join_297 rfl (fun _ => ?_) (fun h9 => absurd rfl h9)
                            refine lv_iload hx hb d_M_join_307 (lv_at hl 2 rfl) ?_
                            refine lv_istore hx hb d_M_join_309 hl (by decide) rfl (fun ls hl => ?_)
                            have hl : lv_has ls 8 [(5, .int (nI i)), (7, .int (nI 0)), (6, .int (nI j)), (4, .int (nI Vs.length)), (3, .int (nI 1)), (0, .ref (am 0)), (1, .int (nI a)), (2, .int (nI b))] := hl
                            refine lv_iload hx hb d_M_join_311 (lv_at hl 1 rfl) ?_
                            refine lv_if_eq (tgt := 321) hx hb d_M_join_313 rfl (fun _ => ?_) (fun h9 => absurd rfl h9)
                            refine lv_iload hx hb d_M_join_321 (lv_at hl 2 rfl) ?_
                            refine lv_iconst (v := nI 1) hx hb d_M_join_323 rfl ?_
                            refine lv_iadd hx hb d_M_join_324 ?_
                            refine fx_ti (y := nI (j + 1)) (nI_1 j) ?_
                            refine lv_istore hx hb d_M_join_325 hl (by decide) rfl (fun ls hl => ?_)
                            have hl : lv_has ls 8 [(6, .int (nI (j + 1))), (5, .int (nI i)), (7, .int (nI 0)), (4, .int (nI Vs.length)), (3, .int (nI 1)), (0, .ref (am 0)), (1, .int (nI a)), (2, .int (nI b))] := hl
                            refine lv_goto (tgt := 180) hx hb d_M_join_327 rfl ?_
                            exact ih i (j + 1) hil (by omega) (by omega) S51 _ _ hB hT (by rw [List.length_append, hol]; show i + j + 1 = _; omega) (mg_r (by omega) (Or.inl hi) hmg) H locs ls hP hS (lv_sub hl [0, 1, 3, 4, 5, 6, 7] rfl)
                          · have hi2 : i < o.2.2.1.length := by rw [sa] at h221; exact Nat.not_le.mp (fun z => h221 (nI_le z (by omega)))
                            exact absurd hi (by omega)
                exact loop (o.2.2.1.length + q.2.2.1.length) 0 0 (Nat.zero_le _) (Nat.zero_le _) rfl S2 _ _ hB hT rfl rfl _ _ ls hP hS hl
              · have h103 : 100 < o.2.2.1.length + q.2.2.1.length := Nat.not_le.mp (fun z => h103 (nI_le z (by decide)))
                refine lv_iconst (v := nI 2) hx hb d_M_join_106 rfl ?_
                refine lv_goto (tgt := 111) hx hb d_M_join_107 rfl ?_
                refine m_rThr hI hA (nI 2) hx hfl hK hb (by rw [hml]; exact hl.1) hown (hw _ mm_M_50) ⟨Nat.le_of_ble_eq_true rfl, Nat.le_of_ble_eq_true rfl, Nat.le_of_ble_eq_true rfl, Nat.le_of_ble_eq_true rfl⟩ hP hS d_M_join_111 (fun S1 hA hT H locs hP hS => ?_)
                have hn : S1.1 = nI Vs.length := hA.1
                refine lv_if_eq (tgt := 119) hx hb d_M_join_114 rfl (fun h9 => absurd h9 (by rw [zI_t (by decide)]; decide)) (fun _ => ?_)
                refine lv_iconst (v := nI 0) hx hb d_M_join_117 rfl ?_
                exact fx_iret hx hb hr hlk hS.2.2 (Nat.le_of_ble_eq_true rfl) (Nat.le_of_ble_eq_true rfl) d_M_join_118 (⟨by rw [(show so_join Vs (nI a) (nI b) = (2, 0, Vs) from by unfold so_join; rw [ta, tb]; dsimp only; rw [if_pos ⟨Or.inl h23, h48, h63⟩, if_pos (Or.inr h103)])]; exact rfl, S1, hP, by rw [(show so_join Vs (nI a) (nI b) = (2, 0, Vs) from by unfold so_join; rw [ta, tb]; dsimp only; rw [if_pos ⟨Or.inl h23, h48, h63⟩, if_pos (Or.inr h103)])]; exact hA, by rw [(show so_join Vs (nI a) (nI b) = (2, 0, Vs) from by unfold so_join; rw [ta, tb]; dsimp only; rw [if_pos ⟨Or.inl h23, h48, h63⟩, if_pos (Or.inr h103)])]; exact hT⟩)
      · have h23 : ¬ o.1 = 1 := by rw [ka] at h23; exact h23
        refine lv_aload_n hx hb d_M_join_26 rfl (lv_at hl 0 rfl) ?_
        refine fx_get hx hb hown (kc_M hK _) hKv 1 (by decide) (hw _ mf_M_7) (fun _ h => h) (hP 0 _ rfl) rfl d_M_join_27 ?_
        refine lv_iload_n hx hb d_M_join_30 rfl (lv_at hl 1 rfl) ?_
        refine fx_iald (j := a) hx hb hKv 0 (hP 1 _ rfl) rfl (rfl) (by omega) (by decide) d_M_join_31 ?_
        refine lv_iconst (v := nI 4) hx hb d_M_join_32 rfl ?_
        refine lv_icmp_ne (tgt := 70) hx hb d_M_join_33 rfl (fun h33 => ?_) (fun h33 => ?_)
        · have h33 : ¬ o.1 = 4 := by rw [ka] at h33; exact h33
          refine lv_iconst (v := nI 0) hx hb d_M_join_70 rfl ?_
          refine lv_istore_n hx hb d_M_join_71 rfl hl (by decide) rfl (fun ls hl => ?_)
          have hl : lv_has ls 8 [(3, .int (nI 0)), (0, .ref (am 0)), (1, .int (nI a)), (2, .int (nI b))] := hl
          refine lv_aload_n hx hb d_M_join_72 rfl (lv_at hl 1 rfl) ?_
          refine lv_iload_n hx hb d_M_join_73 rfl (lv_at hl 0 rfl) ?_
          refine lv_if_ne (tgt := 81) hx hb d_M_join_74 rfl (fun h9 => absurd rfl h9) (fun _ => ?_)
          refine lv_iconst (v := nI 1) hx hb d_M_join_77 rfl ?_
          refine lv_goto (tgt := 111) hx hb d_M_join_78 rfl ?_
          refine m_rThr hI hA (nI 1) hx hfl hK hb (by rw [hml]; exact hl.1) hown (hw _ mm_M_50) ⟨Nat.le_of_ble_eq_true rfl, Nat.le_of_ble_eq_true rfl, Nat.le_of_ble_eq_true rfl, Nat.le_of_ble_eq_true rfl⟩ hP hS d_M_join_111 (fun S1 hA hT H locs hP hS => ?_)
          have hn : S1.1 = nI Vs.length := hA.1
          refine lv_if_eq (tgt := 119) hx hb d_M_join_114 rfl (fun h9 => absurd h9 (by rw [zI_t (by decide)]; decide)) (fun _ => ?_)
          refine lv_iconst (v := nI 0) hx hb d_M_join_117 rfl ?_
          exact fx_iret hx hb hr hlk hS.2.2 (Nat.le_of_ble_eq_true rfl) (Nat.le_of_ble_eq_true rfl) d_M_join_118 (⟨by rw [(show so_join Vs (nI a) (nI b) = (1, 0, Vs) from by unfold so_join; rw [ta, tb]; dsimp only; rw [if_neg (fun z => z.1.elim h23 h33)])]; exact rfl, S1, hP, by rw [(show so_join Vs (nI a) (nI b) = (1, 0, Vs) from by unfold so_join; rw [ta, tb]; dsimp only; rw [if_neg (fun z => z.1.elim h23 h33)])]; exact hA, by rw [(show so_join Vs (nI a) (nI b) = (1, 0, Vs) from by unfold so_join; rw [ta, tb]; dsimp only; rw [if_neg (fun z => z.1.elim h23 h33)])]; exact hT⟩)
        · have h33 : o.1 = 4 := by rw [ka] at h33; exact h33
          refine lv_aload_n hx hb d_M_join_36 rfl (lv_at hl 0 rfl) ?_
          refine fx_get hx hb hown (kc_M hK _) hKv 1 (by decide) (hw _ mf_M_7) (fun _ h => h) (hP 0 _ rfl) rfl d_M_join_37 ?_
          refine lv_iload_n hx hb d_M_join_40 rfl (lv_at hl 1 rfl) ?_
          refine fx_iald (j := a) hx hb hKv 0 (hP 1 _ rfl) rfl (rfl) (by omega) (by decide) d_M_join_41 ?_
          refine lv_aload_n hx hb d_M_join_42 rfl (lv_at hl 0 rfl) ?_
          refine fx_get hx hb hown (kc_M hK _) hKv 1 (by decide) (hw _ mf_M_7) (fun _ h => h) (hP 0 _ rfl) rfl d_M_join_43 ?_
          refine lv_iload_n hx hb d_M_join_46 rfl (lv_at hl 2 rfl) ?_
          refine fx_iald (j := b) hx hb hKv 0 (hP 1 _ rfl) rfl (rfl) (by omega) (by decide) d_M_join_47 ?_
          refine lv_icmp_ne (tgt := 70) hx hb d_M_join_48 rfl (fun h48 => ?_) (fun h48 => ?_)
          · have h48 : ¬ o.1 = q.1 := by rw [ka, kb] at h48; exact h48
            refine lv_iconst (v := nI 0) hx hb d_M_join_70 rfl ?_
            refine lv_istore_n hx hb d_M_join_71 rfl hl (by decide) rfl (fun ls hl => ?_)
            have hl : lv_has ls 8 [(3, .int (nI 0)), (0, .ref (am 0)), (1, .int (nI a)), (2, .int (nI b))] := hl
            refine lv_aload_n hx hb d_M_join_72 rfl (lv_at hl 1 rfl) ?_
            refine lv_iload_n hx hb d_M_join_73 rfl (lv_at hl 0 rfl) ?_
            refine lv_if_ne (tgt := 81) hx hb d_M_join_74 rfl (fun h9 => absurd rfl h9) (fun _ => ?_)
            refine lv_iconst (v := nI 1) hx hb d_M_join_77 rfl ?_
            refine lv_goto (tgt := 111) hx hb d_M_join_78 rfl ?_
            refine m_rThr hI hA (nI 1) hx hfl hK hb (by rw [hml]; exact hl.1) hown (hw _ mm_M_50) ⟨Nat.le_of_ble_eq_true rfl, Nat.le_of_ble_eq_true rfl, Nat.le_of_ble_eq_true rfl, Nat.le_of_ble_eq_true rfl⟩ hP hS d_M_join_111 (fun S1 hA hT H locs hP hS => ?_)
            have hn : S1.1 = nI Vs.length := hA.1
            refine lv_if_eq (tgt := 119) hx hb d_M_join_114 rfl (fun h9 => absurd h9 (by rw [zI_t (by decide)]; decide)) (fun _ => ?_)
            refine lv_iconst (v := nI 0) hx hb d_M_join_117 rfl ?_
            exact fx_iret hx hb hr hlk hS.2.2 (Nat.le_of_ble_eq_true rfl) (Nat.le_of_ble_eq_true rfl) d_M_join_118 (⟨by rw [(show so_join Vs (nI a) (nI b) = (1, 0, Vs) from by unfold so_join; rw [ta, tb]; dsimp only; rw [if_neg (fun z => h48 z.2.1)])]; exact rfl, S1, hP, by rw [(show so_join Vs (nI a) (nI b) = (1, 0, Vs) from by unfold so_join; rw [ta, tb]; dsimp only; rw [if_neg (fun z => h48 z.2.1)])]; exact hA, by rw [(show so_join Vs (nI a) (nI b) = (1, 0, Vs) from by unfold so_join; rw [ta, tb]; dsimp only; rw [if_neg (fun z => h48 z.2.1)])]; exact hT⟩)
          · have h48 : o.1 = q.1 := by rw [ka, kb] at h48; exact h48
            refine lv_aload_n hx hb d_M_join_51 rfl (lv_at hl 0 rfl) ?_
            refine fx_get hx hb hown (kc_M hK _) hKv 2 (by decide) (hw _ mf_M_13) (fun _ h => h) (hP 0 _ rfl) rfl d_M_join_52 ?_
            refine lv_iload_n hx hb d_M_join_55 rfl (lv_at hl 1 rfl) ?_
            refine fx_iald (j := a) hx hb hKv 0 (hP 2 _ rfl) rfl (rfl) (by omega) (by decide) d_M_join_56 ?_
            refine lv_aload_n hx hb d_M_join_57 rfl (lv_at hl 0 rfl) ?_
            refine fx_get hx hb hown (kc_M hK _) hKv 2 (by decide) (hw _ mf_M_13) (fun _ h => h) (hP 0 _ rfl) rfl d_M_join_58 ?_
            refine lv_iload_n hx hb d_M_join_61 rfl (lv_at hl 2 rfl) ?_
            refine fx_iald (j := b) hx hb hKv 0 (hP 2 _ rfl) rfl (rfl) (by omega) (by decide) d_M_join_62 ?_
            refine lv_icmp_ne (tgt := 70) hx hb d_M_join_63 rfl (fun h63 => ?_) (fun h63 => ?_)
            · have h63 : ¬ o.2.1 = q.2.1 := by rw [fa, fb] at h63; exact h63
              refine lv_iconst (v := nI 0) hx hb d_M_join_70 rfl ?_
              refine lv_istore_n hx hb d_M_join_71 rfl hl (by decide) rfl (fun ls hl => ?_)
              have hl : lv_has ls 8 [(3, .int (nI 0)), (0, .ref (am 0)), (1, .int (nI a)), (2, .int (nI b))] := hl
              refine lv_aload_n hx hb d_M_join_72 rfl (lv_at hl 1 rfl) ?_
              refine lv_iload_n hx hb d_M_join_73 rfl (lv_at hl 0 rfl) ?_
              refine lv_if_ne (tgt := 81) hx hb d_M_join_74 rfl (fun h9 => absurd rfl h9) (fun _ => ?_)
              refine lv_iconst (v := nI 1) hx hb d_M_join_77 rfl ?_
              refine lv_goto (tgt := 111) hx hb d_M_join_78 rfl ?_
              refine m_rThr hI hA (nI 1) hx hfl hK hb (by rw [hml]; exact hl.1) hown (hw _ mm_M_50) ⟨Nat.le_of_ble_eq_true rfl, Nat.le_of_ble_eq_true rfl, Nat.le_of_ble_eq_true rfl, Nat.le_of_ble_eq_true rfl⟩ hP hS d_M_join_111 (fun S1 hA hT H locs hP hS => ?_)
              have hn : S1.1 = nI Vs.length := hA.1
              refine lv_if_eq (tgt := 119) hx hb d_M_join_114 rfl (fun h9 => absurd h9 (by rw [zI_t (by decide)]; decide)) (fun _ => ?_)
              refine lv_iconst (v := nI 0) hx hb d_M_join_117 rfl ?_
              exact fx_iret hx hb hr hlk hS.2.2 (Nat.le_of_ble_eq_true rfl) (Nat.le_of_ble_eq_true rfl) d_M_join_118 (⟨by rw [(show so_join Vs (nI a) (nI b) = (1, 0, Vs) from by unfold so_join; rw [ta, tb]; dsimp only; rw [if_neg (fun z => h63 z.2.2)])]; exact rfl, S1, hP, by rw [(show so_join Vs (nI a) (nI b) = (1, 0, Vs) from by unfold so_join; rw [ta, tb]; dsimp only; rw [if_neg (fun z => h63 z.2.2)])]; exact hA, by rw [(show so_join Vs (nI a) (nI b) = (1, 0, Vs) from by unfold so_join; rw [ta, tb]; dsimp only; rw [if_neg (fun z => h63 z.2.2)])]; exact hT⟩)
            · have h63 : o.2.1 = q.2.1 := by rw [fa, fb] at h63; exact h63
              refine lv_iconst (v := nI 1) hx hb d_M_join_66 rfl ?_
              refine lv_goto (tgt := 71) hx hb d_M_join_67 rfl ?_
              refine lv_istore_n hx hb d_M_join_71 rfl hl (by decide) rfl (fun ls hl => ?_)
              have hl : lv_has ls 8 [(3, .int (nI 1)), (0, .ref (am 0)), (1, .int (nI a)), (2, .int (nI b))] := hl
              refine lv_aload_n hx hb d_M_join_72 rfl (lv_at hl 1 rfl) ?_
              refine lv_iload_n hx hb d_M_join_73 rfl (lv_at hl 0 rfl) ?_
              refine lv_if_ne (tgt := 81) hx hb d_M_join_74 rfl (fun _ => ?_) (fun h9 => absurd h9 (by decide))
              refine lv_aload_n hx hb d_M_join_81 rfl (lv_at hl 1 rfl) ?_
              refine m_cV (ct_M_isFull w am hI S.1 S.2.1 S.2.2.1 S.2.2.2.1 S.2.2.2.2.1 S.2.2.2.2.2.1 S.2.2.2.2.2.2.1 S.2.2.2.2.2.2.2) hx hfl hK hb (by rw [hml]; exact hl.1) hown (hw _ mm_M_46) (hw _ mk_M_isFull) (hw _ mi_M_isFull) (hw _ mq_M_isFull) (show fx_N y_M_isFull 0 by decide +kernel) rfl ⟨Nat.le_of_ble_eq_true rfl, Nat.le_of_ble_eq_true rfl, Nat.le_of_ble_eq_true rfl, Nat.le_of_ble_eq_true rfl⟩ hP hS d_M_join_82 (fun H locs hP hS => ?_)
              have hP : va_P w.D cls (mw w am S) H := hP
              refine lv_if_ne (tgt := 106) hx hb d_M_join_85 rfl (fun h85 => ?_) (fun h85 => ?_)
              · have h85 : 64 ≤ Vs.length := by have := zI_ne0.mp h85; rw [hn] at this; exact (nI_leI (by decide) (by omega)).mp this
                refine lv_iconst (v := nI 2) hx hb d_M_join_106 rfl ?_
                refine lv_goto (tgt := 111) hx hb d_M_join_107 rfl ?_
                refine m_rThr hI hA (nI 2) hx hfl hK hb (by rw [hml]; exact hl.1) hown (hw _ mm_M_50) ⟨Nat.le_of_ble_eq_true rfl, Nat.le_of_ble_eq_true rfl, Nat.le_of_ble_eq_true rfl, Nat.le_of_ble_eq_true rfl⟩ hP hS d_M_join_111 (fun S1 hA hT H locs hP hS => ?_)
                have hn : S1.1 = nI Vs.length := hA.1
                refine lv_if_eq (tgt := 119) hx hb d_M_join_114 rfl (fun h9 => absurd h9 (by rw [zI_t (by decide)]; decide)) (fun _ => ?_)
                refine lv_iconst (v := nI 0) hx hb d_M_join_117 rfl ?_
                exact fx_iret hx hb hr hlk hS.2.2 (Nat.le_of_ble_eq_true rfl) (Nat.le_of_ble_eq_true rfl) d_M_join_118 (⟨by rw [(show so_join Vs (nI a) (nI b) = (2, 0, Vs) from by unfold so_join; rw [ta, tb]; dsimp only; rw [if_pos ⟨Or.inr h33, h48, h63⟩, if_pos (Or.inl h85)])]; exact rfl, S1, hP, by rw [(show so_join Vs (nI a) (nI b) = (2, 0, Vs) from by unfold so_join; rw [ta, tb]; dsimp only; rw [if_pos ⟨Or.inr h33, h48, h63⟩, if_pos (Or.inl h85)])]; exact hA, by rw [(show so_join Vs (nI a) (nI b) = (2, 0, Vs) from by unfold so_join; rw [ta, tb]; dsimp only; rw [if_pos ⟨Or.inr h33, h48, h63⟩, if_pos (Or.inl h85)])]; exact hT⟩)
              · have h85 : ¬ 64 ≤ Vs.length := fun z => zI_eq0.mp h85 (by rw [hn]; exact nI_le z (by omega))
                refine lv_aload_n hx hb d_M_join_88 rfl (lv_at hl 1 rfl) ?_
                refine fx_get hx hb hown (kc_M hK _) hKv 3 (by decide) (hw _ mf_M_16) (fun _ h => h) (hP 0 _ rfl) rfl d_M_join_89 ?_
                refine lv_iload_n hx hb d_M_join_92 rfl (lv_at hl 2 rfl) ?_
                refine fx_iald (j := a) hx hb hKv 0 (hP 3 _ rfl) rfl (rfl) (by omega) (by decide) d_M_join_93 ?_
                refine lv_aload_n hx hb d_M_join_94 rfl (lv_at hl 1 rfl) ?_
                refine fx_get hx hb hown (kc_M hK _) hKv 3 (by decide) (hw _ mf_M_16) (fun _ h => h) (hP 0 _ rfl) rfl d_M_join_95 ?_
                refine lv_iload_n hx hb d_M_join_98 rfl (lv_at hl 3 rfl) ?_
                refine fx_iald (j := b) hx hb hKv 0 (hP 3 _ rfl) rfl (rfl) (by omega) (by decide) d_M_join_99 ?_
                refine lv_iadd hx hb d_M_join_100 ?_
                refine fx_ti (y := nI (o.2.2.1.length + q.2.2.1.length)) (by rw [sa, sb]; exact nI_add _ _) ?_
                refine lv_bipush (v := nI 100) hx hb d_M_join_101 rfl ?_
                refine lv_icmp_le (tgt := 110) hx hb d_M_join_103 rfl (fun h103 => ?_) (fun h103 => ?_)
                · have h103 : o.2.2.1.length + q.2.2.1.length ≤ 100 := (nI_leI (by omega) (by decide)).mp h103
                  refine lv_iconst (v := nI 0) hx hb d_M_join_110 rfl ?_
                  refine m_rThr hI hA (nI 0) hx hfl hK hb (by rw [hml]; exact hl.1) hown (hw _ mm_M_50) ⟨Nat.le_of_ble_eq_true rfl, Nat.le_of_ble_eq_true rfl, Nat.le_of_ble_eq_true rfl, Nat.le_of_ble_eq_true rfl⟩ hP hS d_M_join_111 (fun S1 hA hT H locs hP hS => ?_)
                  have hn : S1.1 = nI Vs.length := hA.1
                  refine lv_if_eq (tgt := 119) hx hb d_M_join_114 rfl (fun _ => ?_) (fun h9 => absurd (zI_f (by decide)) h9)
                  obtain ⟨ka, fa, sa, qa, xa, ya⟩ := hA.2.2.1 a o ga
                  have ka : S1.2.2.1 a = o.1 := ka
                  have fa : S1.2.2.2.1 a = o.2.1 := fa
                  have sa : S1.2.2.2.2.1 a = nI o.2.2.1.length := sa
                  have la : o.2.2.1.length ≤ 100 := qa.1
                  obtain ⟨kb, fb, sb, qb, xb, yb⟩ := hA.2.2.1 b q gb
                  have kb : S1.2.2.1 b = q.1 := kb
                  have fb : S1.2.2.2.1 b = q.2.1 := fb
                  have sb : S1.2.2.2.2.1 b = nI q.2.2.1.length := sb
                  have lb : q.2.2.1.length ≤ 100 := qb.1
                  have n3 : ¬ o.1 = 3 := by rw [h33]; decide
                  refine lv_aload_n hx hb d_M_join_119 rfl (lv_at hl 1 rfl) ?_
                  refine lv_aload_n hx hb d_M_join_120 rfl (lv_at hl 1 rfl) ?_
                  refine fx_get hx hb hown (kc_M hK _) hKv 1 (by decide) (hw _ mf_M_7) (fun _ h => h) (hP 0 _ rfl) rfl d_M_join_121 ?_
                  refine lv_iload_n hx hb d_M_join_124 rfl (lv_at hl 2 rfl) ?_
                  refine fx_iald (j := a) hx hb hKv 0 (hP 1 _ rfl) rfl (rfl) (by omega) (by decide) d_M_join_125 ?_
                  refine fx_ti (y := o.1) (ka) ?_
                  refine lv_aload_n hx hb d_M_join_126 rfl (lv_at hl 1 rfl) ?_
                  refine fx_get hx hb hown (kc_M hK _) hKv 2 (by decide) (hw _ mf_M_13) (fun _ h => h) (hP 0 _ rfl) rfl d_M_join_127 ?_
                  refine lv_iload_n hx hb d_M_join_130 rfl (lv_at hl 2 rfl) ?_
                  refine fx_iald (j := a) hx hb hKv 0 (hP 2 _ rfl) rfl (rfl) (by omega) (by decide) d_M_join_131 ?_
                  refine fx_ti (y := o.2.1) (fa) ?_
                  refine m_rCreate hI hA (by omega) (o.1) (o.2.1) hx hfl hK hb (by rw [hml]; exact hl.1) hown (hw _ mm_M_53) ⟨Nat.le_of_ble_eq_true rfl, Nat.le_of_ble_eq_true rfl, Nat.le_of_ble_eq_true rfl, Nat.le_of_ble_eq_true rfl⟩ hP hS d_M_join_132 (fun S2 hB hT1 H locs hP hS => ?_)
                  have hT := hT1.trans hT
                  refine lv_istore hx hb d_M_join_135 hl (by decide) rfl (fun ls hl => ?_)
                  have hl : lv_has ls 8 [(4, .int (nI Vs.length)), (3, .int (nI 1)), (0, .ref (am 0)), (1, .int (nI a)), (2, .int (nI b))] := hl
                  obtain ⟨ka, fa, sa, qa, xa, ya⟩ := hB.2.2.1 a o ga
                  have ka : S2.2.2.1 a = o.1 := ka
                  have fa : S2.2.2.2.1 a = o.2.1 := fa
                  have sa : S2.2.2.2.2.1 a = nI o.2.2.1.length := sa
                  have la : o.2.2.1.length ≤ 100 := qa.1
                  obtain ⟨kb, fb, sb, qb, xb, yb⟩ := hB.2.2.1 b q gb
                  have kb : S2.2.2.1 b = q.1 := kb
                  have fb : S2.2.2.2.1 b = q.2.1 := fb
                  have sb : S2.2.2.2.2.1 b = nI q.2.2.1.length := sb
                  have lb : q.2.2.1.length ≤ 100 := qb.1
                  refine lv_aload_n hx hb d_M_join_137 rfl (lv_at hl 2 rfl) ?_
                  refine fx_get hx hb hown (kc_M hK _) hKv 1 (by decide) (hw _ mf_M_7) (fun _ h => h) (hP 0 _ rfl) rfl d_M_join_138 ?_
                  refine lv_iload_n hx hb d_M_join_141 rfl (lv_at hl 3 rfl) ?_
                  refine fx_iald (j := a) hx hb hKv 0 (hP 1 _ rfl) rfl (rfl) (by omega) (by decide) d_M_join_142 ?_
                  refine lv_iconst (v := nI 4) hx hb d_M_join_143 rfl ?_
                  refine lv_icmp_ne (tgt := 174) hx hb d_M_join_144 rfl (fun h9 => absurd (ka.trans h33) h9) (fun _ => ?_)
                  refine lv_aload_n hx hb d_M_join_147 rfl (lv_at hl 2 rfl) ?_
                  refine lv_iload_n hx hb d_M_join_148 rfl (lv_at hl 3 rfl) ?_
                  refine lv_iconst (v := nI 0) hx hb d_M_join_149 rfl ?_
                  refine lv_aload_n hx hb d_M_join_150 rfl (lv_at hl 2 rfl) ?_
                  refine fx_get hx hb hown (kc_M hK _) hKv 3 (by decide) (hw _ mf_M_16) (fun _ h => h) (hP 0 _ rfl) rfl d_M_join_151 ?_
                  refine lv_iload_n hx hb d_M_join_154 rfl (lv_at hl 3 rfl) ?_
                  refine fx_iald (j := a) hx hb hKv 0 (hP 3 _ rfl) rfl (rfl) (by omega) (by decide) d_M_join_155 ?_
                  refine fx_ti (y := nI o.2.2.1.length) (sa) ?_
                  refine m_rAll hI hB (o := o) ga (Nat.zero_le _) (Nat.le_refl _) (by show 0 + (o.2.2.1.length - 0) ≤ 100; omega) (fun z => z) hx hfl hK hb (by rw [hml]; exact hl.1) hown (hw _ mm_M_63) ⟨Nat.le_of_ble_eq_true rfl, Nat.le_of_ble_eq_true rfl, Nat.le_of_ble_eq_true rfl, Nat.le_of_ble_eq_true rfl⟩ hP hS d_M_join_156 (fun S3 hB hT1 H locs hP hS => ?_)
                  have hT := hT1.trans hT
                  simp only [List.nil_append, sv_cut_all, List.drop_zero] at hB
                  refine lv_aload_n hx hb d_M_join_159 rfl (lv_at hl 2 rfl) ?_
                  refine lv_iload_n hx hb d_M_join_160 rfl (lv_at hl 4 rfl) ?_
                  refine lv_iconst (v := nI 0) hx hb d_M_join_161 rfl ?_
                  refine lv_aload_n hx hb d_M_join_162 rfl (lv_at hl 2 rfl) ?_
                  refine fx_get hx hb hown (kc_M hK _) hKv 3 (by decide) (hw _ mf_M_16) (fun _ h => h) (hP 0 _ rfl) rfl d_M_join_163 ?_
                  refine lv_iload_n hx hb d_M_join_166 rfl (lv_at hl 4 rfl) ?_
                  refine fx_iald (j := b) hx hb hKv 0 (hP 3 _ rfl) rfl (rfl) (by omega) (by decide) d_M_join_167 ?_
                  obtain ⟨kb, fb, sb, qb, xb, yb⟩ := hB.2.2.1 b q gb
                  have kb : S3.2.2.1 b = q.1 := kb
                  have fb : S3.2.2.2.1 b = q.2.1 := fb
                  have sb : S3.2.2.2.2.1 b = nI q.2.2.1.length := sb
                  have lb : q.2.2.1.length ≤ 100 := qb.1
                  refine fx_ti (y := nI q.2.2.1.length) (sb) ?_
                  refine m_rAll hI hB (o := q) gb (Nat.zero_le _) (Nat.le_refl _) (by omega) (fun z => absurd z n3) hx hfl hK hb (by rw [hml]; exact hl.1) hown (hw _ mm_M_63) ⟨Nat.le_of_ble_eq_true rfl, Nat.le_of_ble_eq_true rfl, Nat.le_of_ble_eq_true rfl, Nat.le_of_ble_eq_true rfl⟩ hP hS d_M_join_168 (fun S4 hB hT1 H locs hP hS => ?_)
                  have hT := hT1.trans hT
                  have hF : mAbs S4 (Vs ++ [(o.1, o.2.1, o.2.2.1 ++ q.2.2.1, o.2.2.2)]) := by have := mB_done hB o.2.2.2 (fun z => absurd z n3) qa.2.2; simp only [sv_cut_all, List.drop_zero] at this; exact this
                  refine lv_iload hx hb d_M_join_171 (lv_at hl 0 rfl) ?_
                  exact fx_iret hx hb hr hlk hS.2.2 (Nat.le_of_ble_eq_true rfl) (Nat.le_of_ble_eq_true rfl) d_M_join_173 (⟨by rw [(show so_join Vs (nI a) (nI b) = sv_new Vs (o.1, o.2.1, o.2.2.1 ++ q.2.2.1, o.2.2.2) from by unfold so_join; rw [ta, tb]; dsimp only; rw [if_pos ⟨Or.inr h33, h48, h63⟩, if_neg (fun z => z.elim h85 (by omega)), if_pos h33])]; exact rfl, S4, hP, by rw [(show so_join Vs (nI a) (nI b) = sv_new Vs (o.1, o.2.1, o.2.2.1 ++ q.2.2.1, o.2.2.2) from by unfold so_join; rw [ta, tb]; dsimp only; rw [if_pos ⟨Or.inr h33, h48, h63⟩, if_neg (fun z => z.elim h85 (by omega)), if_pos h33])]; exact hF, by rw [(show so_join Vs (nI a) (nI b) = sv_new Vs (o.1, o.2.1, o.2.2.1 ++ q.2.2.1, o.2.2.2) from by unfold so_join; rw [ta, tb]; dsimp only; rw [if_pos ⟨Or.inr h33, h48, h63⟩, if_neg (fun z => z.elim h85 (by omega)), if_pos h33])]; exact hT⟩)
                · have h103 : 100 < o.2.2.1.length + q.2.2.1.length := Nat.not_le.mp (fun z => h103 (nI_le z (by decide)))
                  refine lv_iconst (v := nI 2) hx hb d_M_join_106 rfl ?_
                  refine lv_goto (tgt := 111) hx hb d_M_join_107 rfl ?_
                  refine m_rThr hI hA (nI 2) hx hfl hK hb (by rw [hml]; exact hl.1) hown (hw _ mm_M_50) ⟨Nat.le_of_ble_eq_true rfl, Nat.le_of_ble_eq_true rfl, Nat.le_of_ble_eq_true rfl, Nat.le_of_ble_eq_true rfl⟩ hP hS d_M_join_111 (fun S1 hA hT H locs hP hS => ?_)
                  have hn : S1.1 = nI Vs.length := hA.1
                  refine lv_if_eq (tgt := 119) hx hb d_M_join_114 rfl (fun h9 => absurd h9 (by rw [zI_t (by decide)]; decide)) (fun _ => ?_)
                  refine lv_iconst (v := nI 0) hx hb d_M_join_117 rfl ?_
                  exact fx_iret hx hb hr hlk hS.2.2 (Nat.le_of_ble_eq_true rfl) (Nat.le_of_ble_eq_true rfl) d_M_join_118 (⟨by rw [(show so_join Vs (nI a) (nI b) = (2, 0, Vs) from by unfold so_join; rw [ta, tb]; dsimp only; rw [if_pos ⟨Or.inr h33, h48, h63⟩, if_pos (Or.inr h103)])]; exact rfl, S1, hP, by rw [(show so_join Vs (nI a) (nI b) = (2, 0, Vs) from by unfold so_join; rw [ta, tb]; dsimp only; rw [if_pos ⟨Or.inr h33, h48, h63⟩, if_pos (Or.inr h103)])]; exact hA, by rw [(show so_join Vs (nI a) (nI b) = (2, 0, Vs) from by unfold so_join; rw [ta, tb]; dsimp only; rw [if_pos ⟨Or.inr h33, h48, h63⟩, if_pos (Or.inr h103)])]; exact hT⟩)
