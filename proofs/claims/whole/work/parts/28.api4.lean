def sv_bs : Nat → Nat → Nat
  | 0, _ => 0
  | k + 1, t => t % 2 + sv_bs k (t / 2)
theorem sv_bs_0 : ∀ k, sv_bs k 0 = 0
  | 0 => rfl
  | k + 1 => by show 0 % 2 + sv_bs k (0 / 2) = 0; rw [show (0 : Nat) / 2 = 0 from rfl, sv_bs_0 k]
theorem sv_bs_7 : ∀ n, n < 101 → sv_bs 7 n = sv_bit n := by decide +kernel
set_option maxHeartbeats 4000000 in
set_option maxRecDepth 100000 in
theorem ct_M_bits (w : Wd) (n : Nat) (hn : n ≤ 100) : fx_C (KT w) y_M_bits 3 (rmK 0) [.int (nI n)] (fun _ => True) (fun H o H' => o = .returned (some (.int (nI (sv_bit n)))) ∧ H' = H) (fun _ _ => False) := by
  refine fx_of (ret := some .int) (cc := b_M_bits) (fun s hK => hK.1 _ mk_M_bits _) (Nat.le_of_ble_eq_true rfl) ?_
  intro p l e s m below meth c hx hfl hK hb hml hr hlk hnt hown hin hpre ls hl
  have hl : lv_has ls 3 [(0, .int (nI n))] := hl
  refine lv_iconst (v := nI 0) hx hb d_M_bits_0 rfl ?_
  refine lv_istore_n hx hb d_M_bits_1 rfl hl (by decide) rfl (fun ls hl => ?_)
  have hl : lv_has ls 3 [(1, .int (nI 0)), (0, .int (nI n))] := hl
  refine lv_iload_n hx hb d_M_bits_2 rfl (lv_at hl 1 rfl) ?_
  refine lv_istore_n hx hb d_M_bits_3 rfl hl (by decide) rfl (fun ls hl => ?_)
  have hl : lv_has ls 3 [(2, .int (nI n)), (1, .int (nI 0)), (0, .int (nI n))] := hl
  refine fx_gen (fun Q0 hQ0 => ?_)
  have loop : ∀ (k t c0 : Nat), t < 2 ^ k → k ≤ 7 → c0 + sv_bs k t = sv_bit n → t ≤ 100 → ∀ (ls : Array Slot), lv_has ls 3 [(2, .int (nI t)), (1, .int (nI c0)), (0, .int (nI n))] → W p l e (rmK 0) s m ([.int (nI n)] : List Value).toArray below meth c s.heap [] 0 0 Q0 (F0 m 4 ls []) := by
    intro k
    induction k with
    | zero =>
      intro t c0 ht hk hs htl ls hl
      have ht0 : t = 0 := by omega
      subst ht0
      rw [hQ0]
      refine lv_iload_n hx hb d_M_bits_4 rfl (lv_at hl 0 rfl) ?_
      refine lv_if_le (tgt := 21) hx hb d_M_bits_5 rfl (fun _ => ?_) (fun h9 => absurd (by decide) h9)
      refine lv_iload_n hx hb d_M_bits_21 rfl (lv_at hl 1 rfl) ?_
      exact fx_iret hx hb hr hlk (fun q hq => by cases hq) (Nat.le_of_ble_eq_true rfl) (Nat.le_of_ble_eq_true rfl) d_M_bits_22 (⟨by rw [← hs]; rfl, rfl⟩)
    | succ k ih =>
      intro t c0 ht hk hs htl ls hl
      refine lv_iload_n hx hb d_M_bits_4 rfl (lv_at hl 0 rfl) ?_
      refine lv_if_le (tgt := 21) hx hb d_M_bits_5 rfl (fun h5 => ?_) (fun h5 => ?_)
      · have ht0 : t = 0 := Nat.le_zero.mp ((nI_leI (by omega) (by decide)).mp h5)
        rw [ht0, sv_bs_0] at hs
        rw [hQ0]
        refine lv_iload_n hx hb d_M_bits_21 rfl (lv_at hl 1 rfl) ?_
        exact fx_iret hx hb hr hlk (fun q hq => by cases hq) (Nat.le_of_ble_eq_true rfl) (Nat.le_of_ble_eq_true rfl) d_M_bits_22 (⟨by rw [← hs]; rfl, rfl⟩)
      · refine lv_iload_n hx hb d_M_bits_8 rfl (lv_at hl 1 rfl) ?_
        refine lv_iload_n hx hb d_M_bits_9 rfl (lv_at hl 0 rfl) ?_
        refine lv_iconst (v := nI 2) hx hb d_M_bits_10 rfl ?_
        refine lv_irem hx hb d_M_bits_11 (by decide) ?_
        refine fx_ti (y := nI (t % 2)) (pk_rem (by omega) (by decide) (by decide)) ?_
        refine lv_iadd hx hb d_M_bits_12 ?_
        refine fx_ti (y := nI (c0 + t % 2)) (nI_add _ _) ?_
        refine lv_istore_n hx hb d_M_bits_13 rfl hl (by decide) rfl (fun ls hl => ?_)
        have hl : lv_has ls 3 [(1, .int (nI (c0 + t % 2))), (2, .int (nI t)), (0, .int (nI n))] := hl
        refine lv_iload_n hx hb d_M_bits_14 rfl (lv_at hl 1 rfl) ?_
        refine lv_iconst (v := nI 2) hx hb d_M_bits_15 rfl ?_
        refine lv_idiv hx hb d_M_bits_16 (by decide) ?_
        refine fx_ti (y := nI (t / 2)) (pk_div (by omega) (by decide) (by decide)) ?_
        refine lv_istore_n hx hb d_M_bits_17 rfl hl (by decide) rfl (fun ls hl => ?_)
        have hl : lv_has ls 3 [(2, .int (nI (t / 2))), (1, .int (nI (c0 + t % 2))), (0, .int (nI n))] := hl
        refine lv_goto (tgt := 4) hx hb d_M_bits_18 rfl ?_
        have hp : (2 : Nat) ^ (k + 1) = 2 * 2 ^ k := Nat.pow_succ'
        have hs2 : c0 + (t % 2 + sv_bs k (t / 2)) = sv_bit n := hs
        exact ih (t / 2) (c0 + t % 2) (by omega) (by omega) (by omega) (by omega) ls hl
  exact loop 7 n 0 (by omega) (by decide) (by rw [Nat.zero_add]; exact sv_bs_7 n (by omega)) hn ls hl
set_option maxHeartbeats 4000000 in
set_option maxRecDepth 100000 in
theorem ct_M_parts (w : Wd) (am : Nat → Nat) (hI : mI am) (Vs : List sV) (v : Int32) : mApi w am y_M_parts 3 (rmK 3) [.int v] Vs (so_parts Vs v) := by
  intro S hA
  have hn : S.1 = nI Vs.length := hA.1
  have hVl : Vs.length ≤ 64 := hA.2.1
  refine fx_of (ret := some .int) (cc := b_M_parts) (fun s hK => hK.1 _ mk_M_parts _) (Nat.le_of_ble_eq_true rfl) ?_
  intro p l e s m below meth c hx hfl hK hb hml hr hlk hnt hown hin hP ls hl
  have hw : ∀ z ∈ gw, z.before (.ref (am 0) :: [.int v] : List Value).toArray s = true := fun z hz => hK.1 z hz _
  have hKv := hK.2.1
  have hS : va_S (mA am) s.heap s.heap [] := va_S.rf
  have hP : va_P w.D cls (mw w am S) s.heap := hP
  have hl : lv_has ls 3 [(0, .ref (am 0)), (1, .int v)] := hl
  refine lv_aload_n hx hb d_M_parts_0 rfl (lv_at hl 0 rfl) ?_
  refine lv_aload_n hx hb d_M_parts_1 rfl (lv_at hl 0 rfl) ?_
  refine lv_iload_n hx hb d_M_parts_2 rfl (lv_at hl 1 rfl) ?_
  refine m_cV (ct_M_is w am hI S.1 S.2.1 S.2.2.1 S.2.2.2.1 S.2.2.2.2.1 S.2.2.2.2.2.1 S.2.2.2.2.2.2.1 S.2.2.2.2.2.2.2 v) hx hfl hK hb (by rw [hml]; exact hl.1) hown (hw _ mm_M_35) (hw _ mk_M_is) (hw _ mi_M_is) (hw _ mq_M_is) (show fx_N y_M_is 1 by decide +kernel) rfl ⟨Nat.le_of_ble_eq_true rfl, Nat.le_of_ble_eq_true rfl, Nat.le_of_ble_eq_true rfl, Nat.le_of_ble_eq_true rfl⟩ hP hS d_M_parts_3 (fun H locs hP hS => ?_)
  have hP : va_P w.D cls (mw w am S) H := hP
  refine lv_if_eq (tgt := 13) hx hb d_M_parts_6 rfl (fun h6 => ?_) (fun h6 => ?_)
  · have h6 := zI_eq0.mp h6
    rw [hn] at h6
    refine lv_iconst (v := nI 1) hx hb d_M_parts_13 rfl ?_
    refine m_rThr hI hA (nI 1) hx hfl hK hb (by rw [hml]; exact hl.1) hown (hw _ mm_M_50) ⟨Nat.le_of_ble_eq_true rfl, Nat.le_of_ble_eq_true rfl, Nat.le_of_ble_eq_true rfl, Nat.le_of_ble_eq_true rfl⟩ hP hS d_M_parts_14 (fun S1 hA hT H locs hP hS => ?_)
    have hn : S1.1 = nI Vs.length := hA.1
    refine lv_if_eq (tgt := 22) hx hb d_M_parts_17 rfl (fun h9 => absurd h9 (by rw [zI_t (by decide)]; decide)) (fun _ => ?_)
    refine lv_iconst (v := nI 0) hx hb d_M_parts_20 rfl ?_
    exact fx_iret hx hb hr hlk hS.2.2 (Nat.le_of_ble_eq_true rfl) (Nat.le_of_ble_eq_true rfl) d_M_parts_21 (⟨by rw [(show so_parts Vs v = (1, 0, Vs) from by unfold so_parts; rw [mAbs_none hA h6])]; exact rfl, S1, hP, by rw [(show so_parts Vs v = (1, 0, Vs) from by unfold so_parts; rw [mAbs_none hA h6])]; exact hA, by rw [(show so_parts Vs v = (1, 0, Vs) from by unfold so_parts; rw [mAbs_none hA h6])]; exact hT⟩)
  · have h6 := zI_ne0.mp h6
    rw [hn] at h6
    obtain ⟨a, o, ea, ha, ga, ta⟩ := mAbs_at hA h6.1 h6.2
    subst ea
    have ca : (nI a).toNatClampNeg = a := nI_clamp (by omega)
    have hl : lv_has ls 3 [(0, .ref (am 0)), (1, .int (nI a))] := hl
    refine lv_iconst (v := nI 0) hx hb d_M_parts_9 rfl ?_
    refine lv_goto (tgt := 14) hx hb d_M_parts_10 rfl ?_
    refine m_rThr hI hA (nI 0) hx hfl hK hb (by rw [hml]; exact hl.1) hown (hw _ mm_M_50) ⟨Nat.le_of_ble_eq_true rfl, Nat.le_of_ble_eq_true rfl, Nat.le_of_ble_eq_true rfl, Nat.le_of_ble_eq_true rfl⟩ hP hS d_M_parts_14 (fun S1 hA hT H locs hP hS => ?_)
    have hn : S1.1 = nI Vs.length := hA.1
    refine lv_if_eq (tgt := 22) hx hb d_M_parts_17 rfl (fun _ => ?_) (fun h9 => absurd (zI_f (by decide)) h9)
    obtain ⟨ka, fa, sa, qa, xa, ya⟩ := hA.2.2.1 a o ga
    have ka : S1.2.2.1 a = o.1 := ka
    have fa : S1.2.2.2.1 a = o.2.1 := fa
    have sa : S1.2.2.2.2.1 a = nI o.2.2.1.length := sa
    have la : o.2.2.1.length ≤ 100 := qa.1
    refine lv_aload_n hx hb d_M_parts_22 rfl (lv_at hl 0 rfl) ?_
    refine fx_get hx hb hown (kc_M hK _) hKv 1 (by decide) (hw _ mf_M_7) (fun _ h => h) (hP 0 _ rfl) rfl d_M_parts_23 ?_
    refine lv_iload_n hx hb d_M_parts_26 rfl (lv_at hl 1 rfl) ?_
    refine fx_iald (j := a) hx hb hKv 0 (hP 1 _ rfl) rfl (rfl) (by omega) (by decide) d_M_parts_27 ?_
    refine lv_iconst (v := nI 2) hx hb d_M_parts_28 rfl ?_
    refine lv_icmp_ne (tgt := 53) hx hb d_M_parts_29 rfl (fun h29 => ?_) (fun h29 => ?_)
    · have h29 : ¬ o.1 = 2 := by rw [ka] at h29; exact h29
      refine lv_aload_n hx hb d_M_parts_53 rfl (lv_at hl 0 rfl) ?_
      refine fx_get hx hb hown (kc_M hK _) hKv 1 (by decide) (hw _ mf_M_7) (fun _ h => h) (hP 0 _ rfl) rfl d_M_parts_54 ?_
      refine lv_iload_n hx hb d_M_parts_57 rfl (lv_at hl 1 rfl) ?_
      refine fx_iald (j := a) hx hb hKv 0 (hP 1 _ rfl) rfl (rfl) (by omega) (by decide) d_M_parts_58 ?_
      refine lv_iconst (v := nI 1) hx hb d_M_parts_59 rfl ?_
      refine lv_icmp_eq (tgt := 73) hx hb d_M_parts_60 rfl (fun h60 => ?_) (fun h60 => ?_)
      · have h60 : o.1 = 1 := by rw [ka] at h60; exact h60
        refine lv_aload_n hx hb d_M_parts_73 rfl (lv_at hl 0 rfl) ?_
        refine fx_get hx hb hown (kc_M hK _) hKv 2 (by decide) (hw _ mf_M_13) (fun _ h => h) (hP 0 _ rfl) rfl d_M_parts_74 ?_
        refine lv_iload_n hx hb d_M_parts_77 rfl (lv_at hl 1 rfl) ?_
        refine fx_iald (j := a) hx hb hKv 0 (hP 2 _ rfl) rfl (rfl) (by omega) (by decide) d_M_parts_78 ?_
        refine lv_iconst (v := nI 1) hx hb d_M_parts_79 rfl ?_
        refine lv_icmp_ne (tgt := 87) hx hb d_M_parts_80 rfl (fun h80 => ?_) (fun h80 => ?_)
        · have h80 : ¬ o.2.1 = 1 := by rw [fa] at h80; exact h80
          refine lv_iconst (v := nI 0) hx hb d_M_parts_87 rfl ?_
          refine lv_istore_n hx hb d_M_parts_88 rfl hl (by decide) rfl (fun ls hl => ?_)
          have hl : lv_has ls 3 [(2, .int (nI 0)), (0, .ref (am 0)), (1, .int (nI a))] := hl
          refine lv_iload_n hx hb d_M_parts_89 rfl (lv_at hl 0 rfl) ?_
          refine lv_if_eq (tgt := 105) hx hb d_M_parts_90 rfl (fun _ => ?_) (fun h9 => absurd rfl h9)
          refine lv_aload_n hx hb d_M_parts_105 rfl (lv_at hl 1 rfl) ?_
          refine fx_get hx hb hown (kc_M hK _) hKv 3 (by decide) (hw _ mf_M_16) (fun _ h => h) (hP 0 _ rfl) rfl d_M_parts_106 ?_
          refine lv_iload_n hx hb d_M_parts_109 rfl (lv_at hl 2 rfl) ?_
          refine fx_iald (j := a) hx hb hKv 0 (hP 3 _ rfl) rfl (rfl) (by omega) (by decide) d_M_parts_110 ?_
          refine lv_if_le (tgt := 118) hx hb d_M_parts_111 rfl (fun h111 => ?_) (fun h111 => ?_)
          · have h111 : ¬ 0 < o.2.2.1.length := by rw [sa] at h111; exact Nat.not_lt.mpr ((nI_leI (by omega) (by decide)).mp h111)
            refine lv_iconst (v := nI 0) hx hb d_M_parts_118 rfl ?_
            exact fx_iret hx hb hr hlk hS.2.2 (Nat.le_of_ble_eq_true rfl) (Nat.le_of_ble_eq_true rfl) d_M_parts_119 (⟨by rw [(show so_parts Vs (nI a) = (0, nI (sv_prt o), Vs) from by unfold so_parts; rw [ta])]; exact congrArg (fun z => Outcome.returned (some (Value.int z))) (by unfold sv_prt; rw [if_neg (fun z => h29 z.1), if_neg (fun z => h80 z.2), if_neg h111]), S1, hP, by rw [(show so_parts Vs (nI a) = (0, nI (sv_prt o), Vs) from by unfold so_parts; rw [ta])]; exact hA, by rw [(show so_parts Vs (nI a) = (0, nI (sv_prt o), Vs) from by unfold so_parts; rw [ta])]; exact hT⟩)
          · have h111 : 0 < o.2.2.1.length := Nat.pos_of_ne_zero (fun z => h111 (by rw [sa, z]; decide))
            refine lv_iconst (v := nI 1) hx hb d_M_parts_114 rfl ?_
            refine lv_goto (tgt := 119) hx hb d_M_parts_115 rfl ?_
            exact fx_iret hx hb hr hlk hS.2.2 (Nat.le_of_ble_eq_true rfl) (Nat.le_of_ble_eq_true rfl) d_M_parts_119 (⟨by rw [(show so_parts Vs (nI a) = (0, nI (sv_prt o), Vs) from by unfold so_parts; rw [ta])]; exact congrArg (fun z => Outcome.returned (some (Value.int z))) (by unfold sv_prt; rw [if_neg (fun z => h29 z.1), if_neg (fun z => h80 z.2), if_pos h111]), S1, hP, by rw [(show so_parts Vs (nI a) = (0, nI (sv_prt o), Vs) from by unfold so_parts; rw [ta])]; exact hA, by rw [(show so_parts Vs (nI a) = (0, nI (sv_prt o), Vs) from by unfold so_parts; rw [ta])]; exact hT⟩)
        · have h80 : o.2.1 = 1 := by rw [fa] at h80; exact h80
          refine lv_iconst (v := nI 1) hx hb d_M_parts_83 rfl ?_
          refine lv_goto (tgt := 88) hx hb d_M_parts_84 rfl ?_
          refine lv_istore_n hx hb d_M_parts_88 rfl hl (by decide) rfl (fun ls hl => ?_)
          have hl : lv_has ls 3 [(2, .int (nI 1)), (0, .ref (am 0)), (1, .int (nI a))] := hl
          refine lv_iload_n hx hb d_M_parts_89 rfl (lv_at hl 0 rfl) ?_
          refine lv_if_eq (tgt := 105) hx hb d_M_parts_90 rfl (fun h9 => absurd h9 (by decide)) (fun _ => ?_)
          refine lv_aload_n hx hb d_M_parts_93 rfl (lv_at hl 1 rfl) ?_
          refine fx_get hx hb hown (kc_M hK _) hKv 3 (by decide) (hw _ mf_M_16) (fun _ h => h) (hP 0 _ rfl) rfl d_M_parts_94 ?_
          refine lv_iload_n hx hb d_M_parts_97 rfl (lv_at hl 2 rfl) ?_
          refine fx_iald (j := a) hx hb hKv 0 (hP 3 _ rfl) rfl (rfl) (by omega) (by decide) d_M_parts_98 ?_
          refine fx_ti (y := nI o.2.2.1.length) (sa) ?_
          refine fx_cS KT_moved (ct_M_bits w o.2.2.1.length la) hx hfl hK hb (by rw [hml]; exact hl.1) hown (hw _ mm_M_74) (fx_Y.code (hw _ mk_M_bits)) (hw _ ms_M_bits) (hw _ mn_M) (show fx_N y_M_bits 1 by decide +kernel) rfl ⟨Nat.le_of_ble_eq_true rfl, Nat.le_of_ble_eq_true rfl, Nat.le_of_ble_eq_true rfl, Nat.le_of_ble_eq_true rfl⟩ trivial d_M_parts_99 hS.2.2 (fun q h => h.elim) (fun v H1 locs hq hF hL => ?_) (fun x H1 locs hq _ _ => by cases hq.1)
          obtain ⟨hv, hH⟩ := hq
          cases hv
          rw [hH]
          have hS : va_S (mA am) s.heap H locs := ⟨hS.1, hS.2.1, hL⟩
          refine lv_goto (tgt := 119) hx hb d_M_parts_102 rfl ?_
          exact fx_iret hx hb hr hlk hS.2.2 (Nat.le_of_ble_eq_true rfl) (Nat.le_of_ble_eq_true rfl) d_M_parts_119 (⟨by rw [(show so_parts Vs (nI a) = (0, nI (sv_prt o), Vs) from by unfold so_parts; rw [ta])]; exact congrArg (fun z => Outcome.returned (some (Value.int z))) (by unfold sv_prt; rw [if_neg (fun z => h29 z.1), if_pos ⟨Or.inl h60, h80⟩]), S1, hP, by rw [(show so_parts Vs (nI a) = (0, nI (sv_prt o), Vs) from by unfold so_parts; rw [ta])]; exact hA, by rw [(show so_parts Vs (nI a) = (0, nI (sv_prt o), Vs) from by unfold so_parts; rw [ta])]; exact hT⟩)
      · have h60 : ¬ o.1 = 1 := by rw [ka] at h60; exact h60
        refine lv_aload_n hx hb d_M_parts_63 rfl (lv_at hl 0 rfl) ?_
        refine fx_get hx hb hown (kc_M hK _) hKv 1 (by decide) (hw _ mf_M_7) (fun _ h => h) (hP 0 _ rfl) rfl d_M_parts_64 ?_
        refine lv_iload_n hx hb d_M_parts_67 rfl (lv_at hl 1 rfl) ?_
        refine fx_iald (j := a) hx hb hKv 0 (hP 1 _ rfl) rfl (rfl) (by omega) (by decide) d_M_parts_68 ?_
        refine lv_iconst (v := nI 2) hx hb d_M_parts_69 rfl ?_
        refine lv_icmp_ne (tgt := 87) hx hb d_M_parts_70 rfl (fun h70 => ?_) (fun h70 => ?_)
        · have h70 : ¬ o.1 = 2 := by rw [ka] at h70; exact h70
          refine lv_iconst (v := nI 0) hx hb d_M_parts_87 rfl ?_
          refine lv_istore_n hx hb d_M_parts_88 rfl hl (by decide) rfl (fun ls hl => ?_)
          have hl : lv_has ls 3 [(2, .int (nI 0)), (0, .ref (am 0)), (1, .int (nI a))] := hl
          refine lv_iload_n hx hb d_M_parts_89 rfl (lv_at hl 0 rfl) ?_
          refine lv_if_eq (tgt := 105) hx hb d_M_parts_90 rfl (fun _ => ?_) (fun h9 => absurd rfl h9)
          refine lv_aload_n hx hb d_M_parts_105 rfl (lv_at hl 1 rfl) ?_
          refine fx_get hx hb hown (kc_M hK _) hKv 3 (by decide) (hw _ mf_M_16) (fun _ h => h) (hP 0 _ rfl) rfl d_M_parts_106 ?_
          refine lv_iload_n hx hb d_M_parts_109 rfl (lv_at hl 2 rfl) ?_
          refine fx_iald (j := a) hx hb hKv 0 (hP 3 _ rfl) rfl (rfl) (by omega) (by decide) d_M_parts_110 ?_
          refine lv_if_le (tgt := 118) hx hb d_M_parts_111 rfl (fun h111 => ?_) (fun h111 => ?_)
          · have h111 : ¬ 0 < o.2.2.1.length := by rw [sa] at h111; exact Nat.not_lt.mpr ((nI_leI (by omega) (by decide)).mp h111)
            refine lv_iconst (v := nI 0) hx hb d_M_parts_118 rfl ?_
            exact fx_iret hx hb hr hlk hS.2.2 (Nat.le_of_ble_eq_true rfl) (Nat.le_of_ble_eq_true rfl) d_M_parts_119 (⟨by rw [(show so_parts Vs (nI a) = (0, nI (sv_prt o), Vs) from by unfold so_parts; rw [ta])]; exact congrArg (fun z => Outcome.returned (some (Value.int z))) (by unfold sv_prt; rw [if_neg (fun z => h29 z.1), if_neg (fun z => z.1.elim h60 h70), if_neg h111]), S1, hP, by rw [(show so_parts Vs (nI a) = (0, nI (sv_prt o), Vs) from by unfold so_parts; rw [ta])]; exact hA, by rw [(show so_parts Vs (nI a) = (0, nI (sv_prt o), Vs) from by unfold so_parts; rw [ta])]; exact hT⟩)
          · have h111 : 0 < o.2.2.1.length := Nat.pos_of_ne_zero (fun z => h111 (by rw [sa, z]; decide))
            refine lv_iconst (v := nI 1) hx hb d_M_parts_114 rfl ?_
            refine lv_goto (tgt := 119) hx hb d_M_parts_115 rfl ?_
            exact fx_iret hx hb hr hlk hS.2.2 (Nat.le_of_ble_eq_true rfl) (Nat.le_of_ble_eq_true rfl) d_M_parts_119 (⟨by rw [(show so_parts Vs (nI a) = (0, nI (sv_prt o), Vs) from by unfold so_parts; rw [ta])]; exact congrArg (fun z => Outcome.returned (some (Value.int z))) (by unfold sv_prt; rw [if_neg (fun z => h29 z.1), if_neg (fun z => z.1.elim h60 h70), if_pos h111]), S1, hP, by rw [(show so_parts Vs (nI a) = (0, nI (sv_prt o), Vs) from by unfold so_parts; rw [ta])]; exact hA, by rw [(show so_parts Vs (nI a) = (0, nI (sv_prt o), Vs) from by unfold so_parts; rw [ta])]; exact hT⟩)
        · have h70 : o.1 = 2 := by rw [ka] at h70; exact h70
          refine lv_aload_n hx hb d_M_parts_73 rfl (lv_at hl 0 rfl) ?_
          refine fx_get hx hb hown (kc_M hK _) hKv 2 (by decide) (hw _ mf_M_13) (fun _ h => h) (hP 0 _ rfl) rfl d_M_parts_74 ?_
          refine lv_iload_n hx hb d_M_parts_77 rfl (lv_at hl 1 rfl) ?_
          refine fx_iald (j := a) hx hb hKv 0 (hP 2 _ rfl) rfl (rfl) (by omega) (by decide) d_M_parts_78 ?_
          refine lv_iconst (v := nI 1) hx hb d_M_parts_79 rfl ?_
          refine lv_icmp_ne (tgt := 87) hx hb d_M_parts_80 rfl (fun h80 => ?_) (fun h80 => ?_)
          · have h80 : ¬ o.2.1 = 1 := by rw [fa] at h80; exact h80
            refine lv_iconst (v := nI 0) hx hb d_M_parts_87 rfl ?_
            refine lv_istore_n hx hb d_M_parts_88 rfl hl (by decide) rfl (fun ls hl => ?_)
            have hl : lv_has ls 3 [(2, .int (nI 0)), (0, .ref (am 0)), (1, .int (nI a))] := hl
            refine lv_iload_n hx hb d_M_parts_89 rfl (lv_at hl 0 rfl) ?_
            refine lv_if_eq (tgt := 105) hx hb d_M_parts_90 rfl (fun _ => ?_) (fun h9 => absurd rfl h9)
            refine lv_aload_n hx hb d_M_parts_105 rfl (lv_at hl 1 rfl) ?_
            refine fx_get hx hb hown (kc_M hK _) hKv 3 (by decide) (hw _ mf_M_16) (fun _ h => h) (hP 0 _ rfl) rfl d_M_parts_106 ?_
            refine lv_iload_n hx hb d_M_parts_109 rfl (lv_at hl 2 rfl) ?_
            refine fx_iald (j := a) hx hb hKv 0 (hP 3 _ rfl) rfl (rfl) (by omega) (by decide) d_M_parts_110 ?_
            refine lv_if_le (tgt := 118) hx hb d_M_parts_111 rfl (fun h111 => ?_) (fun h111 => ?_)
            · have h111 : ¬ 0 < o.2.2.1.length := by rw [sa] at h111; exact Nat.not_lt.mpr ((nI_leI (by omega) (by decide)).mp h111)
              refine lv_iconst (v := nI 0) hx hb d_M_parts_118 rfl ?_
              exact fx_iret hx hb hr hlk hS.2.2 (Nat.le_of_ble_eq_true rfl) (Nat.le_of_ble_eq_true rfl) d_M_parts_119 (⟨by rw [(show so_parts Vs (nI a) = (0, nI (sv_prt o), Vs) from by unfold so_parts; rw [ta])]; exact congrArg (fun z => Outcome.returned (some (Value.int z))) (by unfold sv_prt; rw [if_neg (fun z => h29 z.1), if_neg (fun z => h80 z.2), if_neg h111]), S1, hP, by rw [(show so_parts Vs (nI a) = (0, nI (sv_prt o), Vs) from by unfold so_parts; rw [ta])]; exact hA, by rw [(show so_parts Vs (nI a) = (0, nI (sv_prt o), Vs) from by unfold so_parts; rw [ta])]; exact hT⟩)
            · have h111 : 0 < o.2.2.1.length := Nat.pos_of_ne_zero (fun z => h111 (by rw [sa, z]; decide))
              refine lv_iconst (v := nI 1) hx hb d_M_parts_114 rfl ?_
              refine lv_goto (tgt := 119) hx hb d_M_parts_115 rfl ?_
              exact fx_iret hx hb hr hlk hS.2.2 (Nat.le_of_ble_eq_true rfl) (Nat.le_of_ble_eq_true rfl) d_M_parts_119 (⟨by rw [(show so_parts Vs (nI a) = (0, nI (sv_prt o), Vs) from by unfold so_parts; rw [ta])]; exact congrArg (fun z => Outcome.returned (some (Value.int z))) (by unfold sv_prt; rw [if_neg (fun z => h29 z.1), if_neg (fun z => h80 z.2), if_pos h111]), S1, hP, by rw [(show so_parts Vs (nI a) = (0, nI (sv_prt o), Vs) from by unfold so_parts; rw [ta])]; exact hA, by rw [(show so_parts Vs (nI a) = (0, nI (sv_prt o), Vs) from by unfold so_parts; rw [ta])]; exact hT⟩)
          · have h80 : o.2.1 = 1 := by rw [fa] at h80; exact h80
            refine lv_iconst (v := nI 1) hx hb d_M_parts_83 rfl ?_
            refine lv_goto (tgt := 88) hx hb d_M_parts_84 rfl ?_
            refine lv_istore_n hx hb d_M_parts_88 rfl hl (by decide) rfl (fun ls hl => ?_)
            have hl : lv_has ls 3 [(2, .int (nI 1)), (0, .ref (am 0)), (1, .int (nI a))] := hl
            refine lv_iload_n hx hb d_M_parts_89 rfl (lv_at hl 0 rfl) ?_
            refine lv_if_eq (tgt := 105) hx hb d_M_parts_90 rfl (fun h9 => absurd h9 (by decide)) (fun _ => ?_)
            refine lv_aload_n hx hb d_M_parts_93 rfl (lv_at hl 1 rfl) ?_
            refine fx_get hx hb hown (kc_M hK _) hKv 3 (by decide) (hw _ mf_M_16) (fun _ h => h) (hP 0 _ rfl) rfl d_M_parts_94 ?_
            refine lv_iload_n hx hb d_M_parts_97 rfl (lv_at hl 2 rfl) ?_
            refine fx_iald (j := a) hx hb hKv 0 (hP 3 _ rfl) rfl (rfl) (by omega) (by decide) d_M_parts_98 ?_
            refine fx_ti (y := nI o.2.2.1.length) (sa) ?_
            refine fx_cS KT_moved (ct_M_bits w o.2.2.1.length la) hx hfl hK hb (by rw [hml]; exact hl.1) hown (hw _ mm_M_74) (fx_Y.code (hw _ mk_M_bits)) (hw _ ms_M_bits) (hw _ mn_M) (show fx_N y_M_bits 1 by decide +kernel) rfl ⟨Nat.le_of_ble_eq_true rfl, Nat.le_of_ble_eq_true rfl, Nat.le_of_ble_eq_true rfl, Nat.le_of_ble_eq_true rfl⟩ trivial d_M_parts_99 hS.2.2 (fun q h => h.elim) (fun v H1 locs hq hF hL => ?_) (fun x H1 locs hq _ _ => by cases hq.1)
            obtain ⟨hv, hH⟩ := hq
            cases hv
            rw [hH]
            have hS : va_S (mA am) s.heap H locs := ⟨hS.1, hS.2.1, hL⟩
            refine lv_goto (tgt := 119) hx hb d_M_parts_102 rfl ?_
            exact fx_iret hx hb hr hlk hS.2.2 (Nat.le_of_ble_eq_true rfl) (Nat.le_of_ble_eq_true rfl) d_M_parts_119 (⟨by rw [(show so_parts Vs (nI a) = (0, nI (sv_prt o), Vs) from by unfold so_parts; rw [ta])]; exact congrArg (fun z => Outcome.returned (some (Value.int z))) (by unfold sv_prt; rw [if_neg (fun z => h29 z.1), if_pos ⟨Or.inr h70, h80⟩]), S1, hP, by rw [(show so_parts Vs (nI a) = (0, nI (sv_prt o), Vs) from by unfold so_parts; rw [ta])]; exact hA, by rw [(show so_parts Vs (nI a) = (0, nI (sv_prt o), Vs) from by unfold so_parts; rw [ta])]; exact hT⟩)
    · have h29 : o.1 = 2 := by rw [ka] at h29; exact h29
      refine lv_aload_n hx hb d_M_parts_32 rfl (lv_at hl 0 rfl) ?_
      refine fx_get hx hb hown (kc_M hK _) hKv 2 (by decide) (hw _ mf_M_13) (fun _ h => h) (hP 0 _ rfl) rfl d_M_parts_33 ?_
      refine lv_iload_n hx hb d_M_parts_36 rfl (lv_at hl 1 rfl) ?_
      refine fx_iald (j := a) hx hb hKv 0 (hP 2 _ rfl) rfl (rfl) (by omega) (by decide) d_M_parts_37 ?_
      refine lv_if_ne (tgt := 53) hx hb d_M_parts_38 rfl (fun h38 => ?_) (fun h38 => ?_)
      · have h38 : ¬ o.2.1 = 0 := by rw [fa] at h38; exact h38
        refine lv_aload_n hx hb d_M_parts_53 rfl (lv_at hl 0 rfl) ?_
        refine fx_get hx hb hown (kc_M hK _) hKv 1 (by decide) (hw _ mf_M_7) (fun _ h => h) (hP 0 _ rfl) rfl d_M_parts_54 ?_
        refine lv_iload_n hx hb d_M_parts_57 rfl (lv_at hl 1 rfl) ?_
        refine fx_iald (j := a) hx hb hKv 0 (hP 1 _ rfl) rfl (rfl) (by omega) (by decide) d_M_parts_58 ?_
        refine lv_iconst (v := nI 1) hx hb d_M_parts_59 rfl ?_
        refine lv_icmp_eq (tgt := 73) hx hb d_M_parts_60 rfl (fun h60 => ?_) (fun h60 => ?_)
        · have h60 : o.1 = 1 := by rw [ka] at h60; exact h60
          refine lv_aload_n hx hb d_M_parts_73 rfl (lv_at hl 0 rfl) ?_
          refine fx_get hx hb hown (kc_M hK _) hKv 2 (by decide) (hw _ mf_M_13) (fun _ h => h) (hP 0 _ rfl) rfl d_M_parts_74 ?_
          refine lv_iload_n hx hb d_M_parts_77 rfl (lv_at hl 1 rfl) ?_
          refine fx_iald (j := a) hx hb hKv 0 (hP 2 _ rfl) rfl (rfl) (by omega) (by decide) d_M_parts_78 ?_
          refine lv_iconst (v := nI 1) hx hb d_M_parts_79 rfl ?_
          refine lv_icmp_ne (tgt := 87) hx hb d_M_parts_80 rfl (fun h80 => ?_) (fun h80 => ?_)
          · have h80 : ¬ o.2.1 = 1 := by rw [fa] at h80; exact h80
            refine lv_iconst (v := nI 0) hx hb d_M_parts_87 rfl ?_
            refine lv_istore_n hx hb d_M_parts_88 rfl hl (by decide) rfl (fun ls hl => ?_)
            have hl : lv_has ls 3 [(2, .int (nI 0)), (0, .ref (am 0)), (1, .int (nI a))] := hl
            refine lv_iload_n hx hb d_M_parts_89 rfl (lv_at hl 0 rfl) ?_
            refine lv_if_eq (tgt := 105) hx hb d_M_parts_90 rfl (fun _ => ?_) (fun h9 => absurd rfl h9)
            refine lv_aload_n hx hb d_M_parts_105 rfl (lv_at hl 1 rfl) ?_
            refine fx_get hx hb hown (kc_M hK _) hKv 3 (by decide) (hw _ mf_M_16) (fun _ h => h) (hP 0 _ rfl) rfl d_M_parts_106 ?_
            refine lv_iload_n hx hb d_M_parts_109 rfl (lv_at hl 2 rfl) ?_
            refine fx_iald (j := a) hx hb hKv 0 (hP 3 _ rfl) rfl (rfl) (by omega) (by decide) d_M_parts_110 ?_
            refine lv_if_le (tgt := 118) hx hb d_M_parts_111 rfl (fun h111 => ?_) (fun h111 => ?_)
            · have h111 : ¬ 0 < o.2.2.1.length := by rw [sa] at h111; exact Nat.not_lt.mpr ((nI_leI (by omega) (by decide)).mp h111)
              refine lv_iconst (v := nI 0) hx hb d_M_parts_118 rfl ?_
              exact fx_iret hx hb hr hlk hS.2.2 (Nat.le_of_ble_eq_true rfl) (Nat.le_of_ble_eq_true rfl) d_M_parts_119 (⟨by rw [(show so_parts Vs (nI a) = (0, nI (sv_prt o), Vs) from by unfold so_parts; rw [ta])]; exact congrArg (fun z => Outcome.returned (some (Value.int z))) (by unfold sv_prt; rw [if_neg (fun z => h38 z.2), if_neg (fun z => h80 z.2), if_neg h111]), S1, hP, by rw [(show so_parts Vs (nI a) = (0, nI (sv_prt o), Vs) from by unfold so_parts; rw [ta])]; exact hA, by rw [(show so_parts Vs (nI a) = (0, nI (sv_prt o), Vs) from by unfold so_parts; rw [ta])]; exact hT⟩)
            · have h111 : 0 < o.2.2.1.length := Nat.pos_of_ne_zero (fun z => h111 (by rw [sa, z]; decide))
              refine lv_iconst (v := nI 1) hx hb d_M_parts_114 rfl ?_
              refine lv_goto (tgt := 119) hx hb d_M_parts_115 rfl ?_
              exact fx_iret hx hb hr hlk hS.2.2 (Nat.le_of_ble_eq_true rfl) (Nat.le_of_ble_eq_true rfl) d_M_parts_119 (⟨by rw [(show so_parts Vs (nI a) = (0, nI (sv_prt o), Vs) from by unfold so_parts; rw [ta])]; exact congrArg (fun z => Outcome.returned (some (Value.int z))) (by unfold sv_prt; rw [if_neg (fun z => h38 z.2), if_neg (fun z => h80 z.2), if_pos h111]), S1, hP, by rw [(show so_parts Vs (nI a) = (0, nI (sv_prt o), Vs) from by unfold so_parts; rw [ta])]; exact hA, by rw [(show so_parts Vs (nI a) = (0, nI (sv_prt o), Vs) from by unfold so_parts; rw [ta])]; exact hT⟩)
          · have h80 : o.2.1 = 1 := by rw [fa] at h80; exact h80
            refine lv_iconst (v := nI 1) hx hb d_M_parts_83 rfl ?_
            refine lv_goto (tgt := 88) hx hb d_M_parts_84 rfl ?_
            refine lv_istore_n hx hb d_M_parts_88 rfl hl (by decide) rfl (fun ls hl => ?_)
            have hl : lv_has ls 3 [(2, .int (nI 1)), (0, .ref (am 0)), (1, .int (nI a))] := hl
            refine lv_iload_n hx hb d_M_parts_89 rfl (lv_at hl 0 rfl) ?_
            refine lv_if_eq (tgt := 105) hx hb d_M_parts_90 rfl (fun h9 => absurd h9 (by decide)) (fun _ => ?_)
            refine lv_aload_n hx hb d_M_parts_93 rfl (lv_at hl 1 rfl) ?_
            refine fx_get hx hb hown (kc_M hK _) hKv 3 (by decide) (hw _ mf_M_16) (fun _ h => h) (hP 0 _ rfl) rfl d_M_parts_94 ?_
            refine lv_iload_n hx hb d_M_parts_97 rfl (lv_at hl 2 rfl) ?_
            refine fx_iald (j := a) hx hb hKv 0 (hP 3 _ rfl) rfl (rfl) (by omega) (by decide) d_M_parts_98 ?_
            refine fx_ti (y := nI o.2.2.1.length) (sa) ?_
            refine fx_cS KT_moved (ct_M_bits w o.2.2.1.length la) hx hfl hK hb (by rw [hml]; exact hl.1) hown (hw _ mm_M_74) (fx_Y.code (hw _ mk_M_bits)) (hw _ ms_M_bits) (hw _ mn_M) (show fx_N y_M_bits 1 by decide +kernel) rfl ⟨Nat.le_of_ble_eq_true rfl, Nat.le_of_ble_eq_true rfl, Nat.le_of_ble_eq_true rfl, Nat.le_of_ble_eq_true rfl⟩ trivial d_M_parts_99 hS.2.2 (fun q h => h.elim) (fun v H1 locs hq hF hL => ?_) (fun x H1 locs hq _ _ => by cases hq.1)
            obtain ⟨hv, hH⟩ := hq
            cases hv
            rw [hH]
            have hS : va_S (mA am) s.heap H locs := ⟨hS.1, hS.2.1, hL⟩
            refine lv_goto (tgt := 119) hx hb d_M_parts_102 rfl ?_
            exact fx_iret hx hb hr hlk hS.2.2 (Nat.le_of_ble_eq_true rfl) (Nat.le_of_ble_eq_true rfl) d_M_parts_119 (⟨by rw [(show so_parts Vs (nI a) = (0, nI (sv_prt o), Vs) from by unfold so_parts; rw [ta])]; exact congrArg (fun z => Outcome.returned (some (Value.int z))) (by unfold sv_prt; rw [if_neg (fun z => h38 z.2), if_pos ⟨Or.inl h60, h80⟩]), S1, hP, by rw [(show so_parts Vs (nI a) = (0, nI (sv_prt o), Vs) from by unfold so_parts; rw [ta])]; exact hA, by rw [(show so_parts Vs (nI a) = (0, nI (sv_prt o), Vs) from by unfold so_parts; rw [ta])]; exact hT⟩)
        · have h60 : ¬ o.1 = 1 := by rw [ka] at h60; exact h60
          refine lv_aload_n hx hb d_M_parts_63 rfl (lv_at hl 0 rfl) ?_
          refine fx_get hx hb hown (kc_M hK _) hKv 1 (by decide) (hw _ mf_M_7) (fun _ h => h) (hP 0 _ rfl) rfl d_M_parts_64 ?_
          refine lv_iload_n hx hb d_M_parts_67 rfl (lv_at hl 1 rfl) ?_
          refine fx_iald (j := a) hx hb hKv 0 (hP 1 _ rfl) rfl (rfl) (by omega) (by decide) d_M_parts_68 ?_
          refine lv_iconst (v := nI 2) hx hb d_M_parts_69 rfl ?_
          refine lv_icmp_ne (tgt := 87) hx hb d_M_parts_70 rfl (fun h70 => ?_) (fun h70 => ?_)
          · have h70 : ¬ o.1 = 2 := by rw [ka] at h70; exact h70
            refine lv_iconst (v := nI 0) hx hb d_M_parts_87 rfl ?_
            refine lv_istore_n hx hb d_M_parts_88 rfl hl (by decide) rfl (fun ls hl => ?_)
            have hl : lv_has ls 3 [(2, .int (nI 0)), (0, .ref (am 0)), (1, .int (nI a))] := hl
            refine lv_iload_n hx hb d_M_parts_89 rfl (lv_at hl 0 rfl) ?_
            refine lv_if_eq (tgt := 105) hx hb d_M_parts_90 rfl (fun _ => ?_) (fun h9 => absurd rfl h9)
            refine lv_aload_n hx hb d_M_parts_105 rfl (lv_at hl 1 rfl) ?_
            refine fx_get hx hb hown (kc_M hK _) hKv 3 (by decide) (hw _ mf_M_16) (fun _ h => h) (hP 0 _ rfl) rfl d_M_parts_106 ?_
            refine lv_iload_n hx hb d_M_parts_109 rfl (lv_at hl 2 rfl) ?_
            refine fx_iald (j := a) hx hb hKv 0 (hP 3 _ rfl) rfl (rfl) (by omega) (by decide) d_M_parts_110 ?_
            refine lv_if_le (tgt := 118) hx hb d_M_parts_111 rfl (fun h111 => ?_) (fun h111 => ?_)
            · have h111 : ¬ 0 < o.2.2.1.length := by rw [sa] at h111; exact Nat.not_lt.mpr ((nI_leI (by omega) (by decide)).mp h111)
              refine lv_iconst (v := nI 0) hx hb d_M_parts_118 rfl ?_
              exact fx_iret hx hb hr hlk hS.2.2 (Nat.le_of_ble_eq_true rfl) (Nat.le_of_ble_eq_true rfl) d_M_parts_119 (⟨by rw [(show so_parts Vs (nI a) = (0, nI (sv_prt o), Vs) from by unfold so_parts; rw [ta])]; exact congrArg (fun z => Outcome.returned (some (Value.int z))) (by unfold sv_prt; rw [if_neg (fun z => h38 z.2), if_neg (fun z => z.1.elim h60 h70), if_neg h111]), S1, hP, by rw [(show so_parts Vs (nI a) = (0, nI (sv_prt o), Vs) from by unfold so_parts; rw [ta])]; exact hA, by rw [(show so_parts Vs (nI a) = (0, nI (sv_prt o), Vs) from by unfold so_parts; rw [ta])]; exact hT⟩)
            · have h111 : 0 < o.2.2.1.length := Nat.pos_of_ne_zero (fun z => h111 (by rw [sa, z]; decide))
              refine lv_iconst (v := nI 1) hx hb d_M_parts_114 rfl ?_
              refine lv_goto (tgt := 119) hx hb d_M_parts_115 rfl ?_
              exact fx_iret hx hb hr hlk hS.2.2 (Nat.le_of_ble_eq_true rfl) (Nat.le_of_ble_eq_true rfl) d_M_parts_119 (⟨by rw [(show so_parts Vs (nI a) = (0, nI (sv_prt o), Vs) from by unfold so_parts; rw [ta])]; exact congrArg (fun z => Outcome.returned (some (Value.int z))) (by unfold sv_prt; rw [if_neg (fun z => h38 z.2), if_neg (fun z => z.1.elim h60 h70), if_pos h111]), S1, hP, by rw [(show so_parts Vs (nI a) = (0, nI (sv_prt o), Vs) from by unfold so_parts; rw [ta])]; exact hA, by rw [(show so_parts Vs (nI a) = (0, nI (sv_prt o), Vs) from by unfold so_parts; rw [ta])]; exact hT⟩)
          · have h70 : o.1 = 2 := by rw [ka] at h70; exact h70
            refine lv_aload_n hx hb d_M_parts_73 rfl (lv_at hl 0 rfl) ?_
            refine fx_get hx hb hown (kc_M hK _) hKv 2 (by decide) (hw _ mf_M_13) (fun _ h => h) (hP 0 _ rfl) rfl d_M_parts_74 ?_
            refine lv_iload_n hx hb d_M_parts_77 rfl (lv_at hl 1 rfl) ?_
            refine fx_iald (j := a) hx hb hKv 0 (hP 2 _ rfl) rfl (rfl) (by omega) (by decide) d_M_parts_78 ?_
            refine lv_iconst (v := nI 1) hx hb d_M_parts_79 rfl ?_
            refine lv_icmp_ne (tgt := 87) hx hb d_M_parts_80 rfl (fun h80 => ?_) (fun h80 => ?_)
            · have h80 : ¬ o.2.1 = 1 := by rw [fa] at h80; exact h80
              refine lv_iconst (v := nI 0) hx hb d_M_parts_87 rfl ?_
              refine lv_istore_n hx hb d_M_parts_88 rfl hl (by decide) rfl (fun ls hl => ?_)
              have hl : lv_has ls 3 [(2, .int (nI 0)), (0, .ref (am 0)), (1, .int (nI a))] := hl
              refine lv_iload_n hx hb d_M_parts_89 rfl (lv_at hl 0 rfl) ?_
              refine lv_if_eq (tgt := 105) hx hb d_M_parts_90 rfl (fun _ => ?_) (fun h9 => absurd rfl h9)
              refine lv_aload_n hx hb d_M_parts_105 rfl (lv_at hl 1 rfl) ?_
              refine fx_get hx hb hown (kc_M hK _) hKv 3 (by decide) (hw _ mf_M_16) (fun _ h => h) (hP 0 _ rfl) rfl d_M_parts_106 ?_
              refine lv_iload_n hx hb d_M_parts_109 rfl (lv_at hl 2 rfl) ?_
              refine fx_iald (j := a) hx hb hKv 0 (hP 3 _ rfl) rfl (rfl) (by omega) (by decide) d_M_parts_110 ?_
              refine lv_if_le (tgt := 118) hx hb d_M_parts_111 rfl (fun h111 => ?_) (fun h111 => ?_)
              · have h111 : ¬ 0 < o.2.2.1.length := by rw [sa] at h111; exact Nat.not_lt.mpr ((nI_leI (by omega) (by decide)).mp h111)
                refine lv_iconst (v := nI 0) hx hb d_M_parts_118 rfl ?_
                exact fx_iret hx hb hr hlk hS.2.2 (Nat.le_of_ble_eq_true rfl) (Nat.le_of_ble_eq_true rfl) d_M_parts_119 (⟨by rw [(show so_parts Vs (nI a) = (0, nI (sv_prt o), Vs) from by unfold so_parts; rw [ta])]; exact congrArg (fun z => Outcome.returned (some (Value.int z))) (by unfold sv_prt; rw [if_neg (fun z => h38 z.2), if_neg (fun z => h80 z.2), if_neg h111]), S1, hP, by rw [(show so_parts Vs (nI a) = (0, nI (sv_prt o), Vs) from by unfold so_parts; rw [ta])]; exact hA, by rw [(show so_parts Vs (nI a) = (0, nI (sv_prt o), Vs) from by unfold so_parts; rw [ta])]; exact hT⟩)
              · have h111 : 0 < o.2.2.1.length := Nat.pos_of_ne_zero (fun z => h111 (by rw [sa, z]; decide))
                refine lv_iconst (v := nI 1) hx hb d_M_parts_114 rfl ?_
                refine lv_goto (tgt := 119) hx hb d_M_parts_115 rfl ?_
                exact fx_iret hx hb hr hlk hS.2.2 (Nat.le_of_ble_eq_true rfl) (Nat.le_of_ble_eq_true rfl) d_M_parts_119 (⟨by rw [(show so_parts Vs (nI a) = (0, nI (sv_prt o), Vs) from by unfold so_parts; rw [ta])]; exact congrArg (fun z => Outcome.returned (some (Value.int z))) (by unfold sv_prt; rw [if_neg (fun z => h38 z.2), if_neg (fun z => h80 z.2), if_pos h111]), S1, hP, by rw [(show so_parts Vs (nI a) = (0, nI (sv_prt o), Vs) from by unfold so_parts; rw [ta])]; exact hA, by rw [(show so_parts Vs (nI a) = (0, nI (sv_prt o), Vs) from by unfold so_parts; rw [ta])]; exact hT⟩)
            · have h80 : o.2.1 = 1 := by rw [fa] at h80; exact h80
              refine lv_iconst (v := nI 1) hx hb d_M_parts_83 rfl ?_
              refine lv_goto (tgt := 88) hx hb d_M_parts_84 rfl ?_
              refine lv_istore_n hx hb d_M_parts_88 rfl hl (by decide) rfl (fun ls hl => ?_)
              have hl : lv_has ls 3 [(2, .int (nI 1)), (0, .ref (am 0)), (1, .int (nI a))] := hl
              refine lv_iload_n hx hb d_M_parts_89 rfl (lv_at hl 0 rfl) ?_
              refine lv_if_eq (tgt := 105) hx hb d_M_parts_90 rfl (fun h9 => absurd h9 (by decide)) (fun _ => ?_)
              refine lv_aload_n hx hb d_M_parts_93 rfl (lv_at hl 1 rfl) ?_
              refine fx_get hx hb hown (kc_M hK _) hKv 3 (by decide) (hw _ mf_M_16) (fun _ h => h) (hP 0 _ rfl) rfl d_M_parts_94 ?_
              refine lv_iload_n hx hb d_M_parts_97 rfl (lv_at hl 2 rfl) ?_
              refine fx_iald (j := a) hx hb hKv 0 (hP 3 _ rfl) rfl (rfl) (by omega) (by decide) d_M_parts_98 ?_
              refine fx_ti (y := nI o.2.2.1.length) (sa) ?_
              refine fx_cS KT_moved (ct_M_bits w o.2.2.1.length la) hx hfl hK hb (by rw [hml]; exact hl.1) hown (hw _ mm_M_74) (fx_Y.code (hw _ mk_M_bits)) (hw _ ms_M_bits) (hw _ mn_M) (show fx_N y_M_bits 1 by decide +kernel) rfl ⟨Nat.le_of_ble_eq_true rfl, Nat.le_of_ble_eq_true rfl, Nat.le_of_ble_eq_true rfl, Nat.le_of_ble_eq_true rfl⟩ trivial d_M_parts_99 hS.2.2 (fun q h => h.elim) (fun v H1 locs hq hF hL => ?_) (fun x H1 locs hq _ _ => by cases hq.1)
              obtain ⟨hv, hH⟩ := hq
              cases hv
              rw [hH]
              have hS : va_S (mA am) s.heap H locs := ⟨hS.1, hS.2.1, hL⟩
              refine lv_goto (tgt := 119) hx hb d_M_parts_102 rfl ?_
              exact fx_iret hx hb hr hlk hS.2.2 (Nat.le_of_ble_eq_true rfl) (Nat.le_of_ble_eq_true rfl) d_M_parts_119 (⟨by rw [(show so_parts Vs (nI a) = (0, nI (sv_prt o), Vs) from by unfold so_parts; rw [ta])]; exact congrArg (fun z => Outcome.returned (some (Value.int z))) (by unfold sv_prt; rw [if_neg (fun z => h38 z.2), if_pos ⟨Or.inr h70, h80⟩]), S1, hP, by rw [(show so_parts Vs (nI a) = (0, nI (sv_prt o), Vs) from by unfold so_parts; rw [ta])]; exact hA, by rw [(show so_parts Vs (nI a) = (0, nI (sv_prt o), Vs) from by unfold so_parts; rw [ta])]; exact hT⟩)
      · have h38 : o.2.1 = 0 := by rw [fa] at h38; exact h38
        refine lv_aload_n hx hb d_M_parts_41 rfl (lv_at hl 0 rfl) ?_
        refine fx_get hx hb hown (kc_M hK _) hKv 7 (by decide) (hw _ mf_M_25) (fun _ h => h) (hP 0 _ rfl) rfl d_M_parts_42 ?_
        refine lv_aload_n hx hb d_M_parts_45 rfl (lv_at hl 0 rfl) ?_
        refine fx_get hx hb hown (kc_M hK _) hKv 3 (by decide) (hw _ mf_M_16) (fun _ h => h) (hP 0 _ rfl) rfl d_M_parts_46 ?_
        refine lv_iload_n hx hb d_M_parts_49 rfl (lv_at hl 1 rfl) ?_
        refine fx_iald (j := a) hx hb hKv 0 (hP 3 _ rfl) rfl (rfl) (by omega) (by decide) d_M_parts_50 ?_
        refine fx_iald (j := o.2.2.1.length) hx hb hKv 0 (hP 6 _ rfl) rfl (sa) (by omega) (by decide) d_M_parts_51 ?_
        exact fx_iret hx hb hr hlk hS.2.2 (Nat.le_of_ble_eq_true rfl) (Nat.le_of_ble_eq_true rfl) d_M_parts_52 (⟨by rw [(show so_parts Vs (nI a) = (0, nI (sv_prt o), Vs) from by unfold so_parts; rw [ta])]; exact congrArg (fun z => Outcome.returned (some (Value.int z))) (by unfold sv_prt; rw [if_pos ⟨h29, h38⟩]; exact hA.2.2.2 _ la), S1, hP, by rw [(show so_parts Vs (nI a) = (0, nI (sv_prt o), Vs) from by unfold so_parts; rw [ta])]; exact hA, by rw [(show so_parts Vs (nI a) = (0, nI (sv_prt o), Vs) from by unfold so_parts; rw [ta])]; exact hT⟩)
