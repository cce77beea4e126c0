/-! merged; a version's constructor and with. -/
theorem kf_snoc {out : List Int32} {t : Nat} {g : Nat → Int32} {x : Int32} (hlen : out.length = t) (hg : ∀ z, z < t → g z = out.getD z 0) : ∀ z, z < t + 1 → upd g t x z = (out ++ [x]).getD z 0 := by
  intro z hz
  by_cases h : z = t
  · subst h
    rw [pk_us]
    simp [List.getD_eq_getElem?_getD, ← hlen]
  · rw [pk_un h, hg z (by omega)]
    simp [List.getD_eq_getElem?_getD, List.getElem?_append_left (show z < out.length by omega)]
theorem fx_U.tr {a : Nat} {H H1 H2 : Heap} (h : fx_U a H H1) (k : fx_U a H1 H2) : fx_U a H H2 := ⟨k.1.trans h.1, fun q hq => (k.2 q hq).trans (h.2 q hq)⟩
abbrev cVo (w : Wd) (b : Nat) (k f : Int32) (e y : Nat) (H : Heap) : Prop := va_at w.D cls (b, .inr (1, [.int k, .int f, .ref e, .ref y])) H
set_option maxHeartbeats 4000000 in
set_option maxRecDepth 100000 in
theorem ct_L_merged (w : Wd) (a b : Nat) (xs ys : List Int32) (hz : xs.length + ys.length ≤ 100) : fx_C (KT w) y_L_merged 6 (rmG 1) [.ref a, .ref b] (fun H => cA w a xs H ∧ cA w b ys H) (fun H o H' => ∃ q, o = .returned (some (.ref q)) ∧ H.size ≤ q ∧ cA w q (sv_mrg xs ys) H') (fun H q => H.size ≤ q) := by
  refine fx_of (ret := (some ((FieldType.array FieldType.int)))) (cc := b_L_merged) (fun s hK => hK.1 _ mk_L_merged _) (Nat.le_of_ble_eq_true rfl) ?_
  intro p l e s m below meth c hx hfl hK hb hml hr hlk hnt hown hin hpre ls hl
  have hw : ∀ z ∈ gw, z.before ([.ref a, .ref b] : List Value).toArray s = true := fun z hz => hK.1 z hz _
  have hKv := hK.2.1
  have hL : ∀ q ∈ ([] : List Loc), (fun H q => H.size ≤ q) s.heap q.base := fun q hq => by cases hq
  obtain ⟨hA, hB⟩ := hpre
  have hla := hA.lt
  have hlb := hB.lt
  have hl : lv_has ls 6 [(0, .ref a), (1, .ref b)] := hl
  refine lv_aload_n hx hb d_L_merged_0 rfl (lv_at hl 0 rfl) ?_
  refine fx_alen hx hb hKv 0 hA rfl d_L_merged_1 ?_
  refine lv_aload_n hx hb d_L_merged_2 rfl (lv_at hl 1 rfl) ?_
  refine fx_alen hx hb hKv 0 hB rfl d_L_merged_3 ?_
  refine lv_iadd hx hb d_L_merged_4 ?_
  refine fx_ti (y := nI (xs.length + ys.length)) (nI_add _ _) ?_
  refine fx_newI hx hb hKv 0 rfl (hw _ ma_int) rfl (show xs.length + ys.length ≤ 100000 by omega) (Nat.le_of_ble_eq_true rfl) (by show 0 + (xs.length + ys.length) ≤ 200; omega) d_L_merged_5 (fun q H1 hq hO hG => ?_)
  have hA := hG.ex.kept hA
  have hB := hG.ex.kept hB
  have hna : a ≠ q := by omega
  have hnb : b ≠ q := by omega
  refine lv_astore_n hx hb d_L_merged_7 rfl hl (by decide) rfl (fun ls hl => ?_)
  have hl : lv_has ls 6 [(2, .ref q), (0, .ref a), (1, .ref b)] := hl
  refine lv_iconst (v := nI 0) hx hb d_L_merged_8 rfl ?_
  refine lv_istore_n hx hb d_L_merged_9 rfl hl (by decide) rfl (fun ls hl => ?_)
  have hl : lv_has ls 6 [(3, .int (nI 0)), (2, .ref q), (0, .ref a), (1, .ref b)] := hl
  refine lv_iconst (v := nI 0) hx hb d_L_merged_10 rfl ?_
  refine lv_istore hx hb d_L_merged_11 hl (by decide) rfl (fun ls hl => ?_)
  have hl : lv_has ls 6 [(4, .int (nI 0)), (3, .int (nI 0)), (2, .ref q), (0, .ref a), (1, .ref b)] := hl
  refine lv_iconst (v := nI 0) hx hb d_L_merged_13 rfl ?_
  refine lv_istore hx hb d_L_merged_14 hl (by decide) rfl (fun ls hl => ?_)
  have hl : lv_has ls 6 [(5, .int (nI 0)), (4, .int (nI 0)), (3, .int (nI 0)), (2, .ref q), (0, .ref a), (1, .ref b)] := hl
  refine fx_gen (fun Q0 hQ0 => ?_)
  have loop : ∀ (k i j t : Nat) (out : List Int32) (g : Nat → Int32) (Ht : Heap) (locs : List Loc), i ≤ xs.length → j ≤ ys.length → t = i + j → t + k = xs.length + ys.length → out.length = t → (∀ z, z < t → g z = out.getD z 0) → out ++ sv_mg k (xs.drop i) (ys.drop j) = sv_mrg xs ys → cF w q (xs.length + ys.length) g Ht → cA w a xs Ht → cA w b ys Ht → (∀ z ∈ locs, (fun H q => H.size ≤ q) s.heap z.base) → ∀ (ls : Array Slot), lv_has ls 6 [(5, .int (nI t)), (4, .int (nI j)), (3, .int (nI i)), (2, .ref q), (0, .ref a), (1, .ref b)] → W p l e (rmG 1) s m ([.ref a, .ref b] : List Value).toArray below meth c Ht locs (0 + 1) (0 + (xs.length + ys.length)) Q0 (F0 m 16 ls []) := by
    intro k
    induction k with
    | zero =>
      intro i j t out g Ht locs hi hj ht hk hlen hg hmg hO hA hB hL ls hl
      have hte : t = xs.length + ys.length := by omega
      rw [hQ0]
      have hout : out = sv_mrg xs ys := by simpa [sv_mg] using hmg
      refine lv_iload hx hb d_L_merged_16 (lv_at hl 0 rfl) ?_
      refine lv_aload_n hx hb d_L_merged_18 rfl (lv_at hl 3 rfl) ?_
      refine fx_alen hx hb hKv 0 hO rfl d_L_merged_19 ?_
      refine lv_icmp_ge (tgt := 83) hx hb d_L_merged_20 rfl (fun _ => ?_) (fun h9 => absurd (by rw [hte]; exact nI_le (Nat.le_refl _) (by omega)) h9)
      refine lv_aload_n hx hb d_L_merged_83 rfl (lv_at hl 3 rfl) ?_
      exact fx_aret hx hb hr (Or.inr ⟨_, rfl⟩) (Or.inr ⟨_, rfl⟩) hlk hL (Nat.le_of_ble_eq_true rfl) (by show 0 + (xs.length + ys.length) ≤ 200; omega) d_L_merged_84 (⟨q, rfl, by omega, fx_A.of hO (by rw [sv_mrg_length]) (fun z hz => by rw [hg z (by omega), hout])⟩)
    | succ k ih =>
      intro i j t out g Ht locs hi hj ht hk hlen hg hmg hO hA hB hL ls hl
      refine lv_iload hx hb d_L_merged_16 (lv_at hl 0 rfl) ?_
      refine lv_aload_n hx hb d_L_merged_18 rfl (lv_at hl 3 rfl) ?_
      refine fx_alen hx hb hKv 0 hO rfl d_L_merged_19 ?_
      refine lv_icmp_ge (tgt := 83) hx hb d_L_merged_20 rfl (fun h9 => absurd h9 (nI_ge (by omega) (by omega))) (fun _ => ?_)
      refine lv_iload_n hx hb d_L_merged_23 rfl (lv_at hl 2 rfl) ?_
      refine lv_aload_n hx hb d_L_merged_24 rfl (lv_at hl 4 rfl) ?_
      refine fx_alen hx hb hKv 0 hA rfl d_L_merged_25 ?_
      refine lv_icmp_ge (tgt := 59) hx hb d_L_merged_26 rfl (fun h26 => ?_) (fun h26 => ?_)
      · have hi1 : xs.length ≤ i := (nI_leI (by omega) (by omega)).mp h26
        have hjlt : j < ys.length := by omega
        have hc : i = xs.length ∨ ¬ xs.getD i 0 ≤ ys.getD j 0 := Or.inl (by omega)
        refine lv_iload hx hb d_L_merged_59 (lv_at hl 1 rfl) ?_
        refine lv_aload_n hx hb d_L_merged_61 rfl (lv_at hl 5 rfl) ?_
        refine fx_alen hx hb hKv 0 hB rfl d_L_merged_62 ?_
        refine lv_icmp_ge (tgt := 77) hx hb d_L_merged_63 rfl (fun h9 => absurd h9 (nI_ge hjlt (by omega))) (fun _ => ?_)
        refine lv_aload_n hx hb d_L_merged_66 rfl (lv_at hl 3 rfl) ?_
        refine lv_iload hx hb d_L_merged_67 (lv_at hl 0 rfl) ?_
        refine lv_aload_n hx hb d_L_merged_69 rfl (lv_at hl 5 rfl) ?_
        refine lv_iload hx hb d_L_merged_70 (lv_at hl 1 rfl) ?_
        refine fx_iald (j := j) hx hb hKv 0 hB rfl (rfl) (hjlt) (by omega) d_L_merged_72 ?_
        refine fx_iast (B := (fun H q => H.size ≤ q) s.heap) hx hb hKv 0 hO rfl rfl (show t < xs.length + ys.length by omega) (by omega) hL (show s.heap.size ≤ q by omega) d_L_merged_73 (fun H2 locs hO hU hL => ?_)
        have hA := hU.kept hA hna
        have hB := hU.kept hB hnb
        refine lv_iinc (k := 1) (v := nI (j + 1)) hx hb d_L_merged_74 hl rfl (nI_1 _) (by decide) rfl (fun ls hl => ?_)
        have hl : lv_has ls 6 [(4, .int (nI (j + 1))), (5, .int (nI t)), (3, .int (nI i)), (2, .ref q), (0, .ref a), (1, .ref b)] := hl
        refine lv_iinc (k := 1) (v := nI (t + 1)) hx hb d_L_merged_77 hl rfl (nI_1 _) (by decide) rfl (fun ls hl => ?_)
        have hl : lv_has ls 6 [(5, .int (nI (t + 1))), (4, .int (nI (j + 1))), (3, .int (nI i)), (2, .ref q), (0, .ref a), (1, .ref b)] := hl
        refine lv_goto (tgt := 16) hx hb d_L_merged_80 rfl ?_
        have hl : lv_has ls 6 [(5, .int (nI (t + 1))), (4, .int (nI (j + 1))), (3, .int (nI i)), (2, .ref q), (0, .ref a), (1, .ref b)] := lv_sub hl [0, 1, 2, 3, 4, 5] rfl
        exact ih i (j + 1) (t + 1) (out ++ [ys.getD j 0]) _ _ _ hi (by omega) (by omega) (by omega) (by simp [hlen]) (kf_snoc hlen hg) (mg_r hjlt hc hmg) hO hA hB hL ls hl
      · have hilt : i < xs.length := Nat.not_le.mp (fun z => h26 (nI_le z (by omega)))
        refine lv_iload hx hb d_L_merged_29 (lv_at hl 1 rfl) ?_
        refine lv_aload_n hx hb d_L_merged_31 rfl (lv_at hl 5 rfl) ?_
        refine fx_alen hx hb hKv 0 hB rfl d_L_merged_32 ?_
        refine lv_icmp_ge (tgt := 46) hx hb d_L_merged_33 rfl (fun h33 => ?_) (fun h33 => ?_)
        · have hj1 : ys.length ≤ j := (nI_leI (by omega) (by omega)).mp h33
          have hc : j = ys.length ∨ xs.getD i 0 ≤ ys.getD j 0 := Or.inl (by omega)
          refine lv_aload_n hx hb d_L_merged_46 rfl (lv_at hl 3 rfl) ?_
          refine lv_iload hx hb d_L_merged_47 (lv_at hl 0 rfl) ?_
          refine lv_aload_n hx hb d_L_merged_49 rfl (lv_at hl 4 rfl) ?_
          refine lv_iload_n hx hb d_L_merged_50 rfl (lv_at hl 2 rfl) ?_
          refine fx_iald (j := i) hx hb hKv 0 hA rfl (rfl) (hilt) (by omega) d_L_merged_51 ?_
          refine fx_iast (B := (fun H q => H.size ≤ q) s.heap) hx hb hKv 0 hO rfl rfl (show t < xs.length + ys.length by omega) (by omega) hL (show s.heap.size ≤ q by omega) d_L_merged_52 (fun H2 locs hO hU hL => ?_)
          have hA := hU.kept hA hna
          have hB := hU.kept hB hnb
          refine lv_iinc (k := 2) (v := nI (i + 1)) hx hb d_L_merged_53 hl rfl (nI_1 _) (by decide) rfl (fun ls hl => ?_)
          have hl : lv_has ls 6 [(3, .int (nI (i + 1))), (5, .int (nI t)), (4, .int (nI j)), (2, .ref q), (0, .ref a), (1, .ref b)] := hl
          refine lv_goto (tgt := 77) hx hb d_L_merged_56 rfl ?_
          refine lv_iinc (k := 1) (v := nI (t + 1)) hx hb d_L_merged_77 hl rfl (nI_1 _) (by decide) rfl (fun ls hl => ?_)
          have hl : lv_has ls 6 [(5, .int (nI (t + 1))), (3, .int (nI (i + 1))), (4, .int (nI j)), (2, .ref q), (0, .ref a), (1, .ref b)] := hl
          refine lv_goto (tgt := 16) hx hb d_L_merged_80 rfl ?_
          have hl : lv_has ls 6 [(5, .int (nI (t + 1))), (4, .int (nI j)), (3, .int (nI (i + 1))), (2, .ref q), (0, .ref a), (1, .ref b)] := lv_sub hl [0, 2, 1, 3, 4, 5] rfl
          exact ih (i + 1) j (t + 1) (out ++ [xs.getD i 0]) _ _ _ (by omega) hj (by omega) (by omega) (by simp [hlen]) (kf_snoc hlen hg) (mg_l hilt hc hmg) hO hA hB hL ls hl
        · have hjlt : j < ys.length := Nat.not_le.mp (fun z => h33 (nI_le z (by omega)))
          refine lv_aload_n hx hb d_L_merged_36 rfl (lv_at hl 4 rfl) ?_
          refine lv_iload_n hx hb d_L_merged_37 rfl (lv_at hl 2 rfl) ?_
          refine fx_iald (j := i) hx hb hKv 0 hA rfl (rfl) (hilt) (by omega) d_L_merged_38 ?_
          refine lv_aload_n hx hb d_L_merged_39 rfl (lv_at hl 5 rfl) ?_
          refine lv_iload hx hb d_L_merged_40 (lv_at hl 1 rfl) ?_
          refine fx_iald (j := j) hx hb hKv 0 hB rfl (rfl) (hjlt) (by omega) d_L_merged_42 ?_
          refine lv_icmp_gt (tgt := 59) hx hb d_L_merged_43 rfl (fun h43 => ?_) (fun h43 => ?_)
          · have hc : i = xs.length ∨ ¬ xs.getD i 0 ≤ ys.getD j 0 := Or.inr (Int32.not_le.mpr h43)
            refine lv_iload hx hb d_L_merged_59 (lv_at hl 1 rfl) ?_
            refine lv_aload_n hx hb d_L_merged_61 rfl (lv_at hl 5 rfl) ?_
            refine fx_alen hx hb hKv 0 hB rfl d_L_merged_62 ?_
            refine lv_icmp_ge (tgt := 77) hx hb d_L_merged_63 rfl (fun h9 => absurd h9 (nI_ge hjlt (by omega))) (fun _ => ?_)
            refine lv_aload_n hx hb d_L_merged_66 rfl (lv_at hl 3 rfl) ?_
            refine lv_iload hx hb d_L_merged_67 (lv_at hl 0 rfl) ?_
            refine lv_aload_n hx hb d_L_merged_69 rfl (lv_at hl 5 rfl) ?_
            refine lv_iload hx hb d_L_merged_70 (lv_at hl 1 rfl) ?_
            refine fx_iald (j := j) hx hb hKv 0 hB rfl (rfl) (hjlt) (by omega) d_L_merged_72 ?_
            refine fx_iast (B := (fun H q => H.size ≤ q) s.heap) hx hb hKv 0 hO rfl rfl (show t < xs.length + ys.length by omega) (by omega) hL (show s.heap.size ≤ q by omega) d_L_merged_73 (fun H2 locs hO hU hL => ?_)
            have hA := hU.kept hA hna
            have hB := hU.kept hB hnb
            refine lv_iinc (k := 1) (v := nI (j + 1)) hx hb d_L_merged_74 hl rfl (nI_1 _) (by decide) rfl (fun ls hl => ?_)
            have hl : lv_has ls 6 [(4, .int (nI (j + 1))), (5, .int (nI t)), (3, .int (nI i)), (2, .ref q), (0, .ref a), (1, .ref b)] := hl
            refine lv_iinc (k := 1) (v := nI (t + 1)) hx hb d_L_merged_77 hl rfl (nI_1 _) (by decide) rfl (fun ls hl => ?_)
            have hl : lv_has ls 6 [(5, .int (nI (t + 1))), (4, .int (nI (j + 1))), (3, .int (nI i)), (2, .ref q), (0, .ref a), (1, .ref b)] := hl
            refine lv_goto (tgt := 16) hx hb d_L_merged_80 rfl ?_
            have hl : lv_has ls 6 [(5, .int (nI (t + 1))), (4, .int (nI (j + 1))), (3, .int (nI i)), (2, .ref q), (0, .ref a), (1, .ref b)] := lv_sub hl [0, 1, 2, 3, 4, 5] rfl
            exact ih i (j + 1) (t + 1) (out ++ [ys.getD j 0]) _ _ _ hi (by omega) (by omega) (by omega) (by simp [hlen]) (kf_snoc hlen hg) (mg_r hjlt hc hmg) hO hA hB hL ls hl
          · have hc : j = ys.length ∨ xs.getD i 0 ≤ ys.getD j 0 := Or.inr (Int32.not_lt.mp h43)
            refine lv_aload_n hx hb d_L_merged_46 rfl (lv_at hl 3 rfl) ?_
            refine lv_iload hx hb d_L_merged_47 (lv_at hl 0 rfl) ?_
            refine lv_aload_n hx hb d_L_merged_49 rfl (lv_at hl 4 rfl) ?_
            refine lv_iload_n hx hb d_L_merged_50 rfl (lv_at hl 2 rfl) ?_
            refine fx_iald (j := i) hx hb hKv 0 hA rfl (rfl) (hilt) (by omega) d_L_merged_51 ?_
            refine fx_iast (B := (fun H q => H.size ≤ q) s.heap) hx hb hKv 0 hO rfl rfl (show t < xs.length + ys.length by omega) (by omega) hL (show s.heap.size ≤ q by omega) d_L_merged_52 (fun H2 locs hO hU hL => ?_)
            have hA := hU.kept hA hna
            have hB := hU.kept hB hnb
            refine lv_iinc (k := 2) (v := nI (i + 1)) hx hb d_L_merged_53 hl rfl (nI_1 _) (by decide) rfl (fun ls hl => ?_)
            have hl : lv_has ls 6 [(3, .int (nI (i + 1))), (5, .int (nI t)), (4, .int (nI j)), (2, .ref q), (0, .ref a), (1, .ref b)] := hl
            refine lv_goto (tgt := 77) hx hb d_L_merged_56 rfl ?_
            refine lv_iinc (k := 1) (v := nI (t + 1)) hx hb d_L_merged_77 hl rfl (nI_1 _) (by decide) rfl (fun ls hl => ?_)
            have hl : lv_has ls 6 [(5, .int (nI (t + 1))), (3, .int (nI (i + 1))), (4, .int (nI j)), (2, .ref q), (0, .ref a), (1, .ref b)] := hl
            refine lv_goto (tgt := 16) hx hb d_L_merged_80 rfl ?_
            have hl : lv_has ls 6 [(5, .int (nI (t + 1))), (4, .int (nI j)), (3, .int (nI (i + 1))), (2, .ref q), (0, .ref a), (1, .ref b)] := lv_sub hl [0, 2, 1, 3, 4, 5] rfl
            exact ih (i + 1) j (t + 1) (out ++ [xs.getD i 0]) _ _ _ (by omega) hj (by omega) (by omega) (by simp [hlen]) (kf_snoc hlen hg) (mg_l hilt hc hmg) hO hA hB hL ls hl
  exact loop (xs.length + ys.length) 0 0 0 [] _ _ _ (Nat.zero_le _) (Nat.zero_le _) rfl (by omega) rfl (fun z hz => absurd hz (Nat.not_lt_zero _)) rfl hO hA hB hL ls hl
set_option maxHeartbeats 4000000 in
set_option maxRecDepth 100000 in
theorem ct_V_init (w : Wd) (a e1 y1 : Nat) (k f : Int32) : fx_C (KT w) y_V_init 5 (rmK 1) [.ref a, .int k, .int f, .ref e1, .ref y1] (fun H => va_at w.D cls (a, .inr (1, [.int 0, .int 0, .null, .null])) H) (fun H o H' => o = .returned none ∧ cVo w a k f e1 y1 H' ∧ fx_U a H H') (fun _ q => q = a) := by
  refine fx_of (ret := none) (cc := b_V_init) (fun s hK => hK.1 _ mk_V_init _) (Nat.le_of_ble_eq_true rfl) ?_
  intro p l e s m below meth c hx hfl hK hb hml hr hlk hnt hown hin hpre ls hl
  have hw : ∀ z ∈ gw, z.before ([.ref a, .int k, .int f, .ref e1, .ref y1] : List Value).toArray s = true := fun z hz => hK.1 z hz _
  have hKv := hK.2.1
  have hL : ∀ q ∈ ([] : List Loc), (fun _ q => q = a) s.heap q.base := fun q hq => by cases hq
  have hO := hpre
  have hl : lv_has ls 5 [(0, .ref a), (1, .int k), (2, .int f), (3, .ref e1), (4, .ref y1)] := hl
  refine lv_aload_n hx hb d_V_init_0 rfl (lv_at hl 0 rfl) ?_
  refine W.objInit hx hb hown (hw _ mm_V_1) (hw _ mi_OJ_init) (hw _ mk_OJ_init) rfl (by rw [hml]; exact hl.1) rfl d_V_init_1 (Nat.le_of_ble_eq_true rfl) (Nat.le_of_ble_eq_true rfl) ?_
  refine W.eq (g2 := F0 m 4 ls []) rfl ?_
  refine lv_aload_n hx hb d_V_init_4 rfl (lv_at hl 0 rfl) ?_
  refine lv_iload_n hx hb d_V_init_5 rfl (lv_at hl 1 rfl) ?_
  refine fx_putF (B := (fun _ q => q = a) s.heap) hx hb hown (kc_V hK _) hKv 0 (by decide) (hw _ mf_V_7) (fun _ h => h) rfl hin rfl hO (by simp) rfl rfl hL rfl d_V_init_6 (fun H1 locs hO hU1 hL => ?_)
  refine lv_aload_n hx hb d_V_init_9 rfl (lv_at hl 0 rfl) ?_
  refine lv_iload_n hx hb d_V_init_10 rfl (lv_at hl 2 rfl) ?_
  refine fx_putF (B := (fun _ q => q = a) s.heap) hx hb hown (kc_V hK _) hKv 1 (by decide) (hw _ mf_V_13) (fun _ h => h) rfl hin rfl hO (by simp) rfl rfl hL rfl d_V_init_11 (fun H2 locs hO hU2 hL => ?_)
  refine lv_aload_n hx hb d_V_init_14 rfl (lv_at hl 0 rfl) ?_
  refine lv_aload_n hx hb d_V_init_15 rfl (lv_at hl 3 rfl) ?_
  refine fx_putF (B := (fun _ q => q = a) s.heap) hx hb hown (kc_V hK _) hKv 2 (by decide) (hw _ mf_V_16) (fun _ h => h) rfl hin rfl hO (by simp) rfl rfl hL rfl d_V_init_16 (fun H3 locs hO hU3 hL => ?_)
  refine lv_aload_n hx hb d_V_init_19 rfl (lv_at hl 0 rfl) ?_
  refine lv_aload hx hb d_V_init_20 (lv_at hl 4 rfl) ?_
  refine fx_putF (B := (fun _ q => q = a) s.heap) hx hb hown (kc_V hK _) hKv 3 (by decide) (hw _ mf_V_20) (fun _ h => h) rfl hin rfl hO (by simp) rfl rfl hL rfl d_V_init_22 (fun H4 locs hO hU4 hL => ?_)
  exact fx_vret hx hb hr hlk hL (Nat.le_of_ble_eq_true rfl) (Nat.le_of_ble_eq_true rfl) d_V_init_25 (⟨rfl, hO, ((hU1.tr hU2).tr hU3).tr hU4⟩)
set_option maxHeartbeats 4000000 in
set_option maxRecDepth 100000 in
theorem ct_V_with (w : Wd) (a e1 y1 e2 : Nat) (k f : Int32) : fx_C (KT w) y_V_with 2 (rmG 2) [.ref a, .ref e2] (fun H => cVo w a k f e1 y1 H) (fun H o H' => ∃ q, o = .returned (some (.ref q)) ∧ H.size ≤ q ∧ cVo w q k f e2 y1 H') (fun H q => H.size ≤ q) := by
  refine fx_of (ret := (some ((FieldType.object "LastingShapes$Version")))) (cc := b_V_with) (fun s hK => hK.1 _ mk_V_with _) (Nat.le_of_ble_eq_true rfl) ?_
  intro p l e s m below meth c hx hfl hK hb hml hr hlk hnt hown hin hpre ls hl
  have hw : ∀ z ∈ gw, z.before ([.ref a, .ref e2] : List Value).toArray s = true := fun z hz => hK.1 z hz _
  have hKv := hK.2.1
  have hL : ∀ q ∈ ([] : List Loc), (fun H q => H.size ≤ q) s.heap q.base := fun q hq => by cases hq
  have hl : lv_has ls 2 [(0, .ref a), (1, .ref e2)] := hl
  refine fx_new (fs := [.int 0, .int 0, .null, .null]) hx hb hown (kc_V hK _) hKv (hw _ mc_V_8) (hw _ mt_V) (hw _ mn_V) (by decide) (Nat.le_of_ble_eq_true rfl) (Nat.le_of_ble_eq_true rfl) d_V_with_0 (fun q H1 hq hN hG => ?_)
  have hV := hG.ex.kept hpre
  refine lv_dup hx hb d_V_with_3 rfl ?_
  refine lv_aload_n hx hb d_V_with_4 rfl (lv_at hl 0 rfl) ?_
  refine fx_get hx hb hown (kc_V hK _) hKv 0 (by decide) (hw _ mf_V_7) (fun _ h => h) hV rfl d_V_with_5 ?_
  refine lv_aload_n hx hb d_V_with_8 rfl (lv_at hl 0 rfl) ?_
  refine fx_get hx hb hown (kc_V hK _) hKv 1 (by decide) (hw _ mf_V_13) (fun _ h => h) hV rfl d_V_with_9 ?_
  refine lv_aload_n hx hb d_V_with_12 rfl (lv_at hl 1 rfl) ?_
  refine lv_aload_n hx hb d_V_with_13 rfl (lv_at hl 0 rfl) ?_
  refine fx_get hx hb hown (kc_V hK _) hKv 3 (by decide) (hw _ mf_V_20) (fun _ h => h) hV rfl d_V_with_14 ?_
  refine fx_cI (B := (fun H q => H.size ≤ q) s.heap) KT_moved (ct_V_init w q e2 y1 k f) hx hfl hK hb (by rw [hml]; exact hl.1) hown (hw _ mm_V_23) (hw _ mk_V_init) (hw _ mi_V_init) rfl (show fx_N y_V_init 4 by decide +kernel) rfl ⟨Nat.le_of_ble_eq_true rfl, Nat.le_of_ble_eq_true rfl, Nat.le_of_ble_eq_true rfl, Nat.le_of_ble_eq_true rfl⟩ (hN) d_V_with_17 hL (fun z hz => by rw [hz]; show s.heap.size ≤ q; omega) (fun v H2 locs hq hF hL => ?_) (fun x H2 locs hq hF hL => by cases hq.1)
  obtain ⟨hv, hN, hU⟩ := hq
  cases hv
  refine W.eq (g2 := F0 m 20 ls [.ref q]) rfl ?_
  exact fx_aret hx hb hr (Or.inl ⟨_, rfl⟩) (Or.inr ⟨_, rfl⟩) hlk hL (Nat.le_of_ble_eq_true rfl) (Nat.le_of_ble_eq_true rfl) d_V_with_20 (⟨q, rfl, by omega, hN⟩)
