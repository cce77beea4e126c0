set_option maxHeartbeats 4000000 in
set_option maxRecDepth 100000 in
theorem ct_M_thrown (w : Wd) (am : Nat → Nat) (hI : mI am) (n th : Int32) (fk ff fs fe fy fw : Nat → Int32)  : mCt w am y_M_thrown 1 (rmK 0) [] (n, th, fk, ff, fs, fe, fy, fw) (some (.int th)) (n, th, fk, ff, fs, fe, fy, fw) := by
  refine fx_of (ret := some .int) (cc := b_M_thrown) (fun s hK => hK.1 _ mk_M_thrown _) (Nat.le_of_ble_eq_true rfl) ?_
  intro p l e s m below meth c hx hfl hK hb hml hr hlk hnt hown hin hP ls hl
  have hw : ∀ z ∈ gw, z.before (.ref (am 0) :: [] : List Value).toArray s = true := fun z hz => hK.1 z hz _
  have hKv := hK.2.1
  have hD : va_D (mA am) [(am 0, .inr (2, [.int (n), .ref (am 1), .ref (am 2), .ref (am 3), .ref (am 4), .ref (am 5), .int (th), .ref (am 6)])), (am 1, .inl (w.I, 64, .inl fk)), (am 2, .inl (w.I, 64, .inl ff)), (am 3, .inl (w.I, 64, .inl fs)), (am 4, .inl (w.I, 6400, .inl fe)), (am 5, .inl (w.I, 6400, .inl fy)), (am 6, .inl (w.I, 101, .inl fw))] := mw_D (w := w) hI ((n), (th), fk, ff, fs, fe, fy, fw)
  have hS : va_S (mA am) s.heap s.heap [] := va_S.rf
  have hP : va_P w.D cls [(am 0, .inr (2, [.int (n), .ref (am 1), .ref (am 2), .ref (am 3), .ref (am 4), .ref (am 5), .int (th), .ref (am 6)])), (am 1, .inl (w.I, 64, .inl fk)), (am 2, .inl (w.I, 64, .inl ff)), (am 3, .inl (w.I, 64, .inl fs)), (am 4, .inl (w.I, 6400, .inl fe)), (am 5, .inl (w.I, 6400, .inl fy)), (am 6, .inl (w.I, 101, .inl fw))] s.heap := hP
  have hl : lv_has ls 1 [(0, .ref (am 0))] := hl
  refine lv_aload_n hx hb d_M_thrown_0 rfl (lv_at hl 0 rfl) ?_
  refine fx_get hx hb hown (kc_M hK _) hKv 6 (by decide) (hw _ mf_M_28) (fun _ h => h) (hP 0 _ rfl) rfl d_M_thrown_1 ?_
  exact fx_iret hx hb hr hlk hS.2.2 (Nat.le_of_ble_eq_true rfl) (Nat.le_of_ble_eq_true rfl) d_M_thrown_4 (⟨rfl, hP⟩)
set_option maxHeartbeats 4000000 in
set_option maxRecDepth 100000 in
theorem ct_M_versions (w : Wd) (am : Nat → Nat) (hI : mI am) (n th : Int32) (fk ff fs fe fy fw : Nat → Int32)  : mCt w am y_M_versions 1 (rmK 0) [] (n, th, fk, ff, fs, fe, fy, fw) (some (.int n)) (n, 0, fk, ff, fs, fe, fy, fw) := by
  refine fx_of (ret := some .int) (cc := b_M_versions) (fun s hK => hK.1 _ mk_M_versions _) (Nat.le_of_ble_eq_true rfl) ?_
  intro p l e s m below meth c hx hfl hK hb hml hr hlk hnt hown hin hP ls hl
  have hw : ∀ z ∈ gw, z.before (.ref (am 0) :: [] : List Value).toArray s = true := fun z hz => hK.1 z hz _
  have hKv := hK.2.1
  have hD : va_D (mA am) [(am 0, .inr (2, [.int (n), .ref (am 1), .ref (am 2), .ref (am 3), .ref (am 4), .ref (am 5), .int (th), .ref (am 6)])), (am 1, .inl (w.I, 64, .inl fk)), (am 2, .inl (w.I, 64, .inl ff)), (am 3, .inl (w.I, 64, .inl fs)), (am 4, .inl (w.I, 6400, .inl fe)), (am 5, .inl (w.I, 6400, .inl fy)), (am 6, .inl (w.I, 101, .inl fw))] := mw_D (w := w) hI ((n), (th), fk, ff, fs, fe, fy, fw)
  have hS : va_S (mA am) s.heap s.heap [] := va_S.rf
  have hP : va_P w.D cls [(am 0, .inr (2, [.int (n), .ref (am 1), .ref (am 2), .ref (am 3), .ref (am 4), .ref (am 5), .int (th), .ref (am 6)])), (am 1, .inl (w.I, 64, .inl fk)), (am 2, .inl (w.I, 64, .inl ff)), (am 3, .inl (w.I, 64, .inl fs)), (am 4, .inl (w.I, 6400, .inl fe)), (am 5, .inl (w.I, 6400, .inl fy)), (am 6, .inl (w.I, 101, .inl fw))] s.heap := hP
  have hl : lv_has ls 1 [(0, .ref (am 0))] := hl
  refine lv_aload_n hx hb d_M_versions_0 rfl (lv_at hl 0 rfl) ?_
  refine lv_iconst (v := nI 0) hx hb d_M_versions_1 rfl ?_
  refine va_put (D := w.D) (ci := 2) (v := .int (nI 0)) (ty := .int) (C := R_M) (T := T_M) (N := 8) (Ts := u_ws R_M T_M 8) hx hb (kc_M hK _).2.1 (fun _ h => h) ty_M tyok_M nm_M hown hKv hP hD hS 0 rfl rfl 6 (by decide) (hw _ mf_M_28) (fun _ h => h) rfl (by decide +kernel) rfl rfl (Nat.le_of_ble_eq_true rfl) d_M_versions_2 (fun H locs hP hD hS => ?_)
  have hP : va_P w.D cls [(am 0, .inr (2, [.int (n), .ref (am 1), .ref (am 2), .ref (am 3), .ref (am 4), .ref (am 5), .int (nI 0), .ref (am 6)])), (am 1, .inl (w.I, 64, .inl fk)), (am 2, .inl (w.I, 64, .inl ff)), (am 3, .inl (w.I, 64, .inl fs)), (am 4, .inl (w.I, 6400, .inl fe)), (am 5, .inl (w.I, 6400, .inl fy)), (am 6, .inl (w.I, 101, .inl fw))] H := hP
  have hD : va_D (mA am) [(am 0, .inr (2, [.int (n), .ref (am 1), .ref (am 2), .ref (am 3), .ref (am 4), .ref (am 5), .int (nI 0), .ref (am 6)])), (am 1, .inl (w.I, 64, .inl fk)), (am 2, .inl (w.I, 64, .inl ff)), (am 3, .inl (w.I, 64, .inl fs)), (am 4, .inl (w.I, 6400, .inl fe)), (am 5, .inl (w.I, 6400, .inl fy)), (am 6, .inl (w.I, 101, .inl fw))] := hD
  refine lv_aload_n hx hb d_M_versions_5 rfl (lv_at hl 0 rfl) ?_
  refine fx_get hx hb hown (kc_M hK _) hKv 0 (by decide) (hw _ mf_M_32) (fun _ h => h) (hP 0 _ rfl) rfl d_M_versions_6 ?_
  exact fx_iret hx hb hr hlk hS.2.2 (Nat.le_of_ble_eq_true rfl) (Nat.le_of_ble_eq_true rfl) d_M_versions_9 (⟨rfl, hP⟩)
set_option maxHeartbeats 4000000 in
set_option maxRecDepth 100000 in
theorem ct_M_throwsBy (w : Wd) (am : Nat → Nat) (hI : mI am) (n th : Int32) (fk ff fs fe fy fw : Nat → Int32) (k : Int32) : mCt w am y_M_throwsBy 2 (rmK 0) [.int k] (n, th, fk, ff, fs, fe, fy, fw) (some (.int (zI (0 < k)))) (n, k, fk, ff, fs, fe, fy, fw) := by
  refine fx_of (ret := some .boolean) (cc := b_M_throwsBy) (fun s hK => hK.1 _ mk_M_throwsBy _) (Nat.le_of_ble_eq_true rfl) ?_
  intro p l e s m below meth c hx hfl hK hb hml hr hlk hnt hown hin hP ls hl
  have hw : ∀ z ∈ gw, z.before (.ref (am 0) :: [.int k] : List Value).toArray s = true := fun z hz => hK.1 z hz _
  have hKv := hK.2.1
  have hD : va_D (mA am) [(am 0, .inr (2, [.int (n), .ref (am 1), .ref (am 2), .ref (am 3), .ref (am 4), .ref (am 5), .int (th), .ref (am 6)])), (am 1, .inl (w.I, 64, .inl fk)), (am 2, .inl (w.I, 64, .inl ff)), (am 3, .inl (w.I, 64, .inl fs)), (am 4, .inl (w.I, 6400, .inl fe)), (am 5, .inl (w.I, 6400, .inl fy)), (am 6, .inl (w.I, 101, .inl fw))] := mw_D (w := w) hI ((n), (th), fk, ff, fs, fe, fy, fw)
  have hS : va_S (mA am) s.heap s.heap [] := va_S.rf
  have hP : va_P w.D cls [(am 0, .inr (2, [.int (n), .ref (am 1), .ref (am 2), .ref (am 3), .ref (am 4), .ref (am 5), .int (th), .ref (am 6)])), (am 1, .inl (w.I, 64, .inl fk)), (am 2, .inl (w.I, 64, .inl ff)), (am 3, .inl (w.I, 64, .inl fs)), (am 4, .inl (w.I, 6400, .inl fe)), (am 5, .inl (w.I, 6400, .inl fy)), (am 6, .inl (w.I, 101, .inl fw))] s.heap := hP
  have hl : lv_has ls 2 [(0, .ref (am 0)), (1, .int k)] := hl
  refine lv_aload_n hx hb d_M_throwsBy_0 rfl (lv_at hl 0 rfl) ?_
  refine lv_iload_n hx hb d_M_throwsBy_1 rfl (lv_at hl 1 rfl) ?_
  refine va_put (D := w.D) (ci := 2) (v := .int k) (ty := .int) (C := R_M) (T := T_M) (N := 8) (Ts := u_ws R_M T_M 8) hx hb (kc_M hK _).2.1 (fun _ h => h) ty_M tyok_M nm_M hown hKv hP hD hS 0 rfl rfl 6 (by decide) (hw _ mf_M_28) (fun _ h => h) rfl (by decide +kernel) rfl rfl (Nat.le_of_ble_eq_true rfl) d_M_throwsBy_2 (fun H locs hP hD hS => ?_)
  have hP : va_P w.D cls [(am 0, .inr (2, [.int (n), .ref (am 1), .ref (am 2), .ref (am 3), .ref (am 4), .ref (am 5), .int k, .ref (am 6)])), (am 1, .inl (w.I, 64, .inl fk)), (am 2, .inl (w.I, 64, .inl ff)), (am 3, .inl (w.I, 64, .inl fs)), (am 4, .inl (w.I, 6400, .inl fe)), (am 5, .inl (w.I, 6400, .inl fy)), (am 6, .inl (w.I, 101, .inl fw))] H := hP
  have hD : va_D (mA am) [(am 0, .inr (2, [.int (n), .ref (am 1), .ref (am 2), .ref (am 3), .ref (am 4), .ref (am 5), .int k, .ref (am 6)])), (am 1, .inl (w.I, 64, .inl fk)), (am 2, .inl (w.I, 64, .inl ff)), (am 3, .inl (w.I, 64, .inl fs)), (am 4, .inl (w.I, 6400, .inl fe)), (am 5, .inl (w.I, 6400, .inl fy)), (am 6, .inl (w.I, 101, .inl fw))] := hD
  refine lv_iload_n hx hb d_M_throwsBy_5 rfl (lv_at hl 1 rfl) ?_
  refine lv_if_le (tgt := 13) hx hb d_M_throwsBy_6 rfl (fun h6 => ?_) (fun h6 => ?_)
  · refine lv_iconst (v := nI 0) hx hb d_M_throwsBy_13 rfl ?_
    exact fx_zret hx hb hr (by decide) hlk hS.2.2 (Nat.le_of_ble_eq_true rfl) (Nat.le_of_ble_eq_true rfl) d_M_throwsBy_14 (⟨by rw [zI_f (fun h => absurd (Int32.not_le.mpr h) (fun z => z h6))]; rfl, hP⟩)
  · refine lv_iconst (v := nI 1) hx hb d_M_throwsBy_9 rfl ?_
    refine lv_goto (tgt := 14) hx hb d_M_throwsBy_10 rfl ?_
    exact fx_zret hx hb hr (by decide) hlk hS.2.2 (Nat.le_of_ble_eq_true rfl) (Nat.le_of_ble_eq_true rfl) d_M_throwsBy_14 (⟨by rw [zI_t (Int32.not_le.mp h6)]; rfl, hP⟩)
set_option maxHeartbeats 4000000 in
set_option maxRecDepth 100000 in
theorem ct_M_is (w : Wd) (am : Nat → Nat) (hI : mI am) (n th : Int32) (fk ff fs fe fy fw : Nat → Int32) (v : Int32) : mCt w am y_M_is 2 (rmK 0) [.int v] (n, th, fk, ff, fs, fe, fy, fw) (some (.int (zI (¬ v < 0 ∧ v < n)))) (n, th, fk, ff, fs, fe, fy, fw) := by
  refine fx_of (ret := some .boolean) (cc := b_M_is) (fun s hK => hK.1 _ mk_M_is _) (Nat.le_of_ble_eq_true rfl) ?_
  intro p l e s m below meth c hx hfl hK hb hml hr hlk hnt hown hin hP ls hl
  have hw : ∀ z ∈ gw, z.before (.ref (am 0) :: [.int v] : List Value).toArray s = true := fun z hz => hK.1 z hz _
  have hKv := hK.2.1
  have hD : va_D (mA am) [(am 0, .inr (2, [.int (n), .ref (am 1), .ref (am 2), .ref (am 3), .ref (am 4), .ref (am 5), .int (th), .ref (am 6)])), (am 1, .inl (w.I, 64, .inl fk)), (am 2, .inl (w.I, 64, .inl ff)), (am 3, .inl (w.I, 64, .inl fs)), (am 4, .inl (w.I, 6400, .inl fe)), (am 5, .inl (w.I, 6400, .inl fy)), (am 6, .inl (w.I, 101, .inl fw))] := mw_D (w := w) hI ((n), (th), fk, ff, fs, fe, fy, fw)
  have hS : va_S (mA am) s.heap s.heap [] := va_S.rf
  have hP : va_P w.D cls [(am 0, .inr (2, [.int (n), .ref (am 1), .ref (am 2), .ref (am 3), .ref (am 4), .ref (am 5), .int (th), .ref (am 6)])), (am 1, .inl (w.I, 64, .inl fk)), (am 2, .inl (w.I, 64, .inl ff)), (am 3, .inl (w.I, 64, .inl fs)), (am 4, .inl (w.I, 6400, .inl fe)), (am 5, .inl (w.I, 6400, .inl fy)), (am 6, .inl (w.I, 101, .inl fw))] s.heap := hP
  have hl : lv_has ls 2 [(0, .ref (am 0)), (1, .int v)] := hl
  refine lv_iload_n hx hb d_M_is_0 rfl (lv_at hl 1 rfl) ?_
  refine lv_if_lt (tgt := 16) hx hb d_M_is_1 rfl (fun h1 => ?_) (fun h1 => ?_)
  · refine lv_iconst (v := nI 0) hx hb d_M_is_16 rfl ?_
    exact fx_zret hx hb hr (by decide) hlk hS.2.2 (Nat.le_of_ble_eq_true rfl) (Nat.le_of_ble_eq_true rfl) d_M_is_17 (⟨by rw [zI_f (fun h => h.1 h1)]; rfl, hP⟩)
  · refine lv_iload_n hx hb d_M_is_4 rfl (lv_at hl 1 rfl) ?_
    refine lv_aload_n hx hb d_M_is_5 rfl (lv_at hl 0 rfl) ?_
    refine fx_get hx hb hown (kc_M hK _) hKv 0 (by decide) (hw _ mf_M_32) (fun _ h => h) (hP 0 _ rfl) rfl d_M_is_6 ?_
    refine lv_icmp_ge (tgt := 16) hx hb d_M_is_9 rfl (fun h9 => ?_) (fun h9 => ?_)
    · refine lv_iconst (v := nI 0) hx hb d_M_is_16 rfl ?_
      exact fx_zret hx hb hr (by decide) hlk hS.2.2 (Nat.le_of_ble_eq_true rfl) (Nat.le_of_ble_eq_true rfl) d_M_is_17 (⟨by rw [zI_f (fun h => absurd h.2 (Int32.not_lt.mpr h9))]; rfl, hP⟩)
    · refine lv_iconst (v := nI 1) hx hb d_M_is_12 rfl ?_
      refine lv_goto (tgt := 17) hx hb d_M_is_13 rfl ?_
      exact fx_zret hx hb hr (by decide) hlk hS.2.2 (Nat.le_of_ble_eq_true rfl) (Nat.le_of_ble_eq_true rfl) d_M_is_17 (⟨by rw [zI_t ⟨h1, Int32.not_le.mp h9⟩]; rfl, hP⟩)
set_option maxHeartbeats 4000000 in
set_option maxRecDepth 100000 in
theorem ct_M_isMap (w : Wd) (am : Nat → Nat) (hI : mI am) (n th : Int32) (fk ff fs fe fy fw : Nat → Int32) (j : Nat) (hj : j < 64) : mCt w am y_M_isMap 2 (rmK 0) [.int (nI j)] (n, th, fk, ff, fs, fe, fy, fw) (some (.int (zI (fk j = 3)))) (n, th, fk, ff, fs, fe, fy, fw) := by
  refine fx_of (ret := some .boolean) (cc := b_M_isMap) (fun s hK => hK.1 _ mk_M_isMap _) (Nat.le_of_ble_eq_true rfl) ?_
  intro p l e s m below meth c hx hfl hK hb hml hr hlk hnt hown hin hP ls hl
  have hw : ∀ z ∈ gw, z.before (.ref (am 0) :: [.int (nI j)] : List Value).toArray s = true := fun z hz => hK.1 z hz _
  have hKv := hK.2.1
  have hD : va_D (mA am) [(am 0, .inr (2, [.int (n), .ref (am 1), .ref (am 2), .ref (am 3), .ref (am 4), .ref (am 5), .int (th), .ref (am 6)])), (am 1, .inl (w.I, 64, .inl fk)), (am 2, .inl (w.I, 64, .inl ff)), (am 3, .inl (w.I, 64, .inl fs)), (am 4, .inl (w.I, 6400, .inl fe)), (am 5, .inl (w.I, 6400, .inl fy)), (am 6, .inl (w.I, 101, .inl fw))] := mw_D (w := w) hI ((n), (th), fk, ff, fs, fe, fy, fw)
  have hS : va_S (mA am) s.heap s.heap [] := va_S.rf
  have hP : va_P w.D cls [(am 0, .inr (2, [.int (n), .ref (am 1), .ref (am 2), .ref (am 3), .ref (am 4), .ref (am 5), .int (th), .ref (am 6)])), (am 1, .inl (w.I, 64, .inl fk)), (am 2, .inl (w.I, 64, .inl ff)), (am 3, .inl (w.I, 64, .inl fs)), (am 4, .inl (w.I, 6400, .inl fe)), (am 5, .inl (w.I, 6400, .inl fy)), (am 6, .inl (w.I, 101, .inl fw))] s.heap := hP
  have hl : lv_has ls 2 [(0, .ref (am 0)), (1, .int (nI j))] := hl
  refine lv_aload_n hx hb d_M_isMap_0 rfl (lv_at hl 0 rfl) ?_
  refine fx_get hx hb hown (kc_M hK _) hKv 1 (by decide) (hw _ mf_M_7) (fun _ h => h) (hP 0 _ rfl) rfl d_M_isMap_1 ?_
  refine lv_iload_n hx hb d_M_isMap_4 rfl (lv_at hl 1 rfl) ?_
  refine fx_iald (j := j) hx hb hKv 0 (hP 1 _ rfl) rfl (rfl) (hj) (by decide) d_M_isMap_5 ?_
  refine lv_iconst (v := nI 3) hx hb d_M_isMap_6 rfl ?_
  refine lv_icmp_ne (tgt := 14) hx hb d_M_isMap_7 rfl (fun h7 => ?_) (fun h7 => ?_)
  · refine lv_iconst (v := nI 0) hx hb d_M_isMap_14 rfl ?_
    exact fx_zret hx hb hr (by decide) hlk hS.2.2 (Nat.le_of_ble_eq_true rfl) (Nat.le_of_ble_eq_true rfl) d_M_isMap_15 (⟨by rw [zI_f (P := fk j = 3) h7]; rfl, hP⟩)
  · refine lv_iconst (v := nI 1) hx hb d_M_isMap_10 rfl ?_
    refine lv_goto (tgt := 15) hx hb d_M_isMap_11 rfl ?_
    exact fx_zret hx hb hr (by decide) hlk hS.2.2 (Nat.le_of_ble_eq_true rfl) (Nat.le_of_ble_eq_true rfl) d_M_isMap_15 (⟨by rw [zI_t (P := fk j = 3) h7]; rfl, hP⟩)
set_option maxHeartbeats 4000000 in
set_option maxRecDepth 100000 in
theorem ct_M_isFull (w : Wd) (am : Nat → Nat) (hI : mI am) (n th : Int32) (fk ff fs fe fy fw : Nat → Int32)  : mCt w am y_M_isFull 1 (rmK 0) [] (n, th, fk, ff, fs, fe, fy, fw) (some (.int (zI (nI 64 ≤ n)))) (n, th, fk, ff, fs, fe, fy, fw) := by
  refine fx_of (ret := some .boolean) (cc := b_M_isFull) (fun s hK => hK.1 _ mk_M_isFull _) (Nat.le_of_ble_eq_true rfl) ?_
  intro p l e s m below meth c hx hfl hK hb hml hr hlk hnt hown hin hP ls hl
  have hw : ∀ z ∈ gw, z.before (.ref (am 0) :: [] : List Value).toArray s = true := fun z hz => hK.1 z hz _
  have hKv := hK.2.1
  have hD : va_D (mA am) [(am 0, .inr (2, [.int (n), .ref (am 1), .ref (am 2), .ref (am 3), .ref (am 4), .ref (am 5), .int (th), .ref (am 6)])), (am 1, .inl (w.I, 64, .inl fk)), (am 2, .inl (w.I, 64, .inl ff)), (am 3, .inl (w.I, 64, .inl fs)), (am 4, .inl (w.I, 6400, .inl fe)), (am 5, .inl (w.I, 6400, .inl fy)), (am 6, .inl (w.I, 101, .inl fw))] := mw_D (w := w) hI ((n), (th), fk, ff, fs, fe, fy, fw)
  have hS : va_S (mA am) s.heap s.heap [] := va_S.rf
  have hP : va_P w.D cls [(am 0, .inr (2, [.int (n), .ref (am 1), .ref (am 2), .ref (am 3), .ref (am 4), .ref (am 5), .int (th), .ref (am 6)])), (am 1, .inl (w.I, 64, .inl fk)), (am 2, .inl (w.I, 64, .inl ff)), (am 3, .inl (w.I, 64, .inl fs)), (am 4, .inl (w.I, 6400, .inl fe)), (am 5, .inl (w.I, 6400, .inl fy)), (am 6, .inl (w.I, 101, .inl fw))] s.heap := hP
  have hl : lv_has ls 1 [(0, .ref (am 0))] := hl
  refine lv_aload_n hx hb d_M_isFull_0 rfl (lv_at hl 0 rfl) ?_
  refine fx_get hx hb hown (kc_M hK _) hKv 0 (by decide) (hw _ mf_M_32) (fun _ h => h) (hP 0 _ rfl) rfl d_M_isFull_1 ?_
  refine lv_bipush (v := nI 64) hx hb d_M_isFull_4 rfl ?_
  refine lv_icmp_lt (tgt := 13) hx hb d_M_isFull_6 rfl (fun h6 => ?_) (fun h6 => ?_)
  · refine lv_iconst (v := nI 0) hx hb d_M_isFull_13 rfl ?_
    exact fx_zret hx hb hr (by decide) hlk hS.2.2 (Nat.le_of_ble_eq_true rfl) (Nat.le_of_ble_eq_true rfl) d_M_isFull_14 (⟨by rw [zI_f (Int32.not_le.mpr h6)]; rfl, hP⟩)
  · refine lv_iconst (v := nI 1) hx hb d_M_isFull_9 rfl ?_
    refine lv_goto (tgt := 14) hx hb d_M_isFull_10 rfl ?_
    exact fx_zret hx hb hr (by decide) hlk hS.2.2 (Nat.le_of_ble_eq_true rfl) (Nat.le_of_ble_eq_true rfl) d_M_isFull_14 (⟨by rw [zI_t (Int32.not_lt.mp h6)]; rfl, hP⟩)
set_option maxHeartbeats 4000000 in
set_option maxRecDepth 100000 in
theorem ct_M_create (w : Wd) (am : Nat → Nat) (hI : mI am) (th : Int32) (fk ff fs fe fy fw : Nat → Int32) (i : Nat) (k f : Int32) (hi : i < 64) : mCt w am y_M_create 3 (rmK 0) [.int k, .int f] (nI i, th, fk, ff, fs, fe, fy, fw) (some (.int (nI i))) (nI (i + 1), th, upd fk i k, upd ff i f, upd fs i 0, fe, fy, fw) := by
  refine fx_of (ret := some .int) (cc := b_M_create) (fun s hK => hK.1 _ mk_M_create _) (Nat.le_of_ble_eq_true rfl) ?_
  intro p l e s m below meth c hx hfl hK hb hml hr hlk hnt hown hin hP ls hl
  have hw : ∀ z ∈ gw, z.before (.ref (am 0) :: [.int k, .int f] : List Value).toArray s = true := fun z hz => hK.1 z hz _
  have hKv := hK.2.1
  have hD : va_D (mA am) [(am 0, .inr (2, [.int (nI i), .ref (am 1), .ref (am 2), .ref (am 3), .ref (am 4), .ref (am 5), .int (th), .ref (am 6)])), (am 1, .inl (w.I, 64, .inl fk)), (am 2, .inl (w.I, 64, .inl ff)), (am 3, .inl (w.I, 64, .inl fs)), (am 4, .inl (w.I, 6400, .inl fe)), (am 5, .inl (w.I, 6400, .inl fy)), (am 6, .inl (w.I, 101, .inl fw))] := mw_D (w := w) hI ((nI i), (th), fk, ff, fs, fe, fy, fw)
  have hS : va_S (mA am) s.heap s.heap [] := va_S.rf
  have hP : va_P w.D cls [(am 0, .inr (2, [.int (nI i), .ref (am 1), .ref (am 2), .ref (am 3), .ref (am 4), .ref (am 5), .int (th), .ref (am 6)])), (am 1, .inl (w.I, 64, .inl fk)), (am 2, .inl (w.I, 64, .inl ff)), (am 3, .inl (w.I, 64, .inl fs)), (am 4, .inl (w.I, 6400, .inl fe)), (am 5, .inl (w.I, 6400, .inl fy)), (am 6, .inl (w.I, 101, .inl fw))] s.heap := hP
  have hl : lv_has ls 3 [(0, .ref (am 0)), (1, .int k), (2, .int f)] := hl
  refine lv_aload_n hx hb d_M_create_0 rfl (lv_at hl 0 rfl) ?_
  refine fx_get hx hb hown (kc_M hK _) hKv 1 (by decide) (hw _ mf_M_7) (fun _ h => h) (hP 0 _ rfl) rfl d_M_create_1 ?_
  refine lv_aload_n hx hb d_M_create_4 rfl (lv_at hl 0 rfl) ?_
  refine fx_get hx hb hown (kc_M hK _) hKv 0 (by decide) (hw _ mf_M_32) (fun _ h => h) (hP 0 _ rfl) rfl d_M_create_5 ?_
  refine lv_iload_n hx hb d_M_create_8 rfl (lv_at hl 1 rfl) ?_
  refine va_iast hx hb hKv hP hD hS 1 0 rfl rfl (vp_in_nI hi (by decide)) d_M_create_9 (fun H locs hP hD hS => ?_)
  obtain ⟨fk1, e_fk1⟩ : ∃ z : Nat → Int32, z = upd fk (i) k := ⟨_, rfl⟩
  have e0 : upd fk ((nI i)).toNatClampNeg k = fk1 := by rw [e_fk1]; congr 1; exact nI_clamp (by omega)
  have hP : va_P w.D cls [(am 0, .inr (2, [.int (nI i), .ref (am 1), .ref (am 2), .ref (am 3), .ref (am 4), .ref (am 5), .int (th), .ref (am 6)])), (am 1, .inl (w.I, 64, .inl fk1)), (am 2, .inl (w.I, 64, .inl ff)), (am 3, .inl (w.I, 64, .inl fs)), (am 4, .inl (w.I, 6400, .inl fe)), (am 5, .inl (w.I, 6400, .inl fy)), (am 6, .inl (w.I, 101, .inl fw))] H := by rw [← e0]; exact hP
  have hD : va_D (mA am) [(am 0, .inr (2, [.int (nI i), .ref (am 1), .ref (am 2), .ref (am 3), .ref (am 4), .ref (am 5), .int (th), .ref (am 6)])), (am 1, .inl (w.I, 64, .inl fk1)), (am 2, .inl (w.I, 64, .inl ff)), (am 3, .inl (w.I, 64, .inl fs)), (am 4, .inl (w.I, 6400, .inl fe)), (am 5, .inl (w.I, 6400, .inl fy)), (am 6, .inl (w.I, 101, .inl fw))] := by rw [← e0]; exact hD
  refine lv_aload_n hx hb d_M_create_10 rfl (lv_at hl 0 rfl) ?_
  refine fx_get hx hb hown (kc_M hK _) hKv 2 (by decide) (hw _ mf_M_13) (fun _ h => h) (hP 0 _ rfl) rfl d_M_create_11 ?_
  refine lv_aload_n hx hb d_M_create_14 rfl (lv_at hl 0 rfl) ?_
  refine fx_get hx hb hown (kc_M hK _) hKv 0 (by decide) (hw _ mf_M_32) (fun _ h => h) (hP 0 _ rfl) rfl d_M_create_15 ?_
  refine lv_iload_n hx hb d_M_create_18 rfl (lv_at hl 2 rfl) ?_
  refine va_iast hx hb hKv hP hD hS 2 0 rfl rfl (vp_in_nI hi (by decide)) d_M_create_19 (fun H locs hP hD hS => ?_)
  obtain ⟨ff1, e_ff1⟩ : ∃ z : Nat → Int32, z = upd ff (i) f := ⟨_, rfl⟩
  have e0 : upd ff ((nI i)).toNatClampNeg f = ff1 := by rw [e_ff1]; congr 1; exact nI_clamp (by omega)
  have hP : va_P w.D cls [(am 0, .inr (2, [.int (nI i), .ref (am 1), .ref (am 2), .ref (am 3), .ref (am 4), .ref (am 5), .int (th), .ref (am 6)])), (am 1, .inl (w.I, 64, .inl fk1)), (am 2, .inl (w.I, 64, .inl ff1)), (am 3, .inl (w.I, 64, .inl fs)), (am 4, .inl (w.I, 6400, .inl fe)), (am 5, .inl (w.I, 6400, .inl fy)), (am 6, .inl (w.I, 101, .inl fw))] H := by rw [← e0]; exact hP
  have hD : va_D (mA am) [(am 0, .inr (2, [.int (nI i), .ref (am 1), .ref (am 2), .ref (am 3), .ref (am 4), .ref (am 5), .int (th), .ref (am 6)])), (am 1, .inl (w.I, 64, .inl fk1)), (am 2, .inl (w.I, 64, .inl ff1)), (am 3, .inl (w.I, 64, .inl fs)), (am 4, .inl (w.I, 6400, .inl fe)), (am 5, .inl (w.I, 6400, .inl fy)), (am 6, .inl (w.I, 101, .inl fw))] := by rw [← e0]; exact hD
  refine lv_aload_n hx hb d_M_create_20 rfl (lv_at hl 0 rfl) ?_
  refine fx_get hx hb hown (kc_M hK _) hKv 3 (by decide) (hw _ mf_M_16) (fun _ h => h) (hP 0 _ rfl) rfl d_M_create_21 ?_
  refine lv_aload_n hx hb d_M_create_24 rfl (lv_at hl 0 rfl) ?_
  refine fx_get hx hb hown (kc_M hK _) hKv 0 (by decide) (hw _ mf_M_32) (fun _ h => h) (hP 0 _ rfl) rfl d_M_create_25 ?_
  refine lv_iconst (v := nI 0) hx hb d_M_create_28 rfl ?_
  refine va_iast hx hb hKv hP hD hS 3 0 rfl rfl (vp_in_nI hi (by decide)) d_M_create_29 (fun H locs hP hD hS => ?_)
  obtain ⟨fs1, e_fs1⟩ : ∃ z : Nat → Int32, z = upd fs (i) (nI 0) := ⟨_, rfl⟩
  have e0 : upd fs ((nI i)).toNatClampNeg (nI 0) = fs1 := by rw [e_fs1]; congr 1; exact nI_clamp (by omega)
  have hP : va_P w.D cls [(am 0, .inr (2, [.int (nI i), .ref (am 1), .ref (am 2), .ref (am 3), .ref (am 4), .ref (am 5), .int (th), .ref (am 6)])), (am 1, .inl (w.I, 64, .inl fk1)), (am 2, .inl (w.I, 64, .inl ff1)), (am 3, .inl (w.I, 64, .inl fs1)), (am 4, .inl (w.I, 6400, .inl fe)), (am 5, .inl (w.I, 6400, .inl fy)), (am 6, .inl (w.I, 101, .inl fw))] H := by rw [← e0]; exact hP
  have hD : va_D (mA am) [(am 0, .inr (2, [.int (nI i), .ref (am 1), .ref (am 2), .ref (am 3), .ref (am 4), .ref (am 5), .int (th), .ref (am 6)])), (am 1, .inl (w.I, 64, .inl fk1)), (am 2, .inl (w.I, 64, .inl ff1)), (am 3, .inl (w.I, 64, .inl fs1)), (am 4, .inl (w.I, 6400, .inl fe)), (am 5, .inl (w.I, 6400, .inl fy)), (am 6, .inl (w.I, 101, .inl fw))] := by rw [← e0]; exact hD
  refine lv_aload_n hx hb d_M_create_30 rfl (lv_at hl 0 rfl) ?_
  refine lv_aload_n hx hb d_M_create_31 rfl (lv_at hl 0 rfl) ?_
  refine fx_get hx hb hown (kc_M hK _) hKv 0 (by decide) (hw _ mf_M_32) (fun _ h => h) (hP 0 _ rfl) rfl d_M_create_32 ?_
  refine lv_iconst (v := nI 1) hx hb d_M_create_35 rfl ?_
  refine lv_iadd hx hb d_M_create_36 ?_
  refine fx_ti (y := nI (i + 1)) (nI_1 i) ?_
  refine va_put (D := w.D) (ci := 2) (v := .int (nI (i + 1))) (ty := .int) (C := R_M) (T := T_M) (N := 8) (Ts := u_ws R_M T_M 8) hx hb (kc_M hK _).2.1 (fun _ h => h) ty_M tyok_M nm_M hown hKv hP hD hS 0 rfl rfl 0 (by decide) (hw _ mf_M_32) (fun _ h => h) rfl (by decide +kernel) rfl rfl (Nat.le_of_ble_eq_true rfl) d_M_create_37 (fun H locs hP hD hS => ?_)
  have hP : va_P w.D cls [(am 0, .inr (2, [.int (nI (i + 1)), .ref (am 1), .ref (am 2), .ref (am 3), .ref (am 4), .ref (am 5), .int (th), .ref (am 6)])), (am 1, .inl (w.I, 64, .inl fk1)), (am 2, .inl (w.I, 64, .inl ff1)), (am 3, .inl (w.I, 64, .inl fs1)), (am 4, .inl (w.I, 6400, .inl fe)), (am 5, .inl (w.I, 6400, .inl fy)), (am 6, .inl (w.I, 101, .inl fw))] H := hP
  have hD : va_D (mA am) [(am 0, .inr (2, [.int (nI (i + 1)), .ref (am 1), .ref (am 2), .ref (am 3), .ref (am 4), .ref (am 5), .int (th), .ref (am 6)])), (am 1, .inl (w.I, 64, .inl fk1)), (am 2, .inl (w.I, 64, .inl ff1)), (am 3, .inl (w.I, 64, .inl fs1)), (am 4, .inl (w.I, 6400, .inl fe)), (am 5, .inl (w.I, 6400, .inl fy)), (am 6, .inl (w.I, 101, .inl fw))] := hD
  refine lv_aload_n hx hb d_M_create_40 rfl (lv_at hl 0 rfl) ?_
  refine fx_get hx hb hown (kc_M hK _) hKv 0 (by decide) (hw _ mf_M_32) (fun _ h => h) (hP 0 _ rfl) rfl d_M_create_41 ?_
  refine lv_iconst (v := nI 1) hx hb d_M_create_44 rfl ?_
  refine lv_isub hx hb d_M_create_45 ?_
  refine fx_ti (y := nI i) (by have := pk_sub (a := i + 1) (b := 1) (by omega); rw [Nat.add_sub_cancel] at this; exact this) ?_
  exact fx_iret hx hb hr hlk hS.2.2 (Nat.le_of_ble_eq_true rfl) (Nat.le_of_ble_eq_true rfl) d_M_create_46 (⟨rfl, by rw [← e_fk1, ← e_ff1, ← show fs1 = upd fs i 0 from e_fs1]; exact hP⟩)
set_option maxHeartbeats 4000000 in
set_option maxRecDepth 100000 in
theorem ct_M_put (w : Wd) (am : Nat → Nat) (hI : mI am) (th : Int32) (fk ff fs fe fy fw : Nat → Int32) (i j : Nat) (key x : Int32) (hi : i < 64) (hj : j < 100) (hs : fs i = nI j) : mCt w am y_M_put 4 (rmK 0) [.int key, .int x] (nI (i + 1), th, fk, ff, fs, fe, fy, fw) (none) (nI (i + 1), th, fk, ff, upd fs i (nI (j + 1)), upd fe (100 * i + j) x, upd fy (100 * i + j) key, fw) := by
  refine fx_of (ret := none) (cc := b_M_put) (fun s hK => hK.1 _ mk_M_put _) (Nat.le_of_ble_eq_true rfl) ?_
  intro p l e s m below meth c hx hfl hK hb hml hr hlk hnt hown hin hP ls hl
  have hw : ∀ z ∈ gw, z.before (.ref (am 0) :: [.int key, .int x] : List Value).toArray s = true := fun z hz => hK.1 z hz _
  have hKv := hK.2.1
  have hD : va_D (mA am) [(am 0, .inr (2, [.int (nI (i + 1)), .ref (am 1), .ref (am 2), .ref (am 3), .ref (am 4), .ref (am 5), .int (th), .ref (am 6)])), (am 1, .inl (w.I, 64, .inl fk)), (am 2, .inl (w.I, 64, .inl ff)), (am 3, .inl (w.I, 64, .inl fs)), (am 4, .inl (w.I, 6400, .inl fe)), (am 5, .inl (w.I, 6400, .inl fy)), (am 6, .inl (w.I, 101, .inl fw))] := mw_D (w := w) hI ((nI (i + 1)), (th), fk, ff, fs, fe, fy, fw)
  have hS : va_S (mA am) s.heap s.heap [] := va_S.rf
  have hP : va_P w.D cls [(am 0, .inr (2, [.int (nI (i + 1)), .ref (am 1), .ref (am 2), .ref (am 3), .ref (am 4), .ref (am 5), .int (th), .ref (am 6)])), (am 1, .inl (w.I, 64, .inl fk)), (am 2, .inl (w.I, 64, .inl ff)), (am 3, .inl (w.I, 64, .inl fs)), (am 4, .inl (w.I, 6400, .inl fe)), (am 5, .inl (w.I, 6400, .inl fy)), (am 6, .inl (w.I, 101, .inl fw))] s.heap := hP
  have hl : lv_has ls 4 [(0, .ref (am 0)), (1, .int key), (2, .int x)] := hl
  refine lv_aload_n hx hb d_M_put_0 rfl (lv_at hl 0 rfl) ?_
  refine fx_get hx hb hown (kc_M hK _) hKv 0 (by decide) (hw _ mf_M_32) (fun _ h => h) (hP 0 _ rfl) rfl d_M_put_1 ?_
  refine lv_iconst (v := nI 1) hx hb d_M_put_4 rfl ?_
  refine lv_isub hx hb d_M_put_5 ?_
  refine fx_ti (y := nI i) (by have := pk_sub (a := i + 1) (b := 1) (by omega); rw [Nat.add_sub_cancel] at this; exact this) ?_
  refine lv_istore_n hx hb d_M_put_6 rfl hl (by decide) rfl (fun ls hl => ?_)
  have hl : lv_has ls 4 [(3, .int (nI i)), (0, .ref (am 0)), (1, .int key), (2, .int x)] := hl
  refine lv_aload_n hx hb d_M_put_7 rfl (lv_at hl 1 rfl) ?_
  refine fx_get hx hb hown (kc_M hK _) hKv 4 (by decide) (hw _ mf_M_19) (fun _ h => h) (hP 0 _ rfl) rfl d_M_put_8 ?_
  refine lv_bipush (v := nI 100) hx hb d_M_put_11 rfl ?_
  refine lv_iload_n hx hb d_M_put_13 rfl (lv_at hl 0 rfl) ?_
  refine lv_imul hx hb d_M_put_14 ?_
  refine fx_ti (y := nI (100 * i)) (pk_mul 100 i) ?_
  refine lv_aload_n hx hb d_M_put_15 rfl (lv_at hl 1 rfl) ?_
  refine fx_get hx hb hown (kc_M hK _) hKv 3 (by decide) (hw _ mf_M_16) (fun _ h => h) (hP 0 _ rfl) rfl d_M_put_16 ?_
  refine lv_iload_n hx hb d_M_put_19 rfl (lv_at hl 0 rfl) ?_
  refine fx_iald (j := i) hx hb hKv 0 (hP 3 _ rfl) rfl (rfl) (hi) (by decide) d_M_put_20 ?_
  refine lv_iadd hx hb d_M_put_21 ?_
  refine fx_ti (y := nI (100 * i + j)) (by rw [hs]; exact nI_add _ _) ?_
  refine lv_iload_n hx hb d_M_put_22 rfl (lv_at hl 3 rfl) ?_
  refine va_iast hx hb hKv hP hD hS 4 0 rfl rfl (vp_in_nI (by omega) (by decide)) d_M_put_23 (fun H locs hP hD hS => ?_)
  obtain ⟨fe1, e_fe1⟩ : ∃ z : Nat → Int32, z = upd fe (100 * i + j) x := ⟨_, rfl⟩
  have e0 : upd fe ((nI (100 * i + j))).toNatClampNeg x = fe1 := by rw [e_fe1]; congr 1; exact nI_clamp (by omega)
  have hP : va_P w.D cls [(am 0, .inr (2, [.int (nI (i + 1)), .ref (am 1), .ref (am 2), .ref (am 3), .ref (am 4), .ref (am 5), .int (th), .ref (am 6)])), (am 1, .inl (w.I, 64, .inl fk)), (am 2, .inl (w.I, 64, .inl ff)), (am 3, .inl (w.I, 64, .inl fs)), (am 4, .inl (w.I, 6400, .inl fe1)), (am 5, .inl (w.I, 6400, .inl fy)), (am 6, .inl (w.I, 101, .inl fw))] H := by rw [← e0]; exact hP
  have hD : va_D (mA am) [(am 0, .inr (2, [.int (nI (i + 1)), .ref (am 1), .ref (am 2), .ref (am 3), .ref (am 4), .ref (am 5), .int (th), .ref (am 6)])), (am 1, .inl (w.I, 64, .inl fk)), (am 2, .inl (w.I, 64, .inl ff)), (am 3, .inl (w.I, 64, .inl fs)), (am 4, .inl (w.I, 6400, .inl fe1)), (am 5, .inl (w.I, 6400, .inl fy)), (am 6, .inl (w.I, 101, .inl fw))] := by rw [← e0]; exact hD
  refine lv_aload_n hx hb d_M_put_24 rfl (lv_at hl 1 rfl) ?_
  refine fx_get hx hb hown (kc_M hK _) hKv 5 (by decide) (hw _ mf_M_22) (fun _ h => h) (hP 0 _ rfl) rfl d_M_put_25 ?_
  refine lv_bipush (v := nI 100) hx hb d_M_put_28 rfl ?_
  refine lv_iload_n hx hb d_M_put_30 rfl (lv_at hl 0 rfl) ?_
  refine lv_imul hx hb d_M_put_31 ?_
  refine fx_ti (y := nI (100 * i)) (pk_mul 100 i) ?_
  refine lv_aload_n hx hb d_M_put_32 rfl (lv_at hl 1 rfl) ?_
  refine fx_get hx hb hown (kc_M hK _) hKv 3 (by decide) (hw _ mf_M_16) (fun _ h => h) (hP 0 _ rfl) rfl d_M_put_33 ?_
  refine lv_iload_n hx hb d_M_put_36 rfl (lv_at hl 0 rfl) ?_
  refine fx_iald (j := i) hx hb hKv 0 (hP 3 _ rfl) rfl (rfl) (hi) (by decide) d_M_put_37 ?_
  refine lv_iadd hx hb d_M_put_38 ?_
  refine fx_ti (y := nI (100 * i + j)) (by rw [hs]; exact nI_add _ _) ?_
  refine lv_iload_n hx hb d_M_put_39 rfl (lv_at hl 2 rfl) ?_
  refine va_iast hx hb hKv hP hD hS 5 0 rfl rfl (vp_in_nI (by omega) (by decide)) d_M_put_40 (fun H locs hP hD hS => ?_)
  obtain ⟨fy1, e_fy1⟩ : ∃ z : Nat → Int32, z = upd fy (100 * i + j) key := ⟨_, rfl⟩
  have e0 : upd fy ((nI (100 * i + j))).toNatClampNeg key = fy1 := by rw [e_fy1]; congr 1; exact nI_clamp (by omega)
  have hP : va_P w.D cls [(am 0, .inr (2, [.int (nI (i + 1)), .ref (am 1), .ref (am 2), .ref (am 3), .ref (am 4), .ref (am 5), .int (th), .ref (am 6)])), (am 1, .inl (w.I, 64, .inl fk)), (am 2, .inl (w.I, 64, .inl ff)), (am 3, .inl (w.I, 64, .inl fs)), (am 4, .inl (w.I, 6400, .inl fe1)), (am 5, .inl (w.I, 6400, .inl fy1)), (am 6, .inl (w.I, 101, .inl fw))] H := by rw [← e0]; exact hP
  have hD : va_D (mA am) [(am 0, .inr (2, [.int (nI (i + 1)), .ref (am 1), .ref (am 2), .ref (am 3), .ref (am 4), .ref (am 5), .int (th), .ref (am 6)])), (am 1, .inl (w.I, 64, .inl fk)), (am 2, .inl (w.I, 64, .inl ff)), (am 3, .inl (w.I, 64, .inl fs)), (am 4, .inl (w.I, 6400, .inl fe1)), (am 5, .inl (w.I, 6400, .inl fy1)), (am 6, .inl (w.I, 101, .inl fw))] := by rw [← e0]; exact hD
  refine lv_aload_n hx hb d_M_put_41 rfl (lv_at hl 1 rfl) ?_
  refine fx_get hx hb hown (kc_M hK _) hKv 3 (by decide) (hw _ mf_M_16) (fun _ h => h) (hP 0 _ rfl) rfl d_M_put_42 ?_
  refine lv_iload_n hx hb d_M_put_45 rfl (lv_at hl 0 rfl) ?_
  refine lv_aload_n hx hb d_M_put_46 rfl (lv_at hl 1 rfl) ?_
  refine fx_get hx hb hown (kc_M hK _) hKv 3 (by decide) (hw _ mf_M_16) (fun _ h => h) (hP 0 _ rfl) rfl d_M_put_47 ?_
  refine lv_iload_n hx hb d_M_put_50 rfl (lv_at hl 0 rfl) ?_
  refine fx_iald (j := i) hx hb hKv 0 (hP 3 _ rfl) rfl (rfl) (hi) (by decide) d_M_put_51 ?_
  refine lv_iconst (v := nI 1) hx hb d_M_put_52 rfl ?_
  refine lv_iadd hx hb d_M_put_53 ?_
  refine fx_ti (y := nI (j + 1)) (by rw [hs]; exact nI_1 j) ?_
  refine va_iast hx hb hKv hP hD hS 3 0 rfl rfl (vp_in_nI hi (by decide)) d_M_put_54 (fun H locs hP hD hS => ?_)
  obtain ⟨fs1, e_fs1⟩ : ∃ z : Nat → Int32, z = upd fs (i) (nI (j + 1)) := ⟨_, rfl⟩
  have e0 : upd fs ((nI i)).toNatClampNeg (nI (j + 1)) = fs1 := by rw [e_fs1]; congr 1; exact nI_clamp (by omega)
  have hP : va_P w.D cls [(am 0, .inr (2, [.int (nI (i + 1)), .ref (am 1), .ref (am 2), .ref (am 3), .ref (am 4), .ref (am 5), .int (th), .ref (am 6)])), (am 1, .inl (w.I, 64, .inl fk)), (am 2, .inl (w.I, 64, .inl ff)), (am 3, .inl (w.I, 64, .inl fs1)), (am 4, .inl (w.I, 6400, .inl fe1)), (am 5, .inl (w.I, 6400, .inl fy1)), (am 6, .inl (w.I, 101, .inl fw))] H := by rw [← e0]; exact hP
  have hD : va_D (mA am) [(am 0, .inr (2, [.int (nI (i + 1)), .ref (am 1), .ref (am 2), .ref (am 3), .ref (am 4), .ref (am 5), .int (th), .ref (am 6)])), (am 1, .inl (w.I, 64, .inl fk)), (am 2, .inl (w.I, 64, .inl ff)), (am 3, .inl (w.I, 64, .inl fs1)), (am 4, .inl (w.I, 6400, .inl fe1)), (am 5, .inl (w.I, 6400, .inl fy1)), (am 6, .inl (w.I, 101, .inl fw))] := by rw [← e0]; exact hD
  exact fx_vret hx hb hr hlk hS.2.2 (Nat.le_of_ble_eq_true rfl) (Nat.le_of_ble_eq_true rfl) d_M_put_55 (⟨rfl, by rw [← e_fe1, ← e_fy1, ← e_fs1]; exact hP⟩)
set_option maxHeartbeats 4000000 in
set_option maxRecDepth 100000 in
theorem ct_M_isRow (w : Wd) (am : Nat → Nat) (hI : mI am) (th : Int32) (fk ff fs fe fy fw : Nat → Int32) (k : Nat) (v : Int32) (hk : k ≤ 64) : mCt w am y_M_isRow 2 (rmK 1) [.int v] (nI k, th, fk, ff, fs, fe, fy, fw) (some (.int (zI ((¬ v < 0 ∧ v < nI k) ∧ ¬ fk v.toNatClampNeg = 3)))) (nI k, th, fk, ff, fs, fe, fy, fw) := by
  refine fx_of (ret := some .boolean) (cc := b_M_isRow) (fun s hK => hK.1 _ mk_M_isRow _) (Nat.le_of_ble_eq_true rfl) ?_
  intro p l e s m below meth c hx hfl hK hb hml hr hlk hnt hown hin hP ls hl
  have hw : ∀ z ∈ gw, z.before (.ref (am 0) :: [.int v] : List Value).toArray s = true := fun z hz => hK.1 z hz _
  have hKv := hK.2.1
  have hD : va_D (mA am) [(am 0, .inr (2, [.int (nI k), .ref (am 1), .ref (am 2), .ref (am 3), .ref (am 4), .ref (am 5), .int (th), .ref (am 6)])), (am 1, .inl (w.I, 64, .inl fk)), (am 2, .inl (w.I, 64, .inl ff)), (am 3, .inl (w.I, 64, .inl fs)), (am 4, .inl (w.I, 6400, .inl fe)), (am 5, .inl (w.I, 6400, .inl fy)), (am 6, .inl (w.I, 101, .inl fw))] := mw_D (w := w) hI ((nI k), (th), fk, ff, fs, fe, fy, fw)
  have hS : va_S (mA am) s.heap s.heap [] := va_S.rf
  have hP : va_P w.D cls [(am 0, .inr (2, [.int (nI k), .ref (am 1), .ref (am 2), .ref (am 3), .ref (am 4), .ref (am 5), .int (th), .ref (am 6)])), (am 1, .inl (w.I, 64, .inl fk)), (am 2, .inl (w.I, 64, .inl ff)), (am 3, .inl (w.I, 64, .inl fs)), (am 4, .inl (w.I, 6400, .inl fe)), (am 5, .inl (w.I, 6400, .inl fy)), (am 6, .inl (w.I, 101, .inl fw))] s.heap := hP
  have hl : lv_has ls 2 [(0, .ref (am 0)), (1, .int v)] := hl
  refine lv_aload_n hx hb d_M_isRow_0 rfl (lv_at hl 0 rfl) ?_
  refine lv_iload_n hx hb d_M_isRow_1 rfl (lv_at hl 1 rfl) ?_
  refine m_cV (ct_M_is w am hI _ _ _ _ _ _ _ _ v) hx hfl hK hb (by rw [hml]; exact hl.1) hown (hw _ mm_M_35) (hw _ mk_M_is) (hw _ mi_M_is) (hw _ mq_M_is) (show fx_N y_M_is 1 by decide +kernel) rfl ⟨Nat.le_of_ble_eq_true rfl, Nat.le_of_ble_eq_true rfl, Nat.le_of_ble_eq_true rfl, Nat.le_of_ble_eq_true rfl⟩ hP hS d_M_isRow_2 (fun H locs hP hS => ?_)
  have hP : va_P w.D cls [(am 0, .inr (2, [.int (nI k), .ref (am 1), .ref (am 2), .ref (am 3), .ref (am 4), .ref (am 5), .int (th), .ref (am 6)])), (am 1, .inl (w.I, 64, .inl fk)), (am 2, .inl (w.I, 64, .inl ff)), (am 3, .inl (w.I, 64, .inl fs)), (am 4, .inl (w.I, 6400, .inl fe)), (am 5, .inl (w.I, 6400, .inl fy)), (am 6, .inl (w.I, 101, .inl fw))] H := hP
  have hD : va_D (mA am) [(am 0, .inr (2, [.int (nI k), .ref (am 1), .ref (am 2), .ref (am 3), .ref (am 4), .ref (am 5), .int (th), .ref (am 6)])), (am 1, .inl (w.I, 64, .inl fk)), (am 2, .inl (w.I, 64, .inl ff)), (am 3, .inl (w.I, 64, .inl fs)), (am 4, .inl (w.I, 6400, .inl fe)), (am 5, .inl (w.I, 6400, .inl fy)), (am 6, .inl (w.I, 101, .inl fw))] := mw_D (w := w) hI ((nI k), (th), fk, ff, fs, fe, fy, fw)
  refine lv_if_eq (tgt := 20) hx hb d_M_isRow_5 rfl (fun h5 => ?_) (fun h5 => ?_)
  · have h5 := zI_eq0.mp h5
    refine lv_iconst (v := nI 0) hx hb d_M_isRow_20 rfl ?_
    exact fx_zret hx hb hr (by decide) hlk hS.2.2 (Nat.le_of_ble_eq_true rfl) (Nat.le_of_ble_eq_true rfl) d_M_isRow_21 (⟨by rw [zI_f (fun h => h5 h.1)]; rfl, hP⟩)
  · have h5 := zI_ne0.mp h5
    obtain ⟨j, hj, ej⟩ : ∃ j : Nat, j < k ∧ v = nI j := by
      have h0 := Int32.not_lt.mpr (Int32.not_lt.mp h5.1)
      obtain ⟨j, hj, e⟩ := nI_of h5.1
      refine ⟨j, ?_, e⟩
      rw [e] at h5
      exact (nI_ltI hj (by omega)).mp h5.2
    refine lv_aload_n hx hb d_M_isRow_8 rfl (lv_at hl 0 rfl) ?_
    refine lv_iload_n hx hb d_M_isRow_9 rfl (lv_at hl 1 rfl) ?_
    subst ej
    have hc : (nI j).toNatClampNeg = j := nI_clamp (by omega)
    have hl : lv_has ls 2 [(0, .ref (am 0)), (1, .int (nI j))] := hl
    refine m_cV (ct_M_isMap w am hI _ _ _ _ _ _ _ _ j (by omega)) hx hfl hK hb (by rw [hml]; exact hl.1) hown (hw _ mm_M_39) (hw _ mk_M_isMap) (hw _ mi_M_isMap) (hw _ mq_M_isMap) (show fx_N y_M_isMap 1 by decide +kernel) rfl ⟨Nat.le_of_ble_eq_true rfl, Nat.le_of_ble_eq_true rfl, Nat.le_of_ble_eq_true rfl, Nat.le_of_ble_eq_true rfl⟩ hP hS d_M_isRow_10 (fun H locs hP hS => ?_)
    have hP : va_P w.D cls [(am 0, .inr (2, [.int (nI k), .ref (am 1), .ref (am 2), .ref (am 3), .ref (am 4), .ref (am 5), .int (th), .ref (am 6)])), (am 1, .inl (w.I, 64, .inl fk)), (am 2, .inl (w.I, 64, .inl ff)), (am 3, .inl (w.I, 64, .inl fs)), (am 4, .inl (w.I, 6400, .inl fe)), (am 5, .inl (w.I, 6400, .inl fy)), (am 6, .inl (w.I, 101, .inl fw))] H := hP
    have hD : va_D (mA am) [(am 0, .inr (2, [.int (nI k), .ref (am 1), .ref (am 2), .ref (am 3), .ref (am 4), .ref (am 5), .int (th), .ref (am 6)])), (am 1, .inl (w.I, 64, .inl fk)), (am 2, .inl (w.I, 64, .inl ff)), (am 3, .inl (w.I, 64, .inl fs)), (am 4, .inl (w.I, 6400, .inl fe)), (am 5, .inl (w.I, 6400, .inl fy)), (am 6, .inl (w.I, 101, .inl fw))] := mw_D (w := w) hI ((nI k), (th), fk, ff, fs, fe, fy, fw)
    refine lv_if_ne (tgt := 20) hx hb d_M_isRow_13 rfl (fun h13 => ?_) (fun h13 => ?_)
    · have h13 := zI_ne0.mp h13
      refine lv_iconst (v := nI 0) hx hb d_M_isRow_20 rfl ?_
      exact fx_zret hx hb hr (by decide) hlk hS.2.2 (Nat.le_of_ble_eq_true rfl) (Nat.le_of_ble_eq_true rfl) d_M_isRow_21 (⟨by rw [zI_f (fun h => h.2 (by rw [hc]; exact h13))]; rfl, hP⟩)
    · have h13 := zI_eq0.mp h13
      refine lv_iconst (v := nI 1) hx hb d_M_isRow_16 rfl ?_
      refine lv_goto (tgt := 21) hx hb d_M_isRow_17 rfl ?_
      exact fx_zret hx hb hr (by decide) hlk hS.2.2 (Nat.le_of_ble_eq_true rfl) (Nat.le_of_ble_eq_true rfl) d_M_isRow_21 (⟨by rw [zI_t ⟨h5, by rw [hc]; exact h13⟩]; rfl, hP⟩)
