/-! The reference's loops. -/
theorem m_uu (f : Nat → Int32) (k : Nat) (x y : Int32) : upd (upd f k x) k y = upd f k y := by
  funext j
  by_cases h : j = k
  · subst h; rw [pk_us, pk_us]
  · rw [pk_un h, pk_un h, pk_un h]
theorem m_us (f : Nat → Int32) (k : Nat) : upd f k (f k) = f := by
  funext j
  by_cases h : j = k
  · subst h; rw [pk_us]
  · rw [pk_un h]
theorem m_cpy0 (f : Nat → Int32) (a b : Nat) : va_cpy f f a b 0 = f := by
  funext j
  exact pk_cpy_out (by omega)
theorem m_cpy1 {f : Nat → Int32} {i a b j t : Nat} (h1 : 100 * a + t < 100 * i + j) (h2 : b ≤ t) : upd (va_cpy f f (100 * a + b) (100 * i + j) (t - b)) (100 * i + (j + (t - b))) (va_cpy f f (100 * a + b) (100 * i + j) (t - b) (100 * a + t)) = va_cpy f f (100 * a + b) (100 * i + j) (t - b + 1) := by
  funext q
  rw [pk_cpy_out (f := f) (g := f) (j := 100 * a + t) (by omega)]
  by_cases h : q = 100 * i + (j + (t - b))
  · rw [h, pk_us, pk_cpy_in (by omega) (by omega)]
    congr 1
    omega
  · rw [pk_un h]
    by_cases h3 : 100 * i + j ≤ q ∧ q < 100 * i + j + (t - b)
    · rw [pk_cpy_in h3.1 h3.2, pk_cpy_in h3.1 (by omega)]
    · rw [pk_cpy_out (by omega), pk_cpy_out (by omega)]
set_option maxHeartbeats 4000000 in
set_option maxRecDepth 100000 in
theorem ct_M_putAll (w : Wd) (am : Nat → Nat) (hI : mI am) (th : Int32) (fk ff fs fe fy fw : Nat → Int32) (i j a b d : Nat) (hi : i < 64) (ha : a < i) (hbd : b ≤ d) (hd : d ≤ 100) (hj : j + (d - b) ≤ 100) (hs : fs i = nI j) : mCt w am y_M_putAll 5 (rmK 1) [.int (nI a), .int (nI b), .int (nI d)] (nI (i + 1), th, fk, ff, fs, fe, fy, fw) (none) (nI (i + 1), th, fk, ff, upd fs i (nI (j + (d - b))), va_cpy fe fe (100 * a + b) (100 * i + j) (d - b), va_cpy fy fy (100 * a + b) (100 * i + j) (d - b), fw) := by
  refine fx_of (ret := none) (cc := b_M_putAll) (fun s hK => hK.1 _ mk_M_putAll _) (Nat.le_of_ble_eq_true rfl) ?_
  intro p l e s m below meth c hx hfl hK hb hml hr hlk hnt hown hin hP ls hl
  have hw : ∀ z ∈ gw, z.before (.ref (am 0) :: [.int (nI a), .int (nI b), .int (nI d)] : List Value).toArray s = true := fun z hz => hK.1 z hz _
  have hKv := hK.2.1
  have hD : va_D (mA am) [(am 0, .inr (2, [.int (nI (i + 1)), .ref (am 1), .ref (am 2), .ref (am 3), .ref (am 4), .ref (am 5), .int (th), .ref (am 6)])), (am 1, .inl (w.I, 64, .inl fk)), (am 2, .inl (w.I, 64, .inl ff)), (am 3, .inl (w.I, 64, .inl fs)), (am 4, .inl (w.I, 6400, .inl fe)), (am 5, .inl (w.I, 6400, .inl fy)), (am 6, .inl (w.I, 101, .inl fw))] := mw_D (w := w) hI ((nI (i + 1)), (th), fk, ff, fs, fe, fy, fw)
  have hS : va_S (mA am) s.heap s.heap [] := va_S.rf
  have hP : va_P w.D cls [(am 0, .inr (2, [.int (nI (i + 1)), .ref (am 1), .ref (am 2), .ref (am 3), .ref (am 4), .ref (am 5), .int (th), .ref (am 6)])), (am 1, .inl (w.I, 64, .inl fk)), (am 2, .inl (w.I, 64, .inl ff)), (am 3, .inl (w.I, 64, .inl fs)), (am 4, .inl (w.I, 6400, .inl fe)), (am 5, .inl (w.I, 6400, .inl fy)), (am 6, .inl (w.I, 101, .inl fw))] s.heap := hP
  have hl : lv_has ls 5 [(0, .ref (am 0)), (1, .int (nI a)), (2, .int (nI b)), (3, .int (nI d))] := hl
  refine lv_iload_n hx hb d_M_putAll_0 rfl (lv_at hl 2 rfl) ?_
  refine lv_istore hx hb d_M_putAll_1 hl (by decide) rfl (fun ls hl => ?_)
  have hl : lv_has ls 5 [(4, .int (nI b)), (0, .ref (am 0)), (1, .int (nI a)), (2, .int (nI b)), (3, .int (nI d))] := hl
  refine fx_gen (fun Q0 hQ0 => ?_)
  have loop : ∀ (k t : Nat), t + k = d → b ≤ t → ∀ (fs1 fe1 fy1 : Nat → Int32), fs1 = upd fs i (nI (j + (t - b))) → fe1 = va_cpy fe fe (100 * a + b) (100 * i + j) (t - b) → fy1 = va_cpy fy fy (100 * a + b) (100 * i + j) (t - b) → ∀ (H : Heap) (locs : List Loc) (ls : Array Slot), va_P w.D cls [(am 0, .inr (2, [.int (nI (i + 1)), .ref (am 1), .ref (am 2), .ref (am 3), .ref (am 4), .ref (am 5), .int (th), .ref (am 6)])), (am 1, .inl (w.I, 64, .inl fk)), (am 2, .inl (w.I, 64, .inl ff)), (am 3, .inl (w.I, 64, .inl fs1)), (am 4, .inl (w.I, 6400, .inl fe1)), (am 5, .inl (w.I, 6400, .inl fy1)), (am 6, .inl (w.I, 101, .inl fw))] H → va_S (mA am) s.heap H locs → lv_has ls 5 [(4, .int (nI t)), (0, .ref (am 0)), (1, .int (nI a)), (2, .int (nI b)), (3, .int (nI d))] → W p l e (rmK 1) s m (.ref (am 0) :: [.int (nI a), .int (nI b), .int (nI d)] : List Value).toArray below meth c H locs 0 0 Q0 (F0 m 3 ls []) := by
    intro k
    induction k with
    | zero =>
      intro t ht hbt fs1 fe1 fy1 efs efe efy H locs ls hP hS hl
      have htd : t = d := by omega
      subst htd
      rw [hQ0]
      refine lv_iload hx hb d_M_putAll_3 (lv_at hl 0 rfl) ?_
      refine lv_iload_n hx hb d_M_putAll_5 rfl (lv_at hl 4 rfl) ?_
      refine lv_icmp_ge (tgt := 43) hx hb d_M_putAll_6 rfl (fun _ => ?_) (fun h9 => absurd (nI_le (Nat.le_refl _) (by omega)) h9)
      exact fx_vret hx hb hr hlk hS.2.2 (Nat.le_of_ble_eq_true rfl) (Nat.le_of_ble_eq_true rfl) d_M_putAll_43 (⟨rfl, by rw [← efs, ← efe, ← efy]; exact hP⟩)
    | succ k ih =>
      intro t ht hbt fs1 fe1 fy1 efs efe efy H locs ls hP hS hl
      have hD : va_D (mA am) [(am 0, .inr (2, [.int (nI (i + 1)), .ref (am 1), .ref (am 2), .ref (am 3), .ref (am 4), .ref (am 5), .int (th), .ref (am 6)])), (am 1, .inl (w.I, 64, .inl fk)), (am 2, .inl (w.I, 64, .inl ff)), (am 3, .inl (w.I, 64, .inl fs1)), (am 4, .inl (w.I, 6400, .inl fe1)), (am 5, .inl (w.I, 6400, .inl fy1)), (am 6, .inl (w.I, 101, .inl fw))] := mw_D (w := w) hI ((nI (i + 1)), (th), fk, ff, fs1, fe1, fy1, fw)
      have hst : fs1 i = nI (j + (t - b)) := by rw [efs]; exact pk_us
      refine lv_iload hx hb d_M_putAll_3 (lv_at hl 0 rfl) ?_
      refine lv_iload_n hx hb d_M_putAll_5 rfl (lv_at hl 4 rfl) ?_
      refine lv_icmp_ge (tgt := 43) hx hb d_M_putAll_6 rfl (fun h9 => absurd h9 (nI_ge (by omega) (by omega))) (fun _ => ?_)
      refine lv_aload_n hx hb d_M_putAll_9 rfl (lv_at hl 1 rfl) ?_
      refine lv_aload_n hx hb d_M_putAll_10 rfl (lv_at hl 1 rfl) ?_
      refine fx_get hx hb hown (kc_M hK _) hKv 5 (by decide) (hw _ mf_M_22) (fun _ h => h) (hP 0 _ rfl) rfl d_M_putAll_11 ?_
      refine lv_bipush (v := nI 100) hx hb d_M_putAll_14 rfl ?_
      refine lv_iload_n hx hb d_M_putAll_16 rfl (lv_at hl 2 rfl) ?_
      refine lv_imul hx hb d_M_putAll_17 ?_
      refine fx_ti (y := nI (100 * a)) (pk_mul 100 a) ?_
      refine lv_iload hx hb d_M_putAll_18 (lv_at hl 0 rfl) ?_
      refine lv_iadd hx hb d_M_putAll_20 ?_
      refine fx_ti (y := nI (100 * a + t)) (nI_add _ _) ?_
      refine fx_iald (j := 100 * a + t) hx hb hKv 0 (hP 5 _ rfl) rfl (rfl) (by omega) (by decide) d_M_putAll_21 ?_
      refine lv_aload_n hx hb d_M_putAll_22 rfl (lv_at hl 1 rfl) ?_
      refine fx_get hx hb hown (kc_M hK _) hKv 4 (by decide) (hw _ mf_M_19) (fun _ h => h) (hP 0 _ rfl) rfl d_M_putAll_23 ?_
      refine lv_bipush (v := nI 100) hx hb d_M_putAll_26 rfl ?_
      refine lv_iload_n hx hb d_M_putAll_28 rfl (lv_at hl 2 rfl) ?_
      refine lv_imul hx hb d_M_putAll_29 ?_
      refine fx_ti (y := nI (100 * a)) (pk_mul 100 a) ?_
      refine lv_iload hx hb d_M_putAll_30 (lv_at hl 0 rfl) ?_
      refine lv_iadd hx hb d_M_putAll_32 ?_
      refine fx_ti (y := nI (100 * a + t)) (nI_add _ _) ?_
      refine fx_iald (j := 100 * a + t) hx hb hKv 0 (hP 4 _ rfl) rfl (rfl) (by omega) (by decide) d_M_putAll_33 ?_
      refine m_cV (ct_M_put w am hI _ _ _ _ _ _ _ i (j + (t - b)) _ _ hi (by omega) hst) hx hfl hK hb (by rw [hml]; exact hl.1) hown (hw _ mm_M_42) (hw _ mk_M_put) (hw _ mi_M_put) (hw _ mq_M_put) (show fx_N y_M_put 2 by decide +kernel) rfl ⟨Nat.le_of_ble_eq_true rfl, Nat.le_of_ble_eq_true rfl, Nat.le_of_ble_eq_true rfl, Nat.le_of_ble_eq_true rfl⟩ hP hS d_M_putAll_34 (fun H locs hP hS => ?_)
      have hP : va_P w.D cls [(am 0, .inr (2, [.int (nI (i + 1)), .ref (am 1), .ref (am 2), .ref (am 3), .ref (am 4), .ref (am 5), .int (th), .ref (am 6)])), (am 1, .inl (w.I, 64, .inl fk)), (am 2, .inl (w.I, 64, .inl ff)), (am 3, .inl (w.I, 64, .inl (upd fs1 i (nI (j + (t - b) + 1))))), (am 4, .inl (w.I, 6400, .inl (upd fe1 (100 * i + (j + (t - b))) (fe1 (100 * a + t))))), (am 5, .inl (w.I, 6400, .inl (upd fy1 (100 * i + (j + (t - b))) (fy1 (100 * a + t))))), (am 6, .inl (w.I, 101, .inl fw))] H := hP
      have hD : va_D (mA am) [(am 0, .inr (2, [.int (nI (i + 1)), .ref (am 1), .ref (am 2), .ref (am 3), .ref (am 4), .ref (am 5), .int (th), .ref (am 6)])), (am 1, .inl (w.I, 64, .inl fk)), (am 2, .inl (w.I, 64, .inl ff)), (am 3, .inl (w.I, 64, .inl (upd fs1 i (nI (j + (t - b) + 1))))), (am 4, .inl (w.I, 6400, .inl (upd fe1 (100 * i + (j + (t - b))) (fe1 (100 * a + t))))), (am 5, .inl (w.I, 6400, .inl (upd fy1 (100 * i + (j + (t - b))) (fy1 (100 * a + t))))), (am 6, .inl (w.I, 101, .inl fw))] := mw_D (w := w) hI ((nI (i + 1)), (th), fk, ff, (upd fs1 i (nI (j + (t - b) + 1))), (upd fe1 (100 * i + (j + (t - b))) (fe1 (100 * a + t))), (upd fy1 (100 * i + (j + (t - b))) (fy1 (100 * a + t))), fw)
      refine lv_iinc (k := 0) (v := nI (t + 1)) hx hb d_M_putAll_37 hl rfl (nI_1 t) (by decide) rfl (fun ls hl => ?_)
      refine lv_goto (tgt := 3) hx hb d_M_putAll_40 rfl ?_
      refine ih (t + 1) (by omega) (by omega) _ _ _ ?_ ?_ ?_ H locs ls hP hS hl
      · rw [efs, show t + 1 - b = t - b + 1 by omega]; exact m_uu _ _ _ _
      · rw [efe, show t + 1 - b = t - b + 1 by omega]; exact m_cpy1 (by omega) (by omega)
      · rw [efy, show t + 1 - b = t - b + 1 by omega]; exact m_cpy1 (by omega) (by omega)
  have e1 : fs = upd fs i (nI (j + (b - b))) := by rw [Nat.sub_self, Nat.add_zero, ← hs]; exact (m_us _ _).symm
  have e2 : ∀ f : Nat → Int32, f = va_cpy f f (100 * a + b) (100 * i + j) (b - b) := fun f => by rw [Nat.sub_self]; exact (m_cpy0 f _ _).symm
  exact loop (d - b) b (by omega) (Nat.le_refl _) _ _ _ e1 (e2 fe) (e2 fy) _ _ ls hP hS hl
set_option maxHeartbeats 4000000 in
set_option maxRecDepth 100000 in
theorem ct_M_below (w : Wd) (am : Nat → Nat) (hI : mI am) (n th : Int32) (fk ff fs fe fy fw : Nat → Int32) (a : Nat) (xs : List Int32) (x : Int32) (ha : a < 64) (hL : xs.length ≤ 100) (hs : fs a = nI xs.length) (hx0 : ∀ j, j < xs.length → fe (100 * a + j) = xs.getD j 0) : mCt w am y_M_below 4 (rmK 0) [.int (nI a), .int x] (n, th, fk, ff, fs, fe, fy, fw) (some (.int (nI (sv_cb xs x)))) (n, th, fk, ff, fs, fe, fy, fw) := by
  refine fx_of (ret := some .int) (cc := b_M_below) (fun s hK => hK.1 _ mk_M_below _) (Nat.le_of_ble_eq_true rfl) ?_
  intro p l e s m below meth c hx hfl hK hb hml hr hlk hnt hown hin hP ls hl
  have hw : ∀ z ∈ gw, z.before (.ref (am 0) :: [.int (nI a), .int x] : List Value).toArray s = true := fun z hz => hK.1 z hz _
  have hKv := hK.2.1
  have hD : va_D (mA am) [(am 0, .inr (2, [.int (n), .ref (am 1), .ref (am 2), .ref (am 3), .ref (am 4), .ref (am 5), .int (th), .ref (am 6)])), (am 1, .inl (w.I, 64, .inl fk)), (am 2, .inl (w.I, 64, .inl ff)), (am 3, .inl (w.I, 64, .inl fs)), (am 4, .inl (w.I, 6400, .inl fe)), (am 5, .inl (w.I, 6400, .inl fy)), (am 6, .inl (w.I, 101, .inl fw))] := mw_D (w := w) hI ((n), (th), fk, ff, fs, fe, fy, fw)
  have hS : va_S (mA am) s.heap s.heap [] := va_S.rf
  have hP : va_P w.D cls [(am 0, .inr (2, [.int (n), .ref (am 1), .ref (am 2), .ref (am 3), .ref (am 4), .ref (am 5), .int (th), .ref (am 6)])), (am 1, .inl (w.I, 64, .inl fk)), (am 2, .inl (w.I, 64, .inl ff)), (am 3, .inl (w.I, 64, .inl fs)), (am 4, .inl (w.I, 6400, .inl fe)), (am 5, .inl (w.I, 6400, .inl fy)), (am 6, .inl (w.I, 101, .inl fw))] s.heap := hP
  have hl : lv_has ls 4 [(0, .ref (am 0)), (1, .int (nI a)), (2, .int x)] := hl
  refine lv_iconst (v := nI 0) hx hb d_M_below_0 rfl ?_
  refine lv_istore_n hx hb d_M_below_1 rfl hl (by decide) rfl (fun ls hl => ?_)
  have hl : lv_has ls 4 [(3, .int (nI 0)), (0, .ref (am 0)), (1, .int (nI a)), (2, .int x)] := hl
  refine fx_gen (fun Q0 hQ0 => ?_)
  have loop : ∀ (k t : Nat), t + k = xs.length → (∀ j, j < t → xs.getD j 0 < x) → ∀ (ls : Array Slot), lv_has ls 4 [(3, .int (nI t)), (0, .ref (am 0)), (1, .int (nI a)), (2, .int x)] → W p l e (rmK 0) s m (.ref (am 0) :: [.int (nI a), .int x] : List Value).toArray below meth c s.heap [] 0 0 Q0 (F0 m 2 ls []) := by
    intro k
    induction k with
    | zero =>
      intro t ht hlt ls hl
      have hte : t = xs.length := by omega
      rw [hQ0]
      refine lv_iload_n hx hb d_M_below_2 rfl (lv_at hl 0 rfl) ?_
      refine lv_aload_n hx hb d_M_below_3 rfl (lv_at hl 1 rfl) ?_
      refine fx_get hx hb hown (kc_M hK _) hKv 3 (by decide) (hw _ mf_M_16) (fun _ h => h) (hP 0 _ rfl) rfl d_M_below_4 ?_
      refine lv_iload_n hx hb d_M_below_7 rfl (lv_at hl 2 rfl) ?_
      refine fx_iald (j := a) hx hb hKv 0 (hP 3 _ rfl) rfl (rfl) (ha) (by decide) d_M_below_8 ?_
      refine lv_icmp_ge (tgt := 34) hx hb d_M_below_9 rfl (fun _ => ?_) (fun h9 => absurd (by rw [hs, hte]; exact nI_le (Nat.le_refl _) (by omega)) h9)
      refine lv_iload_n hx hb d_M_below_34 rfl (lv_at hl 0 rfl) ?_
      exact fx_iret hx hb hr hlk hS.2.2 (Nat.le_of_ble_eq_true rfl) (Nat.le_of_ble_eq_true rfl) d_M_below_35 (⟨by rw [sv_cb_of xs x t (by omega) hlt (Or.inl hte)], hP⟩)
    | succ k ih =>
      intro t ht hlt ls hl
      refine lv_iload_n hx hb d_M_below_2 rfl (lv_at hl 0 rfl) ?_
      refine lv_aload_n hx hb d_M_below_3 rfl (lv_at hl 1 rfl) ?_
      refine fx_get hx hb hown (kc_M hK _) hKv 3 (by decide) (hw _ mf_M_16) (fun _ h => h) (hP 0 _ rfl) rfl d_M_below_4 ?_
      refine lv_iload_n hx hb d_M_below_7 rfl (lv_at hl 2 rfl) ?_
      refine fx_iald (j := a) hx hb hKv 0 (hP 3 _ rfl) rfl (rfl) (ha) (by decide) d_M_below_8 ?_
      refine lv_icmp_ge (tgt := 34) hx hb d_M_below_9 rfl (fun h9 => absurd h9 (by rw [hs]; exact nI_ge (by omega) (by omega))) (fun _ => ?_)
      refine lv_aload_n hx hb d_M_below_12 rfl (lv_at hl 1 rfl) ?_
      refine fx_get hx hb hown (kc_M hK _) hKv 4 (by decide) (hw _ mf_M_19) (fun _ h => h) (hP 0 _ rfl) rfl d_M_below_13 ?_
      refine lv_bipush (v := nI 100) hx hb d_M_below_16 rfl ?_
      refine lv_iload_n hx hb d_M_below_18 rfl (lv_at hl 2 rfl) ?_
      refine lv_imul hx hb d_M_below_19 ?_
      refine fx_ti (y := nI (100 * a)) (pk_mul 100 a) ?_
      refine lv_iload_n hx hb d_M_below_20 rfl (lv_at hl 0 rfl) ?_
      refine lv_iadd hx hb d_M_below_21 ?_
      refine fx_ti (y := nI (100 * a + t)) (nI_add _ _) ?_
      refine fx_iald (j := 100 * a + t) hx hb hKv 0 (hP 4 _ rfl) rfl (rfl) (by omega) (by decide) d_M_below_22 ?_
      refine lv_iload_n hx hb d_M_below_23 rfl (lv_at hl 3 rfl) ?_
      refine lv_icmp_ge (tgt := 34) hx hb d_M_below_24 rfl (fun h24 => ?_) (fun h24 => ?_)
      · rw [hQ0]
        refine lv_iload_n hx hb d_M_below_34 rfl (lv_at hl 0 rfl) ?_
        exact fx_iret hx hb hr hlk hS.2.2 (Nat.le_of_ble_eq_true rfl) (Nat.le_of_ble_eq_true rfl) d_M_below_35 (⟨by rw [sv_cb_of xs x t (by omega) hlt (Or.inr (by rw [← hx0 t (by omega)]; exact Int32.not_lt.mpr h24))], hP⟩)
      · refine lv_iload_n hx hb d_M_below_27 rfl (lv_at hl 0 rfl) ?_
        refine lv_iconst (v := nI 1) hx hb d_M_below_28 rfl ?_
        refine lv_iadd hx hb d_M_below_29 ?_
        refine fx_ti (y := nI (t + 1)) (nI_1 t) ?_
        refine lv_istore_n hx hb d_M_below_30 rfl hl (by decide) rfl (fun ls hl => ?_)
        have hl : lv_has ls 4 [(3, .int (nI (t + 1))), (0, .ref (am 0)), (1, .int (nI a)), (2, .int x)] := hl
        refine lv_goto (tgt := 2) hx hb d_M_below_31 rfl ?_
        exact ih (t + 1) (by omega) (lt_s hlt (by rw [← hx0 t (by omega)]; exact Int32.not_le.mp h24)) ls hl
  exact loop xs.length 0 (by omega) (fun j hj => absurd hj (Nat.not_lt_zero _)) ls hl
set_option maxHeartbeats 4000000 in
set_option maxRecDepth 100000 in
theorem ct_M_placeOf (w : Wd) (am : Nat → Nat) (hI : mI am) (n th : Int32) (fk ff fs fe fy fw : Nat → Int32) (a : Nat) (xs : List Int32) (x : Int32) (ha : a < 64) (hL : xs.length ≤ 100) (hs : fs a = nI xs.length) (hx0 : ∀ j, j < xs.length → fy (100 * a + j) = xs.getD j 0) : mCt w am y_M_placeOf 4 (rmK 0) [.int (nI a), .int x] (n, th, fk, ff, fs, fe, fy, fw) (some (.int (nI (sv_cb xs x)))) (n, th, fk, ff, fs, fe, fy, fw) := by
  refine fx_of (ret := some .int) (cc := b_M_placeOf) (fun s hK => hK.1 _ mk_M_placeOf _) (Nat.le_of_ble_eq_true rfl) ?_
  intro p l e s m below meth c hx hfl hK hb hml hr hlk hnt hown hin hP ls hl
  have hw : ∀ z ∈ gw, z.before (.ref (am 0) :: [.int (nI a), .int x] : List Value).toArray s = true := fun z hz => hK.1 z hz _
  have hKv := hK.2.1
  have hD : va_D (mA am) [(am 0, .inr (2, [.int (n), .ref (am 1), .ref (am 2), .ref (am 3), .ref (am 4), .ref (am 5), .int (th), .ref (am 6)])), (am 1, .inl (w.I, 64, .inl fk)), (am 2, .inl (w.I, 64, .inl ff)), (am 3, .inl (w.I, 64, .inl fs)), (am 4, .inl (w.I, 6400, .inl fe)), (am 5, .inl (w.I, 6400, .inl fy)), (am 6, .inl (w.I, 101, .inl fw))] := mw_D (w := w) hI ((n), (th), fk, ff, fs, fe, fy, fw)
  have hS : va_S (mA am) s.heap s.heap [] := va_S.rf
  have hP : va_P w.D cls [(am 0, .inr (2, [.int (n), .ref (am 1), .ref (am 2), .ref (am 3), .ref (am 4), .ref (am 5), .int (th), .ref (am 6)])), (am 1, .inl (w.I, 64, .inl fk)), (am 2, .inl (w.I, 64, .inl ff)), (am 3, .inl (w.I, 64, .inl fs)), (am 4, .inl (w.I, 6400, .inl fe)), (am 5, .inl (w.I, 6400, .inl fy)), (am 6, .inl (w.I, 101, .inl fw))] s.heap := hP
  have hl : lv_has ls 4 [(0, .ref (am 0)), (1, .int (nI a)), (2, .int x)] := hl
  refine lv_iconst (v := nI 0) hx hb d_M_placeOf_0 rfl ?_
  refine lv_istore_n hx hb d_M_placeOf_1 rfl hl (by decide) rfl (fun ls hl => ?_)
  have hl : lv_has ls 4 [(3, .int (nI 0)), (0, .ref (am 0)), (1, .int (nI a)), (2, .int x)] := hl
  refine fx_gen (fun Q0 hQ0 => ?_)
  have loop : ∀ (k t : Nat), t + k = xs.length → (∀ j, j < t → xs.getD j 0 < x) → ∀ (ls : Array Slot), lv_has ls 4 [(3, .int (nI t)), (0, .ref (am 0)), (1, .int (nI a)), (2, .int x)] → W p l e (rmK 0) s m (.ref (am 0) :: [.int (nI a), .int x] : List Value).toArray below meth c s.heap [] 0 0 Q0 (F0 m 2 ls []) := by
    intro k
    induction k with
    | zero =>
      intro t ht hlt ls hl
      have hte : t = xs.length := by omega
      rw [hQ0]
      refine lv_iload_n hx hb d_M_placeOf_2 rfl (lv_at hl 0 rfl) ?_
      refine lv_aload_n hx hb d_M_placeOf_3 rfl (lv_at hl 1 rfl) ?_
      refine fx_get hx hb hown (kc_M hK _) hKv 3 (by decide) (hw _ mf_M_16) (fun _ h => h) (hP 0 _ rfl) rfl d_M_placeOf_4 ?_
      refine lv_iload_n hx hb d_M_placeOf_7 rfl (lv_at hl 2 rfl) ?_
      refine fx_iald (j := a) hx hb hKv 0 (hP 3 _ rfl) rfl (rfl) (ha) (by decide) d_M_placeOf_8 ?_
      refine lv_icmp_ge (tgt := 34) hx hb d_M_placeOf_9 rfl (fun _ => ?_) (fun h9 => absurd (by rw [hs, hte]; exact nI_le (Nat.le_refl _) (by omega)) h9)
      refine lv_iload_n hx hb d_M_placeOf_34 rfl (lv_at hl 0 rfl) ?_
      exact fx_iret hx hb hr hlk hS.2.2 (Nat.le_of_ble_eq_true rfl) (Nat.le_of_ble_eq_true rfl) d_M_placeOf_35 (⟨by rw [sv_cb_of xs x t (by omega) hlt (Or.inl hte)], hP⟩)
    | succ k ih =>
      intro t ht hlt ls hl
      refine lv_iload_n hx hb d_M_placeOf_2 rfl (lv_at hl 0 rfl) ?_
      refine lv_aload_n hx hb d_M_placeOf_3 rfl (lv_at hl 1 rfl) ?_
      refine fx_get hx hb hown (kc_M hK _) hKv 3 (by decide) (hw _ mf_M_16) (fun _ h => h) (hP 0 _ rfl) rfl d_M_placeOf_4 ?_
      refine lv_iload_n hx hb d_M_placeOf_7 rfl (lv_at hl 2 rfl) ?_
      refine fx_iald (j := a) hx hb hKv 0 (hP 3 _ rfl) rfl (rfl) (ha) (by decide) d_M_placeOf_8 ?_
      refine lv_icmp_ge (tgt := 34) hx hb d_M_placeOf_9 rfl (fun h9 => absurd h9 (by rw [hs]; exact nI_ge (by omega) (by omega))) (fun _ => ?_)
      refine lv_aload_n hx hb d_M_placeOf_12 rfl (lv_at hl 1 rfl) ?_
      refine fx_get hx hb hown (kc_M hK _) hKv 5 (by decide) (hw _ mf_M_22) (fun _ h => h) (hP 0 _ rfl) rfl d_M_placeOf_13 ?_
      refine lv_bipush (v := nI 100) hx hb d_M_placeOf_16 rfl ?_
      refine lv_iload_n hx hb d_M_placeOf_18 rfl (lv_at hl 2 rfl) ?_
      refine lv_imul hx hb d_M_placeOf_19 ?_
      refine fx_ti (y := nI (100 * a)) (pk_mul 100 a) ?_
      refine lv_iload_n hx hb d_M_placeOf_20 rfl (lv_at hl 0 rfl) ?_
      refine lv_iadd hx hb d_M_placeOf_21 ?_
      refine fx_ti (y := nI (100 * a + t)) (nI_add _ _) ?_
      refine fx_iald (j := 100 * a + t) hx hb hKv 0 (hP 5 _ rfl) rfl (rfl) (by omega) (by decide) d_M_placeOf_22 ?_
      refine lv_iload_n hx hb d_M_placeOf_23 rfl (lv_at hl 3 rfl) ?_
      refine lv_icmp_ge (tgt := 34) hx hb d_M_placeOf_24 rfl (fun h24 => ?_) (fun h24 => ?_)
      · rw [hQ0]
        refine lv_iload_n hx hb d_M_placeOf_34 rfl (lv_at hl 0 rfl) ?_
        exact fx_iret hx hb hr hlk hS.2.2 (Nat.le_of_ble_eq_true rfl) (Nat.le_of_ble_eq_true rfl) d_M_placeOf_35 (⟨by rw [sv_cb_of xs x t (by omega) hlt (Or.inr (by rw [← hx0 t (by omega)]; exact Int32.not_lt.mpr h24))], hP⟩)
      · refine lv_iload_n hx hb d_M_placeOf_27 rfl (lv_at hl 0 rfl) ?_
        refine lv_iconst (v := nI 1) hx hb d_M_placeOf_28 rfl ?_
        refine lv_iadd hx hb d_M_placeOf_29 ?_
        refine fx_ti (y := nI (t + 1)) (nI_1 t) ?_
        refine lv_istore_n hx hb d_M_placeOf_30 rfl hl (by decide) rfl (fun ls hl => ?_)
        have hl : lv_has ls 4 [(3, .int (nI (t + 1))), (0, .ref (am 0)), (1, .int (nI a)), (2, .int x)] := hl
        refine lv_goto (tgt := 2) hx hb d_M_placeOf_31 rfl ?_
        exact ih (t + 1) (by omega) (lt_s hlt (by rw [← hx0 t (by omega)]; exact Int32.not_le.mp h24)) ls hl
  exact loop xs.length 0 (by omega) (fun j hj => absurd hj (Nat.not_lt_zero _)) ls hl
set_option maxHeartbeats 4000000 in
set_option maxRecDepth 100000 in
theorem ct_M_hasAt (w : Wd) (am : Nat → Nat) (hI : mI am) (n th : Int32) (fk ff fs fe fy fw : Nat → Int32) (a q : Nat) (key : Int32) (L : Nat) (ha : a < 64) (hL : L ≤ 100) (hq : q ≤ 100) (hs : fs a = nI L) : mCt w am y_M_hasAt 4 (rmK 0) [.int (nI a), .int (nI q), .int key] (n, th, fk, ff, fs, fe, fy, fw) (some (.int (zI (q < L ∧ fy (100 * a + q) = key)))) (n, th, fk, ff, fs, fe, fy, fw) := by
  refine fx_of (ret := some .boolean) (cc := b_M_hasAt) (fun s hK => hK.1 _ mk_M_hasAt _) (Nat.le_of_ble_eq_true rfl) ?_
  intro p l e s m below meth c hx hfl hK hb hml hr hlk hnt hown hin hP ls hl
  have hw : ∀ z ∈ gw, z.before (.ref (am 0) :: [.int (nI a), .int (nI q), .int key] : List Value).toArray s = true := fun z hz => hK.1 z hz _
  have hKv := hK.2.1
  have hD : va_D (mA am) [(am 0, .inr (2, [.int (n), .ref (am 1), .ref (am 2), .ref (am 3), .ref (am 4), .ref (am 5), .int (th), .ref (am 6)])), (am 1, .inl (w.I, 64, .inl fk)), (am 2, .inl (w.I, 64, .inl ff)), (am 3, .inl (w.I, 64, .inl fs)), (am 4, .inl (w.I, 6400, .inl fe)), (am 5, .inl (w.I, 6400, .inl fy)), (am 6, .inl (w.I, 101, .inl fw))] := mw_D (w := w) hI ((n), (th), fk, ff, fs, fe, fy, fw)
  have hS : va_S (mA am) s.heap s.heap [] := va_S.rf
  have hP : va_P w.D cls [(am 0, .inr (2, [.int (n), .ref (am 1), .ref (am 2), .ref (am 3), .ref (am 4), .ref (am 5), .int (th), .ref (am 6)])), (am 1, .inl (w.I, 64, .inl fk)), (am 2, .inl (w.I, 64, .inl ff)), (am 3, .inl (w.I, 64, .inl fs)), (am 4, .inl (w.I, 6400, .inl fe)), (am 5, .inl (w.I, 6400, .inl fy)), (am 6, .inl (w.I, 101, .inl fw))] s.heap := hP
  have hl : lv_has ls 4 [(0, .ref (am 0)), (1, .int (nI a)), (2, .int (nI q)), (3, .int key)] := hl
  refine lv_iload_n hx hb d_M_hasAt_0 rfl (lv_at hl 2 rfl) ?_
  refine lv_aload_n hx hb d_M_hasAt_1 rfl (lv_at hl 0 rfl) ?_
  refine fx_get hx hb hown (kc_M hK _) hKv 3 (by decide) (hw _ mf_M_16) (fun _ h => h) (hP 0 _ rfl) rfl d_M_hasAt_2 ?_
  refine lv_iload_n hx hb d_M_hasAt_5 rfl (lv_at hl 1 rfl) ?_
  refine fx_iald (j := a) hx hb hKv 0 (hP 3 _ rfl) rfl (rfl) (ha) (by decide) d_M_hasAt_6 ?_
  refine lv_icmp_ge (tgt := 29) hx hb d_M_hasAt_7 rfl (fun h7 => ?_) (fun h7 => ?_)
  · have h7 : L ≤ q := by rw [hs] at h7; exact (nI_leI (by omega) (by omega)).mp h7
    refine lv_iconst (v := nI 0) hx hb d_M_hasAt_29 rfl ?_
    exact fx_zret hx hb hr (by decide) hlk hS.2.2 (Nat.le_of_ble_eq_true rfl) (Nat.le_of_ble_eq_true rfl) d_M_hasAt_30 (⟨by rw [zI_f (fun h => absurd h.1 (Nat.not_lt.mpr h7))]; rfl, hP⟩)
  · have h7 : q < L := by rw [hs] at h7; exact Nat.not_le.mp (fun z => h7 (nI_le z (by omega)))
    refine lv_aload_n hx hb d_M_hasAt_10 rfl (lv_at hl 0 rfl) ?_
    refine fx_get hx hb hown (kc_M hK _) hKv 5 (by decide) (hw _ mf_M_22) (fun _ h => h) (hP 0 _ rfl) rfl d_M_hasAt_11 ?_
    refine lv_bipush (v := nI 100) hx hb d_M_hasAt_14 rfl ?_
    refine lv_iload_n hx hb d_M_hasAt_16 rfl (lv_at hl 1 rfl) ?_
    refine lv_imul hx hb d_M_hasAt_17 ?_
    refine fx_ti (y := nI (100 * a)) (pk_mul 100 a) ?_
    refine lv_iload_n hx hb d_M_hasAt_18 rfl (lv_at hl 2 rfl) ?_
    refine lv_iadd hx hb d_M_hasAt_19 ?_
    refine fx_ti (y := nI (100 * a + q)) (nI_add _ _) ?_
    refine fx_iald (j := 100 * a + q) hx hb hKv 0 (hP 5 _ rfl) rfl (rfl) (by omega) (by decide) d_M_hasAt_20 ?_
    refine lv_iload_n hx hb d_M_hasAt_21 rfl (lv_at hl 3 rfl) ?_
    refine lv_icmp_ne (tgt := 29) hx hb d_M_hasAt_22 rfl (fun h22 => ?_) (fun h22 => ?_)
    · refine lv_iconst (v := nI 0) hx hb d_M_hasAt_29 rfl ?_
      exact fx_zret hx hb hr (by decide) hlk hS.2.2 (Nat.le_of_ble_eq_true rfl) (Nat.le_of_ble_eq_true rfl) d_M_hasAt_30 (⟨by rw [zI_f (fun h => h22 h.2)]; rfl, hP⟩)
    · refine lv_iconst (v := nI 1) hx hb d_M_hasAt_25 rfl ?_
      refine lv_goto (tgt := 30) hx hb d_M_hasAt_26 rfl ?_
      exact fx_zret hx hb hr (by decide) hlk hS.2.2 (Nat.le_of_ble_eq_true rfl) (Nat.le_of_ble_eq_true rfl) d_M_hasAt_30 (⟨by rw [zI_t ⟨h7, h22⟩]; rfl, hP⟩)
