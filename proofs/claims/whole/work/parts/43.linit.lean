set_option maxHeartbeats 4000000 in
set_option maxRecDepth 100000 in
theorem ct_L_init (w : Wd) (x : Nat) (hx0 : w.H0.size ≤ x) : fx_C (KT w) y_L_init 1 (rmN 4 1 3) [.ref x] (fun H => Low w H ∧ va_at w.D cls (x, .inr (0, [.null])) H) (fun H o H' => o = .returned none ∧ ∃ al, H.size ≤ al ∧ va_at w.D cls (x, .inr (0, [.ref al])) H' ∧ cO w al [.int 0, .ref w.E0, .int (nI 0)] H') (fun H q => q = x ∨ H.size ≤ q) := by
  refine fx_of (ret := none) (cc := b_L_init) (fun s hK => hK.1 _ mk_L_init _) (Nat.le_of_ble_eq_true rfl) ?_
  intro p l e s m below meth c hx hfl hK hb hml hr hlk hnt hown hin hpre ls hl
  have hw : ∀ z ∈ gw, z.before ([.ref x] : List Value).toArray s = true := fun z hz => hK.1 z hz _
  have hKv := hK.2.1
  have hL : ∀ q ∈ ([] : List Loc), (fun H q => q = x ∨ H.size ≤ q) s.heap q.base := fun q hq => by cases hq
  obtain ⟨hLow, hO⟩ := hpre
  have hlx := hO.lt
  have hl : lv_has ls 1 [(0, .ref x)] := hl
  refine lv_aload_n hx hb d_L_init_0 rfl (lv_at hl 0 rfl) ?_
  refine W.objInit hx hb hown (hw _ mm_L_1) (hw _ mi_OJ_init) (hw _ mk_OJ_init) rfl (by rw [hml]; exact hl.1) rfl d_L_init_1 (Nat.le_of_ble_eq_true rfl) (Nat.le_of_ble_eq_true rfl) ?_
  refine W.eq (g2 := F0 m 4 ls []) rfl ?_
  refine lv_aload_n hx hb d_L_init_4 rfl (lv_at hl 0 rfl) ?_
  refine fx_new (fs := [.int 0, .null, .int 0]) hx hb hown (kc_AL hK _) hKv (hw _ mc_L_7) (hw _ mt_AL) (hw _ mn_AL) (by decide) (Nat.le_of_ble_eq_true rfl) (Nat.le_of_ble_eq_true rfl) d_L_init_5 (fun q H1 hq hN hG => ?_)
  have hO := hG.ex.kept hO
  have hq1 : s.heap.size ≤ q := Nat.le_of_eq hq.symm
  have hnx : x ≠ q := Nat.ne_of_lt (Nat.lt_of_lt_of_le hlx hq1)
  refine lv_dup hx hb d_L_init_8 rfl ?_
  refine fx_cI (B := (fun H q => q = x ∨ H.size ≤ q) s.heap) KT_moved (ct_AL_init w q (Nat.le_trans hLow.1 hq1)) hx hfl hK hb (by rw [hml]; exact hl.1) hown (hw _ mm_L_9) (hw _ mk_AL_init) (hw _ mi_AL_init) rfl (show fx_N y_AL_init 0 by decide +kernel) rfl ⟨Nat.le_of_ble_eq_true rfl, Nat.le_of_ble_eq_true rfl, Nat.le_of_ble_eq_true rfl, Nat.le_of_ble_eq_true rfl⟩ (⟨hLow.G hG, hN⟩) d_L_init_9 hL (fun z hz => Or.inr (by rw [hz]; exact hq1)) (fun v H2 locs hq hF hL => ?_) (fun x H2 locs hq hF hL => by cases hq.1)
  obtain ⟨hv, hN, hU⟩ := hq
  cases hv
  have hO := hU.kept hO hnx
  refine W.eq (g2 := F0 m 12 ls [.ref q, .ref x]) rfl ?_
  refine fx_putF (B := (fun H q => q = x ∨ H.size ≤ q) s.heap) hx hb hown (kc_L hK _) hKv 0 (by decide) (hw _ mf_L_10) (fun _ h => h) rfl hin rfl hO (by simp) rfl rfl hL (Or.inl rfl) d_L_init_12 (fun H3 locs hO hU2 hL => ?_)
  have hN := hU2.kept hN (Ne.symm hnx)
  exact fx_vret hx hb hr hlk hL (Nat.le_of_ble_eq_true rfl) (Nat.le_of_ble_eq_true rfl) d_L_init_15 (⟨rfl, q, hq1, hO, hN⟩)
