/-! The law's wrappers: a call, its answer put into the row of one long; its exceptions told by numbers. -/
theorem cV.keepF {w : Wd} {F : Nat → Prop} {al ar b : Nat} {o : sV} {H H' : Heap} (h : cV w F al ar b o H) (hk : ∀ q : Nat, q < H.size → ¬ F q → H'[q]? = H[q]?) : cV w F al ar b o H' := by
  obtain ⟨e, y, h1, h2, h3, n1, n2, n3⟩ := h
  exact ⟨e, y, h1.kept (hk _ h1.lt n1.1), h2.kept (hk _ h2.lt n2.1), h3.kept (hk _ h3.lt n3.1), n1, n2, n3⟩
theorem cS.keepF {w : Wd} {F : Nat → Prop} {x al ar : Nat} {Vs : List sV} {H H' : Heap} (hS : cS w F x al ar Vs H) (hz : H.size ≤ H'.size) (hk : ∀ q : Nat, q < H.size → ¬ F q → H'[q]? = H[q]?) (hLow : Low w H') : cS w F x al ar Vs H' := by
  obtain ⟨h1, h2, h3, h4, h5, cap, mc, f, h6, h7, h8, h9, h10, h11, h12⟩ := hS
  refine ⟨hLow, fun q hq => Nat.lt_of_lt_of_le (h2 q hq) hz, h3, h4.kept (hk _ h4.lt h3.1), h5, cap, mc, f, h6.kept (hk _ h6.lt h5.2.1), h7.imp id (fun z => ⟨z.1, z.2.1, z.2.2.kept (hk _ z.2.2.lt (h8 z.2.1))⟩), h8, h9, h10, h11, fun i o hi => ⟨(h12 i o hi).1, ?_⟩⟩
  obtain ⟨b, b1, b2⟩ := (h12 i o hi).2
  exact ⟨b, b1, b2.keepF hk⟩
abbrev cJ (w : Wd) (out : Nat) (g : Nat → Int64) (H : Heap) : Prop := va_at w.D cls (out, .inl (w.J, 1, .inr (.inl g))) H
def wEnd (w : Wd) (F : Nat → Prop) (x al out : Nat) (R : sR) (_ : Heap) (o : Outcome) (H' : Heap) : Prop := o = .returned (some (.int (nI R.1))) ∧ cT w F x al R.2.2 H' ∧ ∃ g, cJ w out g H' ∧ (R.1 = 0 → g 0 = R.2.1.toInt64)
theorem so_empty_le (Vs : List sV) (p0 p1 : Int32) : (so_empty Vs p0 p1).1 ≤ 2 := by
  unfold so_empty
  repeat' split
  all_goals first | (exact Nat.le_of_ble_eq_true rfl)
theorem so_add_le (Vs : List sV) (p0 p1 : Int32) : (so_add Vs p0 p1).1 ≤ 2 := by
  unfold so_add
  repeat' split
  all_goals first | (exact Nat.le_of_ble_eq_true rfl)
theorem so_first_le (Vs : List sV) (p0 : Int32) : (so_first Vs p0).1 ≤ 2 := by
  unfold so_first
  repeat' split
  all_goals first | (exact Nat.le_of_ble_eq_true rfl)
theorem so_rest_le (Vs : List sV) (p0 : Int32) : (so_rest Vs p0).1 ≤ 3 := by
  unfold so_rest
  repeat' split
  all_goals first | (exact Nat.le_of_ble_eq_true rfl)
theorem so_join_le (Vs : List sV) (p0 p1 : Int32) : (so_join Vs p0 p1).1 ≤ 2 := by
  unfold so_join
  repeat' split
  all_goals first | (exact Nat.le_of_ble_eq_true rfl)
theorem so_bind_le (Vs : List sV) (p0 p1 p2 : Int32) : (so_bind Vs p0 p1 p2).1 ≤ 2 := by
  unfold so_bind
  repeat' split
  all_goals first | (exact Nat.le_of_ble_eq_true rfl)
theorem so_value_le (Vs : List sV) (p0 p1 : Int32) : (so_value Vs p0 p1).1 ≤ 2 := by
  unfold so_value
  repeat' split
  all_goals first | (exact Nat.le_of_ble_eq_true rfl)
theorem so_update_le (Vs : List sV) (p0 p1 p2 : Int32) : (so_update Vs p0 p1 p2).1 ≤ 3 := by
  unfold so_update
  repeat' split
  all_goals first | (exact Nat.le_of_ble_eq_true rfl)
theorem so_at_le (Vs : List sV) (p0 p1 : Int32) : (so_at Vs p0 p1).1 ≤ 2 := by
  unfold so_at
  repeat' split
  all_goals first | (exact Nat.le_of_ble_eq_true rfl)
theorem so_size_le (Vs : List sV) (p0 : Int32) : (so_size Vs p0).1 ≤ 1 := by
  unfold so_size
  repeat' split
  all_goals first | (exact Nat.le_of_ble_eq_true rfl)
theorem so_parts_le (Vs : List sV) (p0 : Int32) : (so_parts Vs p0).1 ≤ 1 := by
  unfold so_parts
  repeat' split
  all_goals first | (exact Nat.le_of_ble_eq_true rfl)
theorem so_kind_le (Vs : List sV) (p0 : Int32) : (so_kind Vs p0).1 ≤ 1 := by
  unfold so_kind
  repeat' split
  all_goals first | (exact Nat.le_of_ble_eq_true rfl)
set_option maxHeartbeats 4000000 in
set_option maxRecDepth 100000 in
theorem ct_W_empty (w : Wd) (F : Nat → Prop) (x al out : Nat) (Vs : List sV) (p0 p1 : Int32) (hFo : F out) (ho : w.H0.size ≤ out) : fx_C (KT w) y_W_empty 5 (rmN 10 9 800) [.ref x, .int p0, .int p1, .ref out] (fun H => cT w F x al Vs H ∧ ∃ g, cJ w out g H) (wEnd w F x al out (so_empty Vs p0 p1)) (fun _ q => (w.H0.size ≤ q ∧ ¬ F q) ∨ q = out) := by
  refine fx_ofW (ret := some .int) (cc := b_W_empty) (fun s hK => hK.1 _ mk_W_empty _) (Nat.le_of_ble_eq_true rfl) ?_
  intro p l e s m below meth c hx hfl hK hb hml hr hlk htab hown hin hpre ls hl
  have hw : ∀ z ∈ gw, z.before ([.ref x, .int p0, .int p1, .ref out] : List Value).toArray s = true := fun z hz => hK.1 z hz _
  have hKv := hK.2.1
  have hL : ∀ q ∈ ([] : List Loc), (fun _ q => (w.H0.size ≤ q ∧ ¬ F q) ∨ q = out) s.heap q.base := fun q hq => by cases hq
  obtain ⟨⟨ar, hS⟩, g, hJ⟩ := hpre
  have hl : lv_has ls 5 [(0, .ref x), (1, .int p0), (2, .int p1), (3, .ref out)] := hl
  refine lv_aload_n hx hb d_W_empty_0 rfl (lv_at hl 3 rfl) ?_
  refine lv_iconst (v := nI 0) hx hb d_W_empty_1 rfl ?_
  refine lv_aload_n hx hb d_W_empty_2 rfl (lv_at hl 0 rfl) ?_
  refine lv_iload_n hx hb d_W_empty_3 rfl (lv_at hl 1 rfl) ?_
  refine lv_iload_n hx hb d_W_empty_4 rfl (lv_at hl 2 rfl) ?_
  refine fx_cV (B := (fun _ q => (w.H0.size ≤ q ∧ ¬ F q) ∨ q = out) s.heap) KT_moved (ct_L_empty w F x al Vs p0 p1) hx hfl hK hb (by rw [hml]; exact hl.1) hown (hw _ mm_W_7) (fx_Y.code (hw _ mk_L_empty)) (hw _ mi_L_empty) (hw _ mq_L_empty) (show fx_N y_L_empty 2 by decide +kernel) (va_recv (q0 := 0) hKv (fx_one hS.2.2.2.1) (show cls[0]? = some (R_L, T_L, 1) from rfl) rfl) rfl ⟨Nat.le_of_ble_eq_true rfl, Nat.le_of_ble_eq_true rfl, Nat.le_of_ble_eq_true rfl, Nat.le_of_ble_eq_true rfl⟩ ⟨ar, hS⟩ d_W_empty_5 hL (fun q h => Or.inl h) (fun v H1 locs hq hF hL => ?_) (fun xx H1 locs hq hF hL => ?_)
  · obtain ⟨⟨ar1, hS1⟩, hd⟩ := hq
    obtain ⟨h0, hv⟩ : (so_empty Vs p0 p1).1 = 0 ∧ Outcome.returned v = .returned (some (.int (so_empty Vs p0 p1).2.1)) := hd.elim id (fun z => by obtain ⟨_, y, hv, _⟩ := z; cases hv)
    cases hv
    have hJ := hJ.kept (hF.2.2 out hJ.lt (fun z => z.2 hFo))
    refine W.eq (g2 := F0 m 8 ls [.int (so_empty Vs p0 p1).2.1, .int (nI 0), .ref out]) rfl ?_
    refine lv_i2l hx hb d_W_empty_8 rfl ?_
    refine fx_last (B := (fun _ q => (w.H0.size ≤ q ∧ ¬ F q) ∨ q = out) s.heap) hx hb hKv 1 hJ rfl rfl (by decide) (by decide) hL (Or.inr rfl) d_W_empty_9 (fun H2 locs hJ hU hL => ?_)
    have hS2 := hS1.keepF (Nat.le_of_eq hU.1.symm) (fun q hq hn => hU.2 q (fun z => hn (by rw [z]; exact hFo))) (hS1.1.U hU ho)
    refine lv_goto (tgt := 21) hx hb d_W_empty_10 rfl ?_
    refine lv_iconst (v := nI 0) hx hb d_W_empty_21 rfl ?_
    exact fx_iret hx hb hr hlk hL (Nat.le_of_ble_eq_true rfl) (Nat.le_of_ble_eq_true rfl) d_W_empty_22 (⟨by rw [h0], ⟨ar1, hS2⟩, _, hJ, fun _ => pk_uLs⟩)
  · obtain ⟨hT1, ⟨h0, hv⟩ | ⟨h0, y, hv, hxc⟩⟩ := hq
    · cases hv
    cases hv
    have hJ := hJ.kept (hF.2.2 out hJ.lt (fun z => z.2 hFo))
    have hle := so_empty_le Vs p0 p1
    rcases (show (so_empty Vs p0 p1).1 = 1 ∨ (so_empty Vs p0 p1).1 = 2 by omega) with hc | hc
    · have hxc : xcp w 0 xx H1 := by rw [hc] at hxc; exact hxc
      refine fx_caught hK hown htab 0 rfl (by decide) (by decide) (i := 0) (by decide) (hw _ mc_W_13) (fun z hz => by cases hz) hxc ?_
      refine lv_astore hx hb d_W_empty_13 hl (by decide) rfl (fun ls hl => ?_)
      have hl : lv_has ls 5 [(4, .ref xx), (0, .ref x), (1, .int p0), (2, .int p1), (3, .ref out)] := hl
      refine lv_iconst (v := nI 1) hx hb d_W_empty_15 rfl ?_
      exact fx_iret hx hb hr hlk hL (Nat.le_of_ble_eq_true rfl) (Nat.le_of_ble_eq_true rfl) d_W_empty_16 (⟨by rw [hc], hT1, g, hJ, fun z => by rw [hc] at z; cases z⟩)
    · have hxc : xcp w 1 xx H1 := by rw [hc] at hxc; exact hxc
      refine fx_caught hK hown htab 1 rfl (by decide) (by decide) (i := 1) (by decide) (hw _ mc_W_15) (fun z hz => by rw [List.mem_singleton.mp hz]; exact ⟨by decide, kIAE, hw _ mc_W_13, by decide⟩) hxc ?_
      refine lv_astore hx hb d_W_empty_17 hl (by decide) rfl (fun ls hl => ?_)
      have hl : lv_has ls 5 [(4, .ref xx), (0, .ref x), (1, .int p0), (2, .int p1), (3, .ref out)] := hl
      refine lv_iconst (v := nI 2) hx hb d_W_empty_19 rfl ?_
      exact fx_iret hx hb hr hlk hL (Nat.le_of_ble_eq_true rfl) (Nat.le_of_ble_eq_true rfl) d_W_empty_20 (⟨by rw [hc], hT1, g, hJ, fun z => by rw [hc] at z; cases z⟩)
set_option maxHeartbeats 4000000 in
set_option maxRecDepth 100000 in
theorem ct_W_add (w : Wd) (F : Nat → Prop) (x al out : Nat) (Vs : List sV) (p0 p1 : Int32) (hFo : F out) (ho : w.H0.size ≤ out) : fx_C (KT w) y_W_add 5 (rmN 10 9 800) [.ref x, .int p0, .int p1, .ref out] (fun H => cT w F x al Vs H ∧ ∃ g, cJ w out g H) (wEnd w F x al out (so_add Vs p0 p1)) (fun _ q => (w.H0.size ≤ q ∧ ¬ F q) ∨ q = out) := by
  refine fx_ofW (ret := some .int) (cc := b_W_add) (fun s hK => hK.1 _ mk_W_add _) (Nat.le_of_ble_eq_true rfl) ?_
  intro p l e s m below meth c hx hfl hK hb hml hr hlk htab hown hin hpre ls hl
  have hw : ∀ z ∈ gw, z.before ([.ref x, .int p0, .int p1, .ref out] : List Value).toArray s = true := fun z hz => hK.1 z hz _
  have hKv := hK.2.1
  have hL : ∀ q ∈ ([] : List Loc), (fun _ q => (w.H0.size ≤ q ∧ ¬ F q) ∨ q = out) s.heap q.base := fun q hq => by cases hq
  obtain ⟨⟨ar, hS⟩, g, hJ⟩ := hpre
  have hl : lv_has ls 5 [(0, .ref x), (1, .int p0), (2, .int p1), (3, .ref out)] := hl
  refine lv_aload_n hx hb d_W_add_0 rfl (lv_at hl 3 rfl) ?_
  refine lv_iconst (v := nI 0) hx hb d_W_add_1 rfl ?_
  refine lv_aload_n hx hb d_W_add_2 rfl (lv_at hl 0 rfl) ?_
  refine lv_iload_n hx hb d_W_add_3 rfl (lv_at hl 1 rfl) ?_
  refine lv_iload_n hx hb d_W_add_4 rfl (lv_at hl 2 rfl) ?_
  refine fx_cV (B := (fun _ q => (w.H0.size ≤ q ∧ ¬ F q) ∨ q = out) s.heap) KT_moved (ct_L_add w F x al Vs p0 p1) hx hfl hK hb (by rw [hml]; exact hl.1) hown (hw _ mm_W_17) (fx_Y.code (hw _ mk_L_add)) (hw _ mi_L_add) (hw _ mq_L_add) (show fx_N y_L_add 2 by decide +kernel) (va_recv (q0 := 0) hKv (fx_one hS.2.2.2.1) (show cls[0]? = some (R_L, T_L, 1) from rfl) rfl) rfl ⟨Nat.le_of_ble_eq_true rfl, Nat.le_of_ble_eq_true rfl, Nat.le_of_ble_eq_true rfl, Nat.le_of_ble_eq_true rfl⟩ ⟨ar, hS⟩ d_W_add_5 hL (fun q h => Or.inl h) (fun v H1 locs hq hF hL => ?_) (fun xx H1 locs hq hF hL => ?_)
  · obtain ⟨⟨ar1, hS1⟩, hd⟩ := hq
    obtain ⟨h0, hv⟩ : (so_add Vs p0 p1).1 = 0 ∧ Outcome.returned v = .returned (some (.int (so_add Vs p0 p1).2.1)) := hd.elim id (fun z => by obtain ⟨_, y, hv, _⟩ := z; cases hv)
    cases hv
    have hJ := hJ.kept (hF.2.2 out hJ.lt (fun z => z.2 hFo))
    refine W.eq (g2 := F0 m 8 ls [.int (so_add Vs p0 p1).2.1, .int (nI 0), .ref out]) rfl ?_
    refine lv_i2l hx hb d_W_add_8 rfl ?_
    refine fx_last (B := (fun _ q => (w.H0.size ≤ q ∧ ¬ F q) ∨ q = out) s.heap) hx hb hKv 1 hJ rfl rfl (by decide) (by decide) hL (Or.inr rfl) d_W_add_9 (fun H2 locs hJ hU hL => ?_)
    have hS2 := hS1.keepF (Nat.le_of_eq hU.1.symm) (fun q hq hn => hU.2 q (fun z => hn (by rw [z]; exact hFo))) (hS1.1.U hU ho)
    refine lv_goto (tgt := 21) hx hb d_W_add_10 rfl ?_
    refine lv_iconst (v := nI 0) hx hb d_W_add_21 rfl ?_
    exact fx_iret hx hb hr hlk hL (Nat.le_of_ble_eq_true rfl) (Nat.le_of_ble_eq_true rfl) d_W_add_22 (⟨by rw [h0], ⟨ar1, hS2⟩, _, hJ, fun _ => pk_uLs⟩)
  · obtain ⟨hT1, ⟨h0, hv⟩ | ⟨h0, y, hv, hxc⟩⟩ := hq
    · cases hv
    cases hv
    have hJ := hJ.kept (hF.2.2 out hJ.lt (fun z => z.2 hFo))
    have hle := so_add_le Vs p0 p1
    rcases (show (so_add Vs p0 p1).1 = 1 ∨ (so_add Vs p0 p1).1 = 2 by omega) with hc | hc
    · have hxc : xcp w 0 xx H1 := by rw [hc] at hxc; exact hxc
      refine fx_caught hK hown htab 0 rfl (by decide) (by decide) (i := 0) (by decide) (hw _ mc_W_13) (fun z hz => by cases hz) hxc ?_
      refine lv_astore hx hb d_W_add_13 hl (by decide) rfl (fun ls hl => ?_)
      have hl : lv_has ls 5 [(4, .ref xx), (0, .ref x), (1, .int p0), (2, .int p1), (3, .ref out)] := hl
      refine lv_iconst (v := nI 1) hx hb d_W_add_15 rfl ?_
      exact fx_iret hx hb hr hlk hL (Nat.le_of_ble_eq_true rfl) (Nat.le_of_ble_eq_true rfl) d_W_add_16 (⟨by rw [hc], hT1, g, hJ, fun z => by rw [hc] at z; cases z⟩)
    · have hxc : xcp w 1 xx H1 := by rw [hc] at hxc; exact hxc
      refine fx_caught hK hown htab 1 rfl (by decide) (by decide) (i := 1) (by decide) (hw _ mc_W_15) (fun z hz => by rw [List.mem_singleton.mp hz]; exact ⟨by decide, kIAE, hw _ mc_W_13, by decide⟩) hxc ?_
      refine lv_astore hx hb d_W_add_17 hl (by decide) rfl (fun ls hl => ?_)
      have hl : lv_has ls 5 [(4, .ref xx), (0, .ref x), (1, .int p0), (2, .int p1), (3, .ref out)] := hl
      refine lv_iconst (v := nI 2) hx hb d_W_add_19 rfl ?_
      exact fx_iret hx hb hr hlk hL (Nat.le_of_ble_eq_true rfl) (Nat.le_of_ble_eq_true rfl) d_W_add_20 (⟨by rw [hc], hT1, g, hJ, fun z => by rw [hc] at z; cases z⟩)
set_option maxHeartbeats 4000000 in
set_option maxRecDepth 100000 in
theorem ct_W_first (w : Wd) (F : Nat → Prop) (x al out : Nat) (Vs : List sV) (p0 : Int32) (hFo : F out) (ho : w.H0.size ≤ out) : fx_C (KT w) y_W_first 4 (rmN 10 9 800) [.ref x, .int p0, .ref out] (fun H => cT w F x al Vs H ∧ ∃ g, cJ w out g H) (wEnd w F x al out (so_first Vs p0)) (fun _ q => (w.H0.size ≤ q ∧ ¬ F q) ∨ q = out) := by
  refine fx_ofW (ret := some .int) (cc := b_W_first) (fun s hK => hK.1 _ mk_W_first _) (Nat.le_of_ble_eq_true rfl) ?_
  intro p l e s m below meth c hx hfl hK hb hml hr hlk htab hown hin hpre ls hl
  have hw : ∀ z ∈ gw, z.before ([.ref x, .int p0, .ref out] : List Value).toArray s = true := fun z hz => hK.1 z hz _
  have hKv := hK.2.1
  have hL : ∀ q ∈ ([] : List Loc), (fun _ q => (w.H0.size ≤ q ∧ ¬ F q) ∨ q = out) s.heap q.base := fun q hq => by cases hq
  obtain ⟨⟨ar, hS⟩, g, hJ⟩ := hpre
  have hl : lv_has ls 4 [(0, .ref x), (1, .int p0), (2, .ref out)] := hl
  refine lv_aload_n hx hb d_W_first_0 rfl (lv_at hl 2 rfl) ?_
  refine lv_iconst (v := nI 0) hx hb d_W_first_1 rfl ?_
  refine lv_aload_n hx hb d_W_first_2 rfl (lv_at hl 0 rfl) ?_
  refine lv_iload_n hx hb d_W_first_3 rfl (lv_at hl 1 rfl) ?_
  refine fx_cV (B := (fun _ q => (w.H0.size ≤ q ∧ ¬ F q) ∨ q = out) s.heap) KT_moved (ct_L_first w F x al Vs p0) hx hfl hK hb (by rw [hml]; exact hl.1) hown (hw _ mm_W_20) (fx_Y.code (hw _ mk_L_first)) (hw _ mi_L_first) (hw _ mq_L_first) (show fx_N y_L_first 1 by decide +kernel) (va_recv (q0 := 0) hKv (fx_one hS.2.2.2.1) (show cls[0]? = some (R_L, T_L, 1) from rfl) rfl) rfl ⟨Nat.le_of_ble_eq_true rfl, Nat.le_of_ble_eq_true rfl, Nat.le_of_ble_eq_true rfl, Nat.le_of_ble_eq_true rfl⟩ ⟨ar, hS⟩ d_W_first_4 hL (fun q h => Or.inl h) (fun v H1 locs hq hF hL => ?_) (fun xx H1 locs hq hF hL => ?_)
  · obtain ⟨⟨ar1, hS1⟩, hd⟩ := hq
    obtain ⟨h0, hv⟩ : (so_first Vs p0).1 = 0 ∧ Outcome.returned v = .returned (some (.int (so_first Vs p0).2.1)) := hd.elim id (fun z => by obtain ⟨_, y, hv, _⟩ := z; cases hv)
    cases hv
    have hJ := hJ.kept (hF.2.2 out hJ.lt (fun z => z.2 hFo))
    refine W.eq (g2 := F0 m 7 ls [.int (so_first Vs p0).2.1, .int (nI 0), .ref out]) rfl ?_
    refine lv_i2l hx hb d_W_first_7 rfl ?_
    refine fx_last (B := (fun _ q => (w.H0.size ≤ q ∧ ¬ F q) ∨ q = out) s.heap) hx hb hKv 1 hJ rfl rfl (by decide) (by decide) hL (Or.inr rfl) d_W_first_8 (fun H2 locs hJ hU hL => ?_)
    have hS2 := hS1.keepF (Nat.le_of_eq hU.1.symm) (fun q hq hn => hU.2 q (fun z => hn (by rw [z]; exact hFo))) (hS1.1.U hU ho)
    refine lv_goto (tgt := 18) hx hb d_W_first_9 rfl ?_
    refine lv_iconst (v := nI 0) hx hb d_W_first_18 rfl ?_
    exact fx_iret hx hb hr hlk hL (Nat.le_of_ble_eq_true rfl) (Nat.le_of_ble_eq_true rfl) d_W_first_19 (⟨by rw [h0], ⟨ar1, hS2⟩, _, hJ, fun _ => pk_uLs⟩)
  · obtain ⟨hT1, ⟨h0, hv⟩ | ⟨h0, y, hv, hxc⟩⟩ := hq
    · cases hv
    cases hv
    have hJ := hJ.kept (hF.2.2 out hJ.lt (fun z => z.2 hFo))
    have hle := so_first_le Vs p0
    rcases (show (so_first Vs p0).1 = 1 ∨ (so_first Vs p0).1 = 2 by omega) with hc | hc
    · have hxc : xcp w 0 xx H1 := by rw [hc] at hxc; exact hxc
      refine fx_caught hK hown htab 0 rfl (by decide) (by decide) (i := 0) (by decide) (hw _ mc_W_13) (fun z hz => by cases hz) hxc ?_
      refine lv_astore_n hx hb d_W_first_12 rfl hl (by decide) rfl (fun ls hl => ?_)
      have hl : lv_has ls 4 [(3, .ref xx), (0, .ref x), (1, .int p0), (2, .ref out)] := hl
      refine lv_iconst (v := nI 1) hx hb d_W_first_13 rfl ?_
      exact fx_iret hx hb hr hlk hL (Nat.le_of_ble_eq_true rfl) (Nat.le_of_ble_eq_true rfl) d_W_first_14 (⟨by rw [hc], hT1, g, hJ, fun z => by rw [hc] at z; cases z⟩)
    · have hxc : xcp w 2 xx H1 := by rw [hc] at hxc; exact hxc
      refine fx_caught hK hown htab 1 rfl (by decide) (by decide) (i := 2) (by decide) (hw _ mc_W_24) (fun z hz => by rw [List.mem_singleton.mp hz]; exact ⟨by decide, kIAE, hw _ mc_W_13, by decide⟩) hxc ?_
      refine lv_astore_n hx hb d_W_first_15 rfl hl (by decide) rfl (fun ls hl => ?_)
      have hl : lv_has ls 4 [(3, .ref xx), (0, .ref x), (1, .int p0), (2, .ref out)] := hl
      refine lv_iconst (v := nI 2) hx hb d_W_first_16 rfl ?_
      exact fx_iret hx hb hr hlk hL (Nat.le_of_ble_eq_true rfl) (Nat.le_of_ble_eq_true rfl) d_W_first_17 (⟨by rw [hc], hT1, g, hJ, fun z => by rw [hc] at z; cases z⟩)
set_option maxHeartbeats 4000000 in
set_option maxRecDepth 100000 in
theorem ct_W_rest (w : Wd) (F : Nat → Prop) (x al out : Nat) (Vs : List sV) (p0 : Int32) (hFo : F out) (ho : w.H0.size ≤ out) : fx_C (KT w) y_W_rest 4 (rmN 10 9 800) [.ref x, .int p0, .ref out] (fun H => cT w F x al Vs H ∧ ∃ g, cJ w out g H) (wEnd w F x al out (so_rest Vs p0)) (fun _ q => (w.H0.size ≤ q ∧ ¬ F q) ∨ q = out) := by
  refine fx_ofW (ret := some .int) (cc := b_W_rest) (fun s hK => hK.1 _ mk_W_rest _) (Nat.le_of_ble_eq_true rfl) ?_
  intro p l e s m below meth c hx hfl hK hb hml hr hlk htab hown hin hpre ls hl
  have hw : ∀ z ∈ gw, z.before ([.ref x, .int p0, .ref out] : List Value).toArray s = true := fun z hz => hK.1 z hz _
  have hKv := hK.2.1
  have hL : ∀ q ∈ ([] : List Loc), (fun _ q => (w.H0.size ≤ q ∧ ¬ F q) ∨ q = out) s.heap q.base := fun q hq => by cases hq
  obtain ⟨⟨ar, hS⟩, g, hJ⟩ := hpre
  have hl : lv_has ls 4 [(0, .ref x), (1, .int p0), (2, .ref out)] := hl
  refine lv_aload_n hx hb d_W_rest_0 rfl (lv_at hl 2 rfl) ?_
  refine lv_iconst (v := nI 0) hx hb d_W_rest_1 rfl ?_
  refine lv_aload_n hx hb d_W_rest_2 rfl (lv_at hl 0 rfl) ?_
  refine lv_iload_n hx hb d_W_rest_3 rfl (lv_at hl 1 rfl) ?_
  refine fx_cV (B := (fun _ q => (w.H0.size ≤ q ∧ ¬ F q) ∨ q = out) s.heap) KT_moved (ct_L_rest w F x al Vs p0) hx hfl hK hb (by rw [hml]; exact hl.1) hown (hw _ mm_W_26) (fx_Y.code (hw _ mk_L_rest)) (hw _ mi_L_rest) (hw _ mq_L_rest) (show fx_N y_L_rest 1 by decide +kernel) (va_recv (q0 := 0) hKv (fx_one hS.2.2.2.1) (show cls[0]? = some (R_L, T_L, 1) from rfl) rfl) rfl ⟨Nat.le_of_ble_eq_true rfl, Nat.le_of_ble_eq_true rfl, Nat.le_of_ble_eq_true rfl, Nat.le_of_ble_eq_true rfl⟩ ⟨ar, hS⟩ d_W_rest_4 hL (fun q h => Or.inl h) (fun v H1 locs hq hF hL => ?_) (fun xx H1 locs hq hF hL => ?_)
  · obtain ⟨⟨ar1, hS1⟩, hd⟩ := hq
    obtain ⟨h0, hv⟩ : (so_rest Vs p0).1 = 0 ∧ Outcome.returned v = .returned (some (.int (so_rest Vs p0).2.1)) := hd.elim id (fun z => by obtain ⟨_, y, hv, _⟩ := z; cases hv)
    cases hv
    have hJ := hJ.kept (hF.2.2 out hJ.lt (fun z => z.2 hFo))
    refine W.eq (g2 := F0 m 7 ls [.int (so_rest Vs p0).2.1, .int (nI 0), .ref out]) rfl ?_
    refine lv_i2l hx hb d_W_rest_7 rfl ?_
    refine fx_last (B := (fun _ q => (w.H0.size ≤ q ∧ ¬ F q) ∨ q = out) s.heap) hx hb hKv 1 hJ rfl rfl (by decide) (by decide) hL (Or.inr rfl) d_W_rest_8 (fun H2 locs hJ hU hL => ?_)
    have hS2 := hS1.keepF (Nat.le_of_eq hU.1.symm) (fun q hq hn => hU.2 q (fun z => hn (by rw [z]; exact hFo))) (hS1.1.U hU ho)
    refine lv_goto (tgt := 21) hx hb d_W_rest_9 rfl ?_
    refine lv_iconst (v := nI 0) hx hb d_W_rest_21 rfl ?_
    exact fx_iret hx hb hr hlk hL (Nat.le_of_ble_eq_true rfl) (Nat.le_of_ble_eq_true rfl) d_W_rest_22 (⟨by rw [h0], ⟨ar1, hS2⟩, _, hJ, fun _ => pk_uLs⟩)
  · obtain ⟨hT1, ⟨h0, hv⟩ | ⟨h0, y, hv, hxc⟩⟩ := hq
    · cases hv
    cases hv
    have hJ := hJ.kept (hF.2.2 out hJ.lt (fun z => z.2 hFo))
    have hle := so_rest_le Vs p0
    rcases (show (so_rest Vs p0).1 = 1 ∨ (so_rest Vs p0).1 = 2 ∨ (so_rest Vs p0).1 = 3 by omega) with hc | hc | hc
    · have hxc : xcp w 0 xx H1 := by rw [hc] at hxc; exact hxc
      refine fx_caught hK hown htab 0 rfl (by decide) (by decide) (i := 0) (by decide) (hw _ mc_W_13) (fun z hz => by cases hz) hxc ?_
      refine lv_astore_n hx hb d_W_rest_12 rfl hl (by decide) rfl (fun ls hl => ?_)
      have hl : lv_has ls 4 [(3, .ref xx), (0, .ref x), (1, .int p0), (2, .ref out)] := hl
      refine lv_iconst (v := nI 1) hx hb d_W_rest_13 rfl ?_
      exact fx_iret hx hb hr hlk hL (Nat.le_of_ble_eq_true rfl) (Nat.le_of_ble_eq_true rfl) d_W_rest_14 (⟨by rw [hc], hT1, g, hJ, fun z => by rw [hc] at z; cases z⟩)
    · have hxc : xcp w 1 xx H1 := by rw [hc] at hxc; exact hxc
      refine fx_caught hK hown htab 1 rfl (by decide) (by decide) (i := 1) (by decide) (hw _ mc_W_15) (fun z hz => by rw [List.mem_singleton.mp hz]; exact ⟨by decide, kIAE, hw _ mc_W_13, by decide⟩) hxc ?_
      refine lv_astore_n hx hb d_W_rest_15 rfl hl (by decide) rfl (fun ls hl => ?_)
      have hl : lv_has ls 4 [(3, .ref xx), (0, .ref x), (1, .int p0), (2, .ref out)] := hl
      refine lv_iconst (v := nI 2) hx hb d_W_rest_16 rfl ?_
      exact fx_iret hx hb hr hlk hL (Nat.le_of_ble_eq_true rfl) (Nat.le_of_ble_eq_true rfl) d_W_rest_17 (⟨by rw [hc], hT1, g, hJ, fun z => by rw [hc] at z; cases z⟩)
    · have hxc : xcp w 2 xx H1 := by rw [hc] at hxc; exact hxc
      refine fx_caught hK hown htab 2 rfl (by decide) (by decide) (i := 2) (by decide) (hw _ mc_W_24) (fun z hz => by rcases List.mem_cons.mp hz with e | hz; (rw [e]; exact ⟨by decide, kIAE, hw _ mc_W_13, by decide⟩); (rw [List.mem_singleton.mp hz]; exact ⟨by decide, kISE, hw _ mc_W_15, by decide⟩)) hxc ?_
      refine lv_astore_n hx hb d_W_rest_18 rfl hl (by decide) rfl (fun ls hl => ?_)
      have hl : lv_has ls 4 [(3, .ref xx), (0, .ref x), (1, .int p0), (2, .ref out)] := hl
      refine lv_iconst (v := nI 3) hx hb d_W_rest_19 rfl ?_
      exact fx_iret hx hb hr hlk hL (Nat.le_of_ble_eq_true rfl) (Nat.le_of_ble_eq_true rfl) d_W_rest_20 (⟨by rw [hc], hT1, g, hJ, fun z => by rw [hc] at z; cases z⟩)
set_option maxHeartbeats 4000000 in
set_option maxRecDepth 100000 in
theorem ct_W_join (w : Wd) (F : Nat → Prop) (x al out : Nat) (Vs : List sV) (p0 p1 : Int32) (hFo : F out) (ho : w.H0.size ≤ out) : fx_C (KT w) y_W_join 5 (rmN 10 9 800) [.ref x, .int p0, .int p1, .ref out] (fun H => cT w F x al Vs H ∧ ∃ g, cJ w out g H) (wEnd w F x al out (so_join Vs p0 p1)) (fun _ q => (w.H0.size ≤ q ∧ ¬ F q) ∨ q = out) := by
  refine fx_ofW (ret := some .int) (cc := b_W_join) (fun s hK => hK.1 _ mk_W_join _) (Nat.le_of_ble_eq_true rfl) ?_
  intro p l e s m below meth c hx hfl hK hb hml hr hlk htab hown hin hpre ls hl
  have hw : ∀ z ∈ gw, z.before ([.ref x, .int p0, .int p1, .ref out] : List Value).toArray s = true := fun z hz => hK.1 z hz _
  have hKv := hK.2.1
  have hL : ∀ q ∈ ([] : List Loc), (fun _ q => (w.H0.size ≤ q ∧ ¬ F q) ∨ q = out) s.heap q.base := fun q hq => by cases hq
  obtain ⟨⟨ar, hS⟩, g, hJ⟩ := hpre
  have hl : lv_has ls 5 [(0, .ref x), (1, .int p0), (2, .int p1), (3, .ref out)] := hl
  refine lv_aload_n hx hb d_W_join_0 rfl (lv_at hl 3 rfl) ?_
  refine lv_iconst (v := nI 0) hx hb d_W_join_1 rfl ?_
  refine lv_aload_n hx hb d_W_join_2 rfl (lv_at hl 0 rfl) ?_
  refine lv_iload_n hx hb d_W_join_3 rfl (lv_at hl 1 rfl) ?_
  refine lv_iload_n hx hb d_W_join_4 rfl (lv_at hl 2 rfl) ?_
  refine fx_cV (B := (fun _ q => (w.H0.size ≤ q ∧ ¬ F q) ∨ q = out) s.heap) KT_moved (ct_L_join w F x al Vs p0 p1) hx hfl hK hb (by rw [hml]; exact hl.1) hown (hw _ mm_W_29) (fx_Y.code (hw _ mk_L_join)) (hw _ mi_L_join) (hw _ mq_L_join) (show fx_N y_L_join 2 by decide +kernel) (va_recv (q0 := 0) hKv (fx_one hS.2.2.2.1) (show cls[0]? = some (R_L, T_L, 1) from rfl) rfl) rfl ⟨Nat.le_of_ble_eq_true rfl, Nat.le_of_ble_eq_true rfl, Nat.le_of_ble_eq_true rfl, Nat.le_of_ble_eq_true rfl⟩ ⟨ar, hS⟩ d_W_join_5 hL (fun q h => Or.inl h) (fun v H1 locs hq hF hL => ?_) (fun xx H1 locs hq hF hL => ?_)
  · obtain ⟨⟨ar1, hS1⟩, hd⟩ := hq
    obtain ⟨h0, hv⟩ : (so_join Vs p0 p1).1 = 0 ∧ Outcome.returned v = .returned (some (.int (so_join Vs p0 p1).2.1)) := hd.elim id (fun z => by obtain ⟨_, y, hv, _⟩ := z; cases hv)
    cases hv
    have hJ := hJ.kept (hF.2.2 out hJ.lt (fun z => z.2 hFo))
    refine W.eq (g2 := F0 m 8 ls [.int (so_join Vs p0 p1).2.1, .int (nI 0), .ref out]) rfl ?_
    refine lv_i2l hx hb d_W_join_8 rfl ?_
    refine fx_last (B := (fun _ q => (w.H0.size ≤ q ∧ ¬ F q) ∨ q = out) s.heap) hx hb hKv 1 hJ rfl rfl (by decide) (by decide) hL (Or.inr rfl) d_W_join_9 (fun H2 locs hJ hU hL => ?_)
    have hS2 := hS1.keepF (Nat.le_of_eq hU.1.symm) (fun q hq hn => hU.2 q (fun z => hn (by rw [z]; exact hFo))) (hS1.1.U hU ho)
    refine lv_goto (tgt := 21) hx hb d_W_join_10 rfl ?_
    refine lv_iconst (v := nI 0) hx hb d_W_join_21 rfl ?_
    exact fx_iret hx hb hr hlk hL (Nat.le_of_ble_eq_true rfl) (Nat.le_of_ble_eq_true rfl) d_W_join_22 (⟨by rw [h0], ⟨ar1, hS2⟩, _, hJ, fun _ => pk_uLs⟩)
  · obtain ⟨hT1, ⟨h0, hv⟩ | ⟨h0, y, hv, hxc⟩⟩ := hq
    · cases hv
    cases hv
    have hJ := hJ.kept (hF.2.2 out hJ.lt (fun z => z.2 hFo))
    have hle := so_join_le Vs p0 p1
    rcases (show (so_join Vs p0 p1).1 = 1 ∨ (so_join Vs p0 p1).1 = 2 by omega) with hc | hc
    · have hxc : xcp w 0 xx H1 := by rw [hc] at hxc; exact hxc
      refine fx_caught hK hown htab 0 rfl (by decide) (by decide) (i := 0) (by decide) (hw _ mc_W_13) (fun z hz => by cases hz) hxc ?_
      refine lv_astore hx hb d_W_join_13 hl (by decide) rfl (fun ls hl => ?_)
      have hl : lv_has ls 5 [(4, .ref xx), (0, .ref x), (1, .int p0), (2, .int p1), (3, .ref out)] := hl
      refine lv_iconst (v := nI 1) hx hb d_W_join_15 rfl ?_
      exact fx_iret hx hb hr hlk hL (Nat.le_of_ble_eq_true rfl) (Nat.le_of_ble_eq_true rfl) d_W_join_16 (⟨by rw [hc], hT1, g, hJ, fun z => by rw [hc] at z; cases z⟩)
    · have hxc : xcp w 1 xx H1 := by rw [hc] at hxc; exact hxc
      refine fx_caught hK hown htab 1 rfl (by decide) (by decide) (i := 1) (by decide) (hw _ mc_W_15) (fun z hz => by rw [List.mem_singleton.mp hz]; exact ⟨by decide, kIAE, hw _ mc_W_13, by decide⟩) hxc ?_
      refine lv_astore hx hb d_W_join_17 hl (by decide) rfl (fun ls hl => ?_)
      have hl : lv_has ls 5 [(4, .ref xx), (0, .ref x), (1, .int p0), (2, .int p1), (3, .ref out)] := hl
      refine lv_iconst (v := nI 2) hx hb d_W_join_19 rfl ?_
      exact fx_iret hx hb hr hlk hL (Nat.le_of_ble_eq_true rfl) (Nat.le_of_ble_eq_true rfl) d_W_join_20 (⟨by rw [hc], hT1, g, hJ, fun z => by rw [hc] at z; cases z⟩)
set_option maxHeartbeats 4000000 in
set_option maxRecDepth 100000 in
theorem ct_W_bind (w : Wd) (F : Nat → Prop) (x al out : Nat) (Vs : List sV) (p0 p1 p2 : Int32) (hFo : F out) (ho : w.H0.size ≤ out) : fx_C (KT w) y_W_bind 6 (rmN 10 9 800) [.ref x, .int p0, .int p1, .int p2, .ref out] (fun H => cT w F x al Vs H ∧ ∃ g, cJ w out g H) (wEnd w F x al out (so_bind Vs p0 p1 p2)) (fun _ q => (w.H0.size ≤ q ∧ ¬ F q) ∨ q = out) := by
  refine fx_ofW (ret := some .int) (cc := b_W_bind) (fun s hK => hK.1 _ mk_W_bind _) (Nat.le_of_ble_eq_true rfl) ?_
  intro p l e s m below meth c hx hfl hK hb hml hr hlk htab hown hin hpre ls hl
  have hw : ∀ z ∈ gw, z.before ([.ref x, .int p0, .int p1, .int p2, .ref out] : List Value).toArray s = true := fun z hz => hK.1 z hz _
  have hKv := hK.2.1
  have hL : ∀ q ∈ ([] : List Loc), (fun _ q => (w.H0.size ≤ q ∧ ¬ F q) ∨ q = out) s.heap q.base := fun q hq => by cases hq
  obtain ⟨⟨ar, hS⟩, g, hJ⟩ := hpre
  have hl : lv_has ls 6 [(0, .ref x), (1, .int p0), (2, .int p1), (3, .int p2), (4, .ref out)] := hl
  refine lv_aload hx hb d_W_bind_0 (lv_at hl 4 rfl) ?_
  refine lv_iconst (v := nI 0) hx hb d_W_bind_2 rfl ?_
  refine lv_aload_n hx hb d_W_bind_3 rfl (lv_at hl 0 rfl) ?_
  refine lv_iload_n hx hb d_W_bind_4 rfl (lv_at hl 1 rfl) ?_
  refine lv_iload_n hx hb d_W_bind_5 rfl (lv_at hl 2 rfl) ?_
  refine lv_iload_n hx hb d_W_bind_6 rfl (lv_at hl 3 rfl) ?_
  refine fx_cV (B := (fun _ q => (w.H0.size ≤ q ∧ ¬ F q) ∨ q = out) s.heap) KT_moved (ct_L_bind w F x al Vs p0 p1 p2) hx hfl hK hb (by rw [hml]; exact hl.1) hown (hw _ mm_W_32) (fx_Y.code (hw _ mk_L_bind)) (hw _ mi_L_bind) (hw _ mq_L_bind) (show fx_N y_L_bind 3 by decide +kernel) (va_recv (q0 := 0) hKv (fx_one hS.2.2.2.1) (show cls[0]? = some (R_L, T_L, 1) from rfl) rfl) rfl ⟨Nat.le_of_ble_eq_true rfl, Nat.le_of_ble_eq_true rfl, Nat.le_of_ble_eq_true rfl, Nat.le_of_ble_eq_true rfl⟩ ⟨ar, hS⟩ d_W_bind_7 hL (fun q h => Or.inl h) (fun v H1 locs hq hF hL => ?_) (fun xx H1 locs hq hF hL => ?_)
  · obtain ⟨⟨ar1, hS1⟩, hd⟩ := hq
    obtain ⟨h0, hv⟩ : (so_bind Vs p0 p1 p2).1 = 0 ∧ Outcome.returned v = .returned (some (.int (so_bind Vs p0 p1 p2).2.1)) := hd.elim id (fun z => by obtain ⟨_, y, hv, _⟩ := z; cases hv)
    cases hv
    have hJ := hJ.kept (hF.2.2 out hJ.lt (fun z => z.2 hFo))
    refine W.eq (g2 := F0 m 10 ls [.int (so_bind Vs p0 p1 p2).2.1, .int (nI 0), .ref out]) rfl ?_
    refine lv_i2l hx hb d_W_bind_10 rfl ?_
    refine fx_last (B := (fun _ q => (w.H0.size ≤ q ∧ ¬ F q) ∨ q = out) s.heap) hx hb hKv 1 hJ rfl rfl (by decide) (by decide) hL (Or.inr rfl) d_W_bind_11 (fun H2 locs hJ hU hL => ?_)
    have hS2 := hS1.keepF (Nat.le_of_eq hU.1.symm) (fun q hq hn => hU.2 q (fun z => hn (by rw [z]; exact hFo))) (hS1.1.U hU ho)
    refine lv_goto (tgt := 23) hx hb d_W_bind_12 rfl ?_
    refine lv_iconst (v := nI 0) hx hb d_W_bind_23 rfl ?_
    exact fx_iret hx hb hr hlk hL (Nat.le_of_ble_eq_true rfl) (Nat.le_of_ble_eq_true rfl) d_W_bind_24 (⟨by rw [h0], ⟨ar1, hS2⟩, _, hJ, fun _ => pk_uLs⟩)
  · obtain ⟨hT1, ⟨h0, hv⟩ | ⟨h0, y, hv, hxc⟩⟩ := hq
    · cases hv
    cases hv
    have hJ := hJ.kept (hF.2.2 out hJ.lt (fun z => z.2 hFo))
    have hle := so_bind_le Vs p0 p1 p2
    rcases (show (so_bind Vs p0 p1 p2).1 = 1 ∨ (so_bind Vs p0 p1 p2).1 = 2 by omega) with hc | hc
    · have hxc : xcp w 0 xx H1 := by rw [hc] at hxc; exact hxc
      refine fx_caught hK hown htab 0 rfl (by decide) (by decide) (i := 0) (by decide) (hw _ mc_W_13) (fun z hz => by cases hz) hxc ?_
      refine lv_astore hx hb d_W_bind_15 hl (by decide) rfl (fun ls hl => ?_)
      have hl : lv_has ls 6 [(5, .ref xx), (0, .ref x), (1, .int p0), (2, .int p1), (3, .int p2), (4, .ref out)] := hl
      refine lv_iconst (v := nI 1) hx hb d_W_bind_17 rfl ?_
      exact fx_iret hx hb hr hlk hL (Nat.le_of_ble_eq_true rfl) (Nat.le_of_ble_eq_true rfl) d_W_bind_18 (⟨by rw [hc], hT1, g, hJ, fun z => by rw [hc] at z; cases z⟩)
    · have hxc : xcp w 1 xx H1 := by rw [hc] at hxc; exact hxc
      refine fx_caught hK hown htab 1 rfl (by decide) (by decide) (i := 1) (by decide) (hw _ mc_W_15) (fun z hz => by rw [List.mem_singleton.mp hz]; exact ⟨by decide, kIAE, hw _ mc_W_13, by decide⟩) hxc ?_
      refine lv_astore hx hb d_W_bind_19 hl (by decide) rfl (fun ls hl => ?_)
      have hl : lv_has ls 6 [(5, .ref xx), (0, .ref x), (1, .int p0), (2, .int p1), (3, .int p2), (4, .ref out)] := hl
      refine lv_iconst (v := nI 2) hx hb d_W_bind_21 rfl ?_
      exact fx_iret hx hb hr hlk hL (Nat.le_of_ble_eq_true rfl) (Nat.le_of_ble_eq_true rfl) d_W_bind_22 (⟨by rw [hc], hT1, g, hJ, fun z => by rw [hc] at z; cases z⟩)
set_option maxHeartbeats 4000000 in
set_option maxRecDepth 100000 in
theorem ct_W_value (w : Wd) (F : Nat → Prop) (x al out : Nat) (Vs : List sV) (p0 p1 : Int32) (hFo : F out) (ho : w.H0.size ≤ out) : fx_C (KT w) y_W_value 5 (rmN 10 9 800) [.ref x, .int p0, .int p1, .ref out] (fun H => cT w F x al Vs H ∧ ∃ g, cJ w out g H) (wEnd w F x al out (so_value Vs p0 p1)) (fun _ q => (w.H0.size ≤ q ∧ ¬ F q) ∨ q = out) := by
  refine fx_ofW (ret := some .int) (cc := b_W_value) (fun s hK => hK.1 _ mk_W_value _) (Nat.le_of_ble_eq_true rfl) ?_
  intro p l e s m below meth c hx hfl hK hb hml hr hlk htab hown hin hpre ls hl
  have hw : ∀ z ∈ gw, z.before ([.ref x, .int p0, .int p1, .ref out] : List Value).toArray s = true := fun z hz => hK.1 z hz _
  have hKv := hK.2.1
  have hL : ∀ q ∈ ([] : List Loc), (fun _ q => (w.H0.size ≤ q ∧ ¬ F q) ∨ q = out) s.heap q.base := fun q hq => by cases hq
  obtain ⟨⟨ar, hS⟩, g, hJ⟩ := hpre
  have hl : lv_has ls 5 [(0, .ref x), (1, .int p0), (2, .int p1), (3, .ref out)] := hl
  refine lv_aload_n hx hb d_W_value_0 rfl (lv_at hl 3 rfl) ?_
  refine lv_iconst (v := nI 0) hx hb d_W_value_1 rfl ?_
  refine lv_aload_n hx hb d_W_value_2 rfl (lv_at hl 0 rfl) ?_
  refine lv_iload_n hx hb d_W_value_3 rfl (lv_at hl 1 rfl) ?_
  refine lv_iload_n hx hb d_W_value_4 rfl (lv_at hl 2 rfl) ?_
  refine fx_cV (B := (fun _ q => (w.H0.size ≤ q ∧ ¬ F q) ∨ q = out) s.heap) KT_moved (ct_L_value w F x al Vs p0 p1) hx hfl hK hb (by rw [hml]; exact hl.1) hown (hw _ mm_W_36) (fx_Y.code (hw _ mk_L_value)) (hw _ mi_L_value) (hw _ mq_L_value) (show fx_N y_L_value 2 by decide +kernel) (va_recv (q0 := 0) hKv (fx_one hS.2.2.2.1) (show cls[0]? = some (R_L, T_L, 1) from rfl) rfl) rfl ⟨Nat.le_of_ble_eq_true rfl, Nat.le_of_ble_eq_true rfl, Nat.le_of_ble_eq_true rfl, Nat.le_of_ble_eq_true rfl⟩ ⟨ar, hS⟩ d_W_value_5 hL (fun q h => Or.inl h) (fun v H1 locs hq hF hL => ?_) (fun xx H1 locs hq hF hL => ?_)
  · obtain ⟨⟨ar1, hS1⟩, hd⟩ := hq
    obtain ⟨h0, hv⟩ : (so_value Vs p0 p1).1 = 0 ∧ Outcome.returned v = .returned (some (.int (so_value Vs p0 p1).2.1)) := hd.elim id (fun z => by obtain ⟨_, y, hv, _⟩ := z; cases hv)
    cases hv
    have hJ := hJ.kept (hF.2.2 out hJ.lt (fun z => z.2 hFo))
    refine W.eq (g2 := F0 m 8 ls [.int (so_value Vs p0 p1).2.1, .int (nI 0), .ref out]) rfl ?_
    refine lv_i2l hx hb d_W_value_8 rfl ?_
    refine fx_last (B := (fun _ q => (w.H0.size ≤ q ∧ ¬ F q) ∨ q = out) s.heap) hx hb hKv 1 hJ rfl rfl (by decide) (by decide) hL (Or.inr rfl) d_W_value_9 (fun H2 locs hJ hU hL => ?_)
    have hS2 := hS1.keepF (Nat.le_of_eq hU.1.symm) (fun q hq hn => hU.2 q (fun z => hn (by rw [z]; exact hFo))) (hS1.1.U hU ho)
    refine lv_goto (tgt := 21) hx hb d_W_value_10 rfl ?_
    refine lv_iconst (v := nI 0) hx hb d_W_value_21 rfl ?_
    exact fx_iret hx hb hr hlk hL (Nat.le_of_ble_eq_true rfl) (Nat.le_of_ble_eq_true rfl) d_W_value_22 (⟨by rw [h0], ⟨ar1, hS2⟩, _, hJ, fun _ => pk_uLs⟩)
  · obtain ⟨hT1, ⟨h0, hv⟩ | ⟨h0, y, hv, hxc⟩⟩ := hq
    · cases hv
    cases hv
    have hJ := hJ.kept (hF.2.2 out hJ.lt (fun z => z.2 hFo))
    have hle := so_value_le Vs p0 p1
    rcases (show (so_value Vs p0 p1).1 = 1 ∨ (so_value Vs p0 p1).1 = 2 by omega) with hc | hc
    · have hxc : xcp w 0 xx H1 := by rw [hc] at hxc; exact hxc
      refine fx_caught hK hown htab 0 rfl (by decide) (by decide) (i := 0) (by decide) (hw _ mc_W_13) (fun z hz => by cases hz) hxc ?_
      refine lv_astore hx hb d_W_value_13 hl (by decide) rfl (fun ls hl => ?_)
      have hl : lv_has ls 5 [(4, .ref xx), (0, .ref x), (1, .int p0), (2, .int p1), (3, .ref out)] := hl
      refine lv_iconst (v := nI 1) hx hb d_W_value_15 rfl ?_
      exact fx_iret hx hb hr hlk hL (Nat.le_of_ble_eq_true rfl) (Nat.le_of_ble_eq_true rfl) d_W_value_16 (⟨by rw [hc], hT1, g, hJ, fun z => by rw [hc] at z; cases z⟩)
    · have hxc : xcp w 2 xx H1 := by rw [hc] at hxc; exact hxc
      refine fx_caught hK hown htab 1 rfl (by decide) (by decide) (i := 2) (by decide) (hw _ mc_W_24) (fun z hz => by rw [List.mem_singleton.mp hz]; exact ⟨by decide, kIAE, hw _ mc_W_13, by decide⟩) hxc ?_
      refine lv_astore hx hb d_W_value_17 hl (by decide) rfl (fun ls hl => ?_)
      have hl : lv_has ls 5 [(4, .ref xx), (0, .ref x), (1, .int p0), (2, .int p1), (3, .ref out)] := hl
      refine lv_iconst (v := nI 2) hx hb d_W_value_19 rfl ?_
      exact fx_iret hx hb hr hlk hL (Nat.le_of_ble_eq_true rfl) (Nat.le_of_ble_eq_true rfl) d_W_value_20 (⟨by rw [hc], hT1, g, hJ, fun z => by rw [hc] at z; cases z⟩)
set_option maxHeartbeats 4000000 in
set_option maxRecDepth 100000 in
theorem ct_W_update (w : Wd) (F : Nat → Prop) (x al out : Nat) (Vs : List sV) (p0 p1 p2 : Int32) (hFo : F out) (ho : w.H0.size ≤ out) : fx_C (KT w) y_W_update 6 (rmN 10 9 800) [.ref x, .int p0, .int p1, .int p2, .ref out] (fun H => cT w F x al Vs H ∧ ∃ g, cJ w out g H) (wEnd w F x al out (so_update Vs p0 p1 p2)) (fun _ q => (w.H0.size ≤ q ∧ ¬ F q) ∨ q = out) := by
  refine fx_ofW (ret := some .int) (cc := b_W_update) (fun s hK => hK.1 _ mk_W_update _) (Nat.le_of_ble_eq_true rfl) ?_
  intro p l e s m below meth c hx hfl hK hb hml hr hlk htab hown hin hpre ls hl
  have hw : ∀ z ∈ gw, z.before ([.ref x, .int p0, .int p1, .int p2, .ref out] : List Value).toArray s = true := fun z hz => hK.1 z hz _
  have hKv := hK.2.1
  have hL : ∀ q ∈ ([] : List Loc), (fun _ q => (w.H0.size ≤ q ∧ ¬ F q) ∨ q = out) s.heap q.base := fun q hq => by cases hq
  obtain ⟨⟨ar, hS⟩, g, hJ⟩ := hpre
  have hl : lv_has ls 6 [(0, .ref x), (1, .int p0), (2, .int p1), (3, .int p2), (4, .ref out)] := hl
  refine lv_aload hx hb d_W_update_0 (lv_at hl 4 rfl) ?_
  refine lv_iconst (v := nI 0) hx hb d_W_update_2 rfl ?_
  refine lv_aload_n hx hb d_W_update_3 rfl (lv_at hl 0 rfl) ?_
  refine lv_iload_n hx hb d_W_update_4 rfl (lv_at hl 1 rfl) ?_
  refine lv_iload_n hx hb d_W_update_5 rfl (lv_at hl 2 rfl) ?_
  refine lv_iload_n hx hb d_W_update_6 rfl (lv_at hl 3 rfl) ?_
  refine fx_cV (B := (fun _ q => (w.H0.size ≤ q ∧ ¬ F q) ∨ q = out) s.heap) KT_moved (ct_L_update w F x al Vs p0 p1 p2) hx hfl hK hb (by rw [hml]; exact hl.1) hown (hw _ mm_W_39) (fx_Y.code (hw _ mk_L_update)) (hw _ mi_L_update) (hw _ mq_L_update) (show fx_N y_L_update 3 by decide +kernel) (va_recv (q0 := 0) hKv (fx_one hS.2.2.2.1) (show cls[0]? = some (R_L, T_L, 1) from rfl) rfl) rfl ⟨Nat.le_of_ble_eq_true rfl, Nat.le_of_ble_eq_true rfl, Nat.le_of_ble_eq_true rfl, Nat.le_of_ble_eq_true rfl⟩ ⟨ar, hS⟩ d_W_update_7 hL (fun q h => Or.inl h) (fun v H1 locs hq hF hL => ?_) (fun xx H1 locs hq hF hL => ?_)
  · obtain ⟨⟨ar1, hS1⟩, hd⟩ := hq
    obtain ⟨h0, hv⟩ : (so_update Vs p0 p1 p2).1 = 0 ∧ Outcome.returned v = .returned (some (.int (so_update Vs p0 p1 p2).2.1)) := hd.elim id (fun z => by obtain ⟨_, y, hv, _⟩ := z; cases hv)
    cases hv
    have hJ := hJ.kept (hF.2.2 out hJ.lt (fun z => z.2 hFo))
    refine W.eq (g2 := F0 m 10 ls [.int (so_update Vs p0 p1 p2).2.1, .int (nI 0), .ref out]) rfl ?_
    refine lv_i2l hx hb d_W_update_10 rfl ?_
    refine fx_last (B := (fun _ q => (w.H0.size ≤ q ∧ ¬ F q) ∨ q = out) s.heap) hx hb hKv 1 hJ rfl rfl (by decide) (by decide) hL (Or.inr rfl) d_W_update_11 (fun H2 locs hJ hU hL => ?_)
    have hS2 := hS1.keepF (Nat.le_of_eq hU.1.symm) (fun q hq hn => hU.2 q (fun z => hn (by rw [z]; exact hFo))) (hS1.1.U hU ho)
    refine lv_goto (tgt := 27) hx hb d_W_update_12 rfl ?_
    refine lv_iconst (v := nI 0) hx hb d_W_update_27 rfl ?_
    exact fx_iret hx hb hr hlk hL (Nat.le_of_ble_eq_true rfl) (Nat.le_of_ble_eq_true rfl) d_W_update_28 (⟨by rw [h0], ⟨ar1, hS2⟩, _, hJ, fun _ => pk_uLs⟩)
  · obtain ⟨hT1, ⟨h0, hv⟩ | ⟨h0, y, hv, hxc⟩⟩ := hq
    · cases hv
    cases hv
    have hJ := hJ.kept (hF.2.2 out hJ.lt (fun z => z.2 hFo))
    have hle := so_update_le Vs p0 p1 p2
    rcases (show (so_update Vs p0 p1 p2).1 = 1 ∨ (so_update Vs p0 p1 p2).1 = 2 ∨ (so_update Vs p0 p1 p2).1 = 3 by omega) with hc | hc | hc
    · have hxc : xcp w 0 xx H1 := by rw [hc] at hxc; exact hxc
      refine fx_caught hK hown htab 0 rfl (by decide) (by decide) (i := 0) (by decide) (hw _ mc_W_13) (fun z hz => by cases hz) hxc ?_
      refine lv_astore hx hb d_W_update_15 hl (by decide) rfl (fun ls hl => ?_)
      have hl : lv_has ls 6 [(5, .ref xx), (0, .ref x), (1, .int p0), (2, .int p1), (3, .int p2), (4, .ref out)] := hl
      refine lv_iconst (v := nI 1) hx hb d_W_update_17 rfl ?_
      exact fx_iret hx hb hr hlk hL (Nat.le_of_ble_eq_true rfl) (Nat.le_of_ble_eq_true rfl) d_W_update_18 (⟨by rw [hc], hT1, g, hJ, fun z => by rw [hc] at z; cases z⟩)
    · have hxc : xcp w 1 xx H1 := by rw [hc] at hxc; exact hxc
      refine fx_caught hK hown htab 1 rfl (by decide) (by decide) (i := 1) (by decide) (hw _ mc_W_15) (fun z hz => by rw [List.mem_singleton.mp hz]; exact ⟨by decide, kIAE, hw _ mc_W_13, by decide⟩) hxc ?_
      refine lv_astore hx hb d_W_update_19 hl (by decide) rfl (fun ls hl => ?_)
      have hl : lv_has ls 6 [(5, .ref xx), (0, .ref x), (1, .int p0), (2, .int p1), (3, .int p2), (4, .ref out)] := hl
      refine lv_iconst (v := nI 2) hx hb d_W_update_21 rfl ?_
      exact fx_iret hx hb hr hlk hL (Nat.le_of_ble_eq_true rfl) (Nat.le_of_ble_eq_true rfl) d_W_update_22 (⟨by rw [hc], hT1, g, hJ, fun z => by rw [hc] at z; cases z⟩)
    · have hxc : xcp w 3 xx H1 := by rw [hc] at hxc; exact hxc
      refine fx_caught hK hown htab 2 rfl (by decide) (by decide) (i := 3) (by decide) (hw _ mc_W_42) (fun z hz => by rcases List.mem_cons.mp hz with e | hz; (rw [e]; exact ⟨by decide, kIAE, hw _ mc_W_13, by decide⟩); (rw [List.mem_singleton.mp hz]; exact ⟨by decide, kISE, hw _ mc_W_15, by decide⟩)) hxc ?_
      refine lv_astore hx hb d_W_update_23 hl (by decide) rfl (fun ls hl => ?_)
      have hl : lv_has ls 6 [(5, .ref xx), (0, .ref x), (1, .int p0), (2, .int p1), (3, .int p2), (4, .ref out)] := hl
      refine lv_iconst (v := nI 3) hx hb d_W_update_25 rfl ?_
      exact fx_iret hx hb hr hlk hL (Nat.le_of_ble_eq_true rfl) (Nat.le_of_ble_eq_true rfl) d_W_update_26 (⟨by rw [hc], hT1, g, hJ, fun z => by rw [hc] at z; cases z⟩)
set_option maxHeartbeats 4000000 in
set_option maxRecDepth 100000 in
theorem ct_W_at (w : Wd) (F : Nat → Prop) (x al out : Nat) (Vs : List sV) (p0 p1 : Int32) (hFo : F out) (ho : w.H0.size ≤ out) : fx_C (KT w) y_W_at 5 (rmN 10 9 800) [.ref x, .int p0, .int p1, .ref out] (fun H => cT w F x al Vs H ∧ ∃ g, cJ w out g H) (wEnd w F x al out (so_at Vs p0 p1)) (fun _ q => (w.H0.size ≤ q ∧ ¬ F q) ∨ q = out) := by
  refine fx_ofW (ret := some .int) (cc := b_W_at) (fun s hK => hK.1 _ mk_W_at _) (Nat.le_of_ble_eq_true rfl) ?_
  intro p l e s m below meth c hx hfl hK hb hml hr hlk htab hown hin hpre ls hl
  have hw : ∀ z ∈ gw, z.before ([.ref x, .int p0, .int p1, .ref out] : List Value).toArray s = true := fun z hz => hK.1 z hz _
  have hKv := hK.2.1
  have hL : ∀ q ∈ ([] : List Loc), (fun _ q => (w.H0.size ≤ q ∧ ¬ F q) ∨ q = out) s.heap q.base := fun q hq => by cases hq
  obtain ⟨⟨ar, hS⟩, g, hJ⟩ := hpre
  have hl : lv_has ls 5 [(0, .ref x), (1, .int p0), (2, .int p1), (3, .ref out)] := hl
  refine lv_aload_n hx hb d_W_at_0 rfl (lv_at hl 3 rfl) ?_
  refine lv_iconst (v := nI 0) hx hb d_W_at_1 rfl ?_
  refine lv_aload_n hx hb d_W_at_2 rfl (lv_at hl 0 rfl) ?_
  refine lv_iload_n hx hb d_W_at_3 rfl (lv_at hl 1 rfl) ?_
  refine lv_iload_n hx hb d_W_at_4 rfl (lv_at hl 2 rfl) ?_
  refine fx_cV (B := (fun _ q => (w.H0.size ≤ q ∧ ¬ F q) ∨ q = out) s.heap) KT_moved (ct_L_at w F x al Vs p0 p1) hx hfl hK hb (by rw [hml]; exact hl.1) hown (hw _ mm_W_44) (fx_Y.code (hw _ mk_L_at)) (hw _ mi_L_at) (hw _ mq_L_at) (show fx_N y_L_at 2 by decide +kernel) (va_recv (q0 := 0) hKv (fx_one hS.2.2.2.1) (show cls[0]? = some (R_L, T_L, 1) from rfl) rfl) rfl ⟨Nat.le_of_ble_eq_true rfl, Nat.le_of_ble_eq_true rfl, Nat.le_of_ble_eq_true rfl, Nat.le_of_ble_eq_true rfl⟩ ⟨ar, hS⟩ d_W_at_5 hL (fun q h => Or.inl h) (fun v H1 locs hq hF hL => ?_) (fun xx H1 locs hq hF hL => ?_)
  · obtain ⟨⟨ar1, hS1⟩, hd⟩ := hq
    obtain ⟨h0, hv⟩ : (so_at Vs p0 p1).1 = 0 ∧ Outcome.returned v = .returned (some (.int (so_at Vs p0 p1).2.1)) := hd.elim id (fun z => by obtain ⟨_, y, hv, _⟩ := z; cases hv)
    cases hv
    have hJ := hJ.kept (hF.2.2 out hJ.lt (fun z => z.2 hFo))
    refine W.eq (g2 := F0 m 8 ls [.int (so_at Vs p0 p1).2.1, .int (nI 0), .ref out]) rfl ?_
    refine lv_i2l hx hb d_W_at_8 rfl ?_
    refine fx_last (B := (fun _ q => (w.H0.size ≤ q ∧ ¬ F q) ∨ q = out) s.heap) hx hb hKv 1 hJ rfl rfl (by decide) (by decide) hL (Or.inr rfl) d_W_at_9 (fun H2 locs hJ hU hL => ?_)
    have hS2 := hS1.keepF (Nat.le_of_eq hU.1.symm) (fun q hq hn => hU.2 q (fun z => hn (by rw [z]; exact hFo))) (hS1.1.U hU ho)
    refine lv_goto (tgt := 21) hx hb d_W_at_10 rfl ?_
    refine lv_iconst (v := nI 0) hx hb d_W_at_21 rfl ?_
    exact fx_iret hx hb hr hlk hL (Nat.le_of_ble_eq_true rfl) (Nat.le_of_ble_eq_true rfl) d_W_at_22 (⟨by rw [h0], ⟨ar1, hS2⟩, _, hJ, fun _ => pk_uLs⟩)
  · obtain ⟨hT1, ⟨h0, hv⟩ | ⟨h0, y, hv, hxc⟩⟩ := hq
    · cases hv
    cases hv
    have hJ := hJ.kept (hF.2.2 out hJ.lt (fun z => z.2 hFo))
    have hle := so_at_le Vs p0 p1
    rcases (show (so_at Vs p0 p1).1 = 1 ∨ (so_at Vs p0 p1).1 = 2 by omega) with hc | hc
    · have hxc : xcp w 0 xx H1 := by rw [hc] at hxc; exact hxc
      refine fx_caught hK hown htab 0 rfl (by decide) (by decide) (i := 0) (by decide) (hw _ mc_W_13) (fun z hz => by cases hz) hxc ?_
      refine lv_astore hx hb d_W_at_13 hl (by decide) rfl (fun ls hl => ?_)
      have hl : lv_has ls 5 [(4, .ref xx), (0, .ref x), (1, .int p0), (2, .int p1), (3, .ref out)] := hl
      refine lv_iconst (v := nI 1) hx hb d_W_at_15 rfl ?_
      exact fx_iret hx hb hr hlk hL (Nat.le_of_ble_eq_true rfl) (Nat.le_of_ble_eq_true rfl) d_W_at_16 (⟨by rw [hc], hT1, g, hJ, fun z => by rw [hc] at z; cases z⟩)
    · have hxc : xcp w 3 xx H1 := by rw [hc] at hxc; exact hxc
      refine fx_caught hK hown htab 1 rfl (by decide) (by decide) (i := 3) (by decide) (hw _ mc_W_42) (fun z hz => by rw [List.mem_singleton.mp hz]; exact ⟨by decide, kIAE, hw _ mc_W_13, by decide⟩) hxc ?_
      refine lv_astore hx hb d_W_at_17 hl (by decide) rfl (fun ls hl => ?_)
      have hl : lv_has ls 5 [(4, .ref xx), (0, .ref x), (1, .int p0), (2, .int p1), (3, .ref out)] := hl
      refine lv_iconst (v := nI 2) hx hb d_W_at_19 rfl ?_
      exact fx_iret hx hb hr hlk hL (Nat.le_of_ble_eq_true rfl) (Nat.le_of_ble_eq_true rfl) d_W_at_20 (⟨by rw [hc], hT1, g, hJ, fun z => by rw [hc] at z; cases z⟩)
set_option maxHeartbeats 4000000 in
set_option maxRecDepth 100000 in
theorem ct_W_size (w : Wd) (F : Nat → Prop) (x al out : Nat) (Vs : List sV) (p0 : Int32) (hFo : F out) (ho : w.H0.size ≤ out) : fx_C (KT w) y_W_size 4 (rmN 10 9 800) [.ref x, .int p0, .ref out] (fun H => cT w F x al Vs H ∧ ∃ g, cJ w out g H) (wEnd w F x al out (so_size Vs p0)) (fun _ q => (w.H0.size ≤ q ∧ ¬ F q) ∨ q = out) := by
  refine fx_ofW (ret := some .int) (cc := b_W_size) (fun s hK => hK.1 _ mk_W_size _) (Nat.le_of_ble_eq_true rfl) ?_
  intro p l e s m below meth c hx hfl hK hb hml hr hlk htab hown hin hpre ls hl
  have hw : ∀ z ∈ gw, z.before ([.ref x, .int p0, .ref out] : List Value).toArray s = true := fun z hz => hK.1 z hz _
  have hKv := hK.2.1
  have hL : ∀ q ∈ ([] : List Loc), (fun _ q => (w.H0.size ≤ q ∧ ¬ F q) ∨ q = out) s.heap q.base := fun q hq => by cases hq
  obtain ⟨⟨ar, hS⟩, g, hJ⟩ := hpre
  have hl : lv_has ls 4 [(0, .ref x), (1, .int p0), (2, .ref out)] := hl
  refine lv_aload_n hx hb d_W_size_0 rfl (lv_at hl 2 rfl) ?_
  refine lv_iconst (v := nI 0) hx hb d_W_size_1 rfl ?_
  refine lv_aload_n hx hb d_W_size_2 rfl (lv_at hl 0 rfl) ?_
  refine lv_iload_n hx hb d_W_size_3 rfl (lv_at hl 1 rfl) ?_
  refine fx_cV (B := (fun _ q => (w.H0.size ≤ q ∧ ¬ F q) ∨ q = out) s.heap) KT_moved (ct_L_size w F x al Vs p0) hx hfl hK hb (by rw [hml]; exact hl.1) hown (hw _ mm_W_47) (fx_Y.code (hw _ mk_L_size)) (hw _ mi_L_size) (hw _ mq_L_size) (show fx_N y_L_size 1 by decide +kernel) (va_recv (q0 := 0) hKv (fx_one hS.2.2.2.1) (show cls[0]? = some (R_L, T_L, 1) from rfl) rfl) rfl ⟨Nat.le_of_ble_eq_true rfl, Nat.le_of_ble_eq_true rfl, Nat.le_of_ble_eq_true rfl, Nat.le_of_ble_eq_true rfl⟩ ⟨ar, hS⟩ d_W_size_4 hL (fun q h => Or.inl h) (fun v H1 locs hq hF hL => ?_) (fun xx H1 locs hq hF hL => ?_)
  · obtain ⟨⟨ar1, hS1⟩, hd⟩ := hq
    obtain ⟨h0, hv⟩ : (so_size Vs p0).1 = 0 ∧ Outcome.returned v = .returned (some (.int (so_size Vs p0).2.1)) := hd.elim id (fun z => by obtain ⟨_, y, hv, _⟩ := z; cases hv)
    cases hv
    have hJ := hJ.kept (hF.2.2 out hJ.lt (fun z => z.2 hFo))
    refine W.eq (g2 := F0 m 7 ls [.int (so_size Vs p0).2.1, .int (nI 0), .ref out]) rfl ?_
    refine lv_i2l hx hb d_W_size_7 rfl ?_
    refine fx_last (B := (fun _ q => (w.H0.size ≤ q ∧ ¬ F q) ∨ q = out) s.heap) hx hb hKv 1 hJ rfl rfl (by decide) (by decide) hL (Or.inr rfl) d_W_size_8 (fun H2 locs hJ hU hL => ?_)
    have hS2 := hS1.keepF (Nat.le_of_eq hU.1.symm) (fun q hq hn => hU.2 q (fun z => hn (by rw [z]; exact hFo))) (hS1.1.U hU ho)
    refine lv_goto (tgt := 15) hx hb d_W_size_9 rfl ?_
    refine lv_iconst (v := nI 0) hx hb d_W_size_15 rfl ?_
    exact fx_iret hx hb hr hlk hL (Nat.le_of_ble_eq_true rfl) (Nat.le_of_ble_eq_true rfl) d_W_size_16 (⟨by rw [h0], ⟨ar1, hS2⟩, _, hJ, fun _ => pk_uLs⟩)
  · obtain ⟨hT1, ⟨h0, hv⟩ | ⟨h0, y, hv, hxc⟩⟩ := hq
    · cases hv
    cases hv
    have hJ := hJ.kept (hF.2.2 out hJ.lt (fun z => z.2 hFo))
    have hle := so_size_le Vs p0
    have hc : (so_size Vs p0).1 = 1 := by omega
    have hxc : xcp w 0 xx H1 := by rw [hc] at hxc; exact hxc
    refine fx_caught hK hown htab 0 rfl (by decide) (by decide) (i := 0) (by decide) (hw _ mc_W_13) (fun z hz => by cases hz) hxc ?_
    refine lv_astore_n hx hb d_W_size_12 rfl hl (by decide) rfl (fun ls hl => ?_)
    have hl : lv_has ls 4 [(3, .ref xx), (0, .ref x), (1, .int p0), (2, .ref out)] := hl
    refine lv_iconst (v := nI 1) hx hb d_W_size_13 rfl ?_
    exact fx_iret hx hb hr hlk hL (Nat.le_of_ble_eq_true rfl) (Nat.le_of_ble_eq_true rfl) d_W_size_14 (⟨by rw [hc], hT1, g, hJ, fun z => by rw [hc] at z; cases z⟩)
set_option maxHeartbeats 4000000 in
set_option maxRecDepth 100000 in
theorem ct_W_parts (w : Wd) (F : Nat → Prop) (x al out : Nat) (Vs : List sV) (p0 : Int32) (hFo : F out) (ho : w.H0.size ≤ out) : fx_C (KT w) y_W_parts 4 (rmN 10 9 800) [.ref x, .int p0, .ref out] (fun H => cT w F x al Vs H ∧ ∃ g, cJ w out g H) (wEnd w F x al out (so_parts Vs p0)) (fun _ q => (w.H0.size ≤ q ∧ ¬ F q) ∨ q = out) := by
  refine fx_ofW (ret := some .int) (cc := b_W_parts) (fun s hK => hK.1 _ mk_W_parts _) (Nat.le_of_ble_eq_true rfl) ?_
  intro p l e s m below meth c hx hfl hK hb hml hr hlk htab hown hin hpre ls hl
  have hw : ∀ z ∈ gw, z.before ([.ref x, .int p0, .ref out] : List Value).toArray s = true := fun z hz => hK.1 z hz _
  have hKv := hK.2.1
  have hL : ∀ q ∈ ([] : List Loc), (fun _ q => (w.H0.size ≤ q ∧ ¬ F q) ∨ q = out) s.heap q.base := fun q hq => by cases hq
  obtain ⟨⟨ar, hS⟩, g, hJ⟩ := hpre
  have hl : lv_has ls 4 [(0, .ref x), (1, .int p0), (2, .ref out)] := hl
  refine lv_aload_n hx hb d_W_parts_0 rfl (lv_at hl 2 rfl) ?_
  refine lv_iconst (v := nI 0) hx hb d_W_parts_1 rfl ?_
  refine lv_aload_n hx hb d_W_parts_2 rfl (lv_at hl 0 rfl) ?_
  refine lv_iload_n hx hb d_W_parts_3 rfl (lv_at hl 1 rfl) ?_
  refine fx_cV (B := (fun _ q => (w.H0.size ≤ q ∧ ¬ F q) ∨ q = out) s.heap) KT_moved (ct_L_parts w F x al Vs p0) hx hfl hK hb (by rw [hml]; exact hl.1) hown (hw _ mm_W_50) (fx_Y.code (hw _ mk_L_parts)) (hw _ mi_L_parts) (hw _ mq_L_parts) (show fx_N y_L_parts 1 by decide +kernel) (va_recv (q0 := 0) hKv (fx_one hS.2.2.2.1) (show cls[0]? = some (R_L, T_L, 1) from rfl) rfl) rfl ⟨Nat.le_of_ble_eq_true rfl, Nat.le_of_ble_eq_true rfl, Nat.le_of_ble_eq_true rfl, Nat.le_of_ble_eq_true rfl⟩ ⟨ar, hS⟩ d_W_parts_4 hL (fun q h => Or.inl h) (fun v H1 locs hq hF hL => ?_) (fun xx H1 locs hq hF hL => ?_)
  · obtain ⟨⟨ar1, hS1⟩, hd⟩ := hq
    obtain ⟨h0, hv⟩ : (so_parts Vs p0).1 = 0 ∧ Outcome.returned v = .returned (some (.int (so_parts Vs p0).2.1)) := hd.elim id (fun z => by obtain ⟨_, y, hv, _⟩ := z; cases hv)
    cases hv
    have hJ := hJ.kept (hF.2.2 out hJ.lt (fun z => z.2 hFo))
    refine W.eq (g2 := F0 m 7 ls [.int (so_parts Vs p0).2.1, .int (nI 0), .ref out]) rfl ?_
    refine lv_i2l hx hb d_W_parts_7 rfl ?_
    refine fx_last (B := (fun _ q => (w.H0.size ≤ q ∧ ¬ F q) ∨ q = out) s.heap) hx hb hKv 1 hJ rfl rfl (by decide) (by decide) hL (Or.inr rfl) d_W_parts_8 (fun H2 locs hJ hU hL => ?_)
    have hS2 := hS1.keepF (Nat.le_of_eq hU.1.symm) (fun q hq hn => hU.2 q (fun z => hn (by rw [z]; exact hFo))) (hS1.1.U hU ho)
    refine lv_goto (tgt := 15) hx hb d_W_parts_9 rfl ?_
    refine lv_iconst (v := nI 0) hx hb d_W_parts_15 rfl ?_
    exact fx_iret hx hb hr hlk hL (Nat.le_of_ble_eq_true rfl) (Nat.le_of_ble_eq_true rfl) d_W_parts_16 (⟨by rw [h0], ⟨ar1, hS2⟩, _, hJ, fun _ => pk_uLs⟩)
  · obtain ⟨hT1, ⟨h0, hv⟩ | ⟨h0, y, hv, hxc⟩⟩ := hq
    · cases hv
    cases hv
    have hJ := hJ.kept (hF.2.2 out hJ.lt (fun z => z.2 hFo))
    have hle := so_parts_le Vs p0
    have hc : (so_parts Vs p0).1 = 1 := by omega
    have hxc : xcp w 0 xx H1 := by rw [hc] at hxc; exact hxc
    refine fx_caught hK hown htab 0 rfl (by decide) (by decide) (i := 0) (by decide) (hw _ mc_W_13) (fun z hz => by cases hz) hxc ?_
    refine lv_astore_n hx hb d_W_parts_12 rfl hl (by decide) rfl (fun ls hl => ?_)
    have hl : lv_has ls 4 [(3, .ref xx), (0, .ref x), (1, .int p0), (2, .ref out)] := hl
    refine lv_iconst (v := nI 1) hx hb d_W_parts_13 rfl ?_
    exact fx_iret hx hb hr hlk hL (Nat.le_of_ble_eq_true rfl) (Nat.le_of_ble_eq_true rfl) d_W_parts_14 (⟨by rw [hc], hT1, g, hJ, fun z => by rw [hc] at z; cases z⟩)
set_option maxHeartbeats 4000000 in
set_option maxRecDepth 100000 in
theorem ct_W_kind (w : Wd) (F : Nat → Prop) (x al out : Nat) (Vs : List sV) (p0 : Int32) (hFo : F out) (ho : w.H0.size ≤ out) : fx_C (KT w) y_W_kind 4 (rmN 10 9 800) [.ref x, .int p0, .ref out] (fun H => cT w F x al Vs H ∧ ∃ g, cJ w out g H) (wEnd w F x al out (so_kind Vs p0)) (fun _ q => (w.H0.size ≤ q ∧ ¬ F q) ∨ q = out) := by
  refine fx_ofW (ret := some .int) (cc := b_W_kind) (fun s hK => hK.1 _ mk_W_kind _) (Nat.le_of_ble_eq_true rfl) ?_
  intro p l e s m below meth c hx hfl hK hb hml hr hlk htab hown hin hpre ls hl
  have hw : ∀ z ∈ gw, z.before ([.ref x, .int p0, .ref out] : List Value).toArray s = true := fun z hz => hK.1 z hz _
  have hKv := hK.2.1
  have hL : ∀ q ∈ ([] : List Loc), (fun _ q => (w.H0.size ≤ q ∧ ¬ F q) ∨ q = out) s.heap q.base := fun q hq => by cases hq
  obtain ⟨⟨ar, hS⟩, g, hJ⟩ := hpre
  have hl : lv_has ls 4 [(0, .ref x), (1, .int p0), (2, .ref out)] := hl
  refine lv_aload_n hx hb d_W_kind_0 rfl (lv_at hl 2 rfl) ?_
  refine lv_iconst (v := nI 0) hx hb d_W_kind_1 rfl ?_
  refine lv_aload_n hx hb d_W_kind_2 rfl (lv_at hl 0 rfl) ?_
  refine lv_iload_n hx hb d_W_kind_3 rfl (lv_at hl 1 rfl) ?_
  refine fx_cV (B := (fun _ q => (w.H0.size ≤ q ∧ ¬ F q) ∨ q = out) s.heap) KT_moved (ct_L_kind w F x al Vs p0) hx hfl hK hb (by rw [hml]; exact hl.1) hown (hw _ mm_W_53) (fx_Y.code (hw _ mk_L_kind)) (hw _ mi_L_kind) (hw _ mq_L_kind) (show fx_N y_L_kind 1 by decide +kernel) (va_recv (q0 := 0) hKv (fx_one hS.2.2.2.1) (show cls[0]? = some (R_L, T_L, 1) from rfl) rfl) rfl ⟨Nat.le_of_ble_eq_true rfl, Nat.le_of_ble_eq_true rfl, Nat.le_of_ble_eq_true rfl, Nat.le_of_ble_eq_true rfl⟩ ⟨ar, hS⟩ d_W_kind_4 hL (fun q h => Or.inl h) (fun v H1 locs hq hF hL => ?_) (fun xx H1 locs hq hF hL => ?_)
  · obtain ⟨⟨ar1, hS1⟩, hd⟩ := hq
    obtain ⟨h0, hv⟩ : (so_kind Vs p0).1 = 0 ∧ Outcome.returned v = .returned (some (.int (so_kind Vs p0).2.1)) := hd.elim id (fun z => by obtain ⟨_, y, hv, _⟩ := z; cases hv)
    cases hv
    have hJ := hJ.kept (hF.2.2 out hJ.lt (fun z => z.2 hFo))
    refine W.eq (g2 := F0 m 7 ls [.int (so_kind Vs p0).2.1, .int (nI 0), .ref out]) rfl ?_
    refine lv_i2l hx hb d_W_kind_7 rfl ?_
    refine fx_last (B := (fun _ q => (w.H0.size ≤ q ∧ ¬ F q) ∨ q = out) s.heap) hx hb hKv 1 hJ rfl rfl (by decide) (by decide) hL (Or.inr rfl) d_W_kind_8 (fun H2 locs hJ hU hL => ?_)
    have hS2 := hS1.keepF (Nat.le_of_eq hU.1.symm) (fun q hq hn => hU.2 q (fun z => hn (by rw [z]; exact hFo))) (hS1.1.U hU ho)
    refine lv_goto (tgt := 15) hx hb d_W_kind_9 rfl ?_
    refine lv_iconst (v := nI 0) hx hb d_W_kind_15 rfl ?_
    exact fx_iret hx hb hr hlk hL (Nat.le_of_ble_eq_true rfl) (Nat.le_of_ble_eq_true rfl) d_W_kind_16 (⟨by rw [h0], ⟨ar1, hS2⟩, _, hJ, fun _ => pk_uLs⟩)
  · obtain ⟨hT1, ⟨h0, hv⟩ | ⟨h0, y, hv, hxc⟩⟩ := hq
    · cases hv
    cases hv
    have hJ := hJ.kept (hF.2.2 out hJ.lt (fun z => z.2 hFo))
    have hle := so_kind_le Vs p0
    have hc : (so_kind Vs p0).1 = 1 := by omega
    have hxc : xcp w 0 xx H1 := by rw [hc] at hxc; exact hxc
    refine fx_caught hK hown htab 0 rfl (by decide) (by decide) (i := 0) (by decide) (hw _ mc_W_13) (fun z hz => by cases hz) hxc ?_
    refine lv_astore_n hx hb d_W_kind_12 rfl hl (by decide) rfl (fun ls hl => ?_)
    have hl : lv_has ls 4 [(3, .ref xx), (0, .ref x), (1, .int p0), (2, .ref out)] := hl
    refine lv_iconst (v := nI 1) hx hb d_W_kind_13 rfl ?_
    exact fx_iret hx hb hr hlk hL (Nat.le_of_ble_eq_true rfl) (Nat.le_of_ble_eq_true rfl) d_W_kind_14 (⟨by rw [hc], hT1, g, hJ, fun z => by rw [hc] at z; cases z⟩)
