/-! The law's loop and its start. -/
theorem lim_t {L t : Nat} (hL : L ≤ 2048) (ht : t ≤ 512) (h : L < 4 * t + 4) : nI L - nI 4 < nI (4 * t) := by
  rw [Int32.lt_iff_toInt_lt, pk_sub_toInt (by omega) (by decide), nI_toInt (by omega)]
  omega
theorem lim_f {L t : Nat} (hL : L ≤ 2048) (ht : t ≤ 512) (h : 4 * t + 4 ≤ L) : ¬ nI L - nI 4 < nI (4 * t) := by
  rw [Int32.lt_iff_toInt_lt, pk_sub_toInt (by omega) (by decide), nI_toInt (by omega)]
  omega
set_option maxHeartbeats 4000000 in
set_option maxRecDepth 100000 in
theorem law_loop {p : Program} {l : Launch} {e : Env} {s : State} {m : MethodId} {below : List Frame} {meth : Method} {c : Code} {w : Wd} {am : Nat → Nat} {x al out b L : Nat} {xs : Nat → Int32} (C : lCtx p l s m c w am out b L xs) (hr : meth.sig.returnType = ret) (hlk : meth.locks = false) : ∀ (k t : Nat) (Vs : List sV) (S : mS) (H : Heap) (ls : Array Slot), t + k = L / 4 → lInv w am x al out Vs S H → lv_has ls 7 [(4, .int (nI (4 * t))), (3, .ref out), (2, .ref (am 0)), (1, .ref x), (0, .ref b)] → W p l e room_1 s m #[.ref b] below meth c H [] (30 + 9 * t) (14000 + 800 * t) (lw_Z below #[Value.ref b] s) (F0 m 23 ls []) := by
  intro k
  induction k with
  | zero =>
    intro t Vs S H ls hk hI hl
    have C0 := C
    obtain ⟨hx, hfl, hK, hb, hml, hown, hH0, hX, hbl, hmI, ham, hout, hmo, hL2⟩ := C
    have hE : fx_Ex s.heap H := by obtain ⟨ar, hS⟩ := hI.1; rw [← hH0]; exact hS.1
    have hl : lv_has ls 7 [(4, .int (nI (4 * t))), (3, .ref out), (2, .ref (am 0)), (1, .ref x), (0, .ref b)] := hl
    refine lv_iload hx hb d_law_23 (lv_at hl 0 rfl) ?_
    refine lv_aload_n hx hb d_law_25 rfl (lv_at hl 4 rfl) ?_
    refine fx_slen hx hb hX hbl hE d_law_26 ?_
    refine lv_iconst (v := nI 4) hx hb d_law_27 rfl ?_
    refine lv_isub hx hb d_law_28 ?_
    refine lv_icmp_gt (tgt := 903) hx hb d_law_29 rfl (fun _ => ?_) (fun h9 => absurd (lim_t hL2 (by omega) (by omega)) h9)
    refine lv_iconst (v := nI 1) hx hb d_law_903 rfl ?_
    refine fx_ti (y := 1) rfl ?_
    refine W.widen (k := 601024) (n := 7293034) (by omega) (by omega) ?_
    exact lw_ret hx hb hr hlk d_law_904
  | succ k ih =>
    intro t Vs S H ls hk hI hl
    have C0 := C
    obtain ⟨hx, hfl, hK, hb, hml, hown, hH0, hX, hbl, hmI, ham, hout, hmo, hL2⟩ := C
    have hE : fx_Ex s.heap H := by obtain ⟨ar, hS⟩ := hI.1; rw [← hH0]; exact hS.1
    have hl : lv_has ls 7 [(4, .int (nI (4 * t))), (3, .ref out), (2, .ref (am 0)), (1, .ref x), (0, .ref b)] := hl
    refine lv_iload hx hb d_law_23 (lv_at hl 0 rfl) ?_
    refine lv_aload_n hx hb d_law_25 rfl (lv_at hl 4 rfl) ?_
    refine fx_slen hx hb hX hbl hE d_law_26 ?_
    refine lv_iconst (v := nI 4) hx hb d_law_27 rfl ?_
    refine lv_isub hx hb d_law_28 ?_
    refine lv_icmp_gt (tgt := 903) hx hb d_law_29 rfl (fun h9 => absurd h9 (lim_f hL2 (by omega) (by omega))) (fun _ => ?_)
    refine lv_aload_n hx hb d_law_32 rfl (lv_at hl 4 rfl) ?_
    refine lv_iload hx hb d_law_33 (lv_at hl 0 rfl) ?_
    refine fx_sld (j := 4 * t) hx hb hX hbl hE rfl (by omega) hL2 d_law_35 ?_
    refine lv_bipush (v := nI 15) hx hb d_law_36 rfl ?_
    refine lv_iand hx hb d_law_38 ?_
    obtain ⟨j, hj, ej⟩ := pk_andE (xs (4 * t)) (m := nI 15) 4 (by decide)
    refine fx_ti (y := nI j) (ej) ?_
    have ht : 4 * t + 4 ≤ L := by omega
    have hn : 30 + 9 * t + 9 ≤ 600000 ∧ 14000 + 800 * t + 800 ≤ 7000000 := by omega
    have kn : ∀ (Vs : List sV) (S : mS) (H : Heap) (ls : Array Slot), lInv w am x al out Vs S H → lv_has ls 7 [(4, .int (nI (4 * t))), (3, .ref out), (2, .ref (am 0)), (1, .ref x), (0, .ref b)] → W p l e room_1 s m #[.ref b] below meth c H [] (30 + 9 * t + 9) (14000 + 800 * t + 800) (lw_Z below #[Value.ref b] s) (F0 m 897 ls []) := by
      intro Vs S H ls hI hl
      refine lv_iinc (k := 0) (v := nI (4 * (t + 1))) hx hb d_law_897 hl rfl (by rw [show 4 * (t + 1) = 4 * t + 4 by omega]; exact nI_add _ 4) (by decide) rfl (fun ls hl => ?_)
      refine lv_goto (tgt := 23) hx hb d_law_900 rfl ?_
      refine W.widen (k := 30 + 9 * (t + 1)) (n := 14000 + 800 * (t + 1)) (by omega) (by omega) ?_
      exact ih (t + 1) Vs S H ls (by omega) hI hl
    rcases (show j = 0 ∨ j = 1 ∨ j = 2 ∨ j = 3 ∨ j = 4 ∨ j = 5 ∨ j = 6 ∨ j = 7 ∨ j = 8 ∨ j = 9 ∨ j = 10 ∨ j = 11 ∨ j = 12 ∨ j = 13 ∨ j = 14 ∨ j = 15 by omega) with h | h | h | h | h | h | h | h | h | h | h | h | h | h | h | h
    · subst h; exact lv_tableIn (tgt := 104) (off := 65) hx hb d_law_39 (by decide) (by decide) (by decide) rfl (lc_empty C0 ht hn hI hl kn)
    · subst h; exact lv_tableIn (tgt := 172) (off := 133) hx hb d_law_39 (by decide) (by decide) (by decide) rfl (lc_add C0 ht hn hI hl kn)
    · subst h; exact lv_tableIn (tgt := 240) (off := 201) hx hb d_law_39 (by decide) (by decide) (by decide) rfl (lc_first C0 ht hn hI hl kn)
    · subst h; exact lv_tableIn (tgt := 296) (off := 257) hx hb d_law_39 (by decide) (by decide) (by decide) rfl (lc_rest C0 ht hn hI hl kn)
    · subst h; exact lv_tableIn (tgt := 352) (off := 313) hx hb d_law_39 (by decide) (by decide) (by decide) rfl (lc_join C0 ht hn hI hl kn)
    · subst h; exact lv_tableIn (tgt := 420) (off := 381) hx hb d_law_39 (by decide) (by decide) (by decide) rfl (lc_bind C0 ht hn hI hl kn)
    · subst h; exact lv_tableIn (tgt := 500) (off := 461) hx hb d_law_39 (by decide) (by decide) (by decide) rfl (lc_value C0 ht hn hI hl kn)
    · subst h; exact lv_tableIn (tgt := 568) (off := 529) hx hb d_law_39 (by decide) (by decide) (by decide) rfl (lc_update C0 ht hn hI hl kn)
    · subst h; exact lv_tableIn (tgt := 648) (off := 609) hx hb d_law_39 (by decide) (by decide) (by decide) rfl (lc_at C0 ht hn hI hl kn)
    · subst h; exact lv_tableIn (tgt := 716) (off := 677) hx hb d_law_39 (by decide) (by decide) (by decide) rfl (lc_size C0 ht hn hI hl kn)
    · subst h; exact lv_tableIn (tgt := 772) (off := 733) hx hb d_law_39 (by decide) (by decide) (by decide) rfl (lc_parts C0 ht hn hI hl kn)
    · subst h; exact lv_tableIn (tgt := 828) (off := 789) hx hb d_law_39 (by decide) (by decide) (by decide) rfl (lc_kind C0 ht hn hI hl kn)
    · subst h; exact lv_tableIn (tgt := 884) (off := 845) hx hb d_law_39 (by decide) (by decide) (by decide) rfl (lc_versions C0 ht hn hI hl kn)
    · subst h; exact lv_tableOut (tgt := 897) hx hb d_law_39 (Or.inr (by decide)) rfl (W.widen (Nat.le_add_right _ 9) (Nat.le_add_right _ 800) (kn Vs S H ls hI hl))
    · subst h; exact lv_tableOut (tgt := 897) hx hb d_law_39 (Or.inr (by decide)) rfl (W.widen (Nat.le_add_right _ 9) (Nat.le_add_right _ 800) (kn Vs S H ls hI hl))
    · subst h; exact lv_tableOut (tgt := 897) hx hb d_law_39 (Or.inr (by decide)) rfl (W.widen (Nat.le_add_right _ 9) (Nat.le_add_right _ 800) (kn Vs S H ls hI hl))
set_option maxHeartbeats 4000000 in
set_option maxRecDepth 100000 in
/-- from the entry, for every script of at most 2048 ints, the law comes to its end with true -/
theorem whole_start {p : Program} {e : Env} {s : State} {m : MethodId} {below : List Frame} {meth : Method} {c : Code} (l : Launch) (hfl : l.flags = flags0) {b L : Nat} {xs : Nat → Int32} (hL2 : L ≤ 2048) (C0 : lw_At p s m meth c b L xs) : W p l e room_1 s m #[Value.ref b] below meth c s.heap [] 0 0 (lw_Z below #[Value.ref b] s) (entryFrame m ([Value.ref b] : List Value).toArray 7) := by
  obtain ⟨hx, hb, hr, hml, hown, hts, hX, hbl, hlk, hgv⟩ := C0
  obtain ⟨w, hH0, hK⟩ := kt_known hts hgv
  have hw : ∀ z ∈ gw, z.before #[.ref b] s = true := fun z hz => hK.1 z hz _
  have hKv := hK.2.1
  have hown : s.vm.findClass R_W = some m.cls := hown
  rw [lg_entry_eq]
  have hl := lv_entry ([.ref b]) (n := 7) (Nat.le_of_ble_eq_true rfl)
  generalize (lg_sl ([.ref b]) ++ List.replicate (7 - (lg_sl ([.ref b])).length) Slot.unset).toArray = ls at hl ⊢
  have hL : ∀ q ∈ ([] : List Loc), s.heap.size ≤ q.base := fun q hq => by cases hq
  have hLow0 : Low w s.heap := by show fx_Ex w.H0 s.heap; rw [hH0]; exact fx_Ex.rf
  have hz0 : w.H0.size = s.heap.size := by rw [hH0]
  have hl : lv_has ls 7 [(0, .ref b)] := hl
  refine fx_new (fs := [.null]) hx hb hown (kc_L hK _) hKv (hw _ mc_W_8) (hw _ mt_L) (hw _ mn_L) (by decide) (Nat.le_of_ble_eq_true rfl) (Nat.le_of_ble_eq_true rfl) d_law_0 (fun x H1 hx_ hN hG => ?_)
  have hz1 : s.heap.size ≤ H1.size := hG.ex.1
  have hLow := hLow0.G hG
  have hxl := hN.lt
  have hx0 : s.heap.size ≤ x := Nat.le_of_eq hx_.symm
  refine lv_dup hx hb d_law_3 rfl ?_
  refine fx_cI (B := fun q => s.heap.size ≤ q) KT_moved (ct_L_init w x (by rw [hz0]; exact hx0)) hx hfl hK hb (by rw [hml]; exact hl.1) hown (hw _ mm_W_56) (hw _ mk_L_init) (hw _ mi_L_init) rfl (show fx_N y_L_init 0 by decide +kernel) rfl ⟨Nat.le_of_ble_eq_true rfl, Nat.le_of_ble_eq_true rfl, Nat.le_of_ble_eq_true rfl, Nat.le_of_ble_eq_true rfl⟩ (⟨hLow, hN⟩) d_law_4 hL (fun q h => h.elim (fun z => by rw [z]; exact hx0) (fun z => Nat.le_trans hz1 z)) (fun v H2 locs hq hF hL => ?_) (fun xx H2 locs hq hF hL => by cases hq.1)
  obtain ⟨hv, al, hal, hXo, hO⟩ := hq
  cases hv
  have hz2 := Nat.le_trans hz1 hF.1
  have hLow := hLow.F hF (fun q hq z => z.elim (fun z => by omega) (fun z => by omega))
  have hall := hO.lt
  refine W.eq (g2 := F0 m 7 ls [.ref x]) rfl ?_
  refine lv_astore_n hx hb d_law_7 rfl hl (by decide) rfl (fun ls hl => ?_)
  have hl : lv_has ls 7 [(1, .ref x), (0, .ref b)] := hl
  refine fx_new (fs := [.int 0, .null, .null, .null, .null, .null, .int 0, .null]) hx hb hown (kc_M hK _) hKv (hw _ mc_W_57) (hw _ mt_M) (hw _ mn_M) (by decide) (Nat.le_of_ble_eq_true rfl) (Nat.le_of_ble_eq_true rfl) d_law_8 (fun a H3 ha hN hG => ?_)
  have hz3 := Nat.le_trans hz2 hG.ex.1
  have hLow := hLow.G hG
  have hXo := hG.ex.kept hXo
  have hO := hG.ex.kept hO
  have hal3 := hN.lt
  have hge := hG.ex.1
  refine lv_dup hx hb d_law_11 rfl ?_
  refine fx_cI (B := fun q => s.heap.size ≤ q) KT_moved (ct_M_init w a) hx hfl hK hb (by rw [hml]; exact hl.1) hown (hw _ mm_W_59) (hw _ mk_M_init) (hw _ mi_M_init) rfl (show fx_N y_M_init 0 by decide +kernel) rfl ⟨Nat.le_of_ble_eq_true rfl, Nat.le_of_ble_eq_true rfl, Nat.le_of_ble_eq_true rfl, Nat.le_of_ble_eq_true rfl⟩ (hN) d_law_12 hL (fun q h => h.elim (fun z => by rw [z, ha]; exact hz2) (fun z => Nat.le_trans hz3 z)) (fun v H4 locs hq hF hL => ?_) (fun xx H4 locs hq hF hL => by cases hq.1)
  obtain ⟨hv, am, ham0, hmI, hamz, S, hP, hA⟩ := hq
  cases hv
  have hz4 := Nat.le_trans hz3 hF.1
  have hge4 := hF.1
  have hLow := hLow.F hF (fun q hq z => z.elim (fun z => by omega) (fun z => by omega))
  have hXo := hXo.kept (hF.2.2 x hXo.lt (fun z => z.elim (fun z => by omega) (fun z => by omega)))
  have hO := hO.kept (hF.2.2 al hO.lt (fun z => z.elim (fun z => by omega) (fun z => by omega)))
  refine W.eq (g2 := F0 m 15 ls [.ref a]) rfl ?_
  refine lv_astore_n hx hb d_law_15 rfl hl (by decide) rfl (fun ls hl => ?_)
  have hl : lv_has ls 7 [(2, .ref a), (1, .ref x), (0, .ref b)] := hl
  refine lv_iconst (v := nI 1) hx hb d_law_16 rfl ?_
  refine fx_newL (N := 1) hx hb hKv 1 rfl (hw _ ma_long) rfl (by decide) (Nat.le_of_ble_eq_true rfl) (Nat.le_of_ble_eq_true rfl) d_law_17 (fun out H5 hout hJ hG => ?_)
  have hLow := hLow.G hG
  have hge5 := hG.1
  have hXo := hG.ex.kept hXo
  have hO := hG.ex.kept hO
  have hami : ∀ i, i < 7 → H2.size ≤ am i ∧ am i < H4.size := fun i hi => ⟨by by_cases h : i = 0; (subst h; omega); (have := hamz i (by omega) hi; omega), mw_lt hP i hi⟩
  have hP := lP_keep hP (fun i hi => hG.2 (am i) (hami i hi).2)
  refine lv_astore_n hx hb d_law_19 rfl hl (by decide) rfl (fun ls hl => ?_)
  have hl : lv_has ls 7 [(3, .ref out), (2, .ref a), (1, .ref x), (0, .ref b)] := hl
  refine lv_iconst (v := nI 0) hx hb d_law_20 rfl ?_
  refine lv_istore hx hb d_law_21 hl (by decide) rfl (fun ls hl => ?_)
  have hl : lv_has ls 7 [(4, .int (nI 0)), (3, .ref out), (2, .ref a), (1, .ref x), (0, .ref b)] := hl
  have hmA : ∀ q, mA am q → H2.size ≤ q ∧ q < H4.size := fun q h => by obtain ⟨i, hi, e⟩ := h; rw [e]; exact hami i hi
  have hFq : ∀ q, lF am out q → H2.size ≤ q ∧ q < H5.size := fun q h => h.elim (fun z => by have := hmA q z; omega) (fun z => by omega)
  have hE0 := kE0 hK
  have hT : cT w (lF am out) x al [] H5 := ⟨w.E0, hLow, fun q h => (hFq q h).2, ⟨fun z => by have := hFq x z; omega, by omega, by omega⟩, hXo, ⟨by omega, fun z => by have := hFq al z; omega, by omega⟩, 0, 0, fun _ => none, hO, Or.inl ⟨rfl, rfl⟩, fun z => by omega, Nat.le_refl _, by decide, by decide, fun i o hi => by cases hi⟩
  refine va_forget hL ?_
  refine W.widen (k := 30 + 9 * 0) (n := 14000 + 800 * 0) (Nat.le_of_ble_eq_true rfl) (Nat.le_of_ble_eq_true rfl) ?_
  rw [← ham0] at hl
  exact law_loop ⟨hx, hfl, hK, hb, hml, hown, hH0, hX, hbl, hmI, fun i hi => by have := hami i hi; omega, by omega, fun z => by have := hmA out z; omega, hL2⟩ hr hlk (L / 4) 0 [] S H5 ls (by omega) ⟨hT, hP, hA, _, hJ⟩ (lv_sub hl [0, 1, 2, 3, 4] rfl)
