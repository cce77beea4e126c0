/-! The law's loop: one case each. -/
def lF (am : Nat → Nat) (out : Nat) : Nat → Prop := fun q => mA am q ∨ q = out
def lInv (w : Wd) (am : Nat → Nat) (x al out : Nat) (Vs : List sV) (S : mS) (H : Heap) : Prop := cT w (lF am out) x al Vs H ∧ va_P w.D cls (mw w am S) H ∧ mAbs S Vs ∧ ∃ g, cJ w out g H
def lCtx (p : Program) (l : Launch) (s : State) (m : MethodId) (c : Code) (w : Wd) (am : Nat → Nat) (out b L : Nat) (xs : Nat → Int32) : Prop := p.tables.exec = Jvm.exec ∧ l.flags = flags0 ∧ KT w s ∧ c.code = code ∧ c.maxLocals = 7 ∧ s.vm.findClass R_W = some m.cls ∧ w.H0 = s.heap ∧ va_X b L xs s s.heap ∧ b < s.heap.size ∧ mI am ∧ (∀ i, i < 7 → s.heap.size ≤ am i) ∧ s.heap.size ≤ out ∧ ¬ mA am out ∧ L ≤ 2048
theorem mw_lt {w : Wd} {am : Nat → Nat} {S : mS} {H : Heap} (hP : va_P w.D cls (mw w am S) H) (i : Nat) (hi : i < 7) : am i < H.size := by
  have e : i = 0 ∨ i = 1 ∨ i = 2 ∨ i = 3 ∨ i = 4 ∨ i = 5 ∨ i = 6 := by omega
  rcases e with e | e | e | e | e | e | e <;> subst e
  · exact (hP 0 _ rfl).lt
  · exact (hP 1 _ rfl).lt
  · exact (hP 2 _ rfl).lt
  · exact (hP 3 _ rfl).lt
  · exact (hP 4 _ rfl).lt
  · exact (hP 5 _ rfl).lt
  · exact (hP 6 _ rfl).lt
theorem lP_keep {w : Wd} {am : Nat → Nat} {S : mS} {H H1 : Heap} (hP : va_P w.D cls (mw w am S) H) (hk : ∀ i, i < 7 → H1[am i]? = H[am i]?) : va_P w.D cls (mw w am S) H1 := hP.kept (fun k q hq => by
  obtain ⟨h1, h2⟩ := mw_adr hq
  rw [h2]
  exact hk k h1)
theorem lT_keep {w : Wd} {am : Nat → Nat} {x al out mc : Nat} {Vs : List sV} {H H1 : Heap} (hT : cT w (lF am out) x al Vs H) (hF : fx_F (mA am) mc H H1) (hlo : ∀ i, i < 7 → w.H0.size ≤ am i) : cT w (lF am out) x al Vs H1 := by
  obtain ⟨ar, hS⟩ := hT
  exact ⟨ar, hS.keepF hF.1 (fun q hq hn => hF.2.2 q hq (fun z => hn (Or.inl z))) (hS.1.F hF (fun q hq z => by obtain ⟨i, hi, e⟩ := z; have := hlo i hi; omega))⟩
theorem lg_self (x : Int64) : lg_cmp x x = nI 0 := by
  have h : ¬ x < x := Int64.lt_irrefl
  simp [lg_cmp, h]
  rfl
theorem fx_sld {p : Program} {l : Launch} {e : Env} {R : Room} {s : State} {m : MethodId} {args : Array Value} {below : List Frame} {meth : Method} {c : Code} {H : Heap} {locs : List Loc} {cells slots : Nat} {Q : State → Prop} {cc : ByteArray} {pc : Nat} {ls : Array Slot} {rest : List Value} {b L : Nat} {xs : Nat → Int32} (hexec : p.tables.exec = Jvm.exec) (hb : c.code = cc) (hX : va_X b L xs s s.heap) (hbl : b < s.heap.size) (hE : fx_Ex s.heap H) {i : Int32} {j : Nat} (hi : i = nI j) (hj : j < L) (hz : L ≤ 2048) (hdg : decode cc pc = .ok (.iaload, 1))
    (kk : W p l e R s m args below meth c H locs cells slots Q (F0 m (pc + 1) ls (.int (xs j) :: rest))) : W p l e R s m args below meth c H locs cells slots Q (F0 m pc ls (.int i :: .ref b :: rest)) := by
  subst hi
  have ej : (nI j).toNatClampNeg = j := nI_clamp (by omega)
  obtain ⟨scr, h1, h2, h3, h4, h5⟩ := hX
  exact W.iald (v := .int (xs j)) hexec hb (by rw [hE.2 b hbl]; exact h1) h2 h3 (by rw [h4]; exact nI_in hj (by omega)) (by rw [ej]; exact h5 j hj) rfl rfl hdg kk
theorem fx_slen {p : Program} {l : Launch} {e : Env} {R : Room} {s : State} {m : MethodId} {args : Array Value} {below : List Frame} {meth : Method} {c : Code} {H : Heap} {locs : List Loc} {cells slots : Nat} {Q : State → Prop} {cc : ByteArray} {pc : Nat} {ls : Array Slot} {rest : List Value} {b L : Nat} {xs : Nat → Int32} (hexec : p.tables.exec = Jvm.exec) (hb : c.code = cc) (hX : va_X b L xs s s.heap) (hbl : b < s.heap.size) (hE : fx_Ex s.heap H) (hdg : decode cc pc = .ok (.arraylength, 1))
    (kk : W p l e R s m args below meth c H locs cells slots Q (F0 m (pc + 1) ls (.int (nI L) :: rest))) : W p l e R s m args below meth c H locs cells slots Q (F0 m pc ls (.ref b :: rest)) := by
  obtain ⟨scr, h1, h2, h3, h4, h5⟩ := hX
  exact W.alen (n := nI L) hexec hb (by rw [hE.2 b hbl]; exact h1) h2 (by rw [h4]; rfl) rfl rfl hdg kk
set_option maxHeartbeats 4000000 in
set_option maxRecDepth 100000 in
theorem lc_empty {p : Program} {l : Launch} {e : Env} {s : State} {m : MethodId} {below : List Frame} {meth : Method} {c : Code} {w : Wd} {am : Nat → Nat} {x al out b L t nc ns : Nat} {xs : Nat → Int32} {Vs : List sV} {S : mS} {H : Heap} {ls : Array Slot} {Q : State → Prop} (C : lCtx p l s m c w am out b L xs) (ht : 4 * t + 4 ≤ L) (hn : nc + 9 ≤ 600000 ∧ ns + 800 ≤ 7000000) (hI : lInv w am x al out Vs S H) (hl : lv_has ls 7 [(4, .int (nI (4 * t))), (3, .ref out), (2, .ref (am 0)), (1, .ref x), (0, .ref b)]) (kn : ∀ (Vs : List sV) (S : mS) (H : Heap) (ls : Array Slot), lInv w am x al out Vs S H → lv_has ls 7 [(4, .int (nI (4 * t))), (3, .ref out), (2, .ref (am 0)), (1, .ref x), (0, .ref b)] → W p l e room_1 s m #[.ref b] below meth c H [] (nc + 9) (ns + 800) Q (F0 m 897 ls [])) : W p l e room_1 s m #[.ref b] below meth c H [] nc ns Q (F0 m 104 ls []) := by
  obtain ⟨hx, hfl, hK, hb, hml, hown, hH0, hX, hbl, hmI, ham, hout, hmo, hL2⟩ := C
  obtain ⟨hT, hP, hA, g, hJ⟩ := hI
  have hw : ∀ z ∈ gw, z.before #[.ref b] s = true := fun z hz => hK.1 z hz _
  have hKv := hK.2.1
  have hL : ∀ q ∈ ([] : List Loc), s.heap.size ≤ q.base := fun q hq => by cases hq
  have ham0 : ∀ i, i < 7 → w.H0.size ≤ am i := by rw [hH0]; exact ham
  have hE : fx_Ex s.heap H := by obtain ⟨ar, hS⟩ := hT; rw [← hH0]; exact hS.1
  have hl : lv_has ls 7 [(4, .int (nI (4 * t))), (3, .ref out), (2, .ref (am 0)), (1, .ref x), (0, .ref b)] := hl
  refine lv_aload_n hx hb d_law_104 rfl (lv_at hl 3 rfl) ?_
  refine lv_aload_n hx hb d_law_105 rfl (lv_at hl 4 rfl) ?_
  refine lv_iload hx hb d_law_106 (lv_at hl 0 rfl) ?_
  refine lv_iconst (v := nI 1) hx hb d_law_108 rfl ?_
  refine lv_iadd hx hb d_law_109 ?_
  refine fx_ti (y := nI (4 * t + 1)) (nI_add _ _) ?_
  refine fx_sld hx hb hX hbl hE rfl (show 4 * t + 1 < L by omega) hL2 d_law_110 ?_
  refine lv_aload_n hx hb d_law_111 rfl (lv_at hl 4 rfl) ?_
  refine lv_iload hx hb d_law_112 (lv_at hl 0 rfl) ?_
  refine lv_iconst (v := nI 2) hx hb d_law_114 rfl ?_
  refine lv_iadd hx hb d_law_115 ?_
  refine fx_ti (y := nI (4 * t + 2)) (nI_add _ _) ?_
  refine fx_sld hx hb hX hbl hE rfl (show 4 * t + 2 < L by omega) hL2 d_law_116 ?_
  refine lv_aload_n hx hb d_law_117 rfl (lv_at hl 1 rfl) ?_
  refine fx_cS (B := fun q => s.heap.size ≤ q) KT_moved (ct_W_empty w (lF am out) x al out Vs (xs (4 * t + 1)) (xs (4 * t + 2)) (Or.inr rfl) (by rw [hH0]; exact hout)) hx hfl hK hb (by rw [hml]; exact hl.1) hown (hw _ mm_W_60) (fx_Y.codeWith (hw _ mk_W_empty)) (hw _ ms_W_empty) (hw _ mn_W) (show fx_N y_W_empty 4 by decide +kernel) rfl ⟨Nat.le_of_ble_eq_true rfl, Nat.le_of_ble_eq_true rfl, by show nc + 9 ≤ 601024; omega, by show ns + 800 ≤ 7293034; omega⟩ ⟨hT, g, hJ⟩ d_law_118 hL (fun q h => h.elim (fun z => by rw [← hH0]; exact z.1) (fun z => by rw [z]; exact hout)) (fun v H1 locs hq hF hL => ?_) (fun xx H1 locs hq hF hL => by cases hq.1)
  obtain ⟨hv, hT, g, hJ, hg⟩ := hq
  cases hv
  have hP := lP_keep hP (fun i hi => hF.2.2 (am i) (mw_lt hP i hi) (fun z => z.elim (fun z => z.2 (Or.inl ⟨i, hi, rfl⟩)) (fun z => hmo ⟨i, hi, z.symm⟩)))
  have hE : fx_Ex s.heap H1 := by obtain ⟨ar, hS⟩ := hT; rw [← hH0]; exact hS.1
  have hle := so_empty_le Vs (xs (4 * t + 1)) (xs (4 * t + 2))
  refine W.eq (g2 := F0 m 121 ls [.int (nI (so_empty Vs (xs (4 * t + 1)) (xs (4 * t + 2))).1)]) rfl ?_
  refine lv_istore hx hb d_law_121 hl (by decide) rfl (fun ls hl => ?_)
  have hl : lv_has ls 7 [(5, .int (nI (so_empty Vs (xs (4 * t + 1)) (xs (4 * t + 2))).1)), (4, .int (nI (4 * t))), (3, .ref out), (2, .ref (am 0)), (1, .ref x), (0, .ref b)] := hl
  refine lv_aload_n hx hb d_law_123 rfl (lv_at hl 3 rfl) ?_
  refine lv_aload_n hx hb d_law_124 rfl (lv_at hl 5 rfl) ?_
  refine lv_iload hx hb d_law_125 (lv_at hl 1 rfl) ?_
  refine lv_iconst (v := nI 1) hx hb d_law_127 rfl ?_
  refine lv_iadd hx hb d_law_128 ?_
  refine fx_ti (y := nI (4 * t + 1)) (nI_add _ _) ?_
  refine fx_sld hx hb hX hbl hE rfl (show 4 * t + 1 < L by omega) hL2 d_law_129 ?_
  refine lv_aload_n hx hb d_law_130 rfl (lv_at hl 5 rfl) ?_
  refine lv_iload hx hb d_law_131 (lv_at hl 1 rfl) ?_
  refine lv_iconst (v := nI 2) hx hb d_law_133 rfl ?_
  refine lv_iadd hx hb d_law_134 ?_
  refine fx_ti (y := nI (4 * t + 2)) (nI_add _ _) ?_
  refine fx_sld hx hb hX hbl hE rfl (show 4 * t + 2 < L by omega) hL2 d_law_135 ?_
  refine fx_cV (B := fun q => s.heap.size ≤ q) KT_moved (ct_M_empty w am hmI Vs (xs (4 * t + 1)) (xs (4 * t + 2)) S hA) hx hfl hK hb (by rw [hml]; exact hl.1) hown (hw _ mm_W_65) (fx_Y.code (hw _ mk_M_empty)) (hw _ mi_M_empty) (hw _ mq_M_empty) (show fx_N y_M_empty 2 by decide +kernel) (va_recv (q0 := 0) hKv hP (show cls[2]? = some (R_M, T_M, 8) from rfl) rfl) rfl ⟨Nat.le_of_ble_eq_true rfl, Nat.le_of_ble_eq_true rfl, by show nc + 9 + 0 ≤ 601024; omega, by show ns + 800 + 0 ≤ 7293034; omega⟩ hP d_law_136 hL (fun q h => by obtain ⟨i, hi, e⟩ := h; rw [e]; exact ham i hi) (fun v H2 locs hq hF hL => ?_) (fun xx H2 locs hq hF hL => by cases hq.1)
  obtain ⟨hv, S2, hP, hA, hth⟩ := hq
  cases hv
  have hT := lT_keep hT hF ham0
  have hJ := hJ.kept (hF.2.2 out hJ.lt hmo)
  have hE : fx_Ex s.heap H2 := by obtain ⟨ar, hS⟩ := hT; rw [← hH0]; exact hS.1
  refine W.eq (g2 := F0 m 139 ls [.int (so_empty Vs (xs (4 * t + 1)) (xs (4 * t + 2))).2.1]) rfl ?_
  refine lv_istore hx hb d_law_139 hl (by decide) rfl (fun ls hl => ?_)
  have hl : lv_has ls 7 [(6, .int (so_empty Vs (xs (4 * t + 1)) (xs (4 * t + 2))).2.1), (5, .int (nI (so_empty Vs (xs (4 * t + 1)) (xs (4 * t + 2))).1)), (4, .int (nI (4 * t))), (3, .ref out), (2, .ref (am 0)), (1, .ref x), (0, .ref b)] := hl
  refine lv_aload_n hx hb d_law_141 rfl (lv_at hl 4 rfl) ?_
  refine fx_cV (B := fun q => s.heap.size ≤ q) KT_moved (ct_M_thrown w am hmI S2.1 S2.2.1 S2.2.2.1 S2.2.2.2.1 S2.2.2.2.2.1 S2.2.2.2.2.2.1 S2.2.2.2.2.2.2.1 S2.2.2.2.2.2.2.2) hx hfl hK hb (by rw [hml]; exact hl.1) hown (hw _ mm_W_66) (fx_Y.code (hw _ mk_M_thrown)) (hw _ mi_M_thrown) (hw _ mq_M_thrown) (show fx_N y_M_thrown 0 by decide +kernel) (va_recv (q0 := 0) hKv hP (show cls[2]? = some (R_M, T_M, 8) from rfl) rfl) rfl ⟨Nat.le_of_ble_eq_true rfl, Nat.le_of_ble_eq_true rfl, by show nc + 9 + 0 ≤ 601024; omega, by show ns + 800 + 0 ≤ 7293034; omega⟩ hP d_law_142 hL (fun q h => by obtain ⟨i, hi, e⟩ := h; rw [e]; exact ham i hi) (fun v H3 locs hq hF hL => ?_) (fun xx H3 locs hq hF hL => by cases hq.1)
  obtain ⟨hv, hP⟩ := hq
  cases hv
  have hT := lT_keep hT hF ham0
  have hJ := hJ.kept (hF.2.2 out hJ.lt hmo)
  have hE : fx_Ex s.heap H3 := by obtain ⟨ar, hS⟩ := hT; rw [← hH0]; exact hS.1
  refine W.eq (g2 := F0 m 145 ls [.int S2.2.1]) rfl ?_
  refine fx_ti (y := nI (so_empty Vs (xs (4 * t + 1)) (xs (4 * t + 2))).1) (hth) ?_
  refine lv_iload hx hb d_law_145 (lv_at hl 1 rfl) ?_
  refine lv_icmp_eq (tgt := 152) hx hb d_law_147 rfl (fun _ => ?_) (fun h9 => absurd (rfl) h9)
  refine lv_iload hx hb d_law_152 (lv_at hl 1 rfl) ?_
  refine lv_if_ne (tgt := 169) hx hb d_law_154 rfl (fun h154 => ?_) (fun h154 => ?_)
  · refine lv_goto (tgt := 897) hx hb d_law_169 rfl ?_
    refine va_forget hL ?_
    refine W.widen (k := nc + 9) (n := ns + 800) (Nat.le_refl _) (Nat.le_refl _) ?_
    exact kn _ _ _ _ ⟨hT, hP, hA, _, hJ⟩ (lv_sub hl [2, 3, 4, 5, 6] rfl)
  · have h0 : (so_empty Vs (xs (4 * t + 1)) (xs (4 * t + 2))).1 = 0 := (nI_eq (by omega) (by decide)).mp h154
    refine lv_aload_n hx hb d_law_157 rfl (lv_at hl 3 rfl) ?_
    refine lv_iconst (v := nI 0) hx hb d_law_158 rfl ?_
    refine fx_lald hx hb hKv 1 hJ rfl rfl (by decide) (by decide) d_law_159 (fx_tl (y := (so_empty Vs (xs (4 * t + 1)) (xs (4 * t + 2))).2.1.toInt64) (hg h0) ?_)
    refine lv_iload hx hb d_law_160 (lv_at hl 0 rfl) ?_
    refine lv_i2l hx hb d_law_162 rfl ?_
    refine W.lcmp hx hb d_law_163 (fx_ti (y := nI 0) (lg_self _) ?_)
    refine lv_if_eq (tgt := 169) hx hb d_law_164 rfl (fun _ => ?_) (fun h9 => absurd (rfl) h9)
    refine lv_goto (tgt := 897) hx hb d_law_169 rfl ?_
    refine va_forget hL ?_
    refine W.widen (k := nc + 9) (n := ns + 800) (Nat.le_refl _) (Nat.le_refl _) ?_
    exact kn _ _ _ _ ⟨hT, hP, hA, _, hJ⟩ (lv_sub hl [2, 3, 4, 5, 6] rfl)
set_option maxHeartbeats 4000000 in
set_option maxRecDepth 100000 in
theorem lc_add {p : Program} {l : Launch} {e : Env} {s : State} {m : MethodId} {below : List Frame} {meth : Method} {c : Code} {w : Wd} {am : Nat → Nat} {x al out b L t nc ns : Nat} {xs : Nat → Int32} {Vs : List sV} {S : mS} {H : Heap} {ls : Array Slot} {Q : State → Prop} (C : lCtx p l s m c w am out b L xs) (ht : 4 * t + 4 ≤ L) (hn : nc + 9 ≤ 600000 ∧ ns + 800 ≤ 7000000) (hI : lInv w am x al out Vs S H) (hl : lv_has ls 7 [(4, .int (nI (4 * t))), (3, .ref out), (2, .ref (am 0)), (1, .ref x), (0, .ref b)]) (kn : ∀ (Vs : List sV) (S : mS) (H : Heap) (ls : Array Slot), lInv w am x al out Vs S H → lv_has ls 7 [(4, .int (nI (4 * t))), (3, .ref out), (2, .ref (am 0)), (1, .ref x), (0, .ref b)] → W p l e room_1 s m #[.ref b] below meth c H [] (nc + 9) (ns + 800) Q (F0 m 897 ls [])) : W p l e room_1 s m #[.ref b] below meth c H [] nc ns Q (F0 m 172 ls []) := by
  obtain ⟨hx, hfl, hK, hb, hml, hown, hH0, hX, hbl, hmI, ham, hout, hmo, hL2⟩ := C
  obtain ⟨hT, hP, hA, g, hJ⟩ := hI
  have hw : ∀ z ∈ gw, z.before #[.ref b] s = true := fun z hz => hK.1 z hz _
  have hKv := hK.2.1
  have hL : ∀ q ∈ ([] : List Loc), s.heap.size ≤ q.base := fun q hq => by cases hq
  have ham0 : ∀ i, i < 7 → w.H0.size ≤ am i := by rw [hH0]; exact ham
  have hE : fx_Ex s.heap H := by obtain ⟨ar, hS⟩ := hT; rw [← hH0]; exact hS.1
  have hl : lv_has ls 7 [(4, .int (nI (4 * t))), (3, .ref out), (2, .ref (am 0)), (1, .ref x), (0, .ref b)] := hl
  refine lv_aload_n hx hb d_law_172 rfl (lv_at hl 3 rfl) ?_
  refine lv_aload_n hx hb d_law_173 rfl (lv_at hl 4 rfl) ?_
  refine lv_iload hx hb d_law_174 (lv_at hl 0 rfl) ?_
  refine lv_iconst (v := nI 1) hx hb d_law_176 rfl ?_
  refine lv_iadd hx hb d_law_177 ?_
  refine fx_ti (y := nI (4 * t + 1)) (nI_add _ _) ?_
  refine fx_sld hx hb hX hbl hE rfl (show 4 * t + 1 < L by omega) hL2 d_law_178 ?_
  refine lv_aload_n hx hb d_law_179 rfl (lv_at hl 4 rfl) ?_
  refine lv_iload hx hb d_law_180 (lv_at hl 0 rfl) ?_
  refine lv_iconst (v := nI 2) hx hb d_law_182 rfl ?_
  refine lv_iadd hx hb d_law_183 ?_
  refine fx_ti (y := nI (4 * t + 2)) (nI_add _ _) ?_
  refine fx_sld hx hb hX hbl hE rfl (show 4 * t + 2 < L by omega) hL2 d_law_184 ?_
  refine lv_aload_n hx hb d_law_185 rfl (lv_at hl 1 rfl) ?_
  refine fx_cS (B := fun q => s.heap.size ≤ q) KT_moved (ct_W_add w (lF am out) x al out Vs (xs (4 * t + 1)) (xs (4 * t + 2)) (Or.inr rfl) (by rw [hH0]; exact hout)) hx hfl hK hb (by rw [hml]; exact hl.1) hown (hw _ mm_W_70) (fx_Y.codeWith (hw _ mk_W_add)) (hw _ ms_W_add) (hw _ mn_W) (show fx_N y_W_add 4 by decide +kernel) rfl ⟨Nat.le_of_ble_eq_true rfl, Nat.le_of_ble_eq_true rfl, by show nc + 9 ≤ 601024; omega, by show ns + 800 ≤ 7293034; omega⟩ ⟨hT, g, hJ⟩ d_law_186 hL (fun q h => h.elim (fun z => by rw [← hH0]; exact z.1) (fun z => by rw [z]; exact hout)) (fun v H1 locs hq hF hL => ?_) (fun xx H1 locs hq hF hL => by cases hq.1)
  obtain ⟨hv, hT, g, hJ, hg⟩ := hq
  cases hv
  have hP := lP_keep hP (fun i hi => hF.2.2 (am i) (mw_lt hP i hi) (fun z => z.elim (fun z => z.2 (Or.inl ⟨i, hi, rfl⟩)) (fun z => hmo ⟨i, hi, z.symm⟩)))
  have hE : fx_Ex s.heap H1 := by obtain ⟨ar, hS⟩ := hT; rw [← hH0]; exact hS.1
  have hle := so_add_le Vs (xs (4 * t + 1)) (xs (4 * t + 2))
  refine W.eq (g2 := F0 m 189 ls [.int (nI (so_add Vs (xs (4 * t + 1)) (xs (4 * t + 2))).1)]) rfl ?_
  refine lv_istore hx hb d_law_189 hl (by decide) rfl (fun ls hl => ?_)
  have hl : lv_has ls 7 [(5, .int (nI (so_add Vs (xs (4 * t + 1)) (xs (4 * t + 2))).1)), (4, .int (nI (4 * t))), (3, .ref out), (2, .ref (am 0)), (1, .ref x), (0, .ref b)] := hl
  refine lv_aload_n hx hb d_law_191 rfl (lv_at hl 3 rfl) ?_
  refine lv_aload_n hx hb d_law_192 rfl (lv_at hl 5 rfl) ?_
  refine lv_iload hx hb d_law_193 (lv_at hl 1 rfl) ?_
  refine lv_iconst (v := nI 1) hx hb d_law_195 rfl ?_
  refine lv_iadd hx hb d_law_196 ?_
  refine fx_ti (y := nI (4 * t + 1)) (nI_add _ _) ?_
  refine fx_sld hx hb hX hbl hE rfl (show 4 * t + 1 < L by omega) hL2 d_law_197 ?_
  refine lv_aload_n hx hb d_law_198 rfl (lv_at hl 5 rfl) ?_
  refine lv_iload hx hb d_law_199 (lv_at hl 1 rfl) ?_
  refine lv_iconst (v := nI 2) hx hb d_law_201 rfl ?_
  refine lv_iadd hx hb d_law_202 ?_
  refine fx_ti (y := nI (4 * t + 2)) (nI_add _ _) ?_
  refine fx_sld hx hb hX hbl hE rfl (show 4 * t + 2 < L by omega) hL2 d_law_203 ?_
  refine fx_cV (B := fun q => s.heap.size ≤ q) KT_moved (ct_M_add w am hmI Vs (xs (4 * t + 1)) (xs (4 * t + 2)) S hA) hx hfl hK hb (by rw [hml]; exact hl.1) hown (hw _ mm_W_72) (fx_Y.code (hw _ mk_M_add)) (hw _ mi_M_add) (hw _ mq_M_add) (show fx_N y_M_add 2 by decide +kernel) (va_recv (q0 := 0) hKv hP (show cls[2]? = some (R_M, T_M, 8) from rfl) rfl) rfl ⟨Nat.le_of_ble_eq_true rfl, Nat.le_of_ble_eq_true rfl, by show nc + 9 + 0 ≤ 601024; omega, by show ns + 800 + 0 ≤ 7293034; omega⟩ hP d_law_204 hL (fun q h => by obtain ⟨i, hi, e⟩ := h; rw [e]; exact ham i hi) (fun v H2 locs hq hF hL => ?_) (fun xx H2 locs hq hF hL => by cases hq.1)
  obtain ⟨hv, S2, hP, hA, hth⟩ := hq
  cases hv
  have hT := lT_keep hT hF ham0
  have hJ := hJ.kept (hF.2.2 out hJ.lt hmo)
  have hE : fx_Ex s.heap H2 := by obtain ⟨ar, hS⟩ := hT; rw [← hH0]; exact hS.1
  refine W.eq (g2 := F0 m 207 ls [.int (so_add Vs (xs (4 * t + 1)) (xs (4 * t + 2))).2.1]) rfl ?_
  refine lv_istore hx hb d_law_207 hl (by decide) rfl (fun ls hl => ?_)
  have hl : lv_has ls 7 [(6, .int (so_add Vs (xs (4 * t + 1)) (xs (4 * t + 2))).2.1), (5, .int (nI (so_add Vs (xs (4 * t + 1)) (xs (4 * t + 2))).1)), (4, .int (nI (4 * t))), (3, .ref out), (2, .ref (am 0)), (1, .ref x), (0, .ref b)] := hl
  refine lv_aload_n hx hb d_law_209 rfl (lv_at hl 4 rfl) ?_
  refine fx_cV (B := fun q => s.heap.size ≤ q) KT_moved (ct_M_thrown w am hmI S2.1 S2.2.1 S2.2.2.1 S2.2.2.2.1 S2.2.2.2.2.1 S2.2.2.2.2.2.1 S2.2.2.2.2.2.2.1 S2.2.2.2.2.2.2.2) hx hfl hK hb (by rw [hml]; exact hl.1) hown (hw _ mm_W_66) (fx_Y.code (hw _ mk_M_thrown)) (hw _ mi_M_thrown) (hw _ mq_M_thrown) (show fx_N y_M_thrown 0 by decide +kernel) (va_recv (q0 := 0) hKv hP (show cls[2]? = some (R_M, T_M, 8) from rfl) rfl) rfl ⟨Nat.le_of_ble_eq_true rfl, Nat.le_of_ble_eq_true rfl, by show nc + 9 + 0 ≤ 601024; omega, by show ns + 800 + 0 ≤ 7293034; omega⟩ hP d_law_210 hL (fun q h => by obtain ⟨i, hi, e⟩ := h; rw [e]; exact ham i hi) (fun v H3 locs hq hF hL => ?_) (fun xx H3 locs hq hF hL => by cases hq.1)
  obtain ⟨hv, hP⟩ := hq
  cases hv
  have hT := lT_keep hT hF ham0
  have hJ := hJ.kept (hF.2.2 out hJ.lt hmo)
  have hE : fx_Ex s.heap H3 := by obtain ⟨ar, hS⟩ := hT; rw [← hH0]; exact hS.1
  refine W.eq (g2 := F0 m 213 ls [.int S2.2.1]) rfl ?_
  refine fx_ti (y := nI (so_add Vs (xs (4 * t + 1)) (xs (4 * t + 2))).1) (hth) ?_
  refine lv_iload hx hb d_law_213 (lv_at hl 1 rfl) ?_
  refine lv_icmp_eq (tgt := 220) hx hb d_law_215 rfl (fun _ => ?_) (fun h9 => absurd (rfl) h9)
  refine lv_iload hx hb d_law_220 (lv_at hl 1 rfl) ?_
  refine lv_if_ne (tgt := 237) hx hb d_law_222 rfl (fun h222 => ?_) (fun h222 => ?_)
  · refine lv_goto (tgt := 897) hx hb d_law_237 rfl ?_
    refine va_forget hL ?_
    refine W.widen (k := nc + 9) (n := ns + 800) (Nat.le_refl _) (Nat.le_refl _) ?_
    exact kn _ _ _ _ ⟨hT, hP, hA, _, hJ⟩ (lv_sub hl [2, 3, 4, 5, 6] rfl)
  · have h0 : (so_add Vs (xs (4 * t + 1)) (xs (4 * t + 2))).1 = 0 := (nI_eq (by omega) (by decide)).mp h222
    refine lv_aload_n hx hb d_law_225 rfl (lv_at hl 3 rfl) ?_
    refine lv_iconst (v := nI 0) hx hb d_law_226 rfl ?_
    refine fx_lald hx hb hKv 1 hJ rfl rfl (by decide) (by decide) d_law_227 (fx_tl (y := (so_add Vs (xs (4 * t + 1)) (xs (4 * t + 2))).2.1.toInt64) (hg h0) ?_)
    refine lv_iload hx hb d_law_228 (lv_at hl 0 rfl) ?_
    refine lv_i2l hx hb d_law_230 rfl ?_
    refine W.lcmp hx hb d_law_231 (fx_ti (y := nI 0) (lg_self _) ?_)
    refine lv_if_eq (tgt := 237) hx hb d_law_232 rfl (fun _ => ?_) (fun h9 => absurd (rfl) h9)
    refine lv_goto (tgt := 897) hx hb d_law_237 rfl ?_
    refine va_forget hL ?_
    refine W.widen (k := nc + 9) (n := ns + 800) (Nat.le_refl _) (Nat.le_refl _) ?_
    exact kn _ _ _ _ ⟨hT, hP, hA, _, hJ⟩ (lv_sub hl [2, 3, 4, 5, 6] rfl)
set_option maxHeartbeats 4000000 in
set_option maxRecDepth 100000 in
theorem lc_first {p : Program} {l : Launch} {e : Env} {s : State} {m : MethodId} {below : List Frame} {meth : Method} {c : Code} {w : Wd} {am : Nat → Nat} {x al out b L t nc ns : Nat} {xs : Nat → Int32} {Vs : List sV} {S : mS} {H : Heap} {ls : Array Slot} {Q : State → Prop} (C : lCtx p l s m c w am out b L xs) (ht : 4 * t + 4 ≤ L) (hn : nc + 9 ≤ 600000 ∧ ns + 800 ≤ 7000000) (hI : lInv w am x al out Vs S H) (hl : lv_has ls 7 [(4, .int (nI (4 * t))), (3, .ref out), (2, .ref (am 0)), (1, .ref x), (0, .ref b)]) (kn : ∀ (Vs : List sV) (S : mS) (H : Heap) (ls : Array Slot), lInv w am x al out Vs S H → lv_has ls 7 [(4, .int (nI (4 * t))), (3, .ref out), (2, .ref (am 0)), (1, .ref x), (0, .ref b)] → W p l e room_1 s m #[.ref b] below meth c H [] (nc + 9) (ns + 800) Q (F0 m 897 ls [])) : W p l e room_1 s m #[.ref b] below meth c H [] nc ns Q (F0 m 240 ls []) := by
  obtain ⟨hx, hfl, hK, hb, hml, hown, hH0, hX, hbl, hmI, ham, hout, hmo, hL2⟩ := C
  obtain ⟨hT, hP, hA, g, hJ⟩ := hI
  have hw : ∀ z ∈ gw, z.before #[.ref b] s = true := fun z hz => hK.1 z hz _
  have hKv := hK.2.1
  have hL : ∀ q ∈ ([] : List Loc), s.heap.size ≤ q.base := fun q hq => by cases hq
  have ham0 : ∀ i, i < 7 → w.H0.size ≤ am i := by rw [hH0]; exact ham
  have hE : fx_Ex s.heap H := by obtain ⟨ar, hS⟩ := hT; rw [← hH0]; exact hS.1
  have hl : lv_has ls 7 [(4, .int (nI (4 * t))), (3, .ref out), (2, .ref (am 0)), (1, .ref x), (0, .ref b)] := hl
  refine lv_aload_n hx hb d_law_240 rfl (lv_at hl 3 rfl) ?_
  refine lv_aload_n hx hb d_law_241 rfl (lv_at hl 4 rfl) ?_
  refine lv_iload hx hb d_law_242 (lv_at hl 0 rfl) ?_
  refine lv_iconst (v := nI 1) hx hb d_law_244 rfl ?_
  refine lv_iadd hx hb d_law_245 ?_
  refine fx_ti (y := nI (4 * t + 1)) (nI_add _ _) ?_
  refine fx_sld hx hb hX hbl hE rfl (show 4 * t + 1 < L by omega) hL2 d_law_246 ?_
  refine lv_aload_n hx hb d_law_247 rfl (lv_at hl 1 rfl) ?_
  refine fx_cS (B := fun q => s.heap.size ≤ q) KT_moved (ct_W_first w (lF am out) x al out Vs (xs (4 * t + 1)) (Or.inr rfl) (by rw [hH0]; exact hout)) hx hfl hK hb (by rw [hml]; exact hl.1) hown (hw _ mm_W_73) (fx_Y.codeWith (hw _ mk_W_first)) (hw _ ms_W_first) (hw _ mn_W) (show fx_N y_W_first 3 by decide +kernel) rfl ⟨Nat.le_of_ble_eq_true rfl, Nat.le_of_ble_eq_true rfl, by show nc + 9 ≤ 601024; omega, by show ns + 800 ≤ 7293034; omega⟩ ⟨hT, g, hJ⟩ d_law_248 hL (fun q h => h.elim (fun z => by rw [← hH0]; exact z.1) (fun z => by rw [z]; exact hout)) (fun v H1 locs hq hF hL => ?_) (fun xx H1 locs hq hF hL => by cases hq.1)
  obtain ⟨hv, hT, g, hJ, hg⟩ := hq
  cases hv
  have hP := lP_keep hP (fun i hi => hF.2.2 (am i) (mw_lt hP i hi) (fun z => z.elim (fun z => z.2 (Or.inl ⟨i, hi, rfl⟩)) (fun z => hmo ⟨i, hi, z.symm⟩)))
  have hE : fx_Ex s.heap H1 := by obtain ⟨ar, hS⟩ := hT; rw [← hH0]; exact hS.1
  have hle := so_first_le Vs (xs (4 * t + 1))
  refine W.eq (g2 := F0 m 251 ls [.int (nI (so_first Vs (xs (4 * t + 1))).1)]) rfl ?_
  refine lv_istore hx hb d_law_251 hl (by decide) rfl (fun ls hl => ?_)
  have hl : lv_has ls 7 [(5, .int (nI (so_first Vs (xs (4 * t + 1))).1)), (4, .int (nI (4 * t))), (3, .ref out), (2, .ref (am 0)), (1, .ref x), (0, .ref b)] := hl
  refine lv_aload_n hx hb d_law_253 rfl (lv_at hl 3 rfl) ?_
  refine lv_aload_n hx hb d_law_254 rfl (lv_at hl 5 rfl) ?_
  refine lv_iload hx hb d_law_255 (lv_at hl 1 rfl) ?_
  refine lv_iconst (v := nI 1) hx hb d_law_257 rfl ?_
  refine lv_iadd hx hb d_law_258 ?_
  refine fx_ti (y := nI (4 * t + 1)) (nI_add _ _) ?_
  refine fx_sld hx hb hX hbl hE rfl (show 4 * t + 1 < L by omega) hL2 d_law_259 ?_
  refine fx_cV (B := fun q => s.heap.size ≤ q) KT_moved (ct_M_first w am hmI Vs (xs (4 * t + 1)) S hA) hx hfl hK hb (by rw [hml]; exact hl.1) hown (hw _ mm_W_76) (fx_Y.code (hw _ mk_M_first)) (hw _ mi_M_first) (hw _ mq_M_first) (show fx_N y_M_first 1 by decide +kernel) (va_recv (q0 := 0) hKv hP (show cls[2]? = some (R_M, T_M, 8) from rfl) rfl) rfl ⟨Nat.le_of_ble_eq_true rfl, Nat.le_of_ble_eq_true rfl, by show nc + 9 + 0 ≤ 601024; omega, by show ns + 800 + 0 ≤ 7293034; omega⟩ hP d_law_260 hL (fun q h => by obtain ⟨i, hi, e⟩ := h; rw [e]; exact ham i hi) (fun v H2 locs hq hF hL => ?_) (fun xx H2 locs hq hF hL => by cases hq.1)
  obtain ⟨hv, S2, hP, hA, hth⟩ := hq
  cases hv
  have hT := lT_keep hT hF ham0
  have hJ := hJ.kept (hF.2.2 out hJ.lt hmo)
  have hE : fx_Ex s.heap H2 := by obtain ⟨ar, hS⟩ := hT; rw [← hH0]; exact hS.1
  refine W.eq (g2 := F0 m 263 ls [.int (so_first Vs (xs (4 * t + 1))).2.1]) rfl ?_
  refine lv_istore hx hb d_law_263 hl (by decide) rfl (fun ls hl => ?_)
  have hl : lv_has ls 7 [(6, .int (so_first Vs (xs (4 * t + 1))).2.1), (5, .int (nI (so_first Vs (xs (4 * t + 1))).1)), (4, .int (nI (4 * t))), (3, .ref out), (2, .ref (am 0)), (1, .ref x), (0, .ref b)] := hl
  refine lv_aload_n hx hb d_law_265 rfl (lv_at hl 4 rfl) ?_
  refine fx_cV (B := fun q => s.heap.size ≤ q) KT_moved (ct_M_thrown w am hmI S2.1 S2.2.1 S2.2.2.1 S2.2.2.2.1 S2.2.2.2.2.1 S2.2.2.2.2.2.1 S2.2.2.2.2.2.2.1 S2.2.2.2.2.2.2.2) hx hfl hK hb (by rw [hml]; exact hl.1) hown (hw _ mm_W_66) (fx_Y.code (hw _ mk_M_thrown)) (hw _ mi_M_thrown) (hw _ mq_M_thrown) (show fx_N y_M_thrown 0 by decide +kernel) (va_recv (q0 := 0) hKv hP (show cls[2]? = some (R_M, T_M, 8) from rfl) rfl) rfl ⟨Nat.le_of_ble_eq_true rfl, Nat.le_of_ble_eq_true rfl, by show nc + 9 + 0 ≤ 601024; omega, by show ns + 800 + 0 ≤ 7293034; omega⟩ hP d_law_266 hL (fun q h => by obtain ⟨i, hi, e⟩ := h; rw [e]; exact ham i hi) (fun v H3 locs hq hF hL => ?_) (fun xx H3 locs hq hF hL => by cases hq.1)
  obtain ⟨hv, hP⟩ := hq
  cases hv
  have hT := lT_keep hT hF ham0
  have hJ := hJ.kept (hF.2.2 out hJ.lt hmo)
  have hE : fx_Ex s.heap H3 := by obtain ⟨ar, hS⟩ := hT; rw [← hH0]; exact hS.1
  refine W.eq (g2 := F0 m 269 ls [.int S2.2.1]) rfl ?_
  refine fx_ti (y := nI (so_first Vs (xs (4 * t + 1))).1) (hth) ?_
  refine lv_iload hx hb d_law_269 (lv_at hl 1 rfl) ?_
  refine lv_icmp_eq (tgt := 276) hx hb d_law_271 rfl (fun _ => ?_) (fun h9 => absurd (rfl) h9)
  refine lv_iload hx hb d_law_276 (lv_at hl 1 rfl) ?_
  refine lv_if_ne (tgt := 293) hx hb d_law_278 rfl (fun h278 => ?_) (fun h278 => ?_)
  · refine lv_goto (tgt := 897) hx hb d_law_293 rfl ?_
    refine va_forget hL ?_
    refine W.widen (k := nc + 9) (n := ns + 800) (Nat.le_refl _) (Nat.le_refl _) ?_
    exact kn _ _ _ _ ⟨hT, hP, hA, _, hJ⟩ (lv_sub hl [2, 3, 4, 5, 6] rfl)
  · have h0 : (so_first Vs (xs (4 * t + 1))).1 = 0 := (nI_eq (by omega) (by decide)).mp h278
    refine lv_aload_n hx hb d_law_281 rfl (lv_at hl 3 rfl) ?_
    refine lv_iconst (v := nI 0) hx hb d_law_282 rfl ?_
    refine fx_lald hx hb hKv 1 hJ rfl rfl (by decide) (by decide) d_law_283 (fx_tl (y := (so_first Vs (xs (4 * t + 1))).2.1.toInt64) (hg h0) ?_)
    refine lv_iload hx hb d_law_284 (lv_at hl 0 rfl) ?_
    refine lv_i2l hx hb d_law_286 rfl ?_
    refine W.lcmp hx hb d_law_287 (fx_ti (y := nI 0) (lg_self _) ?_)
    refine lv_if_eq (tgt := 293) hx hb d_law_288 rfl (fun _ => ?_) (fun h9 => absurd (rfl) h9)
    refine lv_goto (tgt := 897) hx hb d_law_293 rfl ?_
    refine va_forget hL ?_
    refine W.widen (k := nc + 9) (n := ns + 800) (Nat.le_refl _) (Nat.le_refl _) ?_
    exact kn _ _ _ _ ⟨hT, hP, hA, _, hJ⟩ (lv_sub hl [2, 3, 4, 5, 6] rfl)
set_option maxHeartbeats 4000000 in
set_option maxRecDepth 100000 in
theorem lc_rest {p : Program} {l : Launch} {e : Env} {s : State} {m : MethodId} {below : List Frame} {meth : Method} {c : Code} {w : Wd} {am : Nat → Nat} {x al out b L t nc ns : Nat} {xs : Nat → Int32} {Vs : List sV} {S : mS} {H : Heap} {ls : Array Slot} {Q : State → Prop} (C : lCtx p l s m c w am out b L xs) (ht : 4 * t + 4 ≤ L) (hn : nc + 9 ≤ 600000 ∧ ns + 800 ≤ 7000000) (hI : lInv w am x al out Vs S H) (hl : lv_has ls 7 [(4, .int (nI (4 * t))), (3, .ref out), (2, .ref (am 0)), (1, .ref x), (0, .ref b)]) (kn : ∀ (Vs : List sV) (S : mS) (H : Heap) (ls : Array Slot), lInv w am x al out Vs S H → lv_has ls 7 [(4, .int (nI (4 * t))), (3, .ref out), (2, .ref (am 0)), (1, .ref x), (0, .ref b)] → W p l e room_1 s m #[.ref b] below meth c H [] (nc + 9) (ns + 800) Q (F0 m 897 ls [])) : W p l e room_1 s m #[.ref b] below meth c H [] nc ns Q (F0 m 296 ls []) := by
  obtain ⟨hx, hfl, hK, hb, hml, hown, hH0, hX, hbl, hmI, ham, hout, hmo, hL2⟩ := C
  obtain ⟨hT, hP, hA, g, hJ⟩ := hI
  have hw : ∀ z ∈ gw, z.before #[.ref b] s = true := fun z hz => hK.1 z hz _
  have hKv := hK.2.1
  have hL : ∀ q ∈ ([] : List Loc), s.heap.size ≤ q.base := fun q hq => by cases hq
  have ham0 : ∀ i, i < 7 → w.H0.size ≤ am i := by rw [hH0]; exact ham
  have hE : fx_Ex s.heap H := by obtain ⟨ar, hS⟩ := hT; rw [← hH0]; exact hS.1
  have hl : lv_has ls 7 [(4, .int (nI (4 * t))), (3, .ref out), (2, .ref (am 0)), (1, .ref x), (0, .ref b)] := hl
  refine lv_aload_n hx hb d_law_296 rfl (lv_at hl 3 rfl) ?_
  refine lv_aload_n hx hb d_law_297 rfl (lv_at hl 4 rfl) ?_
  refine lv_iload hx hb d_law_298 (lv_at hl 0 rfl) ?_
  refine lv_iconst (v := nI 1) hx hb d_law_300 rfl ?_
  refine lv_iadd hx hb d_law_301 ?_
  refine fx_ti (y := nI (4 * t + 1)) (nI_add _ _) ?_
  refine fx_sld hx hb hX hbl hE rfl (show 4 * t + 1 < L by omega) hL2 d_law_302 ?_
  refine lv_aload_n hx hb d_law_303 rfl (lv_at hl 1 rfl) ?_
  refine fx_cS (B := fun q => s.heap.size ≤ q) KT_moved (ct_W_rest w (lF am out) x al out Vs (xs (4 * t + 1)) (Or.inr rfl) (by rw [hH0]; exact hout)) hx hfl hK hb (by rw [hml]; exact hl.1) hown (hw _ mm_W_77) (fx_Y.codeWith (hw _ mk_W_rest)) (hw _ ms_W_rest) (hw _ mn_W) (show fx_N y_W_rest 3 by decide +kernel) rfl ⟨Nat.le_of_ble_eq_true rfl, Nat.le_of_ble_eq_true rfl, by show nc + 9 ≤ 601024; omega, by show ns + 800 ≤ 7293034; omega⟩ ⟨hT, g, hJ⟩ d_law_304 hL (fun q h => h.elim (fun z => by rw [← hH0]; exact z.1) (fun z => by rw [z]; exact hout)) (fun v H1 locs hq hF hL => ?_) (fun xx H1 locs hq hF hL => by cases hq.1)
  obtain ⟨hv, hT, g, hJ, hg⟩ := hq
  cases hv
  have hP := lP_keep hP (fun i hi => hF.2.2 (am i) (mw_lt hP i hi) (fun z => z.elim (fun z => z.2 (Or.inl ⟨i, hi, rfl⟩)) (fun z => hmo ⟨i, hi, z.symm⟩)))
  have hE : fx_Ex s.heap H1 := by obtain ⟨ar, hS⟩ := hT; rw [← hH0]; exact hS.1
  have hle := so_rest_le Vs (xs (4 * t + 1))
  refine W.eq (g2 := F0 m 307 ls [.int (nI (so_rest Vs (xs (4 * t + 1))).1)]) rfl ?_
  refine lv_istore hx hb d_law_307 hl (by decide) rfl (fun ls hl => ?_)
  have hl : lv_has ls 7 [(5, .int (nI (so_rest Vs (xs (4 * t + 1))).1)), (4, .int (nI (4 * t))), (3, .ref out), (2, .ref (am 0)), (1, .ref x), (0, .ref b)] := hl
  refine lv_aload_n hx hb d_law_309 rfl (lv_at hl 3 rfl) ?_
  refine lv_aload_n hx hb d_law_310 rfl (lv_at hl 5 rfl) ?_
  refine lv_iload hx hb d_law_311 (lv_at hl 1 rfl) ?_
  refine lv_iconst (v := nI 1) hx hb d_law_313 rfl ?_
  refine lv_iadd hx hb d_law_314 ?_
  refine fx_ti (y := nI (4 * t + 1)) (nI_add _ _) ?_
  refine fx_sld hx hb hX hbl hE rfl (show 4 * t + 1 < L by omega) hL2 d_law_315 ?_
  refine fx_cV (B := fun q => s.heap.size ≤ q) KT_moved (ct_M_rest w am hmI Vs (xs (4 * t + 1)) S hA) hx hfl hK hb (by rw [hml]; exact hl.1) hown (hw _ mm_W_79) (fx_Y.code (hw _ mk_M_rest)) (hw _ mi_M_rest) (hw _ mq_M_rest) (show fx_N y_M_rest 1 by decide +kernel) (va_recv (q0 := 0) hKv hP (show cls[2]? = some (R_M, T_M, 8) from rfl) rfl) rfl ⟨Nat.le_of_ble_eq_true rfl, Nat.le_of_ble_eq_true rfl, by show nc + 9 + 0 ≤ 601024; omega, by show ns + 800 + 0 ≤ 7293034; omega⟩ hP d_law_316 hL (fun q h => by obtain ⟨i, hi, e⟩ := h; rw [e]; exact ham i hi) (fun v H2 locs hq hF hL => ?_) (fun xx H2 locs hq hF hL => by cases hq.1)
  obtain ⟨hv, S2, hP, hA, hth⟩ := hq
  cases hv
  have hT := lT_keep hT hF ham0
  have hJ := hJ.kept (hF.2.2 out hJ.lt hmo)
  have hE : fx_Ex s.heap H2 := by obtain ⟨ar, hS⟩ := hT; rw [← hH0]; exact hS.1
  refine W.eq (g2 := F0 m 319 ls [.int (so_rest Vs (xs (4 * t + 1))).2.1]) rfl ?_
  refine lv_istore hx hb d_law_319 hl (by decide) rfl (fun ls hl => ?_)
  have hl : lv_has ls 7 [(6, .int (so_rest Vs (xs (4 * t + 1))).2.1), (5, .int (nI (so_rest Vs (xs (4 * t + 1))).1)), (4, .int (nI (4 * t))), (3, .ref out), (2, .ref (am 0)), (1, .ref x), (0, .ref b)] := hl
  refine lv_aload_n hx hb d_law_321 rfl (lv_at hl 4 rfl) ?_
  refine fx_cV (B := fun q => s.heap.size ≤ q) KT_moved (ct_M_thrown w am hmI S2.1 S2.2.1 S2.2.2.1 S2.2.2.2.1 S2.2.2.2.2.1 S2.2.2.2.2.2.1 S2.2.2.2.2.2.2.1 S2.2.2.2.2.2.2.2) hx hfl hK hb (by rw [hml]; exact hl.1) hown (hw _ mm_W_66) (fx_Y.code (hw _ mk_M_thrown)) (hw _ mi_M_thrown) (hw _ mq_M_thrown) (show fx_N y_M_thrown 0 by decide +kernel) (va_recv (q0 := 0) hKv hP (show cls[2]? = some (R_M, T_M, 8) from rfl) rfl) rfl ⟨Nat.le_of_ble_eq_true rfl, Nat.le_of_ble_eq_true rfl, by show nc + 9 + 0 ≤ 601024; omega, by show ns + 800 + 0 ≤ 7293034; omega⟩ hP d_law_322 hL (fun q h => by obtain ⟨i, hi, e⟩ := h; rw [e]; exact ham i hi) (fun v H3 locs hq hF hL => ?_) (fun xx H3 locs hq hF hL => by cases hq.1)
  obtain ⟨hv, hP⟩ := hq
  cases hv
  have hT := lT_keep hT hF ham0
  have hJ := hJ.kept (hF.2.2 out hJ.lt hmo)
  have hE : fx_Ex s.heap H3 := by obtain ⟨ar, hS⟩ := hT; rw [← hH0]; exact hS.1
  refine W.eq (g2 := F0 m 325 ls [.int S2.2.1]) rfl ?_
  refine fx_ti (y := nI (so_rest Vs (xs (4 * t + 1))).1) (hth) ?_
  refine lv_iload hx hb d_law_325 (lv_at hl 1 rfl) ?_
  refine lv_icmp_eq (tgt := 332) hx hb d_law_327 rfl (fun _ => ?_) (fun h9 => absurd (rfl) h9)
  refine lv_iload hx hb d_law_332 (lv_at hl 1 rfl) ?_
  refine lv_if_ne (tgt := 349) hx hb d_law_334 rfl (fun h334 => ?_) (fun h334 => ?_)
  · refine lv_goto (tgt := 897) hx hb d_law_349 rfl ?_
    refine va_forget hL ?_
    refine W.widen (k := nc + 9) (n := ns + 800) (Nat.le_refl _) (Nat.le_refl _) ?_
    exact kn _ _ _ _ ⟨hT, hP, hA, _, hJ⟩ (lv_sub hl [2, 3, 4, 5, 6] rfl)
  · have h0 : (so_rest Vs (xs (4 * t + 1))).1 = 0 := (nI_eq (by omega) (by decide)).mp h334
    refine lv_aload_n hx hb d_law_337 rfl (lv_at hl 3 rfl) ?_
    refine lv_iconst (v := nI 0) hx hb d_law_338 rfl ?_
    refine fx_lald hx hb hKv 1 hJ rfl rfl (by decide) (by decide) d_law_339 (fx_tl (y := (so_rest Vs (xs (4 * t + 1))).2.1.toInt64) (hg h0) ?_)
    refine lv_iload hx hb d_law_340 (lv_at hl 0 rfl) ?_
    refine lv_i2l hx hb d_law_342 rfl ?_
    refine W.lcmp hx hb d_law_343 (fx_ti (y := nI 0) (lg_self _) ?_)
    refine lv_if_eq (tgt := 349) hx hb d_law_344 rfl (fun _ => ?_) (fun h9 => absurd (rfl) h9)
    refine lv_goto (tgt := 897) hx hb d_law_349 rfl ?_
    refine va_forget hL ?_
    refine W.widen (k := nc + 9) (n := ns + 800) (Nat.le_refl _) (Nat.le_refl _) ?_
    exact kn _ _ _ _ ⟨hT, hP, hA, _, hJ⟩ (lv_sub hl [2, 3, 4, 5, 6] rfl)
set_option maxHeartbeats 4000000 in
set_option maxRecDepth 100000 in
theorem lc_join {p : Program} {l : Launch} {e : Env} {s : State} {m : MethodId} {below : List Frame} {meth : Method} {c : Code} {w : Wd} {am : Nat → Nat} {x al out b L t nc ns : Nat} {xs : Nat → Int32} {Vs : List sV} {S : mS} {H : Heap} {ls : Array Slot} {Q : State → Prop} (C : lCtx p l s m c w am out b L xs) (ht : 4 * t + 4 ≤ L) (hn : nc + 9 ≤ 600000 ∧ ns + 800 ≤ 7000000) (hI : lInv w am x al out Vs S H) (hl : lv_has ls 7 [(4, .int (nI (4 * t))), (3, .ref out), (2, .ref (am 0)), (1, .ref x), (0, .ref b)]) (kn : ∀ (Vs : List sV) (S : mS) (H : Heap) (ls : Array Slot), lInv w am x al out Vs S H → lv_has ls 7 [(4, .int (nI (4 * t))), (3, .ref out), (2, .ref (am 0)), (1, .ref x), (0, .ref b)] → W p l e room_1 s m #[.ref b] below meth c H [] (nc + 9) (ns + 800) Q (F0 m 897 ls [])) : W p l e room_1 s m #[.ref b] below meth c H [] nc ns Q (F0 m 352 ls []) := by
  obtain ⟨hx, hfl, hK, hb, hml, hown, hH0, hX, hbl, hmI, ham, hout, hmo, hL2⟩ := C
  obtain ⟨hT, hP, hA, g, hJ⟩ := hI
  have hw : ∀ z ∈ gw, z.before #[.ref b] s = true := fun z hz => hK.1 z hz _
  have hKv := hK.2.1
  have hL : ∀ q ∈ ([] : List Loc), s.heap.size ≤ q.base := fun q hq => by cases hq
  have ham0 : ∀ i, i < 7 → w.H0.size ≤ am i := by rw [hH0]; exact ham
  have hE : fx_Ex s.heap H := by obtain ⟨ar, hS⟩ := hT; rw [← hH0]; exact hS.1
  have hl : lv_has ls 7 [(4, .int (nI (4 * t))), (3, .ref out), (2, .ref (am 0)), (1, .ref x), (0, .ref b)] := hl
  refine lv_aload_n hx hb d_law_352 rfl (lv_at hl 3 rfl) ?_
  refine lv_aload_n hx hb d_law_353 rfl (lv_at hl 4 rfl) ?_
  refine lv_iload hx hb d_law_354 (lv_at hl 0 rfl) ?_
  refine lv_iconst (v := nI 1) hx hb d_law_356 rfl ?_
  refine lv_iadd hx hb d_law_357 ?_
  refine fx_ti (y := nI (4 * t + 1)) (nI_add _ _) ?_
  refine fx_sld hx hb hX hbl hE rfl (show 4 * t + 1 < L by omega) hL2 d_law_358 ?_
  refine lv_aload_n hx hb d_law_359 rfl (lv_at hl 4 rfl) ?_
  refine lv_iload hx hb d_law_360 (lv_at hl 0 rfl) ?_
  refine lv_iconst (v := nI 2) hx hb d_law_362 rfl ?_
  refine lv_iadd hx hb d_law_363 ?_
  refine fx_ti (y := nI (4 * t + 2)) (nI_add _ _) ?_
  refine fx_sld hx hb hX hbl hE rfl (show 4 * t + 2 < L by omega) hL2 d_law_364 ?_
  refine lv_aload_n hx hb d_law_365 rfl (lv_at hl 1 rfl) ?_
  refine fx_cS (B := fun q => s.heap.size ≤ q) KT_moved (ct_W_join w (lF am out) x al out Vs (xs (4 * t + 1)) (xs (4 * t + 2)) (Or.inr rfl) (by rw [hH0]; exact hout)) hx hfl hK hb (by rw [hml]; exact hl.1) hown (hw _ mm_W_80) (fx_Y.codeWith (hw _ mk_W_join)) (hw _ ms_W_join) (hw _ mn_W) (show fx_N y_W_join 4 by decide +kernel) rfl ⟨Nat.le_of_ble_eq_true rfl, Nat.le_of_ble_eq_true rfl, by show nc + 9 ≤ 601024; omega, by show ns + 800 ≤ 7293034; omega⟩ ⟨hT, g, hJ⟩ d_law_366 hL (fun q h => h.elim (fun z => by rw [← hH0]; exact z.1) (fun z => by rw [z]; exact hout)) (fun v H1 locs hq hF hL => ?_) (fun xx H1 locs hq hF hL => by cases hq.1)
  obtain ⟨hv, hT, g, hJ, hg⟩ := hq
  cases hv
  have hP := lP_keep hP (fun i hi => hF.2.2 (am i) (mw_lt hP i hi) (fun z => z.elim (fun z => z.2 (Or.inl ⟨i, hi, rfl⟩)) (fun z => hmo ⟨i, hi, z.symm⟩)))
  have hE : fx_Ex s.heap H1 := by obtain ⟨ar, hS⟩ := hT; rw [← hH0]; exact hS.1
  have hle := so_join_le Vs (xs (4 * t + 1)) (xs (4 * t + 2))
  refine W.eq (g2 := F0 m 369 ls [.int (nI (so_join Vs (xs (4 * t + 1)) (xs (4 * t + 2))).1)]) rfl ?_
  refine lv_istore hx hb d_law_369 hl (by decide) rfl (fun ls hl => ?_)
  have hl : lv_has ls 7 [(5, .int (nI (so_join Vs (xs (4 * t + 1)) (xs (4 * t + 2))).1)), (4, .int (nI (4 * t))), (3, .ref out), (2, .ref (am 0)), (1, .ref x), (0, .ref b)] := hl
  refine lv_aload_n hx hb d_law_371 rfl (lv_at hl 3 rfl) ?_
  refine lv_aload_n hx hb d_law_372 rfl (lv_at hl 5 rfl) ?_
  refine lv_iload hx hb d_law_373 (lv_at hl 1 rfl) ?_
  refine lv_iconst (v := nI 1) hx hb d_law_375 rfl ?_
  refine lv_iadd hx hb d_law_376 ?_
  refine fx_ti (y := nI (4 * t + 1)) (nI_add _ _) ?_
  refine fx_sld hx hb hX hbl hE rfl (show 4 * t + 1 < L by omega) hL2 d_law_377 ?_
  refine lv_aload_n hx hb d_law_378 rfl (lv_at hl 5 rfl) ?_
  refine lv_iload hx hb d_law_379 (lv_at hl 1 rfl) ?_
  refine lv_iconst (v := nI 2) hx hb d_law_381 rfl ?_
  refine lv_iadd hx hb d_law_382 ?_
  refine fx_ti (y := nI (4 * t + 2)) (nI_add _ _) ?_
  refine fx_sld hx hb hX hbl hE rfl (show 4 * t + 2 < L by omega) hL2 d_law_383 ?_
  refine fx_cV (B := fun q => s.heap.size ≤ q) KT_moved (ct_M_join w am hmI Vs (xs (4 * t + 1)) (xs (4 * t + 2)) S hA) hx hfl hK hb (by rw [hml]; exact hl.1) hown (hw _ mm_W_82) (fx_Y.code (hw _ mk_M_join)) (hw _ mi_M_join) (hw _ mq_M_join) (show fx_N y_M_join 2 by decide +kernel) (va_recv (q0 := 0) hKv hP (show cls[2]? = some (R_M, T_M, 8) from rfl) rfl) rfl ⟨Nat.le_of_ble_eq_true rfl, Nat.le_of_ble_eq_true rfl, by show nc + 9 + 0 ≤ 601024; omega, by show ns + 800 + 0 ≤ 7293034; omega⟩ hP d_law_384 hL (fun q h => by obtain ⟨i, hi, e⟩ := h; rw [e]; exact ham i hi) (fun v H2 locs hq hF hL => ?_) (fun xx H2 locs hq hF hL => by cases hq.1)
  obtain ⟨hv, S2, hP, hA, hth⟩ := hq
  cases hv
  have hT := lT_keep hT hF ham0
  have hJ := hJ.kept (hF.2.2 out hJ.lt hmo)
  have hE : fx_Ex s.heap H2 := by obtain ⟨ar, hS⟩ := hT; rw [← hH0]; exact hS.1
  refine W.eq (g2 := F0 m 387 ls [.int (so_join Vs (xs (4 * t + 1)) (xs (4 * t + 2))).2.1]) rfl ?_
  refine lv_istore hx hb d_law_387 hl (by decide) rfl (fun ls hl => ?_)
  have hl : lv_has ls 7 [(6, .int (so_join Vs (xs (4 * t + 1)) (xs (4 * t + 2))).2.1), (5, .int (nI (so_join Vs (xs (4 * t + 1)) (xs (4 * t + 2))).1)), (4, .int (nI (4 * t))), (3, .ref out), (2, .ref (am 0)), (1, .ref x), (0, .ref b)] := hl
  refine lv_aload_n hx hb d_law_389 rfl (lv_at hl 4 rfl) ?_
  refine fx_cV (B := fun q => s.heap.size ≤ q) KT_moved (ct_M_thrown w am hmI S2.1 S2.2.1 S2.2.2.1 S2.2.2.2.1 S2.2.2.2.2.1 S2.2.2.2.2.2.1 S2.2.2.2.2.2.2.1 S2.2.2.2.2.2.2.2) hx hfl hK hb (by rw [hml]; exact hl.1) hown (hw _ mm_W_66) (fx_Y.code (hw _ mk_M_thrown)) (hw _ mi_M_thrown) (hw _ mq_M_thrown) (show fx_N y_M_thrown 0 by decide +kernel) (va_recv (q0 := 0) hKv hP (show cls[2]? = some (R_M, T_M, 8) from rfl) rfl) rfl ⟨Nat.le_of_ble_eq_true rfl, Nat.le_of_ble_eq_true rfl, by show nc + 9 + 0 ≤ 601024; omega, by show ns + 800 + 0 ≤ 7293034; omega⟩ hP d_law_390 hL (fun q h => by obtain ⟨i, hi, e⟩ := h; rw [e]; exact ham i hi) (fun v H3 locs hq hF hL => ?_) (fun xx H3 locs hq hF hL => by cases hq.1)
  obtain ⟨hv, hP⟩ := hq
  cases hv
  have hT := lT_keep hT hF ham0
  have hJ := hJ.kept (hF.2.2 out hJ.lt hmo)
  have hE : fx_Ex s.heap H3 := by obtain ⟨ar, hS⟩ := hT; rw [← hH0]; exact hS.1
  refine W.eq (g2 := F0 m 393 ls [.int S2.2.1]) rfl ?_
  refine fx_ti (y := nI (so_join Vs (xs (4 * t + 1)) (xs (4 * t + 2))).1) (hth) ?_
  refine lv_iload hx hb d_law_393 (lv_at hl 1 rfl) ?_
  refine lv_icmp_eq (tgt := 400) hx hb d_law_395 rfl (fun _ => ?_) (fun h9 => absurd (rfl) h9)
  refine lv_iload hx hb d_law_400 (lv_at hl 1 rfl) ?_
  refine lv_if_ne (tgt := 417) hx hb d_law_402 rfl (fun h402 => ?_) (fun h402 => ?_)
  · refine lv_goto (tgt := 897) hx hb d_law_417 rfl ?_
    refine va_forget hL ?_
    refine W.widen (k := nc + 9) (n := ns + 800) (Nat.le_refl _) (Nat.le_refl _) ?_
    exact kn _ _ _ _ ⟨hT, hP, hA, _, hJ⟩ (lv_sub hl [2, 3, 4, 5, 6] rfl)
  · have h0 : (so_join Vs (xs (4 * t + 1)) (xs (4 * t + 2))).1 = 0 := (nI_eq (by omega) (by decide)).mp h402
    refine lv_aload_n hx hb d_law_405 rfl (lv_at hl 3 rfl) ?_
    refine lv_iconst (v := nI 0) hx hb d_law_406 rfl ?_
    refine fx_lald hx hb hKv 1 hJ rfl rfl (by decide) (by decide) d_law_407 (fx_tl (y := (so_join Vs (xs (4 * t + 1)) (xs (4 * t + 2))).2.1.toInt64) (hg h0) ?_)
    refine lv_iload hx hb d_law_408 (lv_at hl 0 rfl) ?_
    refine lv_i2l hx hb d_law_410 rfl ?_
    refine W.lcmp hx hb d_law_411 (fx_ti (y := nI 0) (lg_self _) ?_)
    refine lv_if_eq (tgt := 417) hx hb d_law_412 rfl (fun _ => ?_) (fun h9 => absurd (rfl) h9)
    refine lv_goto (tgt := 897) hx hb d_law_417 rfl ?_
    refine va_forget hL ?_
    refine W.widen (k := nc + 9) (n := ns + 800) (Nat.le_refl _) (Nat.le_refl _) ?_
    exact kn _ _ _ _ ⟨hT, hP, hA, _, hJ⟩ (lv_sub hl [2, 3, 4, 5, 6] rfl)
set_option maxHeartbeats 4000000 in
set_option maxRecDepth 100000 in
theorem lc_bind {p : Program} {l : Launch} {e : Env} {s : State} {m : MethodId} {below : List Frame} {meth : Method} {c : Code} {w : Wd} {am : Nat → Nat} {x al out b L t nc ns : Nat} {xs : Nat → Int32} {Vs : List sV} {S : mS} {H : Heap} {ls : Array Slot} {Q : State → Prop} (C : lCtx p l s m c w am out b L xs) (ht : 4 * t + 4 ≤ L) (hn : nc + 9 ≤ 600000 ∧ ns + 800 ≤ 7000000) (hI : lInv w am x al out Vs S H) (hl : lv_has ls 7 [(4, .int (nI (4 * t))), (3, .ref out), (2, .ref (am 0)), (1, .ref x), (0, .ref b)]) (kn : ∀ (Vs : List sV) (S : mS) (H : Heap) (ls : Array Slot), lInv w am x al out Vs S H → lv_has ls 7 [(4, .int (nI (4 * t))), (3, .ref out), (2, .ref (am 0)), (1, .ref x), (0, .ref b)] → W p l e room_1 s m #[.ref b] below meth c H [] (nc + 9) (ns + 800) Q (F0 m 897 ls [])) : W p l e room_1 s m #[.ref b] below meth c H [] nc ns Q (F0 m 420 ls []) := by
  obtain ⟨hx, hfl, hK, hb, hml, hown, hH0, hX, hbl, hmI, ham, hout, hmo, hL2⟩ := C
  obtain ⟨hT, hP, hA, g, hJ⟩ := hI
  have hw : ∀ z ∈ gw, z.before #[.ref b] s = true := fun z hz => hK.1 z hz _
  have hKv := hK.2.1
  have hL : ∀ q ∈ ([] : List Loc), s.heap.size ≤ q.base := fun q hq => by cases hq
  have ham0 : ∀ i, i < 7 → w.H0.size ≤ am i := by rw [hH0]; exact ham
  have hE : fx_Ex s.heap H := by obtain ⟨ar, hS⟩ := hT; rw [← hH0]; exact hS.1
  have hl : lv_has ls 7 [(4, .int (nI (4 * t))), (3, .ref out), (2, .ref (am 0)), (1, .ref x), (0, .ref b)] := hl
  refine lv_aload_n hx hb d_law_420 rfl (lv_at hl 3 rfl) ?_
  refine lv_aload_n hx hb d_law_421 rfl (lv_at hl 4 rfl) ?_
  refine lv_iload hx hb d_law_422 (lv_at hl 0 rfl) ?_
  refine lv_iconst (v := nI 1) hx hb d_law_424 rfl ?_
  refine lv_iadd hx hb d_law_425 ?_
  refine fx_ti (y := nI (4 * t + 1)) (nI_add _ _) ?_
  refine fx_sld hx hb hX hbl hE rfl (show 4 * t + 1 < L by omega) hL2 d_law_426 ?_
  refine lv_aload_n hx hb d_law_427 rfl (lv_at hl 4 rfl) ?_
  refine lv_iload hx hb d_law_428 (lv_at hl 0 rfl) ?_
  refine lv_iconst (v := nI 2) hx hb d_law_430 rfl ?_
  refine lv_iadd hx hb d_law_431 ?_
  refine fx_ti (y := nI (4 * t + 2)) (nI_add _ _) ?_
  refine fx_sld hx hb hX hbl hE rfl (show 4 * t + 2 < L by omega) hL2 d_law_432 ?_
  refine lv_aload_n hx hb d_law_433 rfl (lv_at hl 4 rfl) ?_
  refine lv_iload hx hb d_law_434 (lv_at hl 0 rfl) ?_
  refine lv_iconst (v := nI 3) hx hb d_law_436 rfl ?_
  refine lv_iadd hx hb d_law_437 ?_
  refine fx_ti (y := nI (4 * t + 3)) (nI_add _ _) ?_
  refine fx_sld hx hb hX hbl hE rfl (show 4 * t + 3 < L by omega) hL2 d_law_438 ?_
  refine lv_aload_n hx hb d_law_439 rfl (lv_at hl 1 rfl) ?_
  refine fx_cS (B := fun q => s.heap.size ≤ q) KT_moved (ct_W_bind w (lF am out) x al out Vs (xs (4 * t + 1)) (xs (4 * t + 2)) (xs (4 * t + 3)) (Or.inr rfl) (by rw [hH0]; exact hout)) hx hfl hK hb (by rw [hml]; exact hl.1) hown (hw _ mm_W_83) (fx_Y.codeWith (hw _ mk_W_bind)) (hw _ ms_W_bind) (hw _ mn_W) (show fx_N y_W_bind 5 by decide +kernel) rfl ⟨Nat.le_of_ble_eq_true rfl, Nat.le_of_ble_eq_true rfl, by show nc + 9 ≤ 601024; omega, by show ns + 800 ≤ 7293034; omega⟩ ⟨hT, g, hJ⟩ d_law_440 hL (fun q h => h.elim (fun z => by rw [← hH0]; exact z.1) (fun z => by rw [z]; exact hout)) (fun v H1 locs hq hF hL => ?_) (fun xx H1 locs hq hF hL => by cases hq.1)
  obtain ⟨hv, hT, g, hJ, hg⟩ := hq
  cases hv
  have hP := lP_keep hP (fun i hi => hF.2.2 (am i) (mw_lt hP i hi) (fun z => z.elim (fun z => z.2 (Or.inl ⟨i, hi, rfl⟩)) (fun z => hmo ⟨i, hi, z.symm⟩)))
  have hE : fx_Ex s.heap H1 := by obtain ⟨ar, hS⟩ := hT; rw [← hH0]; exact hS.1
  have hle := so_bind_le Vs (xs (4 * t + 1)) (xs (4 * t + 2)) (xs (4 * t + 3))
  refine W.eq (g2 := F0 m 443 ls [.int (nI (so_bind Vs (xs (4 * t + 1)) (xs (4 * t + 2)) (xs (4 * t + 3))).1)]) rfl ?_
  refine lv_istore hx hb d_law_443 hl (by decide) rfl (fun ls hl => ?_)
  have hl : lv_has ls 7 [(5, .int (nI (so_bind Vs (xs (4 * t + 1)) (xs (4 * t + 2)) (xs (4 * t + 3))).1)), (4, .int (nI (4 * t))), (3, .ref out), (2, .ref (am 0)), (1, .ref x), (0, .ref b)] := hl
  refine lv_aload_n hx hb d_law_445 rfl (lv_at hl 3 rfl) ?_
  refine lv_aload_n hx hb d_law_446 rfl (lv_at hl 5 rfl) ?_
  refine lv_iload hx hb d_law_447 (lv_at hl 1 rfl) ?_
  refine lv_iconst (v := nI 1) hx hb d_law_449 rfl ?_
  refine lv_iadd hx hb d_law_450 ?_
  refine fx_ti (y := nI (4 * t + 1)) (nI_add _ _) ?_
  refine fx_sld hx hb hX hbl hE rfl (show 4 * t + 1 < L by omega) hL2 d_law_451 ?_
  refine lv_aload_n hx hb d_law_452 rfl (lv_at hl 5 rfl) ?_
  refine lv_iload hx hb d_law_453 (lv_at hl 1 rfl) ?_
  refine lv_iconst (v := nI 2) hx hb d_law_455 rfl ?_
  refine lv_iadd hx hb d_law_456 ?_
  refine fx_ti (y := nI (4 * t + 2)) (nI_add _ _) ?_
  refine fx_sld hx hb hX hbl hE rfl (show 4 * t + 2 < L by omega) hL2 d_law_457 ?_
  refine lv_aload_n hx hb d_law_458 rfl (lv_at hl 5 rfl) ?_
  refine lv_iload hx hb d_law_459 (lv_at hl 1 rfl) ?_
  refine lv_iconst (v := nI 3) hx hb d_law_461 rfl ?_
  refine lv_iadd hx hb d_law_462 ?_
  refine fx_ti (y := nI (4 * t + 3)) (nI_add _ _) ?_
  refine fx_sld hx hb hX hbl hE rfl (show 4 * t + 3 < L by omega) hL2 d_law_463 ?_
  refine fx_cV (B := fun q => s.heap.size ≤ q) KT_moved (ct_M_bind w am hmI Vs (xs (4 * t + 1)) (xs (4 * t + 2)) (xs (4 * t + 3)) S hA) hx hfl hK hb (by rw [hml]; exact hl.1) hown (hw _ mm_W_86) (fx_Y.code (hw _ mk_M_bind)) (hw _ mi_M_bind) (hw _ mq_M_bind) (show fx_N y_M_bind 3 by decide +kernel) (va_recv (q0 := 0) hKv hP (show cls[2]? = some (R_M, T_M, 8) from rfl) rfl) rfl ⟨Nat.le_of_ble_eq_true rfl, Nat.le_of_ble_eq_true rfl, by show nc + 9 + 0 ≤ 601024; omega, by show ns + 800 + 0 ≤ 7293034; omega⟩ hP d_law_464 hL (fun q h => by obtain ⟨i, hi, e⟩ := h; rw [e]; exact ham i hi) (fun v H2 locs hq hF hL => ?_) (fun xx H2 locs hq hF hL => by cases hq.1)
  obtain ⟨hv, S2, hP, hA, hth⟩ := hq
  cases hv
  have hT := lT_keep hT hF ham0
  have hJ := hJ.kept (hF.2.2 out hJ.lt hmo)
  have hE : fx_Ex s.heap H2 := by obtain ⟨ar, hS⟩ := hT; rw [← hH0]; exact hS.1
  refine W.eq (g2 := F0 m 467 ls [.int (so_bind Vs (xs (4 * t + 1)) (xs (4 * t + 2)) (xs (4 * t + 3))).2.1]) rfl ?_
  refine lv_istore hx hb d_law_467 hl (by decide) rfl (fun ls hl => ?_)
  have hl : lv_has ls 7 [(6, .int (so_bind Vs (xs (4 * t + 1)) (xs (4 * t + 2)) (xs (4 * t + 3))).2.1), (5, .int (nI (so_bind Vs (xs (4 * t + 1)) (xs (4 * t + 2)) (xs (4 * t + 3))).1)), (4, .int (nI (4 * t))), (3, .ref out), (2, .ref (am 0)), (1, .ref x), (0, .ref b)] := hl
  refine lv_aload_n hx hb d_law_469 rfl (lv_at hl 4 rfl) ?_
  refine fx_cV (B := fun q => s.heap.size ≤ q) KT_moved (ct_M_thrown w am hmI S2.1 S2.2.1 S2.2.2.1 S2.2.2.2.1 S2.2.2.2.2.1 S2.2.2.2.2.2.1 S2.2.2.2.2.2.2.1 S2.2.2.2.2.2.2.2) hx hfl hK hb (by rw [hml]; exact hl.1) hown (hw _ mm_W_66) (fx_Y.code (hw _ mk_M_thrown)) (hw _ mi_M_thrown) (hw _ mq_M_thrown) (show fx_N y_M_thrown 0 by decide +kernel) (va_recv (q0 := 0) hKv hP (show cls[2]? = some (R_M, T_M, 8) from rfl) rfl) rfl ⟨Nat.le_of_ble_eq_true rfl, Nat.le_of_ble_eq_true rfl, by show nc + 9 + 0 ≤ 601024; omega, by show ns + 800 + 0 ≤ 7293034; omega⟩ hP d_law_470 hL (fun q h => by obtain ⟨i, hi, e⟩ := h; rw [e]; exact ham i hi) (fun v H3 locs hq hF hL => ?_) (fun xx H3 locs hq hF hL => by cases hq.1)
  obtain ⟨hv, hP⟩ := hq
  cases hv
  have hT := lT_keep hT hF ham0
  have hJ := hJ.kept (hF.2.2 out hJ.lt hmo)
  have hE : fx_Ex s.heap H3 := by obtain ⟨ar, hS⟩ := hT; rw [← hH0]; exact hS.1
  refine W.eq (g2 := F0 m 473 ls [.int S2.2.1]) rfl ?_
  refine fx_ti (y := nI (so_bind Vs (xs (4 * t + 1)) (xs (4 * t + 2)) (xs (4 * t + 3))).1) (hth) ?_
  refine lv_iload hx hb d_law_473 (lv_at hl 1 rfl) ?_
  refine lv_icmp_eq (tgt := 480) hx hb d_law_475 rfl (fun _ => ?_) (fun h9 => absurd (rfl) h9)
  refine lv_iload hx hb d_law_480 (lv_at hl 1 rfl) ?_
  refine lv_if_ne (tgt := 497) hx hb d_law_482 rfl (fun h482 => ?_) (fun h482 => ?_)
  · refine lv_goto (tgt := 897) hx hb d_law_497 rfl ?_
    refine va_forget hL ?_
    refine W.widen (k := nc + 9) (n := ns + 800) (Nat.le_refl _) (Nat.le_refl _) ?_
    exact kn _ _ _ _ ⟨hT, hP, hA, _, hJ⟩ (lv_sub hl [2, 3, 4, 5, 6] rfl)
  · have h0 : (so_bind Vs (xs (4 * t + 1)) (xs (4 * t + 2)) (xs (4 * t + 3))).1 = 0 := (nI_eq (by omega) (by decide)).mp h482
    refine lv_aload_n hx hb d_law_485 rfl (lv_at hl 3 rfl) ?_
    refine lv_iconst (v := nI 0) hx hb d_law_486 rfl ?_
    refine fx_lald hx hb hKv 1 hJ rfl rfl (by decide) (by decide) d_law_487 (fx_tl (y := (so_bind Vs (xs (4 * t + 1)) (xs (4 * t + 2)) (xs (4 * t + 3))).2.1.toInt64) (hg h0) ?_)
    refine lv_iload hx hb d_law_488 (lv_at hl 0 rfl) ?_
    refine lv_i2l hx hb d_law_490 rfl ?_
    refine W.lcmp hx hb d_law_491 (fx_ti (y := nI 0) (lg_self _) ?_)
    refine lv_if_eq (tgt := 497) hx hb d_law_492 rfl (fun _ => ?_) (fun h9 => absurd (rfl) h9)
    refine lv_goto (tgt := 897) hx hb d_law_497 rfl ?_
    refine va_forget hL ?_
    refine W.widen (k := nc + 9) (n := ns + 800) (Nat.le_refl _) (Nat.le_refl _) ?_
    exact kn _ _ _ _ ⟨hT, hP, hA, _, hJ⟩ (lv_sub hl [2, 3, 4, 5, 6] rfl)
set_option maxHeartbeats 4000000 in
set_option maxRecDepth 100000 in
theorem lc_value {p : Program} {l : Launch} {e : Env} {s : State} {m : MethodId} {below : List Frame} {meth : Method} {c : Code} {w : Wd} {am : Nat → Nat} {x al out b L t nc ns : Nat} {xs : Nat → Int32} {Vs : List sV} {S : mS} {H : Heap} {ls : Array Slot} {Q : State → Prop} (C : lCtx p l s m c w am out b L xs) (ht : 4 * t + 4 ≤ L) (hn : nc + 9 ≤ 600000 ∧ ns + 800 ≤ 7000000) (hI : lInv w am x al out Vs S H) (hl : lv_has ls 7 [(4, .int (nI (4 * t))), (3, .ref out), (2, .ref (am 0)), (1, .ref x), (0, .ref b)]) (kn : ∀ (Vs : List sV) (S : mS) (H : Heap) (ls : Array Slot), lInv w am x al out Vs S H → lv_has ls 7 [(4, .int (nI (4 * t))), (3, .ref out), (2, .ref (am 0)), (1, .ref x), (0, .ref b)] → W p l e room_1 s m #[.ref b] below meth c H [] (nc + 9) (ns + 800) Q (F0 m 897 ls [])) : W p l e room_1 s m #[.ref b] below meth c H [] nc ns Q (F0 m 500 ls []) := by
  obtain ⟨hx, hfl, hK, hb, hml, hown, hH0, hX, hbl, hmI, ham, hout, hmo, hL2⟩ := C
  obtain ⟨hT, hP, hA, g, hJ⟩ := hI
  have hw : ∀ z ∈ gw, z.before #[.ref b] s = true := fun z hz => hK.1 z hz _
  have hKv := hK.2.1
  have hL : ∀ q ∈ ([] : List Loc), s.heap.size ≤ q.base := fun q hq => by cases hq
  have ham0 : ∀ i, i < 7 → w.H0.size ≤ am i := by rw [hH0]; exact ham
  have hE : fx_Ex s.heap H := by obtain ⟨ar, hS⟩ := hT; rw [← hH0]; exact hS.1
  have hl : lv_has ls 7 [(4, .int (nI (4 * t))), (3, .ref out), (2, .ref (am 0)), (1, .ref x), (0, .ref b)] := hl
  refine lv_aload_n hx hb d_law_500 rfl (lv_at hl 3 rfl) ?_
  refine lv_aload_n hx hb d_law_501 rfl (lv_at hl 4 rfl) ?_
  refine lv_iload hx hb d_law_502 (lv_at hl 0 rfl) ?_
  refine lv_iconst (v := nI 1) hx hb d_law_504 rfl ?_
  refine lv_iadd hx hb d_law_505 ?_
  refine fx_ti (y := nI (4 * t + 1)) (nI_add _ _) ?_
  refine fx_sld hx hb hX hbl hE rfl (show 4 * t + 1 < L by omega) hL2 d_law_506 ?_
  refine lv_aload_n hx hb d_law_507 rfl (lv_at hl 4 rfl) ?_
  refine lv_iload hx hb d_law_508 (lv_at hl 0 rfl) ?_
  refine lv_iconst (v := nI 2) hx hb d_law_510 rfl ?_
  refine lv_iadd hx hb d_law_511 ?_
  refine fx_ti (y := nI (4 * t + 2)) (nI_add _ _) ?_
  refine fx_sld hx hb hX hbl hE rfl (show 4 * t + 2 < L by omega) hL2 d_law_512 ?_
  refine lv_aload_n hx hb d_law_513 rfl (lv_at hl 1 rfl) ?_
  refine fx_cS (B := fun q => s.heap.size ≤ q) KT_moved (ct_W_value w (lF am out) x al out Vs (xs (4 * t + 1)) (xs (4 * t + 2)) (Or.inr rfl) (by rw [hH0]; exact hout)) hx hfl hK hb (by rw [hml]; exact hl.1) hown (hw _ mm_W_87) (fx_Y.codeWith (hw _ mk_W_value)) (hw _ ms_W_value) (hw _ mn_W) (show fx_N y_W_value 4 by decide +kernel) rfl ⟨Nat.le_of_ble_eq_true rfl, Nat.le_of_ble_eq_true rfl, by show nc + 9 ≤ 601024; omega, by show ns + 800 ≤ 7293034; omega⟩ ⟨hT, g, hJ⟩ d_law_514 hL (fun q h => h.elim (fun z => by rw [← hH0]; exact z.1) (fun z => by rw [z]; exact hout)) (fun v H1 locs hq hF hL => ?_) (fun xx H1 locs hq hF hL => by cases hq.1)
  obtain ⟨hv, hT, g, hJ, hg⟩ := hq
  cases hv
  have hP := lP_keep hP (fun i hi => hF.2.2 (am i) (mw_lt hP i hi) (fun z => z.elim (fun z => z.2 (Or.inl ⟨i, hi, rfl⟩)) (fun z => hmo ⟨i, hi, z.symm⟩)))
  have hE : fx_Ex s.heap H1 := by obtain ⟨ar, hS⟩ := hT; rw [← hH0]; exact hS.1
  have hle := so_value_le Vs (xs (4 * t + 1)) (xs (4 * t + 2))
  refine W.eq (g2 := F0 m 517 ls [.int (nI (so_value Vs (xs (4 * t + 1)) (xs (4 * t + 2))).1)]) rfl ?_
  refine lv_istore hx hb d_law_517 hl (by decide) rfl (fun ls hl => ?_)
  have hl : lv_has ls 7 [(5, .int (nI (so_value Vs (xs (4 * t + 1)) (xs (4 * t + 2))).1)), (4, .int (nI (4 * t))), (3, .ref out), (2, .ref (am 0)), (1, .ref x), (0, .ref b)] := hl
  refine lv_aload_n hx hb d_law_519 rfl (lv_at hl 3 rfl) ?_
  refine lv_aload_n hx hb d_law_520 rfl (lv_at hl 5 rfl) ?_
  refine lv_iload hx hb d_law_521 (lv_at hl 1 rfl) ?_
  refine lv_iconst (v := nI 1) hx hb d_law_523 rfl ?_
  refine lv_iadd hx hb d_law_524 ?_
  refine fx_ti (y := nI (4 * t + 1)) (nI_add _ _) ?_
  refine fx_sld hx hb hX hbl hE rfl (show 4 * t + 1 < L by omega) hL2 d_law_525 ?_
  refine lv_aload_n hx hb d_law_526 rfl (lv_at hl 5 rfl) ?_
  refine lv_iload hx hb d_law_527 (lv_at hl 1 rfl) ?_
  refine lv_iconst (v := nI 2) hx hb d_law_529 rfl ?_
  refine lv_iadd hx hb d_law_530 ?_
  refine fx_ti (y := nI (4 * t + 2)) (nI_add _ _) ?_
  refine fx_sld hx hb hX hbl hE rfl (show 4 * t + 2 < L by omega) hL2 d_law_531 ?_
  refine fx_cV (B := fun q => s.heap.size ≤ q) KT_moved (ct_M_value w am hmI Vs (xs (4 * t + 1)) (xs (4 * t + 2)) S hA) hx hfl hK hb (by rw [hml]; exact hl.1) hown (hw _ mm_W_89) (fx_Y.code (hw _ mk_M_value)) (hw _ mi_M_value) (hw _ mq_M_value) (show fx_N y_M_value 2 by decide +kernel) (va_recv (q0 := 0) hKv hP (show cls[2]? = some (R_M, T_M, 8) from rfl) rfl) rfl ⟨Nat.le_of_ble_eq_true rfl, Nat.le_of_ble_eq_true rfl, by show nc + 9 + 0 ≤ 601024; omega, by show ns + 800 + 0 ≤ 7293034; omega⟩ hP d_law_532 hL (fun q h => by obtain ⟨i, hi, e⟩ := h; rw [e]; exact ham i hi) (fun v H2 locs hq hF hL => ?_) (fun xx H2 locs hq hF hL => by cases hq.1)
  obtain ⟨hv, S2, hP, hA, hth⟩ := hq
  cases hv
  have hT := lT_keep hT hF ham0
  have hJ := hJ.kept (hF.2.2 out hJ.lt hmo)
  have hE : fx_Ex s.heap H2 := by obtain ⟨ar, hS⟩ := hT; rw [← hH0]; exact hS.1
  refine W.eq (g2 := F0 m 535 ls [.int (so_value Vs (xs (4 * t + 1)) (xs (4 * t + 2))).2.1]) rfl ?_
  refine lv_istore hx hb d_law_535 hl (by decide) rfl (fun ls hl => ?_)
  have hl : lv_has ls 7 [(6, .int (so_value Vs (xs (4 * t + 1)) (xs (4 * t + 2))).2.1), (5, .int (nI (so_value Vs (xs (4 * t + 1)) (xs (4 * t + 2))).1)), (4, .int (nI (4 * t))), (3, .ref out), (2, .ref (am 0)), (1, .ref x), (0, .ref b)] := hl
  refine lv_aload_n hx hb d_law_537 rfl (lv_at hl 4 rfl) ?_
  refine fx_cV (B := fun q => s.heap.size ≤ q) KT_moved (ct_M_thrown w am hmI S2.1 S2.2.1 S2.2.2.1 S2.2.2.2.1 S2.2.2.2.2.1 S2.2.2.2.2.2.1 S2.2.2.2.2.2.2.1 S2.2.2.2.2.2.2.2) hx hfl hK hb (by rw [hml]; exact hl.1) hown (hw _ mm_W_66) (fx_Y.code (hw _ mk_M_thrown)) (hw _ mi_M_thrown) (hw _ mq_M_thrown) (show fx_N y_M_thrown 0 by decide +kernel) (va_recv (q0 := 0) hKv hP (show cls[2]? = some (R_M, T_M, 8) from rfl) rfl) rfl ⟨Nat.le_of_ble_eq_true rfl, Nat.le_of_ble_eq_true rfl, by show nc + 9 + 0 ≤ 601024; omega, by show ns + 800 + 0 ≤ 7293034; omega⟩ hP d_law_538 hL (fun q h => by obtain ⟨i, hi, e⟩ := h; rw [e]; exact ham i hi) (fun v H3 locs hq hF hL => ?_) (fun xx H3 locs hq hF hL => by cases hq.1)
  obtain ⟨hv, hP⟩ := hq
  cases hv
  have hT := lT_keep hT hF ham0
  have hJ := hJ.kept (hF.2.2 out hJ.lt hmo)
  have hE : fx_Ex s.heap H3 := by obtain ⟨ar, hS⟩ := hT; rw [← hH0]; exact hS.1
  refine W.eq (g2 := F0 m 541 ls [.int S2.2.1]) rfl ?_
  refine fx_ti (y := nI (so_value Vs (xs (4 * t + 1)) (xs (4 * t + 2))).1) (hth) ?_
  refine lv_iload hx hb d_law_541 (lv_at hl 1 rfl) ?_
  refine lv_icmp_eq (tgt := 548) hx hb d_law_543 rfl (fun _ => ?_) (fun h9 => absurd (rfl) h9)
  refine lv_iload hx hb d_law_548 (lv_at hl 1 rfl) ?_
  refine lv_if_ne (tgt := 565) hx hb d_law_550 rfl (fun h550 => ?_) (fun h550 => ?_)
  · refine lv_goto (tgt := 897) hx hb d_law_565 rfl ?_
    refine va_forget hL ?_
    refine W.widen (k := nc + 9) (n := ns + 800) (Nat.le_refl _) (Nat.le_refl _) ?_
    exact kn _ _ _ _ ⟨hT, hP, hA, _, hJ⟩ (lv_sub hl [2, 3, 4, 5, 6] rfl)
  · have h0 : (so_value Vs (xs (4 * t + 1)) (xs (4 * t + 2))).1 = 0 := (nI_eq (by omega) (by decide)).mp h550
    refine lv_aload_n hx hb d_law_553 rfl (lv_at hl 3 rfl) ?_
    refine lv_iconst (v := nI 0) hx hb d_law_554 rfl ?_
    refine fx_lald hx hb hKv 1 hJ rfl rfl (by decide) (by decide) d_law_555 (fx_tl (y := (so_value Vs (xs (4 * t + 1)) (xs (4 * t + 2))).2.1.toInt64) (hg h0) ?_)
    refine lv_iload hx hb d_law_556 (lv_at hl 0 rfl) ?_
    refine lv_i2l hx hb d_law_558 rfl ?_
    refine W.lcmp hx hb d_law_559 (fx_ti (y := nI 0) (lg_self _) ?_)
    refine lv_if_eq (tgt := 565) hx hb d_law_560 rfl (fun _ => ?_) (fun h9 => absurd (rfl) h9)
    refine lv_goto (tgt := 897) hx hb d_law_565 rfl ?_
    refine va_forget hL ?_
    refine W.widen (k := nc + 9) (n := ns + 800) (Nat.le_refl _) (Nat.le_refl _) ?_
    exact kn _ _ _ _ ⟨hT, hP, hA, _, hJ⟩ (lv_sub hl [2, 3, 4, 5, 6] rfl)
set_option maxHeartbeats 4000000 in
set_option maxRecDepth 100000 in
theorem lc_update {p : Program} {l : Launch} {e : Env} {s : State} {m : MethodId} {below : List Frame} {meth : Method} {c : Code} {w : Wd} {am : Nat → Nat} {x al out b L t nc ns : Nat} {xs : Nat → Int32} {Vs : List sV} {S : mS} {H : Heap} {ls : Array Slot} {Q : State → Prop} (C : lCtx p l s m c w am out b L xs) (ht : 4 * t + 4 ≤ L) (hn : nc + 9 ≤ 600000 ∧ ns + 800 ≤ 7000000) (hI : lInv w am x al out Vs S H) (hl : lv_has ls 7 [(4, .int (nI (4 * t))), (3, .ref out), (2, .ref (am 0)), (1, .ref x), (0, .ref b)]) (kn : ∀ (Vs : List sV) (S : mS) (H : Heap) (ls : Array Slot), lInv w am x al out Vs S H → lv_has ls 7 [(4, .int (nI (4 * t))), (3, .ref out), (2, .ref (am 0)), (1, .ref x), (0, .ref b)] → W p l e room_1 s m #[.ref b] below meth c H [] (nc + 9) (ns + 800) Q (F0 m 897 ls [])) : W p l e room_1 s m #[.ref b] below meth c H [] nc ns Q (F0 m 568 ls []) := by
  obtain ⟨hx, hfl, hK, hb, hml, hown, hH0, hX, hbl, hmI, ham, hout, hmo, hL2⟩ := C
  obtain ⟨hT, hP, hA, g, hJ⟩ := hI
  have hw : ∀ z ∈ gw, z.before #[.ref b] s = true := fun z hz => hK.1 z hz _
  have hKv := hK.2.1
  have hL : ∀ q ∈ ([] : List Loc), s.heap.size ≤ q.base := fun q hq => by cases hq
  have ham0 : ∀ i, i < 7 → w.H0.size ≤ am i := by rw [hH0]; exact ham
  have hE : fx_Ex s.heap H := by obtain ⟨ar, hS⟩ := hT; rw [← hH0]; exact hS.1
  have hl : lv_has ls 7 [(4, .int (nI (4 * t))), (3, .ref out), (2, .ref (am 0)), (1, .ref x), (0, .ref b)] := hl
  refine lv_aload_n hx hb d_law_568 rfl (lv_at hl 3 rfl) ?_
  refine lv_aload_n hx hb d_law_569 rfl (lv_at hl 4 rfl) ?_
  refine lv_iload hx hb d_law_570 (lv_at hl 0 rfl) ?_
  refine lv_iconst (v := nI 1) hx hb d_law_572 rfl ?_
  refine lv_iadd hx hb d_law_573 ?_
  refine fx_ti (y := nI (4 * t + 1)) (nI_add _ _) ?_
  refine fx_sld hx hb hX hbl hE rfl (show 4 * t + 1 < L by omega) hL2 d_law_574 ?_
  refine lv_aload_n hx hb d_law_575 rfl (lv_at hl 4 rfl) ?_
  refine lv_iload hx hb d_law_576 (lv_at hl 0 rfl) ?_
  refine lv_iconst (v := nI 2) hx hb d_law_578 rfl ?_
  refine lv_iadd hx hb d_law_579 ?_
  refine fx_ti (y := nI (4 * t + 2)) (nI_add _ _) ?_
  refine fx_sld hx hb hX hbl hE rfl (show 4 * t + 2 < L by omega) hL2 d_law_580 ?_
  refine lv_aload_n hx hb d_law_581 rfl (lv_at hl 4 rfl) ?_
  refine lv_iload hx hb d_law_582 (lv_at hl 0 rfl) ?_
  refine lv_iconst (v := nI 3) hx hb d_law_584 rfl ?_
  refine lv_iadd hx hb d_law_585 ?_
  refine fx_ti (y := nI (4 * t + 3)) (nI_add _ _) ?_
  refine fx_sld hx hb hX hbl hE rfl (show 4 * t + 3 < L by omega) hL2 d_law_586 ?_
  refine lv_aload_n hx hb d_law_587 rfl (lv_at hl 1 rfl) ?_
  refine fx_cS (B := fun q => s.heap.size ≤ q) KT_moved (ct_W_update w (lF am out) x al out Vs (xs (4 * t + 1)) (xs (4 * t + 2)) (xs (4 * t + 3)) (Or.inr rfl) (by rw [hH0]; exact hout)) hx hfl hK hb (by rw [hml]; exact hl.1) hown (hw _ mm_W_90) (fx_Y.codeWith (hw _ mk_W_update)) (hw _ ms_W_update) (hw _ mn_W) (show fx_N y_W_update 5 by decide +kernel) rfl ⟨Nat.le_of_ble_eq_true rfl, Nat.le_of_ble_eq_true rfl, by show nc + 9 ≤ 601024; omega, by show ns + 800 ≤ 7293034; omega⟩ ⟨hT, g, hJ⟩ d_law_588 hL (fun q h => h.elim (fun z => by rw [← hH0]; exact z.1) (fun z => by rw [z]; exact hout)) (fun v H1 locs hq hF hL => ?_) (fun xx H1 locs hq hF hL => by cases hq.1)
  obtain ⟨hv, hT, g, hJ, hg⟩ := hq
  cases hv
  have hP := lP_keep hP (fun i hi => hF.2.2 (am i) (mw_lt hP i hi) (fun z => z.elim (fun z => z.2 (Or.inl ⟨i, hi, rfl⟩)) (fun z => hmo ⟨i, hi, z.symm⟩)))
  have hE : fx_Ex s.heap H1 := by obtain ⟨ar, hS⟩ := hT; rw [← hH0]; exact hS.1
  have hle := so_update_le Vs (xs (4 * t + 1)) (xs (4 * t + 2)) (xs (4 * t + 3))
  refine W.eq (g2 := F0 m 591 ls [.int (nI (so_update Vs (xs (4 * t + 1)) (xs (4 * t + 2)) (xs (4 * t + 3))).1)]) rfl ?_
  refine lv_istore hx hb d_law_591 hl (by decide) rfl (fun ls hl => ?_)
  have hl : lv_has ls 7 [(5, .int (nI (so_update Vs (xs (4 * t + 1)) (xs (4 * t + 2)) (xs (4 * t + 3))).1)), (4, .int (nI (4 * t))), (3, .ref out), (2, .ref (am 0)), (1, .ref x), (0, .ref b)] := hl
  refine lv_aload_n hx hb d_law_593 rfl (lv_at hl 3 rfl) ?_
  refine lv_aload_n hx hb d_law_594 rfl (lv_at hl 5 rfl) ?_
  refine lv_iload hx hb d_law_595 (lv_at hl 1 rfl) ?_
  refine lv_iconst (v := nI 1) hx hb d_law_597 rfl ?_
  refine lv_iadd hx hb d_law_598 ?_
  refine fx_ti (y := nI (4 * t + 1)) (nI_add _ _) ?_
  refine fx_sld hx hb hX hbl hE rfl (show 4 * t + 1 < L by omega) hL2 d_law_599 ?_
  refine lv_aload_n hx hb d_law_600 rfl (lv_at hl 5 rfl) ?_
  refine lv_iload hx hb d_law_601 (lv_at hl 1 rfl) ?_
  refine lv_iconst (v := nI 2) hx hb d_law_603 rfl ?_
  refine lv_iadd hx hb d_law_604 ?_
  refine fx_ti (y := nI (4 * t + 2)) (nI_add _ _) ?_
  refine fx_sld hx hb hX hbl hE rfl (show 4 * t + 2 < L by omega) hL2 d_law_605 ?_
  refine lv_aload_n hx hb d_law_606 rfl (lv_at hl 5 rfl) ?_
  refine lv_iload hx hb d_law_607 (lv_at hl 1 rfl) ?_
  refine lv_iconst (v := nI 3) hx hb d_law_609 rfl ?_
  refine lv_iadd hx hb d_law_610 ?_
  refine fx_ti (y := nI (4 * t + 3)) (nI_add _ _) ?_
  refine fx_sld hx hb hX hbl hE rfl (show 4 * t + 3 < L by omega) hL2 d_law_611 ?_
  refine fx_cV (B := fun q => s.heap.size ≤ q) KT_moved (ct_M_update w am hmI Vs (xs (4 * t + 1)) (xs (4 * t + 2)) (xs (4 * t + 3)) S hA) hx hfl hK hb (by rw [hml]; exact hl.1) hown (hw _ mm_W_92) (fx_Y.code (hw _ mk_M_update)) (hw _ mi_M_update) (hw _ mq_M_update) (show fx_N y_M_update 3 by decide +kernel) (va_recv (q0 := 0) hKv hP (show cls[2]? = some (R_M, T_M, 8) from rfl) rfl) rfl ⟨Nat.le_of_ble_eq_true rfl, Nat.le_of_ble_eq_true rfl, by show nc + 9 + 0 ≤ 601024; omega, by show ns + 800 + 0 ≤ 7293034; omega⟩ hP d_law_612 hL (fun q h => by obtain ⟨i, hi, e⟩ := h; rw [e]; exact ham i hi) (fun v H2 locs hq hF hL => ?_) (fun xx H2 locs hq hF hL => by cases hq.1)
  obtain ⟨hv, S2, hP, hA, hth⟩ := hq
  cases hv
  have hT := lT_keep hT hF ham0
  have hJ := hJ.kept (hF.2.2 out hJ.lt hmo)
  have hE : fx_Ex s.heap H2 := by obtain ⟨ar, hS⟩ := hT; rw [← hH0]; exact hS.1
  refine W.eq (g2 := F0 m 615 ls [.int (so_update Vs (xs (4 * t + 1)) (xs (4 * t + 2)) (xs (4 * t + 3))).2.1]) rfl ?_
  refine lv_istore hx hb d_law_615 hl (by decide) rfl (fun ls hl => ?_)
  have hl : lv_has ls 7 [(6, .int (so_update Vs (xs (4 * t + 1)) (xs (4 * t + 2)) (xs (4 * t + 3))).2.1), (5, .int (nI (so_update Vs (xs (4 * t + 1)) (xs (4 * t + 2)) (xs (4 * t + 3))).1)), (4, .int (nI (4 * t))), (3, .ref out), (2, .ref (am 0)), (1, .ref x), (0, .ref b)] := hl
  refine lv_aload_n hx hb d_law_617 rfl (lv_at hl 4 rfl) ?_
  refine fx_cV (B := fun q => s.heap.size ≤ q) KT_moved (ct_M_thrown w am hmI S2.1 S2.2.1 S2.2.2.1 S2.2.2.2.1 S2.2.2.2.2.1 S2.2.2.2.2.2.1 S2.2.2.2.2.2.2.1 S2.2.2.2.2.2.2.2) hx hfl hK hb (by rw [hml]; exact hl.1) hown (hw _ mm_W_66) (fx_Y.code (hw _ mk_M_thrown)) (hw _ mi_M_thrown) (hw _ mq_M_thrown) (show fx_N y_M_thrown 0 by decide +kernel) (va_recv (q0 := 0) hKv hP (show cls[2]? = some (R_M, T_M, 8) from rfl) rfl) rfl ⟨Nat.le_of_ble_eq_true rfl, Nat.le_of_ble_eq_true rfl, by show nc + 9 + 0 ≤ 601024; omega, by show ns + 800 + 0 ≤ 7293034; omega⟩ hP d_law_618 hL (fun q h => by obtain ⟨i, hi, e⟩ := h; rw [e]; exact ham i hi) (fun v H3 locs hq hF hL => ?_) (fun xx H3 locs hq hF hL => by cases hq.1)
  obtain ⟨hv, hP⟩ := hq
  cases hv
  have hT := lT_keep hT hF ham0
  have hJ := hJ.kept (hF.2.2 out hJ.lt hmo)
  have hE : fx_Ex s.heap H3 := by obtain ⟨ar, hS⟩ := hT; rw [← hH0]; exact hS.1
  refine W.eq (g2 := F0 m 621 ls [.int S2.2.1]) rfl ?_
  refine fx_ti (y := nI (so_update Vs (xs (4 * t + 1)) (xs (4 * t + 2)) (xs (4 * t + 3))).1) (hth) ?_
  refine lv_iload hx hb d_law_621 (lv_at hl 1 rfl) ?_
  refine lv_icmp_eq (tgt := 628) hx hb d_law_623 rfl (fun _ => ?_) (fun h9 => absurd (rfl) h9)
  refine lv_iload hx hb d_law_628 (lv_at hl 1 rfl) ?_
  refine lv_if_ne (tgt := 645) hx hb d_law_630 rfl (fun h630 => ?_) (fun h630 => ?_)
  · refine lv_goto (tgt := 897) hx hb d_law_645 rfl ?_
    refine va_forget hL ?_
    refine W.widen (k := nc + 9) (n := ns + 800) (Nat.le_refl _) (Nat.le_refl _) ?_
    exact kn _ _ _ _ ⟨hT, hP, hA, _, hJ⟩ (lv_sub hl [2, 3, 4, 5, 6] rfl)
  · have h0 : (so_update Vs (xs (4 * t + 1)) (xs (4 * t + 2)) (xs (4 * t + 3))).1 = 0 := (nI_eq (by omega) (by decide)).mp h630
    refine lv_aload_n hx hb d_law_633 rfl (lv_at hl 3 rfl) ?_
    refine lv_iconst (v := nI 0) hx hb d_law_634 rfl ?_
    refine fx_lald hx hb hKv 1 hJ rfl rfl (by decide) (by decide) d_law_635 (fx_tl (y := (so_update Vs (xs (4 * t + 1)) (xs (4 * t + 2)) (xs (4 * t + 3))).2.1.toInt64) (hg h0) ?_)
    refine lv_iload hx hb d_law_636 (lv_at hl 0 rfl) ?_
    refine lv_i2l hx hb d_law_638 rfl ?_
    refine W.lcmp hx hb d_law_639 (fx_ti (y := nI 0) (lg_self _) ?_)
    refine lv_if_eq (tgt := 645) hx hb d_law_640 rfl (fun _ => ?_) (fun h9 => absurd (rfl) h9)
    refine lv_goto (tgt := 897) hx hb d_law_645 rfl ?_
    refine va_forget hL ?_
    refine W.widen (k := nc + 9) (n := ns + 800) (Nat.le_refl _) (Nat.le_refl _) ?_
    exact kn _ _ _ _ ⟨hT, hP, hA, _, hJ⟩ (lv_sub hl [2, 3, 4, 5, 6] rfl)
set_option maxHeartbeats 4000000 in
set_option maxRecDepth 100000 in
theorem lc_at {p : Program} {l : Launch} {e : Env} {s : State} {m : MethodId} {below : List Frame} {meth : Method} {c : Code} {w : Wd} {am : Nat → Nat} {x al out b L t nc ns : Nat} {xs : Nat → Int32} {Vs : List sV} {S : mS} {H : Heap} {ls : Array Slot} {Q : State → Prop} (C : lCtx p l s m c w am out b L xs) (ht : 4 * t + 4 ≤ L) (hn : nc + 9 ≤ 600000 ∧ ns + 800 ≤ 7000000) (hI : lInv w am x al out Vs S H) (hl : lv_has ls 7 [(4, .int (nI (4 * t))), (3, .ref out), (2, .ref (am 0)), (1, .ref x), (0, .ref b)]) (kn : ∀ (Vs : List sV) (S : mS) (H : Heap) (ls : Array Slot), lInv w am x al out Vs S H → lv_has ls 7 [(4, .int (nI (4 * t))), (3, .ref out), (2, .ref (am 0)), (1, .ref x), (0, .ref b)] → W p l e room_1 s m #[.ref b] below meth c H [] (nc + 9) (ns + 800) Q (F0 m 897 ls [])) : W p l e room_1 s m #[.ref b] below meth c H [] nc ns Q (F0 m 648 ls []) := by
  obtain ⟨hx, hfl, hK, hb, hml, hown, hH0, hX, hbl, hmI, ham, hout, hmo, hL2⟩ := C
  obtain ⟨hT, hP, hA, g, hJ⟩ := hI
  have hw : ∀ z ∈ gw, z.before #[.ref b] s = true := fun z hz => hK.1 z hz _
  have hKv := hK.2.1
  have hL : ∀ q ∈ ([] : List Loc), s.heap.size ≤ q.base := fun q hq => by cases hq
  have ham0 : ∀ i, i < 7 → w.H0.size ≤ am i := by rw [hH0]; exact ham
  have hE : fx_Ex s.heap H := by obtain ⟨ar, hS⟩ := hT; rw [← hH0]; exact hS.1
  have hl : lv_has ls 7 [(4, .int (nI (4 * t))), (3, .ref out), (2, .ref (am 0)), (1, .ref x), (0, .ref b)] := hl
  refine lv_aload_n hx hb d_law_648 rfl (lv_at hl 3 rfl) ?_
  refine lv_aload_n hx hb d_law_649 rfl (lv_at hl 4 rfl) ?_
  refine lv_iload hx hb d_law_650 (lv_at hl 0 rfl) ?_
  refine lv_iconst (v := nI 1) hx hb d_law_652 rfl ?_
  refine lv_iadd hx hb d_law_653 ?_
  refine fx_ti (y := nI (4 * t + 1)) (nI_add _ _) ?_
  refine fx_sld hx hb hX hbl hE rfl (show 4 * t + 1 < L by omega) hL2 d_law_654 ?_
  refine lv_aload_n hx hb d_law_655 rfl (lv_at hl 4 rfl) ?_
  refine lv_iload hx hb d_law_656 (lv_at hl 0 rfl) ?_
  refine lv_iconst (v := nI 2) hx hb d_law_658 rfl ?_
  refine lv_iadd hx hb d_law_659 ?_
  refine fx_ti (y := nI (4 * t + 2)) (nI_add _ _) ?_
  refine fx_sld hx hb hX hbl hE rfl (show 4 * t + 2 < L by omega) hL2 d_law_660 ?_
  refine lv_aload_n hx hb d_law_661 rfl (lv_at hl 1 rfl) ?_
  refine fx_cS (B := fun q => s.heap.size ≤ q) KT_moved (ct_W_at w (lF am out) x al out Vs (xs (4 * t + 1)) (xs (4 * t + 2)) (Or.inr rfl) (by rw [hH0]; exact hout)) hx hfl hK hb (by rw [hml]; exact hl.1) hown (hw _ mm_W_93) (fx_Y.codeWith (hw _ mk_W_at)) (hw _ ms_W_at) (hw _ mn_W) (show fx_N y_W_at 4 by decide +kernel) rfl ⟨Nat.le_of_ble_eq_true rfl, Nat.le_of_ble_eq_true rfl, by show nc + 9 ≤ 601024; omega, by show ns + 800 ≤ 7293034; omega⟩ ⟨hT, g, hJ⟩ d_law_662 hL (fun q h => h.elim (fun z => by rw [← hH0]; exact z.1) (fun z => by rw [z]; exact hout)) (fun v H1 locs hq hF hL => ?_) (fun xx H1 locs hq hF hL => by cases hq.1)
  obtain ⟨hv, hT, g, hJ, hg⟩ := hq
  cases hv
  have hP := lP_keep hP (fun i hi => hF.2.2 (am i) (mw_lt hP i hi) (fun z => z.elim (fun z => z.2 (Or.inl ⟨i, hi, rfl⟩)) (fun z => hmo ⟨i, hi, z.symm⟩)))
  have hE : fx_Ex s.heap H1 := by obtain ⟨ar, hS⟩ := hT; rw [← hH0]; exact hS.1
  have hle := so_at_le Vs (xs (4 * t + 1)) (xs (4 * t + 2))
  refine W.eq (g2 := F0 m 665 ls [.int (nI (so_at Vs (xs (4 * t + 1)) (xs (4 * t + 2))).1)]) rfl ?_
  refine lv_istore hx hb d_law_665 hl (by decide) rfl (fun ls hl => ?_)
  have hl : lv_has ls 7 [(5, .int (nI (so_at Vs (xs (4 * t + 1)) (xs (4 * t + 2))).1)), (4, .int (nI (4 * t))), (3, .ref out), (2, .ref (am 0)), (1, .ref x), (0, .ref b)] := hl
  refine lv_aload_n hx hb d_law_667 rfl (lv_at hl 3 rfl) ?_
  refine lv_aload_n hx hb d_law_668 rfl (lv_at hl 5 rfl) ?_
  refine lv_iload hx hb d_law_669 (lv_at hl 1 rfl) ?_
  refine lv_iconst (v := nI 1) hx hb d_law_671 rfl ?_
  refine lv_iadd hx hb d_law_672 ?_
  refine fx_ti (y := nI (4 * t + 1)) (nI_add _ _) ?_
  refine fx_sld hx hb hX hbl hE rfl (show 4 * t + 1 < L by omega) hL2 d_law_673 ?_
  refine lv_aload_n hx hb d_law_674 rfl (lv_at hl 5 rfl) ?_
  refine lv_iload hx hb d_law_675 (lv_at hl 1 rfl) ?_
  refine lv_iconst (v := nI 2) hx hb d_law_677 rfl ?_
  refine lv_iadd hx hb d_law_678 ?_
  refine fx_ti (y := nI (4 * t + 2)) (nI_add _ _) ?_
  refine fx_sld hx hb hX hbl hE rfl (show 4 * t + 2 < L by omega) hL2 d_law_679 ?_
  refine fx_cV (B := fun q => s.heap.size ≤ q) KT_moved (ct_M_at w am hmI Vs (xs (4 * t + 1)) (xs (4 * t + 2)) S hA) hx hfl hK hb (by rw [hml]; exact hl.1) hown (hw _ mm_W_95) (fx_Y.code (hw _ mk_M_at)) (hw _ mi_M_at) (hw _ mq_M_at) (show fx_N y_M_at 2 by decide +kernel) (va_recv (q0 := 0) hKv hP (show cls[2]? = some (R_M, T_M, 8) from rfl) rfl) rfl ⟨Nat.le_of_ble_eq_true rfl, Nat.le_of_ble_eq_true rfl, by show nc + 9 + 0 ≤ 601024; omega, by show ns + 800 + 0 ≤ 7293034; omega⟩ hP d_law_680 hL (fun q h => by obtain ⟨i, hi, e⟩ := h; rw [e]; exact ham i hi) (fun v H2 locs hq hF hL => ?_) (fun xx H2 locs hq hF hL => by cases hq.1)
  obtain ⟨hv, S2, hP, hA, hth⟩ := hq
  cases hv
  have hT := lT_keep hT hF ham0
  have hJ := hJ.kept (hF.2.2 out hJ.lt hmo)
  have hE : fx_Ex s.heap H2 := by obtain ⟨ar, hS⟩ := hT; rw [← hH0]; exact hS.1
  refine W.eq (g2 := F0 m 683 ls [.int (so_at Vs (xs (4 * t + 1)) (xs (4 * t + 2))).2.1]) rfl ?_
  refine lv_istore hx hb d_law_683 hl (by decide) rfl (fun ls hl => ?_)
  have hl : lv_has ls 7 [(6, .int (so_at Vs (xs (4 * t + 1)) (xs (4 * t + 2))).2.1), (5, .int (nI (so_at Vs (xs (4 * t + 1)) (xs (4 * t + 2))).1)), (4, .int (nI (4 * t))), (3, .ref out), (2, .ref (am 0)), (1, .ref x), (0, .ref b)] := hl
  refine lv_aload_n hx hb d_law_685 rfl (lv_at hl 4 rfl) ?_
  refine fx_cV (B := fun q => s.heap.size ≤ q) KT_moved (ct_M_thrown w am hmI S2.1 S2.2.1 S2.2.2.1 S2.2.2.2.1 S2.2.2.2.2.1 S2.2.2.2.2.2.1 S2.2.2.2.2.2.2.1 S2.2.2.2.2.2.2.2) hx hfl hK hb (by rw [hml]; exact hl.1) hown (hw _ mm_W_66) (fx_Y.code (hw _ mk_M_thrown)) (hw _ mi_M_thrown) (hw _ mq_M_thrown) (show fx_N y_M_thrown 0 by decide +kernel) (va_recv (q0 := 0) hKv hP (show cls[2]? = some (R_M, T_M, 8) from rfl) rfl) rfl ⟨Nat.le_of_ble_eq_true rfl, Nat.le_of_ble_eq_true rfl, by show nc + 9 + 0 ≤ 601024; omega, by show ns + 800 + 0 ≤ 7293034; omega⟩ hP d_law_686 hL (fun q h => by obtain ⟨i, hi, e⟩ := h; rw [e]; exact ham i hi) (fun v H3 locs hq hF hL => ?_) (fun xx H3 locs hq hF hL => by cases hq.1)
  obtain ⟨hv, hP⟩ := hq
  cases hv
  have hT := lT_keep hT hF ham0
  have hJ := hJ.kept (hF.2.2 out hJ.lt hmo)
  have hE : fx_Ex s.heap H3 := by obtain ⟨ar, hS⟩ := hT; rw [← hH0]; exact hS.1
  refine W.eq (g2 := F0 m 689 ls [.int S2.2.1]) rfl ?_
  refine fx_ti (y := nI (so_at Vs (xs (4 * t + 1)) (xs (4 * t + 2))).1) (hth) ?_
  refine lv_iload hx hb d_law_689 (lv_at hl 1 rfl) ?_
  refine lv_icmp_eq (tgt := 696) hx hb d_law_691 rfl (fun _ => ?_) (fun h9 => absurd (rfl) h9)
  refine lv_iload hx hb d_law_696 (lv_at hl 1 rfl) ?_
  refine lv_if_ne (tgt := 713) hx hb d_law_698 rfl (fun h698 => ?_) (fun h698 => ?_)
  · refine lv_goto (tgt := 897) hx hb d_law_713 rfl ?_
    refine va_forget hL ?_
    refine W.widen (k := nc + 9) (n := ns + 800) (Nat.le_refl _) (Nat.le_refl _) ?_
    exact kn _ _ _ _ ⟨hT, hP, hA, _, hJ⟩ (lv_sub hl [2, 3, 4, 5, 6] rfl)
  · have h0 : (so_at Vs (xs (4 * t + 1)) (xs (4 * t + 2))).1 = 0 := (nI_eq (by omega) (by decide)).mp h698
    refine lv_aload_n hx hb d_law_701 rfl (lv_at hl 3 rfl) ?_
    refine lv_iconst (v := nI 0) hx hb d_law_702 rfl ?_
    refine fx_lald hx hb hKv 1 hJ rfl rfl (by decide) (by decide) d_law_703 (fx_tl (y := (so_at Vs (xs (4 * t + 1)) (xs (4 * t + 2))).2.1.toInt64) (hg h0) ?_)
    refine lv_iload hx hb d_law_704 (lv_at hl 0 rfl) ?_
    refine lv_i2l hx hb d_law_706 rfl ?_
    refine W.lcmp hx hb d_law_707 (fx_ti (y := nI 0) (lg_self _) ?_)
    refine lv_if_eq (tgt := 713) hx hb d_law_708 rfl (fun _ => ?_) (fun h9 => absurd (rfl) h9)
    refine lv_goto (tgt := 897) hx hb d_law_713 rfl ?_
    refine va_forget hL ?_
    refine W.widen (k := nc + 9) (n := ns + 800) (Nat.le_refl _) (Nat.le_refl _) ?_
    exact kn _ _ _ _ ⟨hT, hP, hA, _, hJ⟩ (lv_sub hl [2, 3, 4, 5, 6] rfl)
set_option maxHeartbeats 4000000 in
set_option maxRecDepth 100000 in
theorem lc_size {p : Program} {l : Launch} {e : Env} {s : State} {m : MethodId} {below : List Frame} {meth : Method} {c : Code} {w : Wd} {am : Nat → Nat} {x al out b L t nc ns : Nat} {xs : Nat → Int32} {Vs : List sV} {S : mS} {H : Heap} {ls : Array Slot} {Q : State → Prop} (C : lCtx p l s m c w am out b L xs) (ht : 4 * t + 4 ≤ L) (hn : nc + 9 ≤ 600000 ∧ ns + 800 ≤ 7000000) (hI : lInv w am x al out Vs S H) (hl : lv_has ls 7 [(4, .int (nI (4 * t))), (3, .ref out), (2, .ref (am 0)), (1, .ref x), (0, .ref b)]) (kn : ∀ (Vs : List sV) (S : mS) (H : Heap) (ls : Array Slot), lInv w am x al out Vs S H → lv_has ls 7 [(4, .int (nI (4 * t))), (3, .ref out), (2, .ref (am 0)), (1, .ref x), (0, .ref b)] → W p l e room_1 s m #[.ref b] below meth c H [] (nc + 9) (ns + 800) Q (F0 m 897 ls [])) : W p l e room_1 s m #[.ref b] below meth c H [] nc ns Q (F0 m 716 ls []) := by
  obtain ⟨hx, hfl, hK, hb, hml, hown, hH0, hX, hbl, hmI, ham, hout, hmo, hL2⟩ := C
  obtain ⟨hT, hP, hA, g, hJ⟩ := hI
  have hw : ∀ z ∈ gw, z.before #[.ref b] s = true := fun z hz => hK.1 z hz _
  have hKv := hK.2.1
  have hL : ∀ q ∈ ([] : List Loc), s.heap.size ≤ q.base := fun q hq => by cases hq
  have ham0 : ∀ i, i < 7 → w.H0.size ≤ am i := by rw [hH0]; exact ham
  have hE : fx_Ex s.heap H := by obtain ⟨ar, hS⟩ := hT; rw [← hH0]; exact hS.1
  have hl : lv_has ls 7 [(4, .int (nI (4 * t))), (3, .ref out), (2, .ref (am 0)), (1, .ref x), (0, .ref b)] := hl
  refine lv_aload_n hx hb d_law_716 rfl (lv_at hl 3 rfl) ?_
  refine lv_aload_n hx hb d_law_717 rfl (lv_at hl 4 rfl) ?_
  refine lv_iload hx hb d_law_718 (lv_at hl 0 rfl) ?_
  refine lv_iconst (v := nI 1) hx hb d_law_720 rfl ?_
  refine lv_iadd hx hb d_law_721 ?_
  refine fx_ti (y := nI (4 * t + 1)) (nI_add _ _) ?_
  refine fx_sld hx hb hX hbl hE rfl (show 4 * t + 1 < L by omega) hL2 d_law_722 ?_
  refine lv_aload_n hx hb d_law_723 rfl (lv_at hl 1 rfl) ?_
  refine fx_cS (B := fun q => s.heap.size ≤ q) KT_moved (ct_W_size w (lF am out) x al out Vs (xs (4 * t + 1)) (Or.inr rfl) (by rw [hH0]; exact hout)) hx hfl hK hb (by rw [hml]; exact hl.1) hown (hw _ mm_W_96) (fx_Y.codeWith (hw _ mk_W_size)) (hw _ ms_W_size) (hw _ mn_W) (show fx_N y_W_size 3 by decide +kernel) rfl ⟨Nat.le_of_ble_eq_true rfl, Nat.le_of_ble_eq_true rfl, by show nc + 9 ≤ 601024; omega, by show ns + 800 ≤ 7293034; omega⟩ ⟨hT, g, hJ⟩ d_law_724 hL (fun q h => h.elim (fun z => by rw [← hH0]; exact z.1) (fun z => by rw [z]; exact hout)) (fun v H1 locs hq hF hL => ?_) (fun xx H1 locs hq hF hL => by cases hq.1)
  obtain ⟨hv, hT, g, hJ, hg⟩ := hq
  cases hv
  have hP := lP_keep hP (fun i hi => hF.2.2 (am i) (mw_lt hP i hi) (fun z => z.elim (fun z => z.2 (Or.inl ⟨i, hi, rfl⟩)) (fun z => hmo ⟨i, hi, z.symm⟩)))
  have hE : fx_Ex s.heap H1 := by obtain ⟨ar, hS⟩ := hT; rw [← hH0]; exact hS.1
  have hle := so_size_le Vs (xs (4 * t + 1))
  refine W.eq (g2 := F0 m 727 ls [.int (nI (so_size Vs (xs (4 * t + 1))).1)]) rfl ?_
  refine lv_istore hx hb d_law_727 hl (by decide) rfl (fun ls hl => ?_)
  have hl : lv_has ls 7 [(5, .int (nI (so_size Vs (xs (4 * t + 1))).1)), (4, .int (nI (4 * t))), (3, .ref out), (2, .ref (am 0)), (1, .ref x), (0, .ref b)] := hl
  refine lv_aload_n hx hb d_law_729 rfl (lv_at hl 3 rfl) ?_
  refine lv_aload_n hx hb d_law_730 rfl (lv_at hl 5 rfl) ?_
  refine lv_iload hx hb d_law_731 (lv_at hl 1 rfl) ?_
  refine lv_iconst (v := nI 1) hx hb d_law_733 rfl ?_
  refine lv_iadd hx hb d_law_734 ?_
  refine fx_ti (y := nI (4 * t + 1)) (nI_add _ _) ?_
  refine fx_sld hx hb hX hbl hE rfl (show 4 * t + 1 < L by omega) hL2 d_law_735 ?_
  refine fx_cV (B := fun q => s.heap.size ≤ q) KT_moved (ct_M_size w am hmI Vs (xs (4 * t + 1)) S hA) hx hfl hK hb (by rw [hml]; exact hl.1) hown (hw _ mm_W_98) (fx_Y.code (hw _ mk_M_size)) (hw _ mi_M_size) (hw _ mq_M_size) (show fx_N y_M_size 1 by decide +kernel) (va_recv (q0 := 0) hKv hP (show cls[2]? = some (R_M, T_M, 8) from rfl) rfl) rfl ⟨Nat.le_of_ble_eq_true rfl, Nat.le_of_ble_eq_true rfl, by show nc + 9 + 0 ≤ 601024; omega, by show ns + 800 + 0 ≤ 7293034; omega⟩ hP d_law_736 hL (fun q h => by obtain ⟨i, hi, e⟩ := h; rw [e]; exact ham i hi) (fun v H2 locs hq hF hL => ?_) (fun xx H2 locs hq hF hL => by cases hq.1)
  obtain ⟨hv, S2, hP, hA, hth⟩ := hq
  cases hv
  have hT := lT_keep hT hF ham0
  have hJ := hJ.kept (hF.2.2 out hJ.lt hmo)
  have hE : fx_Ex s.heap H2 := by obtain ⟨ar, hS⟩ := hT; rw [← hH0]; exact hS.1
  refine W.eq (g2 := F0 m 739 ls [.int (so_size Vs (xs (4 * t + 1))).2.1]) rfl ?_
  refine lv_istore hx hb d_law_739 hl (by decide) rfl (fun ls hl => ?_)
  have hl : lv_has ls 7 [(6, .int (so_size Vs (xs (4 * t + 1))).2.1), (5, .int (nI (so_size Vs (xs (4 * t + 1))).1)), (4, .int (nI (4 * t))), (3, .ref out), (2, .ref (am 0)), (1, .ref x), (0, .ref b)] := hl
  refine lv_aload_n hx hb d_law_741 rfl (lv_at hl 4 rfl) ?_
  refine fx_cV (B := fun q => s.heap.size ≤ q) KT_moved (ct_M_thrown w am hmI S2.1 S2.2.1 S2.2.2.1 S2.2.2.2.1 S2.2.2.2.2.1 S2.2.2.2.2.2.1 S2.2.2.2.2.2.2.1 S2.2.2.2.2.2.2.2) hx hfl hK hb (by rw [hml]; exact hl.1) hown (hw _ mm_W_66) (fx_Y.code (hw _ mk_M_thrown)) (hw _ mi_M_thrown) (hw _ mq_M_thrown) (show fx_N y_M_thrown 0 by decide +kernel) (va_recv (q0 := 0) hKv hP (show cls[2]? = some (R_M, T_M, 8) from rfl) rfl) rfl ⟨Nat.le_of_ble_eq_true rfl, Nat.le_of_ble_eq_true rfl, by show nc + 9 + 0 ≤ 601024; omega, by show ns + 800 + 0 ≤ 7293034; omega⟩ hP d_law_742 hL (fun q h => by obtain ⟨i, hi, e⟩ := h; rw [e]; exact ham i hi) (fun v H3 locs hq hF hL => ?_) (fun xx H3 locs hq hF hL => by cases hq.1)
  obtain ⟨hv, hP⟩ := hq
  cases hv
  have hT := lT_keep hT hF ham0
  have hJ := hJ.kept (hF.2.2 out hJ.lt hmo)
  have hE : fx_Ex s.heap H3 := by obtain ⟨ar, hS⟩ := hT; rw [← hH0]; exact hS.1
  refine W.eq (g2 := F0 m 745 ls [.int S2.2.1]) rfl ?_
  refine fx_ti (y := nI (so_size Vs (xs (4 * t + 1))).1) (hth) ?_
  refine lv_iload hx hb d_law_745 (lv_at hl 1 rfl) ?_
  refine lv_icmp_eq (tgt := 752) hx hb d_law_747 rfl (fun _ => ?_) (fun h9 => absurd (rfl) h9)
  refine lv_iload hx hb d_law_752 (lv_at hl 1 rfl) ?_
  refine lv_if_ne (tgt := 769) hx hb d_law_754 rfl (fun h754 => ?_) (fun h754 => ?_)
  · refine lv_goto (tgt := 897) hx hb d_law_769 rfl ?_
    refine va_forget hL ?_
    refine W.widen (k := nc + 9) (n := ns + 800) (Nat.le_refl _) (Nat.le_refl _) ?_
    exact kn _ _ _ _ ⟨hT, hP, hA, _, hJ⟩ (lv_sub hl [2, 3, 4, 5, 6] rfl)
  · have h0 : (so_size Vs (xs (4 * t + 1))).1 = 0 := (nI_eq (by omega) (by decide)).mp h754
    refine lv_aload_n hx hb d_law_757 rfl (lv_at hl 3 rfl) ?_
    refine lv_iconst (v := nI 0) hx hb d_law_758 rfl ?_
    refine fx_lald hx hb hKv 1 hJ rfl rfl (by decide) (by decide) d_law_759 (fx_tl (y := (so_size Vs (xs (4 * t + 1))).2.1.toInt64) (hg h0) ?_)
    refine lv_iload hx hb d_law_760 (lv_at hl 0 rfl) ?_
    refine lv_i2l hx hb d_law_762 rfl ?_
    refine W.lcmp hx hb d_law_763 (fx_ti (y := nI 0) (lg_self _) ?_)
    refine lv_if_eq (tgt := 769) hx hb d_law_764 rfl (fun _ => ?_) (fun h9 => absurd (rfl) h9)
    refine lv_goto (tgt := 897) hx hb d_law_769 rfl ?_
    refine va_forget hL ?_
    refine W.widen (k := nc + 9) (n := ns + 800) (Nat.le_refl _) (Nat.le_refl _) ?_
    exact kn _ _ _ _ ⟨hT, hP, hA, _, hJ⟩ (lv_sub hl [2, 3, 4, 5, 6] rfl)
set_option maxHeartbeats 4000000 in
set_option maxRecDepth 100000 in
theorem lc_parts {p : Program} {l : Launch} {e : Env} {s : State} {m : MethodId} {below : List Frame} {meth : Method} {c : Code} {w : Wd} {am : Nat → Nat} {x al out b L t nc ns : Nat} {xs : Nat → Int32} {Vs : List sV} {S : mS} {H : Heap} {ls : Array Slot} {Q : State → Prop} (C : lCtx p l s m c w am out b L xs) (ht : 4 * t + 4 ≤ L) (hn : nc + 9 ≤ 600000 ∧ ns + 800 ≤ 7000000) (hI : lInv w am x al out Vs S H) (hl : lv_has ls 7 [(4, .int (nI (4 * t))), (3, .ref out), (2, .ref (am 0)), (1, .ref x), (0, .ref b)]) (kn : ∀ (Vs : List sV) (S : mS) (H : Heap) (ls : Array Slot), lInv w am x al out Vs S H → lv_has ls 7 [(4, .int (nI (4 * t))), (3, .ref out), (2, .ref (am 0)), (1, .ref x), (0, .ref b)] → W p l e room_1 s m #[.ref b] below meth c H [] (nc + 9) (ns + 800) Q (F0 m 897 ls [])) : W p l e room_1 s m #[.ref b] below meth c H [] nc ns Q (F0 m 772 ls []) := by
  obtain ⟨hx, hfl, hK, hb, hml, hown, hH0, hX, hbl, hmI, ham, hout, hmo, hL2⟩ := C
  obtain ⟨hT, hP, hA, g, hJ⟩ := hI
  have hw : ∀ z ∈ gw, z.before #[.ref b] s = true := fun z hz => hK.1 z hz _
  have hKv := hK.2.1
  have hL : ∀ q ∈ ([] : List Loc), s.heap.size ≤ q.base := fun q hq => by cases hq
  have ham0 : ∀ i, i < 7 → w.H0.size ≤ am i := by rw [hH0]; exact ham
  have hE : fx_Ex s.heap H := by obtain ⟨ar, hS⟩ := hT; rw [← hH0]; exact hS.1
  have hl : lv_has ls 7 [(4, .int (nI (4 * t))), (3, .ref out), (2, .ref (am 0)), (1, .ref x), (0, .ref b)] := hl
  refine lv_aload_n hx hb d_law_772 rfl (lv_at hl 3 rfl) ?_
  refine lv_aload_n hx hb d_law_773 rfl (lv_at hl 4 rfl) ?_
  refine lv_iload hx hb d_law_774 (lv_at hl 0 rfl) ?_
  refine lv_iconst (v := nI 1) hx hb d_law_776 rfl ?_
  refine lv_iadd hx hb d_law_777 ?_
  refine fx_ti (y := nI (4 * t + 1)) (nI_add _ _) ?_
  refine fx_sld hx hb hX hbl hE rfl (show 4 * t + 1 < L by omega) hL2 d_law_778 ?_
  refine lv_aload_n hx hb d_law_779 rfl (lv_at hl 1 rfl) ?_
  refine fx_cS (B := fun q => s.heap.size ≤ q) KT_moved (ct_W_parts w (lF am out) x al out Vs (xs (4 * t + 1)) (Or.inr rfl) (by rw [hH0]; exact hout)) hx hfl hK hb (by rw [hml]; exact hl.1) hown (hw _ mm_W_99) (fx_Y.codeWith (hw _ mk_W_parts)) (hw _ ms_W_parts) (hw _ mn_W) (show fx_N y_W_parts 3 by decide +kernel) rfl ⟨Nat.le_of_ble_eq_true rfl, Nat.le_of_ble_eq_true rfl, by show nc + 9 ≤ 601024; omega, by show ns + 800 ≤ 7293034; omega⟩ ⟨hT, g, hJ⟩ d_law_780 hL (fun q h => h.elim (fun z => by rw [← hH0]; exact z.1) (fun z => by rw [z]; exact hout)) (fun v H1 locs hq hF hL => ?_) (fun xx H1 locs hq hF hL => by cases hq.1)
  obtain ⟨hv, hT, g, hJ, hg⟩ := hq
  cases hv
  have hP := lP_keep hP (fun i hi => hF.2.2 (am i) (mw_lt hP i hi) (fun z => z.elim (fun z => z.2 (Or.inl ⟨i, hi, rfl⟩)) (fun z => hmo ⟨i, hi, z.symm⟩)))
  have hE : fx_Ex s.heap H1 := by obtain ⟨ar, hS⟩ := hT; rw [← hH0]; exact hS.1
  have hle := so_parts_le Vs (xs (4 * t + 1))
  refine W.eq (g2 := F0 m 783 ls [.int (nI (so_parts Vs (xs (4 * t + 1))).1)]) rfl ?_
  refine lv_istore hx hb d_law_783 hl (by decide) rfl (fun ls hl => ?_)
  have hl : lv_has ls 7 [(5, .int (nI (so_parts Vs (xs (4 * t + 1))).1)), (4, .int (nI (4 * t))), (3, .ref out), (2, .ref (am 0)), (1, .ref x), (0, .ref b)] := hl
  refine lv_aload_n hx hb d_law_785 rfl (lv_at hl 3 rfl) ?_
  refine lv_aload_n hx hb d_law_786 rfl (lv_at hl 5 rfl) ?_
  refine lv_iload hx hb d_law_787 (lv_at hl 1 rfl) ?_
  refine lv_iconst (v := nI 1) hx hb d_law_789 rfl ?_
  refine lv_iadd hx hb d_law_790 ?_
  refine fx_ti (y := nI (4 * t + 1)) (nI_add _ _) ?_
  refine fx_sld hx hb hX hbl hE rfl (show 4 * t + 1 < L by omega) hL2 d_law_791 ?_
  refine fx_cV (B := fun q => s.heap.size ≤ q) KT_moved (ct_M_parts w am hmI Vs (xs (4 * t + 1)) S hA) hx hfl hK hb (by rw [hml]; exact hl.1) hown (hw _ mm_W_101) (fx_Y.code (hw _ mk_M_parts)) (hw _ mi_M_parts) (hw _ mq_M_parts) (show fx_N y_M_parts 1 by decide +kernel) (va_recv (q0 := 0) hKv hP (show cls[2]? = some (R_M, T_M, 8) from rfl) rfl) rfl ⟨Nat.le_of_ble_eq_true rfl, Nat.le_of_ble_eq_true rfl, by show nc + 9 + 0 ≤ 601024; omega, by show ns + 800 + 0 ≤ 7293034; omega⟩ hP d_law_792 hL (fun q h => by obtain ⟨i, hi, e⟩ := h; rw [e]; exact ham i hi) (fun v H2 locs hq hF hL => ?_) (fun xx H2 locs hq hF hL => by cases hq.1)
  obtain ⟨hv, S2, hP, hA, hth⟩ := hq
  cases hv
  have hT := lT_keep hT hF ham0
  have hJ := hJ.kept (hF.2.2 out hJ.lt hmo)
  have hE : fx_Ex s.heap H2 := by obtain ⟨ar, hS⟩ := hT; rw [← hH0]; exact hS.1
  refine W.eq (g2 := F0 m 795 ls [.int (so_parts Vs (xs (4 * t + 1))).2.1]) rfl ?_
  refine lv_istore hx hb d_law_795 hl (by decide) rfl (fun ls hl => ?_)
  have hl : lv_has ls 7 [(6, .int (so_parts Vs (xs (4 * t + 1))).2.1), (5, .int (nI (so_parts Vs (xs (4 * t + 1))).1)), (4, .int (nI (4 * t))), (3, .ref out), (2, .ref (am 0)), (1, .ref x), (0, .ref b)] := hl
  refine lv_aload_n hx hb d_law_797 rfl (lv_at hl 4 rfl) ?_
  refine fx_cV (B := fun q => s.heap.size ≤ q) KT_moved (ct_M_thrown w am hmI S2.1 S2.2.1 S2.2.2.1 S2.2.2.2.1 S2.2.2.2.2.1 S2.2.2.2.2.2.1 S2.2.2.2.2.2.2.1 S2.2.2.2.2.2.2.2) hx hfl hK hb (by rw [hml]; exact hl.1) hown (hw _ mm_W_66) (fx_Y.code (hw _ mk_M_thrown)) (hw _ mi_M_thrown) (hw _ mq_M_thrown) (show fx_N y_M_thrown 0 by decide +kernel) (va_recv (q0 := 0) hKv hP (show cls[2]? = some (R_M, T_M, 8) from rfl) rfl) rfl ⟨Nat.le_of_ble_eq_true rfl, Nat.le_of_ble_eq_true rfl, by show nc + 9 + 0 ≤ 601024; omega, by show ns + 800 + 0 ≤ 7293034; omega⟩ hP d_law_798 hL (fun q h => by obtain ⟨i, hi, e⟩ := h; rw [e]; exact ham i hi) (fun v H3 locs hq hF hL => ?_) (fun xx H3 locs hq hF hL => by cases hq.1)
  obtain ⟨hv, hP⟩ := hq
  cases hv
  have hT := lT_keep hT hF ham0
  have hJ := hJ.kept (hF.2.2 out hJ.lt hmo)
  have hE : fx_Ex s.heap H3 := by obtain ⟨ar, hS⟩ := hT; rw [← hH0]; exact hS.1
  refine W.eq (g2 := F0 m 801 ls [.int S2.2.1]) rfl ?_
  refine fx_ti (y := nI (so_parts Vs (xs (4 * t + 1))).1) (hth) ?_
  refine lv_iload hx hb d_law_801 (lv_at hl 1 rfl) ?_
  refine lv_icmp_eq (tgt := 808) hx hb d_law_803 rfl (fun _ => ?_) (fun h9 => absurd (rfl) h9)
  refine lv_iload hx hb d_law_808 (lv_at hl 1 rfl) ?_
  refine lv_if_ne (tgt := 825) hx hb d_law_810 rfl (fun h810 => ?_) (fun h810 => ?_)
  · refine lv_goto (tgt := 897) hx hb d_law_825 rfl ?_
    refine va_forget hL ?_
    refine W.widen (k := nc + 9) (n := ns + 800) (Nat.le_refl _) (Nat.le_refl _) ?_
    exact kn _ _ _ _ ⟨hT, hP, hA, _, hJ⟩ (lv_sub hl [2, 3, 4, 5, 6] rfl)
  · have h0 : (so_parts Vs (xs (4 * t + 1))).1 = 0 := (nI_eq (by omega) (by decide)).mp h810
    refine lv_aload_n hx hb d_law_813 rfl (lv_at hl 3 rfl) ?_
    refine lv_iconst (v := nI 0) hx hb d_law_814 rfl ?_
    refine fx_lald hx hb hKv 1 hJ rfl rfl (by decide) (by decide) d_law_815 (fx_tl (y := (so_parts Vs (xs (4 * t + 1))).2.1.toInt64) (hg h0) ?_)
    refine lv_iload hx hb d_law_816 (lv_at hl 0 rfl) ?_
    refine lv_i2l hx hb d_law_818 rfl ?_
    refine W.lcmp hx hb d_law_819 (fx_ti (y := nI 0) (lg_self _) ?_)
    refine lv_if_eq (tgt := 825) hx hb d_law_820 rfl (fun _ => ?_) (fun h9 => absurd (rfl) h9)
    refine lv_goto (tgt := 897) hx hb d_law_825 rfl ?_
    refine va_forget hL ?_
    refine W.widen (k := nc + 9) (n := ns + 800) (Nat.le_refl _) (Nat.le_refl _) ?_
    exact kn _ _ _ _ ⟨hT, hP, hA, _, hJ⟩ (lv_sub hl [2, 3, 4, 5, 6] rfl)
set_option maxHeartbeats 4000000 in
set_option maxRecDepth 100000 in
theorem lc_kind {p : Program} {l : Launch} {e : Env} {s : State} {m : MethodId} {below : List Frame} {meth : Method} {c : Code} {w : Wd} {am : Nat → Nat} {x al out b L t nc ns : Nat} {xs : Nat → Int32} {Vs : List sV} {S : mS} {H : Heap} {ls : Array Slot} {Q : State → Prop} (C : lCtx p l s m c w am out b L xs) (ht : 4 * t + 4 ≤ L) (hn : nc + 9 ≤ 600000 ∧ ns + 800 ≤ 7000000) (hI : lInv w am x al out Vs S H) (hl : lv_has ls 7 [(4, .int (nI (4 * t))), (3, .ref out), (2, .ref (am 0)), (1, .ref x), (0, .ref b)]) (kn : ∀ (Vs : List sV) (S : mS) (H : Heap) (ls : Array Slot), lInv w am x al out Vs S H → lv_has ls 7 [(4, .int (nI (4 * t))), (3, .ref out), (2, .ref (am 0)), (1, .ref x), (0, .ref b)] → W p l e room_1 s m #[.ref b] below meth c H [] (nc + 9) (ns + 800) Q (F0 m 897 ls [])) : W p l e room_1 s m #[.ref b] below meth c H [] nc ns Q (F0 m 828 ls []) := by
  obtain ⟨hx, hfl, hK, hb, hml, hown, hH0, hX, hbl, hmI, ham, hout, hmo, hL2⟩ := C
  obtain ⟨hT, hP, hA, g, hJ⟩ := hI
  have hw : ∀ z ∈ gw, z.before #[.ref b] s = true := fun z hz => hK.1 z hz _
  have hKv := hK.2.1
  have hL : ∀ q ∈ ([] : List Loc), s.heap.size ≤ q.base := fun q hq => by cases hq
  have ham0 : ∀ i, i < 7 → w.H0.size ≤ am i := by rw [hH0]; exact ham
  have hE : fx_Ex s.heap H := by obtain ⟨ar, hS⟩ := hT; rw [← hH0]; exact hS.1
  have hl : lv_has ls 7 [(4, .int (nI (4 * t))), (3, .ref out), (2, .ref (am 0)), (1, .ref x), (0, .ref b)] := hl
  refine lv_aload_n hx hb d_law_828 rfl (lv_at hl 3 rfl) ?_
  refine lv_aload_n hx hb d_law_829 rfl (lv_at hl 4 rfl) ?_
  refine lv_iload hx hb d_law_830 (lv_at hl 0 rfl) ?_
  refine lv_iconst (v := nI 1) hx hb d_law_832 rfl ?_
  refine lv_iadd hx hb d_law_833 ?_
  refine fx_ti (y := nI (4 * t + 1)) (nI_add _ _) ?_
  refine fx_sld hx hb hX hbl hE rfl (show 4 * t + 1 < L by omega) hL2 d_law_834 ?_
  refine lv_aload_n hx hb d_law_835 rfl (lv_at hl 1 rfl) ?_
  refine fx_cS (B := fun q => s.heap.size ≤ q) KT_moved (ct_W_kind w (lF am out) x al out Vs (xs (4 * t + 1)) (Or.inr rfl) (by rw [hH0]; exact hout)) hx hfl hK hb (by rw [hml]; exact hl.1) hown (hw _ mm_W_102) (fx_Y.codeWith (hw _ mk_W_kind)) (hw _ ms_W_kind) (hw _ mn_W) (show fx_N y_W_kind 3 by decide +kernel) rfl ⟨Nat.le_of_ble_eq_true rfl, Nat.le_of_ble_eq_true rfl, by show nc + 9 ≤ 601024; omega, by show ns + 800 ≤ 7293034; omega⟩ ⟨hT, g, hJ⟩ d_law_836 hL (fun q h => h.elim (fun z => by rw [← hH0]; exact z.1) (fun z => by rw [z]; exact hout)) (fun v H1 locs hq hF hL => ?_) (fun xx H1 locs hq hF hL => by cases hq.1)
  obtain ⟨hv, hT, g, hJ, hg⟩ := hq
  cases hv
  have hP := lP_keep hP (fun i hi => hF.2.2 (am i) (mw_lt hP i hi) (fun z => z.elim (fun z => z.2 (Or.inl ⟨i, hi, rfl⟩)) (fun z => hmo ⟨i, hi, z.symm⟩)))
  have hE : fx_Ex s.heap H1 := by obtain ⟨ar, hS⟩ := hT; rw [← hH0]; exact hS.1
  have hle := so_kind_le Vs (xs (4 * t + 1))
  refine W.eq (g2 := F0 m 839 ls [.int (nI (so_kind Vs (xs (4 * t + 1))).1)]) rfl ?_
  refine lv_istore hx hb d_law_839 hl (by decide) rfl (fun ls hl => ?_)
  have hl : lv_has ls 7 [(5, .int (nI (so_kind Vs (xs (4 * t + 1))).1)), (4, .int (nI (4 * t))), (3, .ref out), (2, .ref (am 0)), (1, .ref x), (0, .ref b)] := hl
  refine lv_aload_n hx hb d_law_841 rfl (lv_at hl 3 rfl) ?_
  refine lv_aload_n hx hb d_law_842 rfl (lv_at hl 5 rfl) ?_
  refine lv_iload hx hb d_law_843 (lv_at hl 1 rfl) ?_
  refine lv_iconst (v := nI 1) hx hb d_law_845 rfl ?_
  refine lv_iadd hx hb d_law_846 ?_
  refine fx_ti (y := nI (4 * t + 1)) (nI_add _ _) ?_
  refine fx_sld hx hb hX hbl hE rfl (show 4 * t + 1 < L by omega) hL2 d_law_847 ?_
  refine fx_cV (B := fun q => s.heap.size ≤ q) KT_moved (ct_M_kind w am hmI Vs (xs (4 * t + 1)) S hA) hx hfl hK hb (by rw [hml]; exact hl.1) hown (hw _ mm_W_104) (fx_Y.code (hw _ mk_M_kind)) (hw _ mi_M_kind) (hw _ mq_M_kind) (show fx_N y_M_kind 1 by decide +kernel) (va_recv (q0 := 0) hKv hP (show cls[2]? = some (R_M, T_M, 8) from rfl) rfl) rfl ⟨Nat.le_of_ble_eq_true rfl, Nat.le_of_ble_eq_true rfl, by show nc + 9 + 0 ≤ 601024; omega, by show ns + 800 + 0 ≤ 7293034; omega⟩ hP d_law_848 hL (fun q h => by obtain ⟨i, hi, e⟩ := h; rw [e]; exact ham i hi) (fun v H2 locs hq hF hL => ?_) (fun xx H2 locs hq hF hL => by cases hq.1)
  obtain ⟨hv, S2, hP, hA, hth⟩ := hq
  cases hv
  have hT := lT_keep hT hF ham0
  have hJ := hJ.kept (hF.2.2 out hJ.lt hmo)
  have hE : fx_Ex s.heap H2 := by obtain ⟨ar, hS⟩ := hT; rw [← hH0]; exact hS.1
  refine W.eq (g2 := F0 m 851 ls [.int (so_kind Vs (xs (4 * t + 1))).2.1]) rfl ?_
  refine lv_istore hx hb d_law_851 hl (by decide) rfl (fun ls hl => ?_)
  have hl : lv_has ls 7 [(6, .int (so_kind Vs (xs (4 * t + 1))).2.1), (5, .int (nI (so_kind Vs (xs (4 * t + 1))).1)), (4, .int (nI (4 * t))), (3, .ref out), (2, .ref (am 0)), (1, .ref x), (0, .ref b)] := hl
  refine lv_aload_n hx hb d_law_853 rfl (lv_at hl 4 rfl) ?_
  refine fx_cV (B := fun q => s.heap.size ≤ q) KT_moved (ct_M_thrown w am hmI S2.1 S2.2.1 S2.2.2.1 S2.2.2.2.1 S2.2.2.2.2.1 S2.2.2.2.2.2.1 S2.2.2.2.2.2.2.1 S2.2.2.2.2.2.2.2) hx hfl hK hb (by rw [hml]; exact hl.1) hown (hw _ mm_W_66) (fx_Y.code (hw _ mk_M_thrown)) (hw _ mi_M_thrown) (hw _ mq_M_thrown) (show fx_N y_M_thrown 0 by decide +kernel) (va_recv (q0 := 0) hKv hP (show cls[2]? = some (R_M, T_M, 8) from rfl) rfl) rfl ⟨Nat.le_of_ble_eq_true rfl, Nat.le_of_ble_eq_true rfl, by show nc + 9 + 0 ≤ 601024; omega, by show ns + 800 + 0 ≤ 7293034; omega⟩ hP d_law_854 hL (fun q h => by obtain ⟨i, hi, e⟩ := h; rw [e]; exact ham i hi) (fun v H3 locs hq hF hL => ?_) (fun xx H3 locs hq hF hL => by cases hq.1)
  obtain ⟨hv, hP⟩ := hq
  cases hv
  have hT := lT_keep hT hF ham0
  have hJ := hJ.kept (hF.2.2 out hJ.lt hmo)
  have hE : fx_Ex s.heap H3 := by obtain ⟨ar, hS⟩ := hT; rw [← hH0]; exact hS.1
  refine W.eq (g2 := F0 m 857 ls [.int S2.2.1]) rfl ?_
  refine fx_ti (y := nI (so_kind Vs (xs (4 * t + 1))).1) (hth) ?_
  refine lv_iload hx hb d_law_857 (lv_at hl 1 rfl) ?_
  refine lv_icmp_eq (tgt := 864) hx hb d_law_859 rfl (fun _ => ?_) (fun h9 => absurd (rfl) h9)
  refine lv_iload hx hb d_law_864 (lv_at hl 1 rfl) ?_
  refine lv_if_ne (tgt := 881) hx hb d_law_866 rfl (fun h866 => ?_) (fun h866 => ?_)
  · refine lv_goto (tgt := 897) hx hb d_law_881 rfl ?_
    refine va_forget hL ?_
    refine W.widen (k := nc + 9) (n := ns + 800) (Nat.le_refl _) (Nat.le_refl _) ?_
    exact kn _ _ _ _ ⟨hT, hP, hA, _, hJ⟩ (lv_sub hl [2, 3, 4, 5, 6] rfl)
  · have h0 : (so_kind Vs (xs (4 * t + 1))).1 = 0 := (nI_eq (by omega) (by decide)).mp h866
    refine lv_aload_n hx hb d_law_869 rfl (lv_at hl 3 rfl) ?_
    refine lv_iconst (v := nI 0) hx hb d_law_870 rfl ?_
    refine fx_lald hx hb hKv 1 hJ rfl rfl (by decide) (by decide) d_law_871 (fx_tl (y := (so_kind Vs (xs (4 * t + 1))).2.1.toInt64) (hg h0) ?_)
    refine lv_iload hx hb d_law_872 (lv_at hl 0 rfl) ?_
    refine lv_i2l hx hb d_law_874 rfl ?_
    refine W.lcmp hx hb d_law_875 (fx_ti (y := nI 0) (lg_self _) ?_)
    refine lv_if_eq (tgt := 881) hx hb d_law_876 rfl (fun _ => ?_) (fun h9 => absurd (rfl) h9)
    refine lv_goto (tgt := 897) hx hb d_law_881 rfl ?_
    refine va_forget hL ?_
    refine W.widen (k := nc + 9) (n := ns + 800) (Nat.le_refl _) (Nat.le_refl _) ?_
    exact kn _ _ _ _ ⟨hT, hP, hA, _, hJ⟩ (lv_sub hl [2, 3, 4, 5, 6] rfl)
set_option maxHeartbeats 4000000 in
set_option maxRecDepth 100000 in
theorem lc_versions {p : Program} {l : Launch} {e : Env} {s : State} {m : MethodId} {below : List Frame} {meth : Method} {c : Code} {w : Wd} {am : Nat → Nat} {x al out b L t nc ns : Nat} {xs : Nat → Int32} {Vs : List sV} {S : mS} {H : Heap} {ls : Array Slot} {Q : State → Prop} (C : lCtx p l s m c w am out b L xs) (ht : 4 * t + 4 ≤ L) (hn : nc + 9 ≤ 600000 ∧ ns + 800 ≤ 7000000) (hI : lInv w am x al out Vs S H) (hl : lv_has ls 7 [(4, .int (nI (4 * t))), (3, .ref out), (2, .ref (am 0)), (1, .ref x), (0, .ref b)]) (kn : ∀ (Vs : List sV) (S : mS) (H : Heap) (ls : Array Slot), lInv w am x al out Vs S H → lv_has ls 7 [(4, .int (nI (4 * t))), (3, .ref out), (2, .ref (am 0)), (1, .ref x), (0, .ref b)] → W p l e room_1 s m #[.ref b] below meth c H [] (nc + 9) (ns + 800) Q (F0 m 897 ls [])) : W p l e room_1 s m #[.ref b] below meth c H [] nc ns Q (F0 m 884 ls []) := by
  obtain ⟨hx, hfl, hK, hb, hml, hown, hH0, hX, hbl, hmI, ham, hout, hmo, hL2⟩ := C
  obtain ⟨hT, hP, hA, g, hJ⟩ := hI
  have hw : ∀ z ∈ gw, z.before #[.ref b] s = true := fun z hz => hK.1 z hz _
  have hKv := hK.2.1
  have hL : ∀ q ∈ ([] : List Loc), s.heap.size ≤ q.base := fun q hq => by cases hq
  have ham0 : ∀ i, i < 7 → w.H0.size ≤ am i := by rw [hH0]; exact ham
  have hE : fx_Ex s.heap H := by obtain ⟨ar, hS⟩ := hT; rw [← hH0]; exact hS.1
  have hl : lv_has ls 7 [(4, .int (nI (4 * t))), (3, .ref out), (2, .ref (am 0)), (1, .ref x), (0, .ref b)] := hl
  refine lv_aload_n hx hb d_law_884 rfl (lv_at hl 3 rfl) ?_
  obtain ⟨ar, hS⟩ := hT
  refine fx_cV (B := fun q => s.heap.size ≤ q) KT_moved (ct_L_versions w (lF am out) x al ar Vs) hx hfl hK hb (by rw [hml]; exact hl.1) hown (hw _ mm_W_105) (fx_Y.code (hw _ mk_L_versions)) (hw _ mi_L_versions) (hw _ mq_L_versions) (show fx_N y_L_versions 0 by decide +kernel) (va_recv (q0 := 0) hKv (fx_one hS.2.2.2.1) (show cls[0]? = some (R_L, T_L, 1) from rfl) rfl) rfl ⟨Nat.le_of_ble_eq_true rfl, Nat.le_of_ble_eq_true rfl, by show nc + 0 ≤ 601024; omega, by show ns + 0 ≤ 7293034; omega⟩ hS d_law_885 hL (fun q h => h.elim) (fun v H1 locs hq hF hL => ?_) (fun xx H1 locs hq hF hL => by cases hq)
  cases hq
  obtain rfl : H1 = H := hF.same (fun _ _ h => h)
  have hT : cT w (lF am out) x al Vs H1 := ⟨ar, hS⟩
  refine W.eq (g2 := F0 m 888 ls [.int (nI Vs.length)]) rfl ?_
  refine lv_aload_n hx hb d_law_888 rfl (lv_at hl 2 rfl) ?_
  refine fx_cV (B := fun q => s.heap.size ≤ q) KT_moved (ct_M_versions w am hmI S.1 S.2.1 S.2.2.1 S.2.2.2.1 S.2.2.2.2.1 S.2.2.2.2.2.1 S.2.2.2.2.2.2.1 S.2.2.2.2.2.2.2) hx hfl hK hb (by rw [hml]; exact hl.1) hown (hw _ mm_W_108) (fx_Y.code (hw _ mk_M_versions)) (hw _ mi_M_versions) (hw _ mq_M_versions) (show fx_N y_M_versions 0 by decide +kernel) (va_recv (q0 := 0) hKv hP (show cls[2]? = some (R_M, T_M, 8) from rfl) rfl) rfl ⟨Nat.le_of_ble_eq_true rfl, Nat.le_of_ble_eq_true rfl, by show nc + 0 + 0 ≤ 601024; omega, by show ns + 0 + 0 ≤ 7293034; omega⟩ hP d_law_889 hL (fun q h => by obtain ⟨i, hi, e⟩ := h; rw [e]; exact ham i hi) (fun v H2 locs hq hF hL => ?_) (fun xx H2 locs hq hF hL => by cases hq.1)
  obtain ⟨hv, hP⟩ := hq
  cases hv
  have hT := lT_keep hT hF ham0
  have hJ := hJ.kept (hF.2.2 out hJ.lt hmo)
  have hE : fx_Ex s.heap H2 := by obtain ⟨ar, hS⟩ := hT; rw [← hH0]; exact hS.1
  refine W.eq (g2 := F0 m 892 ls [.int S.1, .int (nI Vs.length)]) rfl ?_
  refine fx_ti (y := nI Vs.length) (hA.1) ?_
  refine lv_icmp_eq (tgt := 897) hx hb d_law_892 rfl (fun _ => ?_) (fun h9 => absurd (rfl) h9)
  refine va_forget hL ?_
  refine W.widen (k := nc + 9) (n := ns + 800) (Nat.le_add_right nc 9) (Nat.le_add_right ns 800) ?_
  exact kn _ _ _ _ ⟨hT, hP, hA, _, hJ⟩ (lv_sub hl [0, 1, 2, 3, 4] rfl)
