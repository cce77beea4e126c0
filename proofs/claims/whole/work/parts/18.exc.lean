/-! The four exceptions of the class: their words, and the row that throws one. -/
theorem kT_in {L : List Cond} (h : (L.filter goodWord).all (fun x => decide (x ∈ tables_1)) = true) : ∀ x ∈ L.filter goodWord, x ∈ gw := fun x hx =>
  gw_in (List.mem_append_right _ (of_decide_eq_true (List.all_eq_true.mp h x hx))) (List.mem_filter.mp hx).2
theorem kZU {w : Wd} {s : State} (hK : KT w s) (hLow : Low w s.heap) : vx_Zq Bundle.tN "UNASSIGNED_STACK" Bundle.steD (kold w) s s.heap := hK.2.2.2.2.2.1.kept (fun a ha _ => hLow.2 a ha)
theorem kZN {w : Wd} {s : State} (hK : KT w s) (hLow : Low w s.heap) : vx_Zq Bundle.tN "SUPPRESSED_SENTINEL" Bundle.listD (kold w) s s.heap := hK.2.2.2.2.2.2.1.kept (fun a ha _ => hLow.2 a ha)
theorem kDec {w : Wd} {s : State} (hK : KT w s) {args : Array Value} {y : MethodName} (h : y ∈ kdec) : (Cond.declares y).before args s = true := va_Nw.use rfl (hK.2.2.2.2.1.2.2.1 y h)
theorem kCst {w : Wd} {s : State} (hK : KT w s) {args : Array Value} {a b : String} (h : (a, b) ∈ kcst) : (Cond.castable a b).before args s = true := va_Nw.use rfl (hK.2.2.2.2.1.1 (a, b) h)
theorem kStr {w : Wd} {s : State} (hK : KT w s) {i : Nat} {tx : String} (h : (i, tx) ∈ kstr) : vk_R R_L i tx (w.sa i) s := hK.2.2.2.1 (i, tx) h
def kdecs : List Cond := kdec.map Cond.declares
theorem kdecs_ok {w : Wd} {s : State} (hK : KT w s) {args : Array Value} : ∀ x ∈ kdecs, x.before args s = true := fun x hx => by
  obtain ⟨y, hy, rfl⟩ := List.mem_map.mp hx
  exact kDec hK hy
theorem ow_IAE : ∀ x ∈ ((fx_oa R_L 24 kIAE).filter vx_no).filter goodWord, x ∈ gw := kT_in (by decide +kernel)
theorem on_IAE : ∀ x ∈ ((fx_oa R_L 24 kIAE).filter vx_no).filter (fun x => !goodWord x), x ∈ [Cond.castable kIAE kIAE] := by
  have h : (((fx_oa R_L 24 kIAE).filter vx_no).filter (fun x => !goodWord x)).all (fun x => decide (x ∈ [Cond.castable kIAE kIAE])) = true := by decide +kernel
  exact fun x hx => of_decide_eq_true (List.all_eq_true.mp h x hx)
theorem ox_IAE {w : Wd} {s : State} (hK : KT w s) (hLow : Low w s.heap) (args : Array Value) : ∀ x ∈ fx_oa R_L 24 kIAE, x.before args s = true :=
  vx_own (vx_hat (fun x hx => hK.1 x (ow_IAE x hx) args) on_IAE (vx_c (kCst hK (by decide)) vx_n)) (vx_isRefq (kZU hK hLow).1) (vx_isRefq (kZN hK hLow).1) (kZU hK hLow).2.word (kZN hK hLow).2.word
theorem ow_ISE : ∀ x ∈ ((fx_oa R_L 154 kISE).filter vx_no).filter goodWord, x ∈ gw := kT_in (by decide +kernel)
theorem on_ISE : ∀ x ∈ ((fx_oa R_L 154 kISE).filter vx_no).filter (fun x => !goodWord x), x ∈ [Cond.castable kISE kISE] := by
  have h : (((fx_oa R_L 154 kISE).filter vx_no).filter (fun x => !goodWord x)).all (fun x => decide (x ∈ [Cond.castable kISE kISE])) = true := by decide +kernel
  exact fun x hx => of_decide_eq_true (List.all_eq_true.mp h x hx)
theorem ox_ISE {w : Wd} {s : State} (hK : KT w s) (hLow : Low w s.heap) (args : Array Value) : ∀ x ∈ fx_oa R_L 154 kISE, x.before args s = true :=
  vx_own (vx_hat (fun x hx => hK.1 x (ow_ISE x hx) args) on_ISE (vx_c (kCst hK (by decide)) vx_n)) (vx_isRefq (kZU hK hLow).1) (vx_isRefq (kZN hK hLow).1) (kZU hK hLow).2.word (kZN hK hLow).2.word
theorem ow_NSE : ∀ x ∈ ((fx_oa R_L 116 kNSE).filter vx_no).filter goodWord, x ∈ gw := kT_in (by decide +kernel)
theorem on_NSE : ∀ x ∈ ((fx_oa R_L 116 kNSE).filter vx_no).filter (fun x => !goodWord x), x ∈ [Cond.castable kNSE kNSE] := by
  have h : (((fx_oa R_L 116 kNSE).filter vx_no).filter (fun x => !goodWord x)).all (fun x => decide (x ∈ [Cond.castable kNSE kNSE])) = true := by decide +kernel
  exact fun x hx => of_decide_eq_true (List.all_eq_true.mp h x hx)
theorem ox_NSE {w : Wd} {s : State} (hK : KT w s) (hLow : Low w s.heap) (args : Array Value) : ∀ x ∈ fx_oa R_L 116 kNSE, x.before args s = true :=
  vx_own (vx_hat (fun x hx => hK.1 x (ow_NSE x hx) args) on_NSE (vx_c (kCst hK (by decide)) vx_n)) (vx_isRefq (kZU hK hLow).1) (vx_isRefq (kZN hK hLow).1) (kZU hK hLow).2.word (kZN hK hLow).2.word
theorem ow_IOB : ∀ x ∈ ((fx_oa R_L 167 kIOB).filter vx_no).filter goodWord, x ∈ gw := kT_in (by decide +kernel)
theorem on_IOB : ∀ x ∈ ((fx_oa R_L 167 kIOB).filter vx_no).filter (fun x => !goodWord x), x ∈ [Cond.castable kIOB kIOB] := by
  have h : (((fx_oa R_L 167 kIOB).filter vx_no).filter (fun x => !goodWord x)).all (fun x => decide (x ∈ [Cond.castable kIOB kIOB])) = true := by decide +kernel
  exact fun x hx => of_decide_eq_true (List.all_eq_true.mp h x hx)
theorem ox_IOB {w : Wd} {s : State} (hK : KT w s) (hLow : Low w s.heap) (args : Array Value) : ∀ x ∈ fx_oa R_L 167 kIOB, x.before args s = true :=
  vx_own (vx_hat (fun x hx => hK.1 x (ow_IOB x hx) args) on_IOB (vx_c (kCst hK (by decide)) vx_n)) (vx_isRefq (kZU hK hLow).1) (vx_isRefq (kZN hK hLow).1) (kZU hK hLow).2.word (kZN hK hLow).2.word
theorem cw_IAE : ∀ x ∈ (Bundle.chainSAtoms kIAE ["java/lang/RuntimeException", "java/lang/Exception"]).filter goodWord, x ∈ gw := kT_in (by decide +kernel)
theorem cn_IAE : ∀ x ∈ (Bundle.chainSAtoms kIAE ["java/lang/RuntimeException", "java/lang/Exception"]).filter (fun x => !goodWord x), x ∈ kdecs := by
  have h : ((Bundle.chainSAtoms kIAE ["java/lang/RuntimeException", "java/lang/Exception"]).filter (fun x => !goodWord x)).all (fun x => decide (x ∈ kdecs)) = true := by decide +kernel
  exact fun x hx => of_decide_eq_true (List.all_eq_true.mp h x hx)
theorem cx_IAE {w : Wd} {s : State} (hK : KT w s) (args : Array Value) : ∀ x ∈ (Bundle.chainSAtoms kIAE ["java/lang/RuntimeException", "java/lang/Exception"]), x.before args s = true := vx_hat (fun x hx => hK.1 x (cw_IAE x hx) args) cn_IAE (kdecs_ok hK)
theorem cw_ISE : ∀ x ∈ (Bundle.chainSAtoms kISE ["java/lang/RuntimeException", "java/lang/Exception"]).filter goodWord, x ∈ gw := kT_in (by decide +kernel)
theorem cn_ISE : ∀ x ∈ (Bundle.chainSAtoms kISE ["java/lang/RuntimeException", "java/lang/Exception"]).filter (fun x => !goodWord x), x ∈ kdecs := by
  have h : ((Bundle.chainSAtoms kISE ["java/lang/RuntimeException", "java/lang/Exception"]).filter (fun x => !goodWord x)).all (fun x => decide (x ∈ kdecs)) = true := by decide +kernel
  exact fun x hx => of_decide_eq_true (List.all_eq_true.mp h x hx)
theorem cx_ISE {w : Wd} {s : State} (hK : KT w s) (args : Array Value) : ∀ x ∈ (Bundle.chainSAtoms kISE ["java/lang/RuntimeException", "java/lang/Exception"]), x.before args s = true := vx_hat (fun x hx => hK.1 x (cw_ISE x hx) args) cn_ISE (kdecs_ok hK)
theorem cw_IOB : ∀ x ∈ (Bundle.chainSAtoms kIOB ["java/lang/RuntimeException", "java/lang/Exception"]).filter goodWord, x ∈ gw := kT_in (by decide +kernel)
theorem cn_IOB : ∀ x ∈ (Bundle.chainSAtoms kIOB ["java/lang/RuntimeException", "java/lang/Exception"]).filter (fun x => !goodWord x), x ∈ kdecs := by
  have h : ((Bundle.chainSAtoms kIOB ["java/lang/RuntimeException", "java/lang/Exception"]).filter (fun x => !goodWord x)).all (fun x => decide (x ∈ kdecs)) = true := by decide +kernel
  exact fun x hx => of_decide_eq_true (List.all_eq_true.mp h x hx)
theorem cx_IOB {w : Wd} {s : State} (hK : KT w s) (args : Array Value) : ∀ x ∈ (Bundle.chainSAtoms kIOB ["java/lang/RuntimeException", "java/lang/Exception"]), x.before args s = true := vx_hat (fun x hx => hK.1 x (cw_IOB x hx) args) cn_IOB (kdecs_ok hK)
theorem cw_RTE : ∀ x ∈ (Bundle.chainSAtoms "java/lang/RuntimeException" ["java/lang/Exception"]).filter goodWord, x ∈ gw := kT_in (by decide +kernel)
theorem cn_RTE : ∀ x ∈ (Bundle.chainSAtoms "java/lang/RuntimeException" ["java/lang/Exception"]).filter (fun x => !goodWord x), x ∈ kdecs := by
  have h : ((Bundle.chainSAtoms "java/lang/RuntimeException" ["java/lang/Exception"]).filter (fun x => !goodWord x)).all (fun x => decide (x ∈ kdecs)) = true := by decide +kernel
  exact fun x hx => of_decide_eq_true (List.all_eq_true.mp h x hx)
theorem cx_RTE {w : Wd} {s : State} (hK : KT w s) (args : Array Value) : ∀ x ∈ (Bundle.chainSAtoms "java/lang/RuntimeException" ["java/lang/Exception"]), x.before args s = true := vx_hat (fun x hx => hK.1 x (cw_RTE x hx) args) cn_RTE (kdecs_ok hK)
abbrev b_NSE : ByteArray := prog_24_method_4_code
theorem dN_0 : decode b_NSE 0 = .ok (.aload_n 0, 1) := by decide +kernel
theorem dN_1 : decode b_NSE 1 = .ok (.aload_n 1, 1) := by decide +kernel
theorem dN_2 : decode b_NSE 2 = .ok (.invokespecial 13, 3) := by decide +kernel
theorem dN_5 : decode b_NSE 5 = .ok (.return_, 1) := by decide +kernel
theorem pw_NSE : ∀ x ∈ (Bundle.passSAtoms kNSE "java/lang/RuntimeException" 13 b_NSE).filter goodWord, x ∈ gw := kT_in (by decide +kernel)
theorem pn_NSE : ∀ x ∈ (Bundle.passSAtoms kNSE "java/lang/RuntimeException" 13 b_NSE).filter (fun x => !goodWord x), x ∈ kdecs := by
  have h : ((Bundle.passSAtoms kNSE "java/lang/RuntimeException" 13 b_NSE).filter (fun x => !goodWord x)).all (fun x => decide (x ∈ kdecs)) = true := by decide +kernel
  exact fun x hx => of_decide_eq_true (List.all_eq_true.mp h x hx)
theorem px_NSE {w : Wd} {s : State} (hK : KT w s) (args : Array Value) : ∀ x ∈ Bundle.passSAtoms kNSE "java/lang/RuntimeException" 13 b_NSE, x.before args s = true := vx_hat (fun x hx => hK.1 x (pw_NSE x hx) args) pn_NSE (kdecs_ok hK)
/-- what is asked of an exception's class: its own words, its constructors' chain -/
def fx_XC (w : Wd) (ic : Nat) (X : String) : Prop := Bundle.fit X = true ∧ ∀ (s : State) (args : Array Value), KT w s → Low w s.heap → (∀ a ∈ fx_oa R_L ic X, a.before args s = true) ∧ ∃ bytes : ByteArray, (Cond.code (Bundle.initS X) bytes 2 none).before args s = true ∧ (Cond.instanceMethod (Bundle.initS X)).before args s = true ∧
  ∀ pl : Platform, pl.magicAccessors = ({} : Platform).magicAccessors → ∀ top, s.methodNamed? (Bundle.initS Bundle.tN) = some top → ∃ (P1 : PassC) (Ps : List PassC), Ps.length = 2 ∧ P1.LinksS pl s ∧ (∀ P, P ∈ Ps → P.LinksS pl s) ∧ s.methodNamed? (Bundle.initS X) = some P1.m ∧ P1.sup = firstOf top (Ps.map (·.toPassT)) ∧ PassesOn top (Ps.map (·.toPassT))
theorem xc_IAE (w : Wd) : fx_XC w 24 kIAE := by
  refine ⟨by decide +kernel, fun s args hK hLow => ⟨ox_IAE hK hLow args, Bundle.six, cx_IAE hK args _ (by simp [Bundle.chainSAtoms, Bundle.passSAtoms]), cx_IAE hK args _ (by simp [Bundle.chainSAtoms, Bundle.passSAtoms]), fun pl hpl top htop => ?_⟩⟩
  exact Bundle.chainS (args := args) hpl htop ["java/lang/RuntimeException", "java/lang/Exception"] kIAE (by decide +kernel) (by decide +kernel) (cx_IAE hK args)
theorem xc_ISE (w : Wd) : fx_XC w 154 kISE := by
  refine ⟨by decide +kernel, fun s args hK hLow => ⟨ox_ISE hK hLow args, Bundle.six, cx_ISE hK args _ (by simp [Bundle.chainSAtoms, Bundle.passSAtoms]), cx_ISE hK args _ (by simp [Bundle.chainSAtoms, Bundle.passSAtoms]), fun pl hpl top htop => ?_⟩⟩
  exact Bundle.chainS (args := args) hpl htop ["java/lang/RuntimeException", "java/lang/Exception"] kISE (by decide +kernel) (by decide +kernel) (cx_ISE hK args)
theorem xc_IOB (w : Wd) : fx_XC w 167 kIOB := by
  refine ⟨by decide +kernel, fun s args hK hLow => ⟨ox_IOB hK hLow args, Bundle.six, cx_IOB hK args _ (by simp [Bundle.chainSAtoms, Bundle.passSAtoms]), cx_IOB hK args _ (by simp [Bundle.chainSAtoms, Bundle.passSAtoms]), fun pl hpl top htop => ?_⟩⟩
  exact Bundle.chainS (args := args) hpl htop ["java/lang/RuntimeException", "java/lang/Exception"] kIOB (by decide +kernel) (by decide +kernel) (cx_IOB hK args)
theorem xc_NSE (w : Wd) : fx_XC w 116 kNSE := by
  refine ⟨by decide +kernel, fun s args hK hLow => ⟨ox_NSE hK hLow args, b_NSE, px_NSE hK args _ (by simp [Bundle.passSAtoms]), px_NSE hK args _ (by simp [Bundle.passSAtoms]), fun pl hpl top htop => ?_⟩⟩
  obtain ⟨P, L, hm, hs⟩ := PassC.ofS_atoms (args := args) (s := s) hpl (X := kNSE) (Y := "java/lang/RuntimeException") (by decide) (by decide) dN_0 dN_1 dN_2 dN_5 (px_NSE hK args)
  obtain ⟨P1, Ps, hlen, L1, hL, hm1, hsup, hpass⟩ := Bundle.chainS (args := args) hpl htop ["java/lang/Exception"] "java/lang/RuntimeException" (by decide +kernel) (by decide +kernel) (cx_RTE hK args)
  refine ⟨P, P1 :: Ps, by simp [hlen], L, fun Q hQ => ?_, hm, Option.some.inj (hs.symm.trans hm1), hsup, hpass⟩
  rcases List.mem_cons.mp hQ with rfl | hQ
  · exact L1
  · exact hL Q hQ
/-- x is an exception of the class X -/
def fx_Xc (U : State) (X : String) (x : Nat) (H : Heap) : Prop := ∃ ce : Cell, H[x]? = some ce ∧ U.vm.findClass X = some ce.cls ∧ ce.vm = .none
section FXT
variable {p : Program} {l : Launch} {e : Env} {R : Room} {s : State} {m : MethodId} {args : Array Value} {below : List Frame} {meth : Method} {c : Code} {H : Heap} {locs : List Loc} {cells slots : Nat}
variable {cc : ByteArray} {pc : Nat} {ls : Array Slot} {rest : List Value} {Post : Outcome → Heap → Prop} {A : Nat → Prop} {mc ms : Nat}
theorem fx_throw {w : Wd} {X tx : String} {i0 ic is : Nat} (hXC : fx_XC w ic X) (hexec : p.tables.exec = Jvm.exec) (hfl : l.flags = flags0) (hK : KT w s) (hLow : Low w s.heap) (hb : c.code = cc) (hsz : ls.size = c.maxLocals) (hown : s.vm.findClass R_L = some m.cls)
    (hcl : (Cond.classLink R_L i0 X).before args s = true) (hini : (Cond.initialized X).before args s = true) (htx : (is, tx) ∈ kstr)
    (hnt : c.exceptionTable.isEmpty = true) (hlk : meth.locks = false) (hL : ∀ z ∈ locs, s.heap.size ≤ z.base) (hH : s.heap.size ≤ H.size)
    (hR : 5 < R.frames ∧ (rest.map fun v => v.category).sum + 82 ≤ R.locals ∧ cells + 1 ≤ R.cells ∧ slots + 6 ≤ R.slots) (hc : cells + 1 ≤ mc) (hs : slots + 6 ≤ ms) (hA : ∀ z ∈ locs, A z.base)
    (d0 : decode cc pc = .ok (.new i0, 3)) (d3 : decode cc (pc + 3) = .ok (.dup, 1)) (d4 : decode cc (pc + 3 + 1) = .ok (.ldc is, 2)) (d6 : decode cc (pc + 3 + 1 + 2) = .ok (.invokespecial ic, 3)) (d9 : decode cc (pc + 3 + 1 + 2 + 3) = .ok (.athrow, 1))
    (hq : ∀ (x : Nat) (H' : Heap), s.heap.size ≤ x → fx_Ex s.heap H' → fx_Xc s X x H' → Post (.threw x) H') :
    W p l e R s m args below meth c H locs cells slots (fx_E below s Post mc ms A) (F0 m pc ls rest) := by
  obtain ⟨hfit, hXC⟩ := hXC
  obtain ⟨hat, bytes, hcode, hinst, hch⟩ := hXC s args hK hLow
  refine W.newc hexec hb hown hcl (hat (.instantiable X 6) (by simp [fx_oa])) hini rfl d0 hR.2.2.1 hR.2.2.2 fun cC kC h1 h2 h3 h4 => ?_
  refine lv_dup hexec hb d3 rfl ?_
  refine va_ldcS hexec hb hown (kStr hK htx) d4 ?_
  intro T hT X1
  have htr : e.platform.stackTraces = false := Launch.traces_off (hfl.trans rfl) X1.admits
  have hpl : e.platform.magicAccessors = ({} : Platform).magicAccessors := by rw [X1.admits.platform]
  obtain ⟨U, hsteps, hrun, hend, hW, hsame, ce, hce, hcls, hcv⟩ := fx_ctorThrow X1 hexec htr (own := R_L) (cls := X) (ic := ic) hown hfit hat hcode hinst (hch e.platform hpl)
    (fun z hz cell hcell => absurd (Array.getElem?_eq_some_iff.mp hcell).1 (Nat.not_lt.mpr (hL z hz))) h1 h2 (a := H.size) (by rw [hT]; exact Array.getElem?_push_size) hH (msg := .ref (w.sa is)) rfl
    (g := F0 m (pc + 3 + 1 + 2) ls (.ref (w.sa is) :: .ref H.size :: .ref H.size :: rest)) rfl hsz rfl rfl (rest := rest) rfl (by rw [hb]; exact d6) (by rw [hb]; exact d9) (covers_of_empty hnt _) hR.1
    (by have := hR.2.1; show 2 * 0 + (1 + (rest.map fun v => v.category).sum) + (13 * (2 + 1) + 42) ≤ R.locals; omega) hlk
  have hF : fx_F (fun q => s.heap.size ≤ q) _ s.heap U.heap := fx_frame (T := s) (T' := U) (L := locs) hsame hL
  exact ⟨U, hsteps, .threw H.size, hrun, hend, hq _ _ hH (hF.ex (fun q hq => Nat.not_le.mpr hq)) ⟨ce, hce, hcls, hcv⟩, hW, locs, hsame.mono hc hs, hA⟩
end FXT
theorem fx_Xc.x {w : Wd} {s : State} (hK : KT w s) {i x : Nat} {H : Heap} (hi : i < 4) (h : fx_Xc s (kex i) x H) : xcp w i x H := by
  obtain ⟨ce, h1, h2, h3⟩ := h
  exact ⟨ce, h1, Option.some.inj (h2.symm.trans (hK.2.2.2.2.2.2.2.2.2.2.2.2 i hi)), h3⟩
