/-! Calls inside the reference, in terms of the list of versions. -/
def mApi (w : Wd) (am : Nat → Nat) (y : MethodName) (nL : Nat) (rm : Room) (as : List Value) (Vs : List sV) (A : sR) : Prop := ∀ S : mS, mAbs S Vs →
  fx_C (KT w) y nL rm (.ref (am 0) :: as) (fun H => va_P w.D cls (mw w am S) H) (fun _ o H' => o = .returned (some (.int A.2.1)) ∧ ∃ S' : mS, va_P w.D cls (mw w am S') H' ∧ mAbs S' A.2.2 ∧ S'.2.1 = nI A.1) (fun _ => mA am)
section MROW
variable {p : Program} {l : Launch} {e : Env} {R : Room} {s : State} {m : MethodId} {args : Array Value} {below : List Frame} {meth : Method} {c : Code} {H : Heap} {locs : List Loc} {cells slots : Nat} {Q : State → Prop}
variable {cc : ByteArray} {pc : Nat} {ls : Array Slot} {rest : List Value} {w : Wd} {am : Nat → Nat} {S : mS} {Vs : List sV} {index : Nat} {k f : Int32} {es ks : List Int32}
theorem m_rThr (hI : mI am) (hA : mAbs S Vs) (k : Int32) (hx : p.tables.exec = Jvm.exec) (hfl : l.flags = flags0) (hK : KT w s) (hb : c.code = cc) (hsz : ls.size = c.maxLocals) (hown : s.vm.findClass R_M = some m.cls) (hlink : (Cond.methodLink R_M index y_M_throwsBy).before args s = true) (hR : fx_R R (rmK 0) 2 cells slots rest)
    (hP : va_P w.D cls (mw w am S) H) (hS : va_S (mA am) s.heap H locs) (hdg : decode cc pc = .ok (.invokevirtual index, 3))
    (kk : ∀ S' : mS, mAbs S' Vs → S'.2.1 = k → ∀ (H1 : Heap) (locs1 : List Loc), va_P w.D cls (mw w am S') H1 → va_S (mA am) s.heap H1 locs1 → W p l e R s m args below meth c H1 locs1 cells slots Q (F0 m (pc + 3) ls (.int (zI (0 < k)) :: rest))) : W p l e R s m args below meth c H locs cells slots Q (F0 m pc ls (.int k :: .ref (am 0) :: rest)) := by
  obtain ⟨n, th, fk, ff, fs, fe, fy, fw⟩ := S
  exact m_cV (ct_M_throwsBy w am hI n th fk ff fs fe fy fw k) hx hfl hK hb hsz hown hlink (hK.1 _ mk_M_throwsBy _) (hK.1 _ mi_M_throwsBy _) (hK.1 _ mq_M_throwsBy _) (show fx_N y_M_throwsBy 1 by decide +kernel) rfl hR hP hS hdg (fun H1 locs1 hP1 hS1 => kk (n, k, fk, ff, fs, fe, fy, fw) hA rfl H1 locs1 hP1 hS1)
theorem m_rCreate (hI : mI am) (hA : mAbs S Vs) (hl : Vs.length < 64) (k f : Int32) (hx : p.tables.exec = Jvm.exec) (hfl : l.flags = flags0) (hK : KT w s) (hb : c.code = cc) (hsz : ls.size = c.maxLocals) (hown : s.vm.findClass R_M = some m.cls) (hlink : (Cond.methodLink R_M index y_M_create).before args s = true) (hR : fx_R R (rmK 0) 3 cells slots rest)
    (hP : va_P w.D cls (mw w am S) H) (hS : va_S (mA am) s.heap H locs) (hdg : decode cc pc = .ok (.invokevirtual index, 3))
    (kk : ∀ S' : mS, mB S' Vs k f [] [] → S'.2.1 = S.2.1 → ∀ (H1 : Heap) (locs1 : List Loc), va_P w.D cls (mw w am S') H1 → va_S (mA am) s.heap H1 locs1 → W p l e R s m args below meth c H1 locs1 cells slots Q (F0 m (pc + 3) ls (.int (nI Vs.length) :: rest))) : W p l e R s m args below meth c H locs cells slots Q (F0 m pc ls (.int f :: .int k :: .ref (am 0) :: rest)) := by
  obtain ⟨n, th, fk, ff, fs, fe, fy, fw⟩ := S
  have hn : n = nI Vs.length := hA.1
  subst hn
  exact m_cV (ct_M_create w am hI th fk ff fs fe fy fw Vs.length k f hl) hx hfl hK hb hsz hown hlink (hK.1 _ mk_M_create _) (hK.1 _ mi_M_create _) (hK.1 _ mq_M_create _) (show fx_N y_M_create 2 by decide +kernel) rfl hR hP hS hdg (fun H1 locs1 hP1 hS1 => kk _ (mB_create hA hl th k f) rfl H1 locs1 hP1 hS1)
theorem m_rPut (hI : mI am) (hB : mB S Vs k f es ks) (he : es.length < 100) (key x : Int32) (hx : p.tables.exec = Jvm.exec) (hfl : l.flags = flags0) (hK : KT w s) (hb : c.code = cc) (hsz : ls.size = c.maxLocals) (hown : s.vm.findClass R_M = some m.cls) (hlink : (Cond.methodLink R_M index y_M_put).before args s = true) (hR : fx_R R (rmK 0) 4 cells slots rest)
    (hP : va_P w.D cls (mw w am S) H) (hS : va_S (mA am) s.heap H locs) (hdg : decode cc pc = .ok (.invokevirtual index, 3))
    (kk : ∀ S' : mS, mB S' Vs k f (es ++ [x]) (ks ++ [key]) → S'.2.1 = S.2.1 → ∀ (H1 : Heap) (locs1 : List Loc), va_P w.D cls (mw w am S') H1 → va_S (mA am) s.heap H1 locs1 → W p l e R s m args below meth c H1 locs1 cells slots Q (F0 m (pc + 3) ls rest)) : W p l e R s m args below meth c H locs cells slots Q (F0 m pc ls (.int x :: .int key :: .ref (am 0) :: rest)) := by
  obtain ⟨n, th, fk, ff, fs, fe, fy, fw⟩ := S
  have hn : n = nI (Vs.length + 1) := hB.1
  have hs : fs Vs.length = nI es.length := hB.2.2.2.2.2.2.1
  subst hn
  exact m_cV (ct_M_put w am hI th fk ff fs fe fy fw Vs.length es.length key x hB.2.1 he hs) hx hfl hK hb hsz hown hlink (hK.1 _ mk_M_put _) (hK.1 _ mi_M_put _) (hK.1 _ mq_M_put _) (show fx_N y_M_put 2 by decide +kernel) rfl hR hP hS hdg (fun H1 locs1 hP1 hS1 => kk _ (mB_put hB he key x) rfl H1 locs1 hP1 hS1)
theorem m_rAll (hI : mI am) (hB : mB S Vs k f es ks) {a b d : Nat} {o : sV} (ha : Vs[a]? = some o) (hbd : b ≤ d) (hd : d ≤ o.2.2.1.length) (he : es.length + (d - b) ≤ 100) (hk3 : k = 3 → o.1 = 3) (hx : p.tables.exec = Jvm.exec) (hfl : l.flags = flags0) (hK : KT w s) (hb : c.code = cc) (hsz : ls.size = c.maxLocals) (hown : s.vm.findClass R_M = some m.cls) (hlink : (Cond.methodLink R_M index y_M_putAll).before args s = true) (hR : fx_R R (rmK 1) 5 cells slots rest)
    (hP : va_P w.D cls (mw w am S) H) (hS : va_S (mA am) s.heap H locs) (hdg : decode cc pc = .ok (.invokevirtual index, 3))
    (kk : ∀ S' : mS, mB S' Vs k f (es ++ sv_cut o.2.2.1 b d) (ks ++ sv_cut o.2.2.2 b d) → S'.2.1 = S.2.1 → ∀ (H1 : Heap) (locs1 : List Loc), va_P w.D cls (mw w am S') H1 → va_S (mA am) s.heap H1 locs1 → W p l e R s m args below meth c H1 locs1 cells slots Q (F0 m (pc + 3) ls rest)) : W p l e R s m args below meth c H locs cells slots Q (F0 m pc ls (.int (nI d) :: .int (nI b) :: .int (nI a) :: .ref (am 0) :: rest)) := by
  obtain ⟨n, th, fk, ff, fs, fe, fy, fw⟩ := S
  have hn : n = nI (Vs.length + 1) := hB.1
  have hs : fs Vs.length = nI es.length := hB.2.2.2.2.2.2.1
  have hla : a < Vs.length := (List.getElem?_eq_some_iff.mp ha).1
  have hlo : o.2.2.1.length ≤ 100 := (hB.2.2.1 a o ha).2.2.2.1.1
  subst hn
  exact m_cV (ct_M_putAll w am hI th fk ff fs fe fy fw Vs.length es.length a b d hB.2.1 hla hbd (by omega) he hs) hx hfl hK hb hsz hown hlink (hK.1 _ mk_M_putAll _) (hK.1 _ mi_M_putAll _) (hK.1 _ mq_M_putAll _) (show fx_N y_M_putAll 3 by decide +kernel) rfl hR hP hS hdg (fun H1 locs1 hP1 hS1 => kk _ (mB_all hB ha hbd hd he hk3) rfl H1 locs1 hP1 hS1)
end MROW
