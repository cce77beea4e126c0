/-! Rows that call: static, virtual, constructor; the same to a nest mate. Two roads behind each: it returned, it threw. -/
section FXC
variable {p : Program} {l : Launch} {e : Env} {R : Room} {s : State} {m : MethodId} {args : Array Value} {below : List Frame} {meth : Method} {c : Code} {H : Heap} {locs : List Loc} {cells slots : Nat} {Q : State → Prop}
variable {cc : ByteArray} {pc : Nat} {ls : Array Slot} {rest st av : List Value} {K : State → Prop} {y : MethodName} {nL : Nat} {rm : Room} {Pre : Heap → Prop} {PostC : Heap → Outcome → Heap → Prop} {AC : Heap → Nat → Prop} {B : Nat → Prop}
/-- the callee is there -/
def fx_Y (s : State) (y : MethodName) (nL : Nat) : Prop := ∃ (mk : MethodId) (methk : Method) (ck : Code), s.methodNamed? y = some mk ∧ s.vm.method? mk = some methk ∧ methk.code = some ck ∧ ck.maxLocals = nL ∧ methk.locks = false ∧ parseMethodDescriptor y.desc = some methk.sig
theorem fx_Y.code {bytes : ByteArray} {ret : Option FieldType} (h : (Cond.code y bytes nL ret).before args s = true) : fx_Y s y nL := by
  obtain ⟨mk, hn⟩ := Cond.code_named h
  obtain ⟨methk, ck, h1, h2, -, h4, -, h6, -, h8⟩ := Cond.code_spec hn h
  exact ⟨mk, methk, ck, hn, h1, h2, h4, h6, h8⟩
theorem fx_Y.codeWith {bytes : ByteArray} {ret : Option FieldType} {hh : List (Nat × Nat × Nat × Nat)} (h : (Cond.codeWith y bytes nL ret hh).before args s = true) : fx_Y s y nL := by
  obtain ⟨mk, methk, ck, hn, h1, h2, -, h4, -, -, h6, h8⟩ := Cond.codeWith_spec h
  exact ⟨mk, methk, ck, hn, h1, h2, h4, h6, h8⟩
/-- what every call row asks of y's name and of the room -/
abbrev fx_N (y : MethodName) (n : Nat) : Prop := (y.cls ≠ "java/lang/invoke/MethodHandle" ∧ y.cls ≠ "java/lang/invoke/VarHandle") ∧ plainFor y = true ∧ (parseMethodDescriptor y.desc).map (fun d => d.parameters.length) = some n
abbrev fx_R (R rm : Room) (nL cells slots : Nat) (rest : List Value) : Prop := rm.frames + 1 ≤ R.frames ∧ (rest.map fun v => v.category).sum + (nL + 11) + rm.locals ≤ R.locals ∧ cells + rm.cells ≤ R.cells ∧ slots + rm.slots ≤ R.slots
theorem fx_fin {T : State} {vm₁ : Vm} {mk : MethodId} {a : Array Value} (hT : T.heap = H)
    (hcore : ∃ (o : Outcome) (T' : State) (L : List Loc), Stand p l e R s m args below meth c T' (locs ++ L) (cells + rm.cells) (slots + rm.slots) ∧ (∀ q ∈ L, AC (T.setVm vm₁).heap q.base) ∧ PostC (T.setVm vm₁).heap o T'.heap ∧ fx_F (AC (T.setVm vm₁).heap) rm.cells (T.setVm vm₁).heap T'.heap ∧
      ∀ acts, Steps p.tables e below (doInvoke e ((T.setVm vm₁).setTop (F0 m pc ls rest)) acts mk a).1 (match o with | .returned v => T'.setTop { F0 m pc ls rest with pc := (F0 m pc ls rest).pc + 3, stack := v.toList ++ (F0 m pc ls rest).stack } | .threw x => (T'.setTop (F0 m pc ls rest)).pushFrame (.throwing x)))
    (hstep : ∀ target, (∀ acts, Steps p.tables e below (doInvoke e ((T.setVm vm₁).setTop (F0 m pc ls rest)) acts mk a).1 target) → Steps p.tables e below (T.setTop (F0 m pc ls st)) target)
    (hL : ∀ q ∈ locs, B q.base) (hAB : ∀ q, AC H q → B q)
    (kr : ∀ (v : Option Value) (H' : Heap) (locs' : List Loc), PostC H (.returned v) H' → fx_F (AC H) rm.cells H H' → (∀ q ∈ locs', B q.base) → W p l e R s m args below meth c H' locs' (cells + rm.cells) (slots + rm.slots) Q (F0 m (pc + 3) ls (v.toList ++ rest)))
    (kt : ∀ (x : Nat) (H' : Heap) (locs' : List Loc), PostC H (.threw x) H' → fx_F (AC H) rm.cells H H' → (∀ q ∈ locs', B q.base) → fx_T p l e R s m args below meth c H' locs' (cells + rm.cells) (slots + rm.slots) Q (F0 m pc ls rest) x) :
    ∃ t, Steps p.tables e below (T.setTop (F0 m pc ls st)) t ∧ Q t := by
  obtain ⟨o, T', L, X', hL', hpost, hF, hs⟩ := hcore
  have hH : (T.setVm vm₁).heap = H := hT
  rw [hH] at hL' hpost hF
  have hl2 : ∀ q ∈ locs ++ L, B q.base := fun q hq => by
    rcases List.mem_append.mp hq with h | h
    · exact hL q h
    · exact hAB _ (hL' q h)
  cases o with
  | returned v =>
    obtain ⟨t, a1, b1⟩ := kr v T'.heap (locs ++ L) hpost hF hl2 T' rfl X'
    exact ⟨t, hstep t (fun acts => (hs acts).trans a1), b1⟩
  | threw x =>
    obtain ⟨t, a1, b1⟩ := kt x T'.heap (locs ++ L) hpost hF hl2 T' rfl X'
    exact ⟨t, hstep t (fun acts => (hs acts).trans a1), b1⟩
theorem fx_cS (hKm : ∀ s U : State, s.WarmedH U.vm → K s → K U) (hC : fx_C K y nL rm av Pre PostC AC) (hexec : p.tables.exec = Jvm.exec) (hfl : l.flags = flags0) (hk : K s) (hb : c.code = cc) (hsz : ls.size = c.maxLocals) {own : String} {index : Nat} (hown : s.vm.findClass own = some m.cls)
    (hlink : (Cond.methodLink own index y).before args s = true) (hY : fx_Y s y nL) (hstat : (Cond.static y).before args s = true) (hini : (Cond.initialized y.cls).before args s = true) (hN : fx_N y av.length) (hst : st = av.reverse ++ rest) (hR : fx_R R rm nL cells slots rest) (hpre : Pre H)
    (hdg : decode cc pc = .ok (.invokestatic index, 3)) (hL : ∀ q ∈ locs, B q.base) (hAB : ∀ q, AC H q → B q)
    (kr : ∀ (v : Option Value) (H' : Heap) (locs' : List Loc), PostC H (.returned v) H' → fx_F (AC H) rm.cells H H' → (∀ q ∈ locs', B q.base) → W p l e R s m args below meth c H' locs' (cells + rm.cells) (slots + rm.slots) Q (F0 m (pc + 3) ls (v.toList ++ rest)))
    (kt : ∀ (x : Nat) (H' : Heap) (locs' : List Loc), PostC H (.threw x) H' → fx_F (AC H) rm.cells H H' → (∀ q ∈ locs', B q.base) → fx_T p l e R s m args below meth c H' locs' (cells + rm.cells) (slots + rm.slots) Q (F0 m pc ls rest) x) :
    W p l e R s m args below meth c H locs cells slots Q (F0 m pc ls st) := by
  intro T hT X
  obtain ⟨mk, methk, ck, hn, hmk, hck, hnl, hlk, hsig⟩ := hY
  obtain ⟨hy, hpl, hd⟩ := hN
  rw [hsig] at hd
  have hlen : av.length = methk.sig.parameters.length := (Option.some.inj hd).symm
  have hstatic : methk.isStatic = true := Cond.static_spec hn hmk hstat
  obtain ⟨kP, hkP, -⟩ := className_of_methodNamed hn
  have hinitP : kP.init = .initialized := Cond.initialized_spec (findClass_of_methodNamed hn) hkP hini
  obtain ⟨vm₁, X₁, hstep⟩ := X.invokestatic hexec hown hlink hn hmk hstatic hkP hinitP hy (g := F0 m pc ls st) rfl (argsL := av) (rest := rest) hlen hst (by rw [hb]; exact hdg)
  refine fx_fin hT (fx_core hKm hC hexec hfl X₁ hk (g := F0 m pc ls rest) rfl hsz (by rw [hb]; exact hdg) hn hmk hck hlk hnl hpl (by show Pre T.heap; rw [hT]; exact hpre) hR.1 ?_ hR.2.2.1 hR.2.2.2) hstep hL hAB kr kt
  have := hR.2.1
  show 2 * 0 + (rest.map fun v => v.category).sum + (nL + 11) + rm.locals ≤ R.locals
  omega
theorem fx_cV (hKm : ∀ s U : State, s.WarmedH U.vm → K s → K U) {b : Nat} (hC : fx_C K y nL rm (.ref b :: av) Pre PostC AC) (hexec : p.tables.exec = Jvm.exec) (hfl : l.flags = flags0) (hk : K s) (hb : c.code = cc) (hsz : ls.size = c.maxLocals) {own C : String} {index : Nat} (hown : s.vm.findClass own = some m.cls)
    (hlink : (Cond.methodLink own index y).before args s = true) (hY : fx_Y s y nL) (hinst : (Cond.instanceMethod y).before args s = true) (hsel : (Cond.selects C y y).before args s = true) (hN : fx_N y av.length) (hrc : ∃ cell : Cell, H[b]? = some cell ∧ cell.vm.isStatics = false ∧ s.vm.findClass C = some cell.cls) (hst : st = av.reverse ++ .ref b :: rest) (hR : fx_R R rm nL cells slots rest) (hpre : Pre H)
    (hdg : decode cc pc = .ok (.invokevirtual index, 3)) (hL : ∀ q ∈ locs, B q.base) (hAB : ∀ q, AC H q → B q)
    (kr : ∀ (v : Option Value) (H' : Heap) (locs' : List Loc), PostC H (.returned v) H' → fx_F (AC H) rm.cells H H' → (∀ q ∈ locs', B q.base) → W p l e R s m args below meth c H' locs' (cells + rm.cells) (slots + rm.slots) Q (F0 m (pc + 3) ls (v.toList ++ rest)))
    (kt : ∀ (x : Nat) (H' : Heap) (locs' : List Loc), PostC H (.threw x) H' → fx_F (AC H) rm.cells H H' → (∀ q ∈ locs', B q.base) → fx_T p l e R s m args below meth c H' locs' (cells + rm.cells) (slots + rm.slots) Q (F0 m pc ls rest) x) :
    W p l e R s m args below meth c H locs cells slots Q (F0 m pc ls st) := by
  intro T hT X
  obtain ⟨mk, methk, ck, hn, hmk, hck, hnl, hlk, hsig⟩ := hY
  obtain ⟨hy, hpl, hd⟩ := hN
  rw [hsig] at hd
  have hlen : av.length = methk.sig.parameters.length := (Option.some.inj hd).symm
  obtain ⟨mk', methM, hn', hmethM, hstM, habM⟩ := Cond.instanceMethod_spec hinst
  cases Option.some.inj (hn.symm.trans hn')
  cases Option.some.inj (hmk.symm.trans hmethM)
  obtain ⟨cellB, hcB, hoB, hclB⟩ := hrc
  obtain ⟨c2, r2, m2, q1, q2, q3, q4, kP, hkP, hkPi⟩ := Cond.selects_spec hsel
  cases Option.some.inj (hclB.symm.trans q1)
  cases Option.some.inj ((State.methodFound?_of_named hn hy).symm.trans q2)
  cases Option.some.inj (hn.symm.trans q3)
  have hselP : selectMethod e.platform s.vm cellB.cls mk = .method mk := by rw [Launch.admits_selectMethod X.admits]; exact q4
  obtain ⟨vm₁, X₁, hstep⟩ := X.invokevirtual hexec hown hlink hn hmk hstM hkP hkPi hy (a := b) (cell := cellB) (by rw [hT]; exact hcB) (fun z h => by rw [h] at hoB; cases hoB) hselP hmk habM hkP hkPi (g := F0 m pc ls st) rfl (argsL := av) (rest := rest) hlen hst (by rw [hb]; exact hdg)
  refine fx_fin hT (fx_core hKm hC hexec hfl X₁ hk (g := F0 m pc ls rest) rfl hsz (by rw [hb]; exact hdg) hn hmk hck hlk hnl hpl (by show Pre T.heap; rw [hT]; exact hpre) hR.1 ?_ hR.2.2.1 hR.2.2.2) hstep hL hAB kr kt
  have := hR.2.1
  show 2 * 0 + (rest.map fun v => v.category).sum + (nL + 11) + rm.locals ≤ R.locals
  omega
theorem fx_cVN (hKm : ∀ s U : State, s.WarmedH U.vm → K s → K U) {b : Nat} (hC : fx_C K y nL rm (.ref b :: av) Pre PostC AC) (hexec : p.tables.exec = Jvm.exec) (hfl : l.flags = flags0) (hk : K s) (hb : c.code = cc) (hsz : ls.size = c.maxLocals) {own C host : String} {index : Nat} (hown : s.vm.findClass own = some m.cls)
    (hlink : (Cond.methodLinkNest own index y host).before args s = true) (hY : fx_Y s y nL) (hinst : (Cond.instanceMethod y).before args s = true) (hsel : (Cond.selects C y y).before args s = true) (hN : fx_N y av.length) (hrc : ∃ cell : Cell, H[b]? = some cell ∧ cell.vm.isStatics = false ∧ s.vm.findClass C = some cell.cls) (hst : st = av.reverse ++ .ref b :: rest) (hR : fx_R R rm nL cells slots rest) (hpre : Pre H)
    (hdg : decode cc pc = .ok (.invokevirtual index, 3)) (hL : ∀ q ∈ locs, B q.base) (hAB : ∀ q, AC H q → B q)
    (kr : ∀ (v : Option Value) (H' : Heap) (locs' : List Loc), PostC H (.returned v) H' → fx_F (AC H) rm.cells H H' → (∀ q ∈ locs', B q.base) → W p l e R s m args below meth c H' locs' (cells + rm.cells) (slots + rm.slots) Q (F0 m (pc + 3) ls (v.toList ++ rest)))
    (kt : ∀ (x : Nat) (H' : Heap) (locs' : List Loc), PostC H (.threw x) H' → fx_F (AC H) rm.cells H H' → (∀ q ∈ locs', B q.base) → fx_T p l e R s m args below meth c H' locs' (cells + rm.cells) (slots + rm.slots) Q (F0 m pc ls rest) x) :
    W p l e R s m args below meth c H locs cells slots Q (F0 m pc ls st) := by
  intro T hT X
  obtain ⟨mk, methk, ck, hn, hmk, hck, hnl, hlk, hsig⟩ := hY
  obtain ⟨hy, hpl, hd⟩ := hN
  rw [hsig] at hd
  have hlen : av.length = methk.sig.parameters.length := (Option.some.inj hd).symm
  obtain ⟨mk', methM, hn', hmethM, hstM, habM⟩ := Cond.instanceMethod_spec hinst
  cases Option.some.inj (hn.symm.trans hn')
  cases Option.some.inj (hmk.symm.trans hmethM)
  obtain ⟨cellB, hcB, hoB, hclB⟩ := hrc
  obtain ⟨c2, r2, m2, q1, q2, q3, q4, kP, hkP, hkPi⟩ := Cond.selects_spec hsel
  cases Option.some.inj (hclB.symm.trans q1)
  cases Option.some.inj ((State.methodFound?_of_named hn hy).symm.trans q2)
  cases Option.some.inj (hn.symm.trans q3)
  have hselP : selectMethod e.platform s.vm cellB.cls mk = .method mk := by rw [Launch.admits_selectMethod X.admits]; exact q4
  obtain ⟨vm₁, X₁, hstep⟩ := X.invokevirtualNest hexec hown hlink hn hmk hstM hkP hkPi hy (a := b) (cell := cellB) (by rw [hT]; exact hcB) (fun z h => by rw [h] at hoB; cases hoB) hselP hmk habM hkP hkPi (g := F0 m pc ls st) rfl (argsL := av) (rest := rest) hlen hst (by rw [hb]; exact hdg)
  refine fx_fin hT (fx_core hKm hC hexec hfl X₁ hk (g := F0 m pc ls rest) rfl hsz (by rw [hb]; exact hdg) hn hmk hck hlk hnl hpl (by show Pre T.heap; rw [hT]; exact hpre) hR.1 ?_ hR.2.2.1 hR.2.2.2) hstep hL hAB kr kt
  have := hR.2.1
  show 2 * 0 + (rest.map fun v => v.category).sum + (nL + 11) + rm.locals ≤ R.locals
  omega
theorem fx_cI (hKm : ∀ s U : State, s.WarmedH U.vm → K s → K U) {b : Nat} (hC : fx_C K y nL rm (.ref b :: av) Pre PostC AC) (hexec : p.tables.exec = Jvm.exec) (hfl : l.flags = flags0) (hk : K s) (hb : c.code = cc) (hsz : ls.size = c.maxLocals) {own : String} {index : Nat} {bytes : ByteArray} (hown : s.vm.findClass own = some m.cls)
    (hlink : (Cond.methodLink own index y).before args s = true) (hcode : (Cond.code y bytes nL none).before args s = true) (hinst : (Cond.instanceMethod y).before args s = true) (hy1 : y.name = "<init>") (hN : fx_N y av.length) (hst : st = av.reverse ++ .ref b :: rest) (hR : fx_R R rm nL cells slots rest) (hpre : Pre H)
    (hdg : decode cc pc = .ok (.invokespecial index, 3)) (hL : ∀ q ∈ locs, B q.base) (hAB : ∀ q, AC H q → B q)
    (kr : ∀ (v : Option Value) (H' : Heap) (locs' : List Loc), PostC H (.returned v) H' → fx_F (AC H) rm.cells H H' → (∀ q ∈ locs', B q.base) → W p l e R s m args below meth c H' locs' (cells + rm.cells) (slots + rm.slots) Q (F0 m (pc + 3) ls (v.toList ++ rest)))
    (kt : ∀ (x : Nat) (H' : Heap) (locs' : List Loc), PostC H (.threw x) H' → fx_F (AC H) rm.cells H H' → (∀ q ∈ locs', B q.base) → fx_T p l e R s m args below meth c H' locs' (cells + rm.cells) (slots + rm.slots) Q (F0 m pc ls rest) x) :
    W p l e R s m args below meth c H locs cells slots Q (F0 m pc ls st) := by
  intro T hT X
  obtain ⟨mk, methk, ck, hn, hmk, hck, hnl, hlk, hsig⟩ := fx_Y.code hcode
  obtain ⟨hy, hpl, hd⟩ := hN
  have hd2 : ∀ sig, parseMethodDescriptor y.desc = some sig → av.length = sig.parameters.length := fun sig h => by rw [h] at hd; exact (Option.some.inj hd).symm
  have hplat : e.platform.magicAccessors = ({} : Platform).magicAccessors := by rw [X.admits.platform]
  obtain ⟨mk', methM, cM, kP, vm₁, hn', -, -, -, -, -, hkP, -, hW₁, hstep⟩ := Steps.initColdArgs (e := e) X.here hexec X.warmed hplat hown hy1 hy hlink hinst hcode (f := F0 m pc ls st) rfl hd2 hst (by rw [hb]; exact hdg)
  cases Option.some.inj (hn.symm.trans hn')
  have X₁ := X.noted hW₁
  refine fx_fin hT (fx_core hKm hC hexec hfl X₁ hk (g := F0 m pc ls rest) rfl hsz (by rw [hb]; exact hdg) hn hmk hck hlk hnl hpl (by show Pre T.heap; rw [hT]; exact hpre) hR.1 ?_ hR.2.2.1 hR.2.2.2) hstep hL hAB kr kt
  have := hR.2.1
  show 2 * 0 + (rest.map fun v => v.category).sum + (nL + 11) + rm.locals ≤ R.locals
  omega
theorem fx_cIN (hKm : ∀ s U : State, s.WarmedH U.vm → K s → K U) {b : Nat} (hC : fx_C K y nL rm (.ref b :: av) Pre PostC AC) (hexec : p.tables.exec = Jvm.exec) (hfl : l.flags = flags0) (hk : K s) (hb : c.code = cc) (hsz : ls.size = c.maxLocals) {own host : String} {index : Nat} {bytes : ByteArray} (hown : s.vm.findClass own = some m.cls)
    (hlink : (Cond.methodLinkNest own index y host).before args s = true) (hcode : (Cond.code y bytes nL none).before args s = true) (hinst : (Cond.instanceMethod y).before args s = true) (hy1 : y.name = "<init>") (hN : fx_N y av.length) (hst : st = av.reverse ++ .ref b :: rest) (hR : fx_R R rm nL cells slots rest) (hpre : Pre H)
    (hdg : decode cc pc = .ok (.invokespecial index, 3)) (hL : ∀ q ∈ locs, B q.base) (hAB : ∀ q, AC H q → B q)
    (kr : ∀ (v : Option Value) (H' : Heap) (locs' : List Loc), PostC H (.returned v) H' → fx_F (AC H) rm.cells H H' → (∀ q ∈ locs', B q.base) → W p l e R s m args below meth c H' locs' (cells + rm.cells) (slots + rm.slots) Q (F0 m (pc + 3) ls (v.toList ++ rest)))
    (kt : ∀ (x : Nat) (H' : Heap) (locs' : List Loc), PostC H (.threw x) H' → fx_F (AC H) rm.cells H H' → (∀ q ∈ locs', B q.base) → fx_T p l e R s m args below meth c H' locs' (cells + rm.cells) (slots + rm.slots) Q (F0 m pc ls rest) x) :
    W p l e R s m args below meth c H locs cells slots Q (F0 m pc ls st) := by
  intro T hT X
  obtain ⟨mk, methk, ck, hn, hmk, hck, hnl, hlk, hsig⟩ := fx_Y.code hcode
  obtain ⟨hy, hpl, hd⟩ := hN
  have hd2 : ∀ sig, parseMethodDescriptor y.desc = some sig → av.length = sig.parameters.length := fun sig h => by rw [h] at hd; exact (Option.some.inj hd).symm
  have hplat : e.platform.magicAccessors = ({} : Platform).magicAccessors := by rw [X.admits.platform]
  obtain ⟨mk', methM, cM, kP, vm₁, hn', -, -, -, -, -, hkP, -, hW₁, hstep⟩ := Steps.initColdArgsNest (e := e) X.here hexec X.warmed hplat hown hy1 hy hlink hinst hcode (f := F0 m pc ls st) rfl hd2 hst (by rw [hb]; exact hdg)
  cases Option.some.inj (hn.symm.trans hn')
  have X₁ := X.noted hW₁
  refine fx_fin hT (fx_core hKm hC hexec hfl X₁ hk (g := F0 m pc ls rest) rfl hsz (by rw [hb]; exact hdg) hn hmk hck hlk hnl hpl (by show Pre T.heap; rw [hT]; exact hpre) hR.1 ?_ hR.2.2.1 hR.2.2.2) hstep hL hAB kr kt
  have := hR.2.1
  show 2 * 0 + (rest.map fun v => v.category).sum + (nL + 11) + rm.locals ≤ R.locals
  omega
/-- how a contract of a method without handlers is begun -/
theorem fx_of {Pre : Heap → Prop} {PostC : Heap → Outcome → Heap → Prop} {AC : Heap → Nat → Prop} {ret : Option FieldType} (hcode : ∀ s, K s → (Cond.code y cc nL ret).before #[] s = true) (hsl : (lg_sl av).length ≤ nL)
    (body : ∀ (p : Program) (l : Launch) (e : Env) (s : State) (m : MethodId) (below : List Frame) (meth : Method) (c : Code), p.tables.exec = Jvm.exec → l.flags = flags0 → K s → c.code = cc → c.maxLocals = nL → meth.sig.returnType = ret → meth.locks = false → c.exceptionTable.isEmpty = true → s.vm.findClass y.cls = some m.cls → meth.name = y.name → Pre s.heap →
      ∀ ls : Array Slot, lv_has ls nL (lv_args 0 av) → W p l e rm s m av.toArray below meth c s.heap [] 0 0 (fx_E below s (PostC s.heap) rm.cells rm.slots (AC s.heap)) (F0 m 0 ls [])) : fx_C K y nL rm av Pre PostC AC := by
  intro p l e s m below meth c hx hfl hK hn hm hc hpre
  obtain ⟨meth', c', h1, h2, h3, h4, h5, h6, h7, -⟩ := Cond.code_spec hn (hcode s hK)
  cases Option.some.inj (hm.symm.trans h1)
  cases Option.some.inj (hc.symm.trans h2)
  rw [lg_entry_eq]
  exact body p l e s m below meth c hx hfl hK h3 h4 h5 h6 h7 (findClass_of_methodNamed hn) (name_of_methodNamed hn hm).1 hpre _ (lv_entry av hsl)
/-- how a contract of a method with handlers is begun -/
theorem fx_ofW {Pre : Heap → Prop} {PostC : Heap → Outcome → Heap → Prop} {AC : Heap → Nat → Prop} {ret : Option FieldType} {hh : List (Nat × Nat × Nat × Nat)} (hcode : ∀ s, K s → (Cond.codeWith y cc nL ret hh).before #[] s = true) (hsl : (lg_sl av).length ≤ nL)
    (body : ∀ (p : Program) (l : Launch) (e : Env) (s : State) (m : MethodId) (below : List Frame) (meth : Method) (c : Code), p.tables.exec = Jvm.exec → l.flags = flags0 → K s → c.code = cc → c.maxLocals = nL → meth.sig.returnType = ret → meth.locks = false → c.exceptionTable.toList.map (fun h => (h.startPc, h.endPc, h.handlerPc, h.catchType)) = hh → s.vm.findClass y.cls = some m.cls → meth.name = y.name → Pre s.heap →
      ∀ ls : Array Slot, lv_has ls nL (lv_args 0 av) → W p l e rm s m av.toArray below meth c s.heap [] 0 0 (fx_E below s (PostC s.heap) rm.cells rm.slots (AC s.heap)) (F0 m 0 ls [])) : fx_C K y nL rm av Pre PostC AC := by
  intro p l e s m below meth c hx hfl hK hn hm hc hpre
  obtain ⟨m', meth', c', h0, h1, h2, h3, h4, h7, h5, h6, -⟩ := Cond.codeWith_spec (hcode s hK)
  cases Option.some.inj (hn.symm.trans h0)
  cases Option.some.inj (hm.symm.trans h1)
  cases Option.some.inj (hc.symm.trans h2)
  rw [lg_entry_eq]
  exact body p l e s m below meth c hx hfl hK h3 h4 h5 h6 h7 (findClass_of_methodNamed hn) (name_of_methodNamed hn hm).1 hpre _ (lv_entry av hsl)
end FXC
