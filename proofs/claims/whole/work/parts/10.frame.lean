/-! The frame of a walk: contracts that may return or throw, over the machine itself; rows that end a walk; rows that call. -/
section FX
variable {p : Program} {l : Launch} {e : Env} {R : Room} {s : State} {m : MethodId} {args : Array Value} {below : List Frame} {meth : Method} {c : Code} {H : Heap} {locs : List Loc} {cells slots : Nat} {Q : State → Prop}
/-- the end of a walk: it returned or threw; the heap as Post says; the tables warmer; at most mc cells of ms slots are new; what was written lies in A -/
def fx_E (below : List Frame) (s : State) (Post : Outcome → Heap → Prop) (mc ms : Nat) (A : Nat → Prop) : State → Prop := fun t =>
  ∃ o, t.status = .running ∧ Ended t below o ∧ Post o t.heap ∧ s.WarmedH t.vm ∧ ∃ L, s.sameButNew ({ t with vm := s.vm } : State) L mc ms ∧ ∀ q ∈ L, A q.base
/-- a contract: from every state whose tables say K, with the arguments av and a heap as Pre says, the method comes to an end as Post says -/
def fx_C (K : State → Prop) (y : MethodName) (nL : Nat) (rm : Room) (av : List Value) (Pre : Heap → Prop) (Post : Heap → Outcome → Heap → Prop) (A : Heap → Nat → Prop) : Prop :=
  ∀ (p : Program) (l : Launch) (e : Env) (s : State) (m : MethodId) (below : List Frame) (meth : Method) (c : Code),
    p.tables.exec = Jvm.exec → l.flags = flags0 → K s → s.methodNamed? y = some m → s.vm.method? m = some meth → meth.code = some c → Pre s.heap →
    W p l e rm s m av.toArray below meth c s.heap [] 0 0 (fx_E below s (Post s.heap) rm.cells rm.slots (A s.heap)) (entryFrame m av.toArray nL)
/-- throwing x over the frame g -/
def fx_T (p : Program) (l : Launch) (e : Env) (R : Room) (s : State) (m : MethodId) (args : Array Value) (below : List Frame) (meth : Method) (c : Code) (H : Heap) (locs : List Loc) (cells slots : Nat) (Q : State → Prop) (g : JFrame) (x : Nat) : Prop :=
  ∀ T : State, T.heap = H → Stand p l e R s m args below meth c T locs cells slots → ∃ t, Steps p.tables e below ((T.setTop g).pushFrame (.throwing x)) t ∧ Q t
/-- old cells outside A stay; at most mc cells are new -/
def fx_F (A : Nat → Prop) (mc : Nat) (H H' : Heap) : Prop := H.size ≤ H'.size ∧ H'.size ≤ H.size + mc ∧ ∀ q : Nat, q < H.size → ¬ A q → H'[q]? = H[q]?
theorem fx_mono {Q' : State → Prop} {g : JFrame} (h : ∀ t, Q t → Q' t) (k : W p l e R s m args below meth c H locs cells slots Q g) : W p l e R s m args below meth c H locs cells slots Q' g := by
  intro T hT X
  obtain ⟨t, a, b⟩ := k T hT X
  exact ⟨t, a, h t b⟩
theorem fx_ofMQ {Post : Outcome → Heap → Prop} {A : Nat → Prop} {k n mc ms : Nat} (hk : k ≤ mc) (hn : n ≤ ms) {t : State} (h : MQ below (fun _ _ o t => Post o t.heap) args s k n A t) : fx_E below s Post mc ms A t := by
  obtain ⟨o, h1, h2, h3, L, ⟨-, h4, h5⟩, h6⟩ := h
  exact ⟨o, h1, h2, h3, h4, L, h5.mono hk hn, h6⟩
variable {cc : ByteArray} {pc : Nat} {ls : Array Slot} {rest : List Value} {Post : Outcome → Heap → Prop} {A : Nat → Prop} {mc ms : Nat}
theorem fx_iret {v : Int32} (hexec : p.tables.exec = Jvm.exec) (hb : c.code = cc) (hr : meth.sig.returnType = some .int) (hlk : meth.locks = false) (hA : ∀ q ∈ locs, A q.base) (hc : cells ≤ mc) (hs : slots ≤ ms) (hdg : decode cc pc = .ok (.ireturn, 1)) (hq : Post (.returned (some (.int v))) H) :
    W p l e R s m args below meth c H locs cells slots (fx_E below s Post mc ms A) (F0 m pc ls [.int v]) :=
  fx_mono (fun _ h => fx_ofMQ hc hs h) (W.iret (Qc := fun _ _ o t => Post o t.heap) hexec hb hr (fun t ht _ => by show Post _ t.heap; rw [ht]; exact hq) hA hdg hlk)
theorem fx_zret {v : Int32} {ty : FieldType} (hexec : p.tables.exec = Jvm.exec) (hb : c.code = cc) (hr : meth.sig.returnType = some ty) (hn : narrow ty (.int v) = .int v) (hlk : meth.locks = false) (hA : ∀ q ∈ locs, A q.base) (hc : cells ≤ mc) (hs : slots ≤ ms) (hdg : decode cc pc = .ok (.ireturn, 1)) (hq : Post (.returned (some (.int v))) H) :
    W p l e R s m args below meth c H locs cells slots (fx_E below s Post mc ms A) (F0 m pc ls [.int v]) :=
  fx_mono (fun _ h => fx_ofMQ hc hs h) (W.zret (Qc := fun _ _ o t => Post o t.heap) hexec hb hr hn (fun t ht _ => by show Post _ t.heap; rw [ht]; exact hq) hA hdg hlk)
theorem fx_vret (hexec : p.tables.exec = Jvm.exec) (hb : c.code = cc) (hr : meth.sig.returnType = none) (hlk : meth.locks = false) (hA : ∀ q ∈ locs, A q.base) (hc : cells ≤ mc) (hs : slots ≤ ms) (hdg : decode cc pc = .ok (.return_, 1)) (hq : Post (.returned none) H) :
    W p l e R s m args below meth c H locs cells slots (fx_E below s Post mc ms A) (F0 m pc ls []) :=
  fx_mono (fun _ h => fx_ofMQ hc hs h) (W.vret (Qc := fun _ _ o t => Post o t.heap) hexec hb hr (fun t ht _ => by show Post _ t.heap; rw [ht]; exact hq) hA hdg hlk)
theorem fx_aret {v : Value} {rt : FieldType} (hexec : p.tables.exec = Jvm.exec) (hb : c.code = cc) (hr : meth.sig.returnType = some rt) (hrt : (∃ n, rt = .object n) ∨ ∃ t, rt = .array t) (hv : v = .null ∨ ∃ a, v = .ref a) (hlk : meth.locks = false) (hA : ∀ q ∈ locs, A q.base) (hc : cells ≤ mc) (hs : slots ≤ ms) (hdg : decode cc pc = .ok (.areturn, 1)) (hq : Post (.returned (some v)) H) :
    W p l e R s m args below meth c H locs cells slots (fx_E below s Post mc ms A) (F0 m pc ls [v]) :=
  fx_mono (fun _ h => fx_ofMQ hc hs h) (W.aret (Qc := fun _ _ o t => Post o t.heap) hexec hb hr hrt hv (fun t ht _ => by show Post _ t.heap; rw [ht]; exact hq) hA hdg hlk)
/-- nothing here catches: the method throws too -/
theorem fx_out {g : JFrame} {x : Nat} (hg : g.method = m) (h1 : g.locked = none) (h2 : g.entered = []) (hnt : c.exceptionTable.isEmpty = true) (hlk : meth.locks = false) (hA : ∀ q ∈ locs, A q.base) (hc : cells ≤ mc) (hs : slots ≤ ms) (hq : Post (.threw x) H) :
    fx_T p l e R s m args below meth c H locs cells slots (fx_E below s Post mc ms A) g x := by
  intro T hT X
  obtain ⟨st, hrun, hend, hW, hsame⟩ := X.leaveThrown x hg h1 h2 (covers_of_empty hnt _) hlk
  refine ⟨_, st, .threw x, hrun, hend, ?_, hW, locs, hsame.mono hc hs, hA⟩
  show Post _ T.heap
  rw [hT]
  exact hq
/-- caught: the walk goes on at the handler, the exception alone on the stack -/
theorem fx_catch {x pc' : Nat} {st : List Value} (hf : ∀ T : State, T.heap = H → Stand p l e R s m args below meth c T locs cells slots → Finds e ((T.setTop (F0 m pc ls st)).pushFrame (.throwing x)) (F0 m pc ls st) x (.found pc'))
    (k : W p l e R s m args below meth c H locs cells slots Q (F0 m pc' ls [.ref x])) : fx_T p l e R s m args below meth c H locs cells slots Q (F0 m pc ls st) x := by
  intro T hT X
  obtain ⟨t, a, b⟩ := k T hT X
  exact ⟨t, X.catchAt x rfl (hf T hT X) a, b⟩
/-- what a callee left: cells outside what it may write are as they were -/
theorem fx_frame {T T' : State} {L : List Loc} {k n : Nat} {B : Nat → Prop} (h : T.sameButNew (T'.setVm T.vm) L k n) (hB : ∀ q ∈ L, B q.base) : fx_F B k T.heap T'.heap := by
  obtain ⟨-, h1, h2, -, -, h3⟩ := h
  refine ⟨h1, h2, fun q hq hn => ?_⟩
  obtain ⟨cell, hcell⟩ : ∃ cell, T.heap[q]? = some cell := ⟨_, Array.getElem?_eq_getElem hq⟩
  obtain ⟨c', e1, e2, e3, e4⟩ := h3 q cell hcell
  have e5 : c'.slots = cell.slots := by
    apply Array.ext_getElem?
    intro i
    exact e4 i (fun hm => hn (hB _ hm))
  have e6 : c' = cell := by rw [e2, e5]
  have e7 : T'.heap[q]? = some c' := e1
  rw [e7, hcell, e6]
theorem fx_core {K : State → Prop} (hKm : ∀ s U : State, s.WarmedH U.vm → K s → K U) {T : State} {y : MethodName} {nL : Nat} {rm : Room} {av : List Value} {Pre : Heap → Prop} {PostC : Heap → Outcome → Heap → Prop} {AC : Heap → Nat → Prop}
    (hC : fx_C K y nL rm av Pre PostC AC) (hexec : p.tables.exec = Jvm.exec) (hfl : l.flags = flags0) (X : Stand p l e R s m args below meth c T locs cells slots) (hk : K s)
    {g : JFrame} (hg : g.method = m) (hsize : g.locals.size = c.maxLocals) {ig : Instr} {len : Nat} (hdg : decode c.code g.pc = .ok (ig, len))
    {mk : MethodId} {methk : Method} {ck : Code} (hn : s.methodNamed? y = some mk) (hmk : s.vm.method? mk = some methk) (hck : methk.code = some ck) (hlk : methk.locks = false) (hnl : ck.maxLocals = nL) (hpl : plainFor y = true)
    (hpre : Pre T.heap) (hframes : rm.frames + 1 ≤ R.frames) (hlocals : 2 * g.monitorRoom + (g.stack.map fun v => v.category).sum + (nL + 11) + rm.locals ≤ R.locals) (hcells : cells + rm.cells ≤ R.cells) (hslots : slots + rm.slots ≤ R.slots) :
    ∃ (o : Outcome) (T' : State) (L : List Loc), Stand p l e R s m args below meth c T' (locs ++ L) (cells + rm.cells) (slots + rm.slots) ∧ (∀ q ∈ L, AC T.heap q.base) ∧ PostC T.heap o T'.heap ∧ fx_F (AC T.heap) rm.cells T.heap T'.heap ∧
      ∀ acts, Steps p.tables e below (doInvoke e (T.setTop g) acts mk av.toArray).1 (match o with | .returned v => T'.setTop { g with pc := g.pc + len, stack := v.toList ++ g.stack } | .threw x => (T'.setTop g).pushFrame (.throwing x)) := by
  have hmk' : T.vm.method? mk = some methk := by rw [X.warmed.alike.method?]; exact hmk
  have hnT : T.methodNamed? y = some mk := X.named hn
  have hpk : T.plainMethod mk := State.plainMethod.of_named hpl hnT hmk'
  obtain ⟨Y, hin⟩ := X.into hg hsize hdg av.toArray (R' := rm) hmk' hck hlk hpk hframes (by rw [hnl]; exact hlocals) hcells hslots
  have hKc : K (T.calling g mk av.toArray) := hKm s (T.calling g mk av.toArray) X.warmed hk
  have hnc : (T.calling g mk av.toArray).methodNamed? y = some mk := hnT
  have hw := hC p l e (T.calling g mk av.toArray) mk (.java g :: below) methk ck hexec hfl hKc hnc hmk' hck hpre
  obtain ⟨t, st, o, hrun, hend, hpost, hW, L, hsame, hL⟩ := hw ((T.setTop g).pushFrame (.java (entryFrame mk av.toArray ck.maxLocals))) rfl Y
  rw [← hnl] at st
  cases o with
  | returned v =>
    obtain ⟨T', X', hW', hB', ht⟩ := X.outOf hg hdg hend hW hsame
    have hth : T'.heap = t.heap := by rw [ht]; rfl
    refine ⟨.returned v, T', L, X', hL, by rw [hth]; exact hpost, fx_frame hB' hL, fun acts => ?_⟩
    rw [hin acts]
    show Steps p.tables e below _ (T'.setTop { g with pc := g.pc + len, stack := v.toList ++ g.stack })
    rw [← ht]
    exact Steps.weaken (mid := [.java g]) st
  | threw x =>
    obtain ⟨T', X', hW', hB', ht⟩ := X.outOfThrown hg hend hW hsame
    have hth : T'.heap = t.heap := by rw [ht]; exact (Stand.throwing_heap T' g x).symm
    refine ⟨.threw x, T', L, X', hL, by rw [hth]; exact hpost, fx_frame hB' hL, fun acts => ?_⟩
    rw [hin acts]
    show Steps p.tables e below _ ((T'.setTop g).pushFrame (.throwing x))
    rw [← ht]
    exact Steps.weaken (mid := [.java g]) st
end FX
