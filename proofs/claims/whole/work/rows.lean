section
/-! PART A of the skeleton -/
-- ===== PART A: goes FIRST, ahead of the names: the tables' words, and 'selects' of the private methods out of them =====
/-- a private method of a class that the tables say can be made, by its rows of tables_1 -/
def lw_okq (q : MethodName × Nat) : Prop := (q.1.cls ≠ "java/lang/invoke/MethodHandle" ∧ q.1.cls ≠ "java/lang/invoke/VarHandle") ∧ Cond.instantiable q.1.cls q.2 ∈ tables_1 ∧ Cond.privateMethod q.1 ∈ tables_1 ∧ Cond.instanceMethod q.1 ∈ tables_1
theorem lw_p0 : lw_okq (⟨"java/lang/Throwable", "fillInStackTrace", "(I)Ljava/lang/Throwable;"⟩, 6) := ⟨⟨by decide +kernel, by decide +kernel⟩, List.mem_of_getElem? (i := 121) (by decide +kernel), List.mem_of_getElem? (i := 119) (by decide +kernel), List.mem_of_getElem? (i := 120) (by decide +kernel)⟩
theorem lw_p1 : lw_okq (⟨"LastingShapes", "refuseBeyondLimits", "(I)V"⟩, 1) := ⟨⟨by decide +kernel, by decide +kernel⟩, List.mem_of_getElem? (i := 22) (by decide +kernel), List.mem_of_getElem? (i := 151) (by decide +kernel), List.mem_of_getElem? (i := 152) (by decide +kernel)⟩
theorem lw_p2 : lw_okq (⟨"LastingShapes", "keep", "(LLastingShapes$Version;)I"⟩, 1) := ⟨⟨by decide +kernel, by decide +kernel⟩, List.mem_of_getElem? (i := 22) (by decide +kernel), List.mem_of_getElem? (i := 196) (by decide +kernel), List.mem_of_getElem? (i := 197) (by decide +kernel)⟩
theorem lw_p3 : lw_okq (⟨"java/util/ArrayList", "add", "(Ljava/lang/Object;[Ljava/lang/Object;I)V"⟩, 3) := ⟨⟨by decide +kernel, by decide +kernel⟩, List.mem_of_getElem? (i := 30) (by decide +kernel), List.mem_of_getElem? (i := 204) (by decide +kernel), List.mem_of_getElem? (i := 205) (by decide +kernel)⟩
theorem lw_p4 : lw_okq (⟨"java/util/ArrayList", "grow", "()[Ljava/lang/Object;"⟩, 3) := ⟨⟨by decide +kernel, by decide +kernel⟩, List.mem_of_getElem? (i := 30) (by decide +kernel), List.mem_of_getElem? (i := 208) (by decide +kernel), List.mem_of_getElem? (i := 209) (by decide +kernel)⟩
theorem lw_p5 : lw_okq (⟨"java/util/ArrayList", "grow", "(I)[Ljava/lang/Object;"⟩, 3) := ⟨⟨by decide +kernel, by decide +kernel⟩, List.mem_of_getElem? (i := 30) (by decide +kernel), List.mem_of_getElem? (i := 212) (by decide +kernel), List.mem_of_getElem? (i := 213) (by decide +kernel)⟩
theorem lw_p6 : lw_okq (⟨"LastingShapes", "foundButNoMap", "(I)LLastingShapes$Version;"⟩, 1) := ⟨⟨by decide +kernel, by decide +kernel⟩, List.mem_of_getElem? (i := 22) (by decide +kernel), List.mem_of_getElem? (i := 262) (by decide +kernel), List.mem_of_getElem? (i := 263) (by decide +kernel)⟩
theorem lw_p7 : lw_okq (⟨"LastingShapes", "found", "(I)LLastingShapes$Version;"⟩, 1) := ⟨⟨by decide +kernel, by decide +kernel⟩, List.mem_of_getElem? (i := 22) (by decide +kernel), List.mem_of_getElem? (i := 266) (by decide +kernel), List.mem_of_getElem? (i := 267) (by decide +kernel)⟩
theorem lw_p8 : lw_okq (⟨"LastingShapes$Version", "with", "([I)LLastingShapes$Version;"⟩, 4) := ⟨⟨by decide +kernel, by decide +kernel⟩, List.mem_of_getElem? (i := 172) (by decide +kernel), List.mem_of_getElem? (i := 296) (by decide +kernel), List.mem_of_getElem? (i := 297) (by decide +kernel)⟩
theorem lw_p9 : lw_okq (⟨"LastingShapes", "foundOfKind", "(II)LLastingShapes$Version;"⟩, 1) := ⟨⟨by decide +kernel, by decide +kernel⟩, List.mem_of_getElem? (i := 22) (by decide +kernel), List.mem_of_getElem? (i := 379) (by decide +kernel), List.mem_of_getElem? (i := 380) (by decide +kernel)⟩
theorem lw_p10 : lw_okq (⟨"LastingShapesModel", "isFull", "()Z"⟩, 8) := ⟨⟨by decide +kernel, by decide +kernel⟩, List.mem_of_getElem? (i := 466) (by decide +kernel), List.mem_of_getElem? (i := 505) (by decide +kernel), List.mem_of_getElem? (i := 506) (by decide +kernel)⟩
theorem lw_p11 : lw_okq (⟨"LastingShapesModel", "throwsBy", "(I)Z"⟩, 8) := ⟨⟨by decide +kernel, by decide +kernel⟩, List.mem_of_getElem? (i := 466) (by decide +kernel), List.mem_of_getElem? (i := 509) (by decide +kernel), List.mem_of_getElem? (i := 510) (by decide +kernel)⟩
theorem lw_p12 : lw_okq (⟨"LastingShapesModel", "create", "(II)I"⟩, 8) := ⟨⟨by decide +kernel, by decide +kernel⟩, List.mem_of_getElem? (i := 466) (by decide +kernel), List.mem_of_getElem? (i := 513) (by decide +kernel), List.mem_of_getElem? (i := 514) (by decide +kernel)⟩
theorem lw_p13 : lw_okq (⟨"LastingShapesModel", "isRow", "(I)Z"⟩, 8) := ⟨⟨by decide +kernel, by decide +kernel⟩, List.mem_of_getElem? (i := 466) (by decide +kernel), List.mem_of_getElem? (i := 521) (by decide +kernel), List.mem_of_getElem? (i := 522) (by decide +kernel)⟩
theorem lw_p14 : lw_okq (⟨"LastingShapesModel", "is", "(I)Z"⟩, 8) := ⟨⟨by decide +kernel, by decide +kernel⟩, List.mem_of_getElem? (i := 466) (by decide +kernel), List.mem_of_getElem? (i := 525) (by decide +kernel), List.mem_of_getElem? (i := 526) (by decide +kernel)⟩
theorem lw_p15 : lw_okq (⟨"LastingShapesModel", "isMap", "(I)Z"⟩, 8) := ⟨⟨by decide +kernel, by decide +kernel⟩, List.mem_of_getElem? (i := 466) (by decide +kernel), List.mem_of_getElem? (i := 529) (by decide +kernel), List.mem_of_getElem? (i := 530) (by decide +kernel)⟩
def lw_privs_1 : List (MethodName × Nat) := [(⟨"java/lang/Throwable", "fillInStackTrace", "(I)Ljava/lang/Throwable;"⟩, 6), (⟨"LastingShapes", "refuseBeyondLimits", "(I)V"⟩, 1), (⟨"LastingShapes", "keep", "(LLastingShapes$Version;)I"⟩, 1), (⟨"java/util/ArrayList", "add", "(Ljava/lang/Object;[Ljava/lang/Object;I)V"⟩, 3), (⟨"java/util/ArrayList", "grow", "()[Ljava/lang/Object;"⟩, 3), (⟨"java/util/ArrayList", "grow", "(I)[Ljava/lang/Object;"⟩, 3), (⟨"LastingShapes", "foundButNoMap", "(I)LLastingShapes$Version;"⟩, 1), (⟨"LastingShapes", "found", "(I)LLastingShapes$Version;"⟩, 1), (⟨"LastingShapes$Version", "with", "([I)LLastingShapes$Version;"⟩, 4), (⟨"LastingShapes", "foundOfKind", "(II)LLastingShapes$Version;"⟩, 1), (⟨"LastingShapesModel", "isFull", "()Z"⟩, 8), (⟨"LastingShapesModel", "throwsBy", "(I)Z"⟩, 8), (⟨"LastingShapesModel", "create", "(II)I"⟩, 8), (⟨"LastingShapesModel", "isRow", "(I)Z"⟩, 8), (⟨"LastingShapesModel", "is", "(I)Z"⟩, 8), (⟨"LastingShapesModel", "isMap", "(I)Z"⟩, 8)]
theorem lw_r1 : ∀ q ∈ lw_privs_1, lw_okq q := List.forall_mem_cons.mpr ⟨lw_p0, List.forall_mem_cons.mpr ⟨lw_p1, List.forall_mem_cons.mpr ⟨lw_p2, List.forall_mem_cons.mpr ⟨lw_p3, List.forall_mem_cons.mpr ⟨lw_p4, List.forall_mem_cons.mpr ⟨lw_p5, List.forall_mem_cons.mpr ⟨lw_p6, List.forall_mem_cons.mpr ⟨lw_p7, List.forall_mem_cons.mpr ⟨lw_p8, List.forall_mem_cons.mpr ⟨lw_p9, List.forall_mem_cons.mpr ⟨lw_p10, List.forall_mem_cons.mpr ⟨lw_p11, List.forall_mem_cons.mpr ⟨lw_p12, List.forall_mem_cons.mpr ⟨lw_p13, List.forall_mem_cons.mpr ⟨lw_p14, List.forall_mem_cons.mpr ⟨lw_p15, fun _ h => absurd h List.not_mem_nil⟩⟩⟩⟩⟩⟩⟩⟩⟩⟩⟩⟩⟩⟩⟩⟩
theorem lw_p16 : lw_okq (⟨"LastingShapesModel", "below", "(II)I"⟩, 8) := ⟨⟨by decide +kernel, by decide +kernel⟩, List.mem_of_getElem? (i := 466) (by decide +kernel), List.mem_of_getElem? (i := 533) (by decide +kernel), List.mem_of_getElem? (i := 534) (by decide +kernel)⟩
theorem lw_p17 : lw_okq (⟨"LastingShapesModel", "putAll", "(III)V"⟩, 8) := ⟨⟨by decide +kernel, by decide +kernel⟩, List.mem_of_getElem? (i := 466) (by decide +kernel), List.mem_of_getElem? (i := 537) (by decide +kernel), List.mem_of_getElem? (i := 538) (by decide +kernel)⟩
theorem lw_p18 : lw_okq (⟨"LastingShapesModel", "put", "(II)V"⟩, 8) := ⟨⟨by decide +kernel, by decide +kernel⟩, List.mem_of_getElem? (i := 466) (by decide +kernel), List.mem_of_getElem? (i := 541) (by decide +kernel), List.mem_of_getElem? (i := 542) (by decide +kernel)⟩
theorem lw_p19 : lw_okq (⟨"LastingShapesModel", "placeOf", "(II)I"⟩, 8) := ⟨⟨by decide +kernel, by decide +kernel⟩, List.mem_of_getElem? (i := 466) (by decide +kernel), List.mem_of_getElem? (i := 561) (by decide +kernel), List.mem_of_getElem? (i := 562) (by decide +kernel)⟩
theorem lw_p20 : lw_okq (⟨"LastingShapesModel", "hasAt", "(III)Z"⟩, 8) := ⟨⟨by decide +kernel, by decide +kernel⟩, List.mem_of_getElem? (i := 466) (by decide +kernel), List.mem_of_getElem? (i := 565) (by decide +kernel), List.mem_of_getElem? (i := 566) (by decide +kernel)⟩
def lw_privs_2 : List (MethodName × Nat) := [(⟨"LastingShapesModel", "below", "(II)I"⟩, 8), (⟨"LastingShapesModel", "putAll", "(III)V"⟩, 8), (⟨"LastingShapesModel", "put", "(II)V"⟩, 8), (⟨"LastingShapesModel", "placeOf", "(II)I"⟩, 8), (⟨"LastingShapesModel", "hasAt", "(III)Z"⟩, 8)]
theorem lw_r2 : ∀ q ∈ lw_privs_2, lw_okq q := List.forall_mem_cons.mpr ⟨lw_p16, List.forall_mem_cons.mpr ⟨lw_p17, List.forall_mem_cons.mpr ⟨lw_p18, List.forall_mem_cons.mpr ⟨lw_p19, List.forall_mem_cons.mpr ⟨lw_p20, fun _ h => absurd h List.not_mem_nil⟩⟩⟩⟩⟩
def lw_privs : List (MethodName × Nat) := lw_privs_1 ++ (lw_privs_2)
def lw_tbl : List Cond := k2_sels lw_privs ++ tables_1
theorem lw_privs_ok : ∀ q ∈ lw_privs, lw_okq q := by
  show ∀ q ∈ lw_privs_1 ++ (lw_privs_2), lw_okq q
  exact List.forall_mem_append.mpr ⟨lw_r1, lw_r2⟩
end
section
/-! The frame of a walk: contracts that may return or throw, over the machine itself; rows that end a walk; rows that call. -/
section FX
variable {p : Program} {l : Launch} {e : Env} {R : Room} {s : State} {m : MethodId} {args : Array Value} {below : List Frame} {meth : Method} {c : Code} {H : Heap} {locs : List Loc} {cells slots : Nat} {Q : State → Prop}
/-- the end of a walk: it returned or threw; the heap as Post says; the tables warmer; at most mc cells of ms slots are new; what was written lies in A -/
def fx_E (below : List Frame) (s : State) (Post : Outcome → Heap → Prop) (mc ms : Nat) (A : Nat → Prop) : State → Prop := fun t =>
  ∃ o, t.status = .running ∧ Ended t below o ∧ Post o t.heap ∧ s.WarmedH t.vm ∧ ∃ L, s.sameButNew ({ t with vm := s.vm } : State) L mc ms ∧ ∀ q ∈ L, A q.base
/-- a contract: from every state whose tables say K, with the arguments av and a heap as Pre says, the method comes to an end as Post says -/
def fx_C (K : State → Prop) (y : MethodName) (nL : Nat) (rm : Room) (av : List Value) (Pre : Heap → Prop) (Post : Heap → Outcome → Heap → Prop) (A : Heap → Nat → Prop) : Prop :=
  ∀ (p : Program) (l : Launch) (e : Env) (s : State) (m : MethodId) (below : List Frame) (meth : Method) (c : Code),
    p.tables.exec = Jvm.exec → l.flags = flags0 → K s → s.methodNamed? y = some m → s.vm.method? m = some meth → meth.code = some c → Pre s.heap →
    W p l e rm s m av.toArray below meth c s.heap [] 0 0 (fx_E below s (Post s.heap) rm.cells rm.slots (A s.heap)) (entryFrame m av.toArray nL)
/-- throwing x over the frame g -/
def fx_T (p : Program) (l : Launch) (e : Env) (R : Room) (s : State) (m : MethodId) (args : Array Value) (below : List Frame) (meth : Method) (c : Code) (H : Heap) (locs : List Loc) (cells slots : Nat) (Q : State → Prop) (g : JFrame) (x : Nat) : Prop :=
  ∀ T : State, T.heap = H → Stand p l e R s m args below meth c T locs cells slots → ∃ t, Steps p.tables e below ((T.setTop g).pushFrame (.throwing x)) t ∧ Q t
/-- old cells outside A stay; at most mc cells are new -/
def fx_F (A : Nat → Prop) (mc : Nat) (H H' : Heap) : Prop := H.size ≤ H'.size ∧ H'.size ≤ H.size + mc ∧ ∀ q : Nat, q < H.size → ¬ A q → H'[q]? = H[q]?
theorem fx_mono {Q' : State → Prop} {g : JFrame} (h : ∀ t, Q t → Q' t) (k : W p l e R s m args below meth c H locs cells slots Q g) : W p l e R s m args below meth c H locs cells slots Q' g := by
  intro T hT X
  obtain ⟨t, a, b⟩ := k T hT X
  exact ⟨t, a, h t b⟩
theorem fx_ofMQ {Post : Outcome → Heap → Prop} {A : Nat → Prop} {k n mc ms : Nat} (hk : k ≤ mc) (hn : n ≤ ms) {t : State} (h : MQ below (fun _ _ o t => Post o t.heap) args s k n A t) : fx_E below s Post mc ms A t := by
  obtain ⟨o, h1, h2, h3, L, ⟨-, h4, h5⟩, h6⟩ := h
  exact ⟨o, h1, h2, h3, h4, L, h5.mono hk hn, h6⟩
variable {cc : ByteArray} {pc : Nat} {ls : Array Slot} {rest : List Value} {Post : Outcome → Heap → Prop} {A : Nat → Prop} {mc ms : Nat}
theorem fx_iret {v : Int32} (hexec : p.tables.exec = Jvm.exec) (hb : c.code = cc) (hr : meth.sig.returnType = some .int) (hlk : meth.locks = false) (hA : ∀ q ∈ locs, A q.base) (hc : cells ≤ mc) (hs : slots ≤ ms) (hdg : decode cc pc = .ok (.ireturn, 1)) (hq : Post (.returned (some (.int v))) H) :
    W p l e R s m args below meth c H locs cells slots (fx_E below s Post mc ms A) (F0 m pc ls [.int v]) :=
  fx_mono (fun _ h => fx_ofMQ hc hs h) (W.iret (Qc := fun _ _ o t => Post o t.heap) hexec hb hr (fun t ht _ => by show Post _ t.heap; rw [ht]; exact hq) hA hdg hlk)
theorem fx_zret {v : Int32} {ty : FieldType} (hexec : p.tables.exec = Jvm.exec) (hb : c.code = cc) (hr : meth.sig.returnType = some ty) (hn : narrow ty (.int v) = .int v) (hlk : meth.locks = false) (hA : ∀ q ∈ locs, A q.base) (hc : cells ≤ mc) (hs : slots ≤ ms) (hdg : decode cc pc = .ok (.ireturn, 1)) (hq : Post (.returned (some (.int v))) H) :
    W p l e R s m args below meth c H locs cells slots (fx_E below s Post mc ms A) (F0 m pc ls [.int v]) :=
  fx_mono (fun _ h => fx_ofMQ hc hs h) (W.zret (Qc := fun _ _ o t => Post o t.heap) hexec hb hr hn (fun t ht _ => by show Post _ t.heap; rw [ht]; exact hq) hA hdg hlk)
theorem fx_vret (hexec : p.tables.exec = Jvm.exec) (hb : c.code = cc) (hr : meth.sig.returnType = none) (hlk : meth.locks = false) (hA : ∀ q ∈ locs, A q.base) (hc : cells ≤ mc) (hs : slots ≤ ms) (hdg : decode cc pc = .ok (.return_, 1)) (hq : Post (.returned none) H) :
    W p l e R s m args below meth c H locs cells slots (fx_E below s Post mc ms A) (F0 m pc ls []) :=
  fx_mono (fun _ h => fx_ofMQ hc hs h) (W.vret (Qc := fun _ _ o t => Post o t.heap) hexec hb hr (fun t ht _ => by show Post _ t.heap; rw [ht]; exact hq) hA hdg hlk)
theorem fx_aret {v : Value} {rt : FieldType} (hexec : p.tables.exec = Jvm.exec) (hb : c.code = cc) (hr : meth.sig.returnType = some rt) (hrt : (∃ n, rt = .object n) ∨ ∃ t, rt = .array t) (hv : v = .null ∨ ∃ a, v = .ref a) (hlk : meth.locks = false) (hA : ∀ q ∈ locs, A q.base) (hc : cells ≤ mc) (hs : slots ≤ ms) (hdg : decode cc pc = .ok (.areturn, 1)) (hq : Post (.returned (some v)) H) :
    W p l e R s m args below meth c H locs cells slots (fx_E below s Post mc ms A) (F0 m pc ls [v]) :=
  fx_mono (fun _ h => fx_ofMQ hc hs h) (W.aret (Qc := fun _ _ o t => Post o t.heap) hexec hb hr hrt hv (fun t ht _ => by show Post _ t.heap; rw [ht]; exact hq) hA hdg hlk)
/-- nothing here catches: the method throws too -/
theorem fx_out {g : JFrame} {x : Nat} (hg : g.method = m) (h1 : g.locked = none) (h2 : g.entered = []) (hnt : c.exceptionTable.isEmpty = true) (hlk : meth.locks = false) (hA : ∀ q ∈ locs, A q.base) (hc : cells ≤ mc) (hs : slots ≤ ms) (hq : Post (.threw x) H) :
    fx_T p l e R s m args below meth c H locs cells slots (fx_E below s Post mc ms A) g x := by
  intro T hT X
  obtain ⟨st, hrun, hend, hW, hsame⟩ := X.leaveThrown x hg h1 h2 (covers_of_empty hnt _) hlk
  refine ⟨_, st, .threw x, hrun, hend, ?_, hW, locs, hsame.mono hc hs, hA⟩
  show Post _ T.heap
  rw [hT]
  exact hq
/-- caught: the walk goes on at the handler, the exception alone on the stack -/
theorem fx_catch {x pc' : Nat} {st : List Value} (hf : ∀ T : State, T.heap = H → Stand p l e R s m args below meth c T locs cells slots → Finds e ((T.setTop (F0 m pc ls st)).pushFrame (.throwing x)) (F0 m pc ls st) x (.found pc'))
    (k : W p l e R s m args below meth c H locs cells slots Q (F0 m pc' ls [.ref x])) : fx_T p l e R s m args below meth c H locs cells slots Q (F0 m pc ls st) x := by
  intro T hT X
  obtain ⟨t, a, b⟩ := k T hT X
  exact ⟨t, X.catchAt x rfl (hf T hT X) a, b⟩
/-- what a callee left: cells outside what it may write are as they were -/
theorem fx_frame {T T' : State} {L : List Loc} {k n : Nat} {B : Nat → Prop} (h : T.sameButNew (T'.setVm T.vm) L k n) (hB : ∀ q ∈ L, B q.base) : fx_F B k T.heap T'.heap := by
  obtain ⟨-, h1, h2, -, -, h3⟩ := h
  refine ⟨h1, h2, fun q hq hn => ?_⟩
  obtain ⟨cell, hcell⟩ : ∃ cell, T.heap[q]? = some cell := ⟨_, Array.getElem?_eq_getElem hq⟩
  obtain ⟨c', e1, e2, e3, e4⟩ := h3 q cell hcell
  have e5 : c'.slots = cell.slots := by
    apply Array.ext_getElem?
    intro i
    exact e4 i (fun hm => hn (hB _ hm))
  have e6 : c' = cell := by rw [e2, e5]
  have e7 : T'.heap[q]? = some c' := e1
  rw [e7, hcell, e6]
theorem fx_core {K : State → Prop} (hKm : ∀ s U : State, s.WarmedH U.vm → K s → K U) {T : State} {y : MethodName} {nL : Nat} {rm : Room} {av : List Value} {Pre : Heap → Prop} {PostC : Heap → Outcome → Heap → Prop} {AC : Heap → Nat → Prop}
    (hC : fx_C K y nL rm av Pre PostC AC) (hexec : p.tables.exec = Jvm.exec) (hfl : l.flags = flags0) (X : Stand p l e R s m args below meth c T locs cells slots) (hk : K s)
    {g : JFrame} (hg : g.method = m) (hsize : g.locals.size = c.maxLocals) {ig : Instr} {len : Nat} (hdg : decode c.code g.pc = .ok (ig, len))
    {mk : MethodId} {methk : Method} {ck : Code} (hn : s.methodNamed? y = some mk) (hmk : s.vm.method? mk = some methk) (hck : methk.code = some ck) (hlk : methk.locks = false) (hnl : ck.maxLocals = nL) (hpl : plainFor y = true)
    (hpre : Pre T.heap) (hframes : rm.frames + 1 ≤ R.frames) (hlocals : 2 * g.monitorRoom + (g.stack.map fun v => v.category).sum + (nL + 11) + rm.locals ≤ R.locals) (hcells : cells + rm.cells ≤ R.cells) (hslots : slots + rm.slots ≤ R.slots) :
    ∃ (o : Outcome) (T' : State) (L : List Loc), Stand p l e R s m args below meth c T' (locs ++ L) (cells + rm.cells) (slots + rm.slots) ∧ (∀ q ∈ L, AC T.heap q.base) ∧ PostC T.heap o T'.heap ∧ fx_F (AC T.heap) rm.cells T.heap T'.heap ∧
      ∀ acts, Steps p.tables e below (doInvoke e (T.setTop g) acts mk av.toArray).1 (match o with | .returned v => T'.setTop { g with pc := g.pc + len, stack := v.toList ++ g.stack } | .threw x => (T'.setTop g).pushFrame (.throwing x)) := by
  have hmk' : T.vm.method? mk = some methk := by rw [X.warmed.alike.method?]; exact hmk
  have hnT : T.methodNamed? y = some mk := X.named hn
  have hpk : T.plainMethod mk := State.plainMethod.of_named hpl hnT hmk'
  obtain ⟨Y, hin⟩ := X.into hg hsize hdg av.toArray (R' := rm) hmk' hck hlk hpk hframes (by rw [hnl]; exact hlocals) hcells hslots
  have hKc : K (T.calling g mk av.toArray) := hKm s (T.calling g mk av.toArray) X.warmed hk
  have hnc : (T.calling g mk av.toArray).methodNamed? y = some mk := hnT
  have hw := hC p l e (T.calling g mk av.toArray) mk (.java g :: below) methk ck hexec hfl hKc hnc hmk' hck hpre
  obtain ⟨t, st, o, hrun, hend, hpost, hW, L, hsame, hL⟩ := hw ((T.setTop g).pushFrame (.java (entryFrame mk av.toArray ck.maxLocals))) rfl Y
  rw [← hnl] at st
  cases o with
  | returned v =>
    obtain ⟨T', X', hW', hB', ht⟩ := X.outOf hg hdg hend hW hsame
    have hth : T'.heap = t.heap := by rw [ht]; rfl
    refine ⟨.returned v, T', L, X', hL, by rw [hth]; exact hpost, fx_frame hB' hL, fun acts => ?_⟩
    rw [hin acts]
    show Steps p.tables e below _ (T'.setTop { g with pc := g.pc + len, stack := v.toList ++ g.stack })
    rw [← ht]
    exact Steps.weaken (mid := [.java g]) st
  | threw x =>
    obtain ⟨T', X', hW', hB', ht⟩ := X.outOfThrown hg hend hW hsame
    have hth : T'.heap = t.heap := by rw [ht]; exact (Stand.throwing_heap T' g x).symm
    refine ⟨.threw x, T', L, X', hL, by rw [hth]; exact hpost, fx_frame hB' hL, fun acts => ?_⟩
    rw [hin acts]
    show Steps p.tables e below _ ((T'.setTop g).pushFrame (.throwing x))
    rw [← ht]
    exact Steps.weaken (mid := [.java g]) st
end FX
end
section
/-! Rows that call: static, virtual, constructor; the same to a nest mate. Two roads behind each: it returned, it threw. -/
section FXC
variable {p : Program} {l : Launch} {e : Env} {R : Room} {s : State} {m : MethodId} {args : Array Value} {below : List Frame} {meth : Method} {c : Code} {H : Heap} {locs : List Loc} {cells slots : Nat} {Q : State → Prop}
variable {cc : ByteArray} {pc : Nat} {ls : Array Slot} {rest st av : List Value} {K : State → Prop} {y : MethodName} {nL : Nat} {rm : Room} {Pre : Heap → Prop} {PostC : Heap → Outcome → Heap → Prop} {AC : Heap → Nat → Prop} {B : Nat → Prop}
/-- the callee is there -/
def fx_Y (s : State) (y : MethodName) (nL : Nat) : Prop := ∃ (mk : MethodId) (methk : Method) (ck : Code), s.methodNamed? y = some mk ∧ s.vm.method? mk = some methk ∧ methk.code = some ck ∧ ck.maxLocals = nL ∧ methk.locks = false ∧ parseMethodDescriptor y.desc = some methk.sig
theorem fx_Y.code {bytes : ByteArray} {ret : Option FieldType} (h : (Cond.code y bytes nL ret).before args s = true) : fx_Y s y nL := by
  obtain ⟨mk, hn⟩ := Cond.code_named h
  obtain ⟨methk, ck, h1, h2, -, h4, -, h6, -, h8⟩ := Cond.code_spec hn h
  exact ⟨mk, methk, ck, hn, h1, h2, h4, h6, h8⟩
theorem fx_Y.codeWith {bytes : ByteArray} {ret : Option FieldType} {hh : List (Nat × Nat × Nat × Nat)} (h : (Cond.codeWith y bytes nL ret hh).before args s = true) : fx_Y s y nL := by
  obtain ⟨mk, methk, ck, hn, h1, h2, -, h4, -, -, h6, h8⟩ := Cond.codeWith_spec h
  exact ⟨mk, methk, ck, hn, h1, h2, h4, h6, h8⟩
/-- what every call row asks of y's name and of the room -/
abbrev fx_N (y : MethodName) (n : Nat) : Prop := (y.cls ≠ "java/lang/invoke/MethodHandle" ∧ y.cls ≠ "java/lang/invoke/VarHandle") ∧ plainFor y = true ∧ (parseMethodDescriptor y.desc).map (fun d => d.parameters.length) = some n
abbrev fx_R (R rm : Room) (nL cells slots : Nat) (rest : List Value) : Prop := rm.frames + 1 ≤ R.frames ∧ (rest.map fun v => v.category).sum + (nL + 11) + rm.locals ≤ R.locals ∧ cells + rm.cells ≤ R.cells ∧ slots + rm.slots ≤ R.slots
theorem fx_fin {T : State} {vm₁ : Vm} {mk : MethodId} {a : Array Value} (hT : T.heap = H)
    (hcore : ∃ (o : Outcome) (T' : State) (L : List Loc), Stand p l e R s m args below meth c T' (locs ++ L) (cells + rm.cells) (slots + rm.slots) ∧ (∀ q ∈ L, AC (T.setVm vm₁).heap q.base) ∧ PostC (T.setVm vm₁).heap o T'.heap ∧ fx_F (AC (T.setVm vm₁).heap) rm.cells (T.setVm vm₁).heap T'.heap ∧
      ∀ acts, Steps p.tables e below (doInvoke e ((T.setVm vm₁).setTop (F0 m pc ls rest)) acts mk a).1 (match o with | .returned v => T'.setTop { F0 m pc ls rest with pc := (F0 m pc ls rest).pc + 3, stack := v.toList ++ (F0 m pc ls rest).stack } | .threw x => (T'.setTop (F0 m pc ls rest)).pushFrame (.throwing x)))
    (hstep : ∀ target, (∀ acts, Steps p.tables e below (doInvoke e ((T.setVm vm₁).setTop (F0 m pc ls rest)) acts mk a).1 target) → Steps p.tables e below (T.setTop (F0 m pc ls st)) target)
    (hL : ∀ q ∈ locs, B q.base) (hAB : ∀ q, AC H q → B q)
    (kr : ∀ (v : Option Value) (H' : Heap) (locs' : List Loc), PostC H (.returned v) H' → fx_F (AC H) rm.cells H H' → (∀ q ∈ locs', B q.base) → W p l e R s m args below meth c H' locs' (cells + rm.cells) (slots + rm.slots) Q (F0 m (pc + 3) ls (v.toList ++ rest)))
    (kt : ∀ (x : Nat) (H' : Heap) (locs' : List Loc), PostC H (.threw x) H' → fx_F (AC H) rm.cells H H' → (∀ q ∈ locs', B q.base) → fx_T p l e R s m args below meth c H' locs' (cells + rm.cells) (slots + rm.slots) Q (F0 m pc ls rest) x) :
    ∃ t, Steps p.tables e below (T.setTop (F0 m pc ls st)) t ∧ Q t := by
  obtain ⟨o, T', L, X', hL', hpost, hF, hs⟩ := hcore
  have hH : (T.setVm vm₁).heap = H := hT
  rw [hH] at hL' hpost hF
  have hl2 : ∀ q ∈ locs ++ L, B q.base := fun q hq => by
    rcases List.mem_append.mp hq with h | h
    · exact hL q h
    · exact hAB _ (hL' q h)
  cases o with
  | returned v =>
    obtain ⟨t, a1, b1⟩ := kr v T'.heap (locs ++ L) hpost hF hl2 T' rfl X'
    exact ⟨t, hstep t (fun acts => (hs acts).trans a1), b1⟩
  | threw x =>
    obtain ⟨t, a1, b1⟩ := kt x T'.heap (locs ++ L) hpost hF hl2 T' rfl X'
    exact ⟨t, hstep t (fun acts => (hs acts).trans a1), b1⟩
theorem fx_cS (hKm : ∀ s U : State, s.WarmedH U.vm → K s → K U) (hC : fx_C K y nL rm av Pre PostC AC) (hexec : p.tables.exec = Jvm.exec) (hfl : l.flags = flags0) (hk : K s) (hb : c.code = cc) (hsz : ls.size = c.maxLocals) {own : String} {index : Nat} (hown : s.vm.findClass own = some m.cls)
    (hlink : (Cond.methodLink own index y).before args s = true) (hY : fx_Y s y nL) (hstat : (Cond.static y).before args s = true) (hini : (Cond.initialized y.cls).before args s = true) (hN : fx_N y av.length) (hst : st = av.reverse ++ rest) (hR : fx_R R rm nL cells slots rest) (hpre : Pre H)
    (hdg : decode cc pc = .ok (.invokestatic index, 3)) (hL : ∀ q ∈ locs, B q.base) (hAB : ∀ q, AC H q → B q)
    (kr : ∀ (v : Option Value) (H' : Heap) (locs' : List Loc), PostC H (.returned v) H' → fx_F (AC H) rm.cells H H' → (∀ q ∈ locs', B q.base) → W p l e R s m args below meth c H' locs' (cells + rm.cells) (slots + rm.slots) Q (F0 m (pc + 3) ls (v.toList ++ rest)))
    (kt : ∀ (x : Nat) (H' : Heap) (locs' : List Loc), PostC H (.threw x) H' → fx_F (AC H) rm.cells H H' → (∀ q ∈ locs', B q.base) → fx_T p l e R s m args below meth c H' locs' (cells + rm.cells) (slots + rm.slots) Q (F0 m pc ls rest) x) :
    W p l e R s m args below meth c H locs cells slots Q (F0 m pc ls st) := by
  intro T hT X
  obtain ⟨mk, methk, ck, hn, hmk, hck, hnl, hlk, hsig⟩ := hY
  obtain ⟨hy, hpl, hd⟩ := hN
  rw [hsig] at hd
  have hlen : av.length = methk.sig.parameters.length := (Option.some.inj hd).symm
  have hstatic : methk.isStatic = true := Cond.static_spec hn hmk hstat
  obtain ⟨kP, hkP, -⟩ := className_of_methodNamed hn
  have hinitP : kP.init = .initialized := Cond.initialized_spec (findClass_of_methodNamed hn) hkP hini
  obtain ⟨vm₁, X₁, hstep⟩ := X.invokestatic hexec hown hlink hn hmk hstatic hkP hinitP hy (g := F0 m pc ls st) rfl (argsL := av) (rest := rest) hlen hst (by rw [hb]; exact hdg)
  refine fx_fin hT (fx_core hKm hC hexec hfl X₁ hk (g := F0 m pc ls rest) rfl hsz (by rw [hb]; exact hdg) hn hmk hck hlk hnl hpl (by show Pre T.heap; rw [hT]; exact hpre) hR.1 ?_ hR.2.2.1 hR.2.2.2) hstep hL hAB kr kt
  have := hR.2.1
  show 2 * 0 + (rest.map fun v => v.category).sum + (nL + 11) + rm.locals ≤ R.locals
  omega
theorem fx_cV (hKm : ∀ s U : State, s.WarmedH U.vm → K s → K U) {b : Nat} (hC : fx_C K y nL rm (.ref b :: av) Pre PostC AC) (hexec : p.tables.exec = Jvm.exec) (hfl : l.flags = flags0) (hk : K s) (hb : c.code = cc) (hsz : ls.size = c.maxLocals) {own C : String} {index : Nat} (hown : s.vm.findClass own = some m.cls)
    (hlink : (Cond.methodLink own index y).before args s = true) (hY : fx_Y s y nL) (hinst : (Cond.instanceMethod y).before args s = true) (hsel : (Cond.selects C y y).before args s = true) (hN : fx_N y av.length) (hrc : ∃ cell : Cell, H[b]? = some cell ∧ cell.vm.isStatics = false ∧ s.vm.findClass C = some cell.cls) (hst : st = av.reverse ++ .ref b :: rest) (hR : fx_R R rm nL cells slots rest) (hpre : Pre H)
    (hdg : decode cc pc = .ok (.invokevirtual index, 3)) (hL : ∀ q ∈ locs, B q.base) (hAB : ∀ q, AC H q → B q)
    (kr : ∀ (v : Option Value) (H' : Heap) (locs' : List Loc), PostC H (.returned v) H' → fx_F (AC H) rm.cells H H' → (∀ q ∈ locs', B q.base) → W p l e R s m args below meth c H' locs' (cells + rm.cells) (slots + rm.slots) Q (F0 m (pc + 3) ls (v.toList ++ rest)))
    (kt : ∀ (x : Nat) (H' : Heap) (locs' : List Loc), PostC H (.threw x) H' → fx_F (AC H) rm.cells H H' → (∀ q ∈ locs', B q.base) → fx_T p l e R s m args below meth c H' locs' (cells + rm.cells) (slots + rm.slots) Q (F0 m pc ls rest) x) :
    W p l e R s m args below meth c H locs cells slots Q (F0 m pc ls st) := by
  intro T hT X
  obtain ⟨mk, methk, ck, hn, hmk, hck, hnl, hlk, hsig⟩ := hY
  obtain ⟨hy, hpl, hd⟩ := hN
  rw [hsig] at hd
  have hlen : av.length = methk.sig.parameters.length := (Option.some.inj hd).symm
  obtain ⟨mk', methM, hn', hmethM, hstM, habM⟩ := Cond.instanceMethod_spec hinst
  cases Option.some.inj (hn.symm.trans hn')
  cases Option.some.inj (hmk.symm.trans hmethM)
  obtain ⟨cellB, hcB, hoB, hclB⟩ := hrc
  obtain ⟨c2, r2, m2, q1, q2, q3, q4, kP, hkP, hkPi⟩ := Cond.selects_spec hsel
  cases Option.some.inj (hclB.symm.trans q1)
  cases Option.some.inj ((State.methodFound?_of_named hn hy).symm.trans q2)
  cases Option.some.inj (hn.symm.trans q3)
  have hselP : selectMethod e.platform s.vm cellB.cls mk = .method mk := by rw [Launch.admits_selectMethod X.admits]; exact q4
  obtain ⟨vm₁, X₁, hstep⟩ := X.invokevirtual hexec hown hlink hn hmk hstM hkP hkPi hy (a := b) (cell := cellB) (by rw [hT]; exact hcB) (fun z h => by rw [h] at hoB; cases hoB) hselP hmk habM hkP hkPi (g := F0 m pc ls st) rfl (argsL := av) (rest := rest) hlen hst (by rw [hb]; exact hdg)
  refine fx_fin hT (fx_core hKm hC hexec hfl X₁ hk (g := F0 m pc ls rest) rfl hsz (by rw [hb]; exact hdg) hn hmk hck hlk hnl hpl (by show Pre T.heap; rw [hT]; exact hpre) hR.1 ?_ hR.2.2.1 hR.2.2.2) hstep hL hAB kr kt
  have := hR.2.1
  show 2 * 0 + (rest.map fun v => v.category).sum + (nL + 11) + rm.locals ≤ R.locals
  omega
theorem fx_cVN (hKm : ∀ s U : State, s.WarmedH U.vm → K s → K U) {b : Nat} (hC : fx_C K y nL rm (.ref b :: av) Pre PostC AC) (hexec : p.tables.exec = Jvm.exec) (hfl : l.flags = flags0) (hk : K s) (hb : c.code = cc) (hsz : ls.size = c.maxLocals) {own C host : String} {index : Nat} (hown : s.vm.findClass own = some m.cls)
    (hlink : (Cond.methodLinkNest own index y host).before args s = true) (hY : fx_Y s y nL) (hinst : (Cond.instanceMethod y).before args s = true) (hsel : (Cond.selects C y y).before args s = true) (hN : fx_N y av.length) (hrc : ∃ cell : Cell, H[b]? = some cell ∧ cell.vm.isStatics = false ∧ s.vm.findClass C = some cell.cls) (hst : st = av.reverse ++ .ref b :: rest) (hR : fx_R R rm nL cells slots rest) (hpre : Pre H)
    (hdg : decode cc pc = .ok (.invokevirtual index, 3)) (hL : ∀ q ∈ locs, B q.base) (hAB : ∀ q, AC H q → B q)
    (kr : ∀ (v : Option Value) (H' : Heap) (locs' : List Loc), PostC H (.returned v) H' → fx_F (AC H) rm.cells H H' → (∀ q ∈ locs', B q.base) → W p l e R s m args below meth c H' locs' (cells + rm.cells) (slots + rm.slots) Q (F0 m (pc + 3) ls (v.toList ++ rest)))
    (kt : ∀ (x : Nat) (H' : Heap) (locs' : List Loc), PostC H (.threw x) H' → fx_F (AC H) rm.cells H H' → (∀ q ∈ locs', B q.base) → fx_T p l e R s m args below meth c H' locs' (cells + rm.cells) (slots + rm.slots) Q (F0 m pc ls rest) x) :
    W p l e R s m args below meth c H locs cells slots Q (F0 m pc ls st) := by
  intro T hT X
  obtain ⟨mk, methk, ck, hn, hmk, hck, hnl, hlk, hsig⟩ := hY
  obtain ⟨hy, hpl, hd⟩ := hN
  rw [hsig] at hd
  have hlen : av.length = methk.sig.parameters.length := (Option.some.inj hd).symm
  obtain ⟨mk', methM, hn', hmethM, hstM, habM⟩ := Cond.instanceMethod_spec hinst
  cases Option.some.inj (hn.symm.trans hn')
  cases Option.some.inj (hmk.symm.trans hmethM)
  obtain ⟨cellB, hcB, hoB, hclB⟩ := hrc
  obtain ⟨c2, r2, m2, q1, q2, q3, q4, kP, hkP, hkPi⟩ := Cond.selects_spec hsel
  cases Option.some.inj (hclB.symm.trans q1)
  cases Option.some.inj ((State.methodFound?_of_named hn hy).symm.trans q2)
  cases Option.some.inj (hn.symm.trans q3)
  have hselP : selectMethod e.platform s.vm cellB.cls mk = .method mk := by rw [Launch.admits_selectMethod X.admits]; exact q4
  obtain ⟨vm₁, X₁, hstep⟩ := X.invokevirtualNest hexec hown hlink hn hmk hstM hkP hkPi hy (a := b) (cell := cellB) (by rw [hT]; exact hcB) (fun z h => by rw [h] at hoB; cases hoB) hselP hmk habM hkP hkPi (g := F0 m pc ls st) rfl (argsL := av) (rest := rest) hlen hst (by rw [hb]; exact hdg)
  refine fx_fin hT (fx_core hKm hC hexec hfl X₁ hk (g := F0 m pc ls rest) rfl hsz (by rw [hb]; exact hdg) hn hmk hck hlk hnl hpl (by show Pre T.heap; rw [hT]; exact hpre) hR.1 ?_ hR.2.2.1 hR.2.2.2) hstep hL hAB kr kt
  have := hR.2.1
  show 2 * 0 + (rest.map fun v => v.category).sum + (nL + 11) + rm.locals ≤ R.locals
  omega
theorem fx_cI (hKm : ∀ s U : State, s.WarmedH U.vm → K s → K U) {b : Nat} (hC : fx_C K y nL rm (.ref b :: av) Pre PostC AC) (hexec : p.tables.exec = Jvm.exec) (hfl : l.flags = flags0) (hk : K s) (hb : c.code = cc) (hsz : ls.size = c.maxLocals) {own : String} {index : Nat} {bytes : ByteArray} (hown : s.vm.findClass own = some m.cls)
    (hlink : (Cond.methodLink own index y).before args s = true) (hcode : (Cond.code y bytes nL none).before args s = true) (hinst : (Cond.instanceMethod y).before args s = true) (hy1 : y.name = "<init>") (hN : fx_N y av.length) (hst : st = av.reverse ++ .ref b :: rest) (hR : fx_R R rm nL cells slots rest) (hpre : Pre H)
    (hdg : decode cc pc = .ok (.invokespecial index, 3)) (hL : ∀ q ∈ locs, B q.base) (hAB : ∀ q, AC H q → B q)
    (kr : ∀ (v : Option Value) (H' : Heap) (locs' : List Loc), PostC H (.returned v) H' → fx_F (AC H) rm.cells H H' → (∀ q ∈ locs', B q.base) → W p l e R s m args below meth c H' locs' (cells + rm.cells) (slots + rm.slots) Q (F0 m (pc + 3) ls (v.toList ++ rest)))
    (kt : ∀ (x : Nat) (H' : Heap) (locs' : List Loc), PostC H (.threw x) H' → fx_F (AC H) rm.cells H H' → (∀ q ∈ locs', B q.base) → fx_T p l e R s m args below meth c H' locs' (cells + rm.cells) (slots + rm.slots) Q (F0 m pc ls rest) x) :
    W p l e R s m args below meth c H locs cells slots Q (F0 m pc ls st) := by
  intro T hT X
  obtain ⟨mk, methk, ck, hn, hmk, hck, hnl, hlk, hsig⟩ := fx_Y.code hcode
  obtain ⟨hy, hpl, hd⟩ := hN
  have hd2 : ∀ sig, parseMethodDescriptor y.desc = some sig → av.length = sig.parameters.length := fun sig h => by rw [h] at hd; exact (Option.some.inj hd).symm
  have hplat : e.platform.magicAccessors = ({} : Platform).magicAccessors := by rw [X.admits.platform]
  obtain ⟨mk', methM, cM, kP, vm₁, hn', -, -, -, -, -, hkP, -, hW₁, hstep⟩ := Steps.initColdArgs (e := e) X.here hexec X.warmed hplat hown hy1 hy hlink hinst hcode (f := F0 m pc ls st) rfl hd2 hst (by rw [hb]; exact hdg)
  cases Option.some.inj (hn.symm.trans hn')
  have X₁ := X.noted hW₁
  refine fx_fin hT (fx_core hKm hC hexec hfl X₁ hk (g := F0 m pc ls rest) rfl hsz (by rw [hb]; exact hdg) hn hmk hck hlk hnl hpl (by show Pre T.heap; rw [hT]; exact hpre) hR.1 ?_ hR.2.2.1 hR.2.2.2) hstep hL hAB kr kt
  have := hR.2.1
  show 2 * 0 + (rest.map fun v => v.category).sum + (nL + 11) + rm.locals ≤ R.locals
  omega
theorem fx_cIN (hKm : ∀ s U : State, s.WarmedH U.vm → K s → K U) {b : Nat} (hC : fx_C K y nL rm (.ref b :: av) Pre PostC AC) (hexec : p.tables.exec = Jvm.exec) (hfl : l.flags = flags0) (hk : K s) (hb : c.code = cc) (hsz : ls.size = c.maxLocals) {own host : String} {index : Nat} {bytes : ByteArray} (hown : s.vm.findClass own = some m.cls)
    (hlink : (Cond.methodLinkNest own index y host).before args s = true) (hcode : (Cond.code y bytes nL none).before args s = true) (hinst : (Cond.instanceMethod y).before args s = true) (hy1 : y.name = "<init>") (hN : fx_N y av.length) (hst : st = av.reverse ++ .ref b :: rest) (hR : fx_R R rm nL cells slots rest) (hpre : Pre H)
    (hdg : decode cc pc = .ok (.invokespecial index, 3)) (hL : ∀ q ∈ locs, B q.base) (hAB : ∀ q, AC H q → B q)
    (kr : ∀ (v : Option Value) (H' : Heap) (locs' : List Loc), PostC H (.returned v) H' → fx_F (AC H) rm.cells H H' → (∀ q ∈ locs', B q.base) → W p l e R s m args below meth c H' locs' (cells + rm.cells) (slots + rm.slots) Q (F0 m (pc + 3) ls (v.toList ++ rest)))
    (kt : ∀ (x : Nat) (H' : Heap) (locs' : List Loc), PostC H (.threw x) H' → fx_F (AC H) rm.cells H H' → (∀ q ∈ locs', B q.base) → fx_T p l e R s m args below meth c H' locs' (cells + rm.cells) (slots + rm.slots) Q (F0 m pc ls rest) x) :
    W p l e R s m args below meth c H locs cells slots Q (F0 m pc ls st) := by
  intro T hT X
  obtain ⟨mk, methk, ck, hn, hmk, hck, hnl, hlk, hsig⟩ := fx_Y.code hcode
  obtain ⟨hy, hpl, hd⟩ := hN
  have hd2 : ∀ sig, parseMethodDescriptor y.desc = some sig → av.length = sig.parameters.length := fun sig h => by rw [h] at hd; exact (Option.some.inj hd).symm
  have hplat : e.platform.magicAccessors = ({} : Platform).magicAccessors := by rw [X.admits.platform]
  obtain ⟨mk', methM, cM, kP, vm₁, hn', -, -, -, -, -, hkP, -, hW₁, hstep⟩ := Steps.initColdArgsNest (e := e) X.here hexec X.warmed hplat hown hy1 hy hlink hinst hcode (f := F0 m pc ls st) rfl hd2 hst (by rw [hb]; exact hdg)
  cases Option.some.inj (hn.symm.trans hn')
  have X₁ := X.noted hW₁
  refine fx_fin hT (fx_core hKm hC hexec hfl X₁ hk (g := F0 m pc ls rest) rfl hsz (by rw [hb]; exact hdg) hn hmk hck hlk hnl hpl (by show Pre T.heap; rw [hT]; exact hpre) hR.1 ?_ hR.2.2.1 hR.2.2.2) hstep hL hAB kr kt
  have := hR.2.1
  show 2 * 0 + (rest.map fun v => v.category).sum + (nL + 11) + rm.locals ≤ R.locals
  omega
/-- how a contract of a method without handlers is begun -/
theorem fx_of {Pre : Heap → Prop} {PostC : Heap → Outcome → Heap → Prop} {AC : Heap → Nat → Prop} {ret : Option FieldType} (hcode : ∀ s, K s → (Cond.code y cc nL ret).before #[] s = true) (hsl : (lg_sl av).length ≤ nL)
    (body : ∀ (p : Program) (l : Launch) (e : Env) (s : State) (m : MethodId) (below : List Frame) (meth : Method) (c : Code), p.tables.exec = Jvm.exec → l.flags = flags0 → K s → c.code = cc → c.maxLocals = nL → meth.sig.returnType = ret → meth.locks = false → c.exceptionTable.isEmpty = true → s.vm.findClass y.cls = some m.cls → meth.name = y.name → Pre s.heap →
      ∀ ls : Array Slot, lv_has ls nL (lv_args 0 av) → W p l e rm s m av.toArray below meth c s.heap [] 0 0 (fx_E below s (PostC s.heap) rm.cells rm.slots (AC s.heap)) (F0 m 0 ls [])) : fx_C K y nL rm av Pre PostC AC := by
  intro p l e s m below meth c hx hfl hK hn hm hc hpre
  obtain ⟨meth', c', h1, h2, h3, h4, h5, h6, h7, -⟩ := Cond.code_spec hn (hcode s hK)
  cases Option.some.inj (hm.symm.trans h1)
  cases Option.some.inj (hc.symm.trans h2)
  rw [lg_entry_eq]
  exact body p l e s m below meth c hx hfl hK h3 h4 h5 h6 h7 (findClass_of_methodNamed hn) (name_of_methodNamed hn hm).1 hpre _ (lv_entry av hsl)
/-- how a contract of a method with handlers is begun -/
theorem fx_ofW {Pre : Heap → Prop} {PostC : Heap → Outcome → Heap → Prop} {AC : Heap → Nat → Prop} {ret : Option FieldType} {hh : List (Nat × Nat × Nat × Nat)} (hcode : ∀ s, K s → (Cond.codeWith y cc nL ret hh).before #[] s = true) (hsl : (lg_sl av).length ≤ nL)
    (body : ∀ (p : Program) (l : Launch) (e : Env) (s : State) (m : MethodId) (below : List Frame) (meth : Method) (c : Code), p.tables.exec = Jvm.exec → l.flags = flags0 → K s → c.code = cc → c.maxLocals = nL → meth.sig.returnType = ret → meth.locks = false → c.exceptionTable.toList.map (fun h => (h.startPc, h.endPc, h.handlerPc, h.catchType)) = hh → s.vm.findClass y.cls = some m.cls → meth.name = y.name → Pre s.heap →
      ∀ ls : Array Slot, lv_has ls nL (lv_args 0 av) → W p l e rm s m av.toArray below meth c s.heap [] 0 0 (fx_E below s (PostC s.heap) rm.cells rm.slots (AC s.heap)) (F0 m 0 ls [])) : fx_C K y nL rm av Pre PostC AC := by
  intro p l e s m below meth c hx hfl hK hn hm hc hpre
  obtain ⟨m', meth', c', h0, h1, h2, h3, h4, h7, h5, h6, -⟩ := Cond.codeWith_spec (hcode s hK)
  cases Option.some.inj (hn.symm.trans h0)
  cases Option.some.inj (hm.symm.trans h1)
  cases Option.some.inj (hc.symm.trans h2)
  rw [lg_entry_eq]
  exact body p l e s m below meth c hx hfl hK h3 h4 h5 h6 h7 (findClass_of_methodNamed hn) (name_of_methodNamed hn hm).1 hpre _ (lv_entry av hsl)
end FXC
end
section
def fx_Ex (H H' : Heap) : Prop := H.size ≤ H'.size ∧ ∀ q : Nat, q < H.size → H'[q]? = H[q]?
theorem fx_Ex.rf {H : Heap} : fx_Ex H H := ⟨Nat.le_refl _, fun _ _ => rfl⟩
theorem fx_Ex.tr {H H1 H2 : Heap} (h : fx_Ex H H1) (k : fx_Ex H1 H2) : fx_Ex H H2 := ⟨Nat.le_trans h.1 k.1, fun q hq => (k.2 q (Nat.lt_of_lt_of_le hq h.1)).trans (h.2 q hq)⟩
theorem fx_Ex.at {H H' : Heap} (h : fx_Ex H H') {q : Nat} {x : Cell} (hx : H[q]? = some x) : H'[q]? = some x := (h.2 q (Array.getElem?_eq_some_iff.mp hx).1).trans hx
theorem fx_Ex.kept {D : va_G} {cl : List vw_C} {H H' : Heap} (h : fx_Ex H H') {q : Nat × va_E} (hq : va_at D cl q H) : va_at D cl q H' := hq.kept (h.2 _ hq.lt)
theorem fx_F.ex {A : Nat → Prop} {mc : Nat} {H H' : Heap} (h : fx_F A mc H H') (hA : ∀ q, q < H.size → ¬ A q) : fx_Ex H H' := ⟨h.1, fun q hq => h.2.2 q hq (hA q hq)⟩
theorem fx_F.same {A : Nat → Prop} {H H' : Heap} (h : fx_F A 0 H H') (hA : ∀ q, q < H.size → ¬ A q) : H' = H := by
  have hz : H'.size = H.size := Nat.le_antisymm h.2.1 h.1
  apply Array.ext_getElem?
  intro q
  by_cases hq : q < H.size
  · exact h.2.2 q hq (hA q hq)
  · rw [Array.getElem?_eq_none (by omega), Array.getElem?_eq_none (by omega)]
theorem fx_one {D : va_G} {cl : List vw_C} {H : Heap} {q : Nat × va_E} (h : va_at D cl q H) : va_P D cl [q] H := by
  intro k q' hk
  cases k with
  | zero => cases hk; exact h
  | succ j => cases hk
end
section
/-! Rows on the heap with exact frames: what is written is one cell; what is made is the next cell. -/
/-- but for the cell a all is as it was -/
def fx_U (a : Nat) (H H' : Heap) : Prop := H'.size = H.size ∧ ∀ q : Nat, q ≠ a → H'[q]? = H[q]?
/-- one cell more -/
def fx_G (H H' : Heap) : Prop := H'.size = H.size + 1 ∧ ∀ q : Nat, q < H.size → H'[q]? = H[q]?
theorem fx_G.ex {H H' : Heap} (h : fx_G H H') : fx_Ex H H' := ⟨by rw [h.1]; exact Nat.le_succ _, h.2⟩
theorem fx_U.kept {D : va_G} {cl : List vw_C} {a : Nat} {H H' : Heap} (h : fx_U a H H') {q : Nat × va_E} (hq : va_at D cl q H) (hne : q.1 ≠ a) : va_at D cl q H' := hq.kept (h.2 _ hne)
/-- what the tables say of a class of the list: its place there, its fields' words, types, names apart -/
def fx_K (s : State) (args : Array Value) (cl : List vw_C) (ci : Nat) (C : String) (T : u_T) (N : Nat) (ty : Nat → FieldType) : Prop :=
  cl[ci]? = some (C, T, N) ∧ (∀ w ∈ u_ws C T N, w.before args s = true) ∧ (∀ k, k < N → parseFieldDescriptor (T k).2.2.1 = some (ty k)) ∧ ∀ a, a < N → ∀ b, b < N → a ≠ b → (T a).2.1 ≠ (T b).2.1
section FXH
variable {p : Program} {l : Launch} {e : Env} {R : Room} {s : State} {m : MethodId} {args : Array Value} {below : List Frame} {meth : Method} {c : Code} {H : Heap} {locs : List Loc} {cells slots : Nat} {Q : State → Prop}
variable {cc : ByteArray} {pc : Nat} {ls : Array Slot} {rest : List Value} {D : va_G} {cl : List vw_C} {a : Nat} {tys : List (ClassId × FieldType)} {B : Nat → Prop} {own ref C : String} {T : u_T} {N ci index : Nat} {ty : Nat → FieldType}
theorem fx_ti {x y : Int32} (h : x = y) (k : W p l e R s m args below meth c H locs cells slots Q (F0 m pc ls (.int y :: rest))) : W p l e R s m args below meth c H locs cells slots Q (F0 m pc ls (.int x :: rest)) := by
  rw [h]; exact k
theorem fx_tl {x y : Int64} (h : x = y) (k : W p l e R s m args below meth c H locs cells slots Q (F0 m pc ls (.long y :: rest))) : W p l e R s m args below meth c H locs cells slots Q (F0 m pc ls (.long x :: rest)) := by
  rw [h]; exact k
theorem fx_tv {x y : Value} (h : x = y) (k : W p l e R s m args below meth c H locs cells slots Q (F0 m pc ls (y :: rest))) : W p l e R s m args below meth c H locs cells slots Q (F0 m pc ls (x :: rest)) := by
  rw [h]; exact k
theorem fx_get (hexec : p.tables.exec = Jvm.exec) (hb : c.code = cc) (hown : s.vm.findClass own = some m.cls) (hc : fx_K s args cl ci C T N ty) (hK : va_K D cl tys s) (k : Nat) (hk : k < N) (hlink : (Cond.fieldLink own index ref (T k).2.1 (T k).2.2.1).before args s = true)
    (hsame : ∀ x, s.fieldFound? (T k).1 (T k).2.1 (T k).2.2.1 = some x → s.fieldFound? ref (T k).2.1 (T k).2.2.1 = some x) {fs : List Value} {v : Value} (hO : va_at D cl (a, .inr (ci, fs)) H) (hv : fs[k]? = some v) (hdg : decode cc pc = .ok (.getfield index, 3))
    (kk : W p l e R s m args below meth c H locs cells slots Q (F0 m (pc + 3) ls (v :: rest))) : W p l e R s m args below meth c H locs cells slots Q (F0 m pc ls (.ref a :: rest)) :=
  va_get (Ts := u_ws C T N) hexec hb hc.2.1 (fun _ h => h) hown hK (fx_one hO) 0 rfl hc.1 k hk hlink hsame hv hdg kk
theorem fx_getN {host : String} (hexec : p.tables.exec = Jvm.exec) (hb : c.code = cc) (hown : s.vm.findClass own = some m.cls) (hc : fx_K s args cl ci C T N ty) (hK : va_K D cl tys s) (k : Nat) (hk : k < N) (hlink : (Cond.fieldLinkNest own index ref (T k).2.1 (T k).2.2.1 host).before args s = true)
    (hsame : ∀ x, s.fieldFound? (T k).1 (T k).2.1 (T k).2.2.1 = some x → s.fieldFound? ref (T k).2.1 (T k).2.2.1 = some x) {fs : List Value} {v : Value} (hO : va_at D cl (a, .inr (ci, fs)) H) (hv : fs[k]? = some v) (hdg : decode cc pc = .ok (.getfield index, 3))
    (kk : W p l e R s m args below meth c H locs cells slots Q (F0 m (pc + 3) ls (v :: rest))) : W p l e R s m args below meth c H locs cells slots Q (F0 m pc ls (.ref a :: rest)) :=
  va_getN (Ts := u_ws C T N) hexec hb hc.2.1 (fun _ h => h) hown hK (fx_one hO) 0 rfl hc.1 k hk hlink hsame hv hdg kk
theorem fx_app1 {i : Nat} (hL : ∀ q ∈ locs, B q.base) (ha : B a) : ∀ q ∈ locs ++ [(⟨a, i⟩ : Loc)], B q.base := fun q hq => by
  rcases List.mem_append.mp hq with h | h
  · exact hL q h
  · rw [List.mem_singleton.mp h]; exact ha
theorem fx_put (hexec : p.tables.exec = Jvm.exec) (hb : c.code = cc) (hown : s.vm.findClass own = some m.cls) (hc : fx_K s args cl ci C T N ty) (hK : va_K D cl tys s) (k : Nat) (hk : k < N) (hlink : (Cond.fieldLink own index ref (T k).2.1 (T k).2.2.1).before args s = true)
    (hsame : ∀ x, s.fieldFound? (T k).1 (T k).2.1 (T k).2.2.1 = some x → s.fieldFound? ref (T k).2.1 (T k).2.2.1 = some x) (hfin : (T k).2.2.2 = false) {fs : List Value} {v : Value} (hO : va_at D cl (a, .inr (ci, fs)) H) (hl : k < fs.length) (hn : narrow (ty k) v = v) (hfit : fits (ty k) v = true)
    (hL : ∀ q ∈ locs, B q.base) (ha : B a) (hdg : decode cc pc = .ok (.putfield index, 3))
    (kk : ∀ (H1 : Heap) (locs1 : List Loc), va_at D cl (a, .inr (ci, fs.set k v)) H1 → fx_U a H H1 → (∀ q ∈ locs1, B q.base) → W p l e R s m args below meth c H1 locs1 cells slots Q (F0 m (pc + 3) ls rest)) : W p l e R s m args below meth c H locs cells slots Q (F0 m pc ls (v :: .ref a :: rest)) := by
  obtain ⟨hc1, hts, hty, hnm⟩ := hc
  have hin : ∀ w ∈ u_ws C T N, w ∈ u_ws C T N := fun _ h => h
  have hap := va_apart (own := own) hts hin ty hty hnm hK hc1
  obtain ⟨r, h1, cell, q1, q2, q3, q4⟩ := hO
  have hr : r = (C, T, N) := Option.some.inj (h1.symm.trans hc1)
  subst hr
  obtain ⟨hS, hfc, kC, hkC, hkind⟩ := hK.1 ci _ hc1
  obtain ⟨cf, kf, fi, f, hi, hsl⟩ := hS k hk
  have hlay := hts _ (hin _ (u_in_lay hk))
  unfold u_lay at hlay
  rw [if_neg (by rw [hfin]; decide)] at hlay
  have hst := (u_facts hfc hkC (u_lays hts hin hk) hi).1
  have h6 := u_store hfc hkC hkind hlay hi (hty k hk) hn hfit
  refine W.putK hexec hb (f := f) ⟨hown, hlink, ⟨_, _, _, hsame _ hi⟩, hst⟩ (by rw [q2]; exact h6) q1 q3 (by rw [hsl]; exact k2_hasslot (q4 k hk)) rfl rfl hdg fun H' e1 e2 e3 => ?_
  rw [hsl] at e1 ⊢
  exact kk H' _ ⟨_, hc1, t_OB.to (V := updV (vp_V fs) k v) ⟨_, e1, q2, q3, t_set q4 hap hk v⟩ (fun j _ => vp_updV_set hl v j)⟩ ⟨e2, e3⟩ (fx_app1 hL ha)
theorem fx_putF (hexec : p.tables.exec = Jvm.exec) (hb : c.code = cc) (hown : s.vm.findClass own = some m.cls) (hc : fx_K s args cl ci C T N ty) (hK : va_K D cl tys s) (k : Nat) (hk : k < N) (hlink : (Cond.fieldLink own index ref (T k).2.1 (T k).2.2.1).before args s = true)
    (hsame : ∀ x, s.fieldFound? (T k).1 (T k).2.1 (T k).2.2.1 = some x → s.fieldFound? ref (T k).2.1 (T k).2.2.1 = some x) (hfin : (T k).2.2.2 = true) (hin2 : meth.name = "<init>") (hdecl : (T k).1 = own) {fs : List Value} {v : Value} (hO : va_at D cl (a, .inr (ci, fs)) H) (hl : k < fs.length) (hn : narrow (ty k) v = v) (hfit : fits (ty k) v = true)
    (hL : ∀ q ∈ locs, B q.base) (ha : B a) (hdg : decode cc pc = .ok (.putfield index, 3))
    (kk : ∀ (H1 : Heap) (locs1 : List Loc), va_at D cl (a, .inr (ci, fs.set k v)) H1 → fx_U a H H1 → (∀ q ∈ locs1, B q.base) → W p l e R s m args below meth c H1 locs1 cells slots Q (F0 m (pc + 3) ls rest)) : W p l e R s m args below meth c H locs cells slots Q (F0 m pc ls (v :: .ref a :: rest)) := by
  obtain ⟨hc1, hts, hty, hnm⟩ := hc
  have hin : ∀ w ∈ u_ws C T N, w ∈ u_ws C T N := fun _ h => h
  have hap := va_apart (own := own) hts hin ty hty hnm hK hc1
  obtain ⟨r, h1, cell, q1, q2, q3, q4⟩ := hO
  have hr : r = (C, T, N) := Option.some.inj (h1.symm.trans hc1)
  subst hr
  obtain ⟨hS, hfc, kC, hkC, hkind⟩ := hK.1 ci _ hc1
  obtain ⟨cf, kf, fi, f, hi, hsl⟩ := hS k hk
  have hlay := hts _ (hin _ (u_in_lay hk))
  unfold u_lay at hlay
  rw [if_pos hfin] at hlay
  have hst := (u_facts hfc hkC (u_lays hts hin hk) hi).1
  have hcf : m.cls = cf := by
    obtain ⟨_, _, c', _, _, _, -, -, hf', -, -, -, hown2, -⟩ := Cond.laysFinal_spec hlay
    have e1 : c' = cf := by have := hi.symm.trans hf'; simp at this; exact this.1.symm
    rw [hdecl] at hown2
    rw [← e1]; exact Option.some.inj (hown.symm.trans hown2)
  have h6 := u_fits hfc hkC hkind (Or.inr hlay) hi (hty k hk) hn hfit
  refine W.putFinK hexec hb hown hlink (hsame _ hi) hst hcf hin2 (by rw [q2]; exact h6) q1 q3 (by rw [hsl]; exact k2_hasslot (q4 k hk)) rfl rfl hdg fun H' e1 e2 e3 => ?_
  rw [hsl] at e1 ⊢
  exact kk H' _ ⟨_, hc1, t_OB.to (V := updV (vp_V fs) k v) ⟨_, e1, q2, q3, t_set q4 hap hk v⟩ (fun j _ => vp_updV_set hl v j)⟩ ⟨e2, e3⟩ (fx_app1 hL ha)
theorem fx_new (hexec : p.tables.exec = Jvm.exec) (hb : c.code = cc) (hown : s.vm.findClass own = some m.cls) (hc : fx_K s args cl ci C T N ty) (hK : va_K D cl tys s) {n : Nat} (hcl : (Cond.classLink own index C).before args s = true) (hinst : (Cond.instantiable C n).before args s = true) (hini : (Cond.initialized C).before args s = true)
    {fs : List Value} (hfs : ∀ j, j < N → defaultValue (ty j) = vp_V fs j) (hcells : cells + 1 ≤ R.cells) (hslots : slots + n ≤ R.slots) (hdg : decode cc pc = .ok (.new index, 3))
    (kk : ∀ (q : Nat) (H1 : Heap), q = H.size → va_at D cl (q, .inr (ci, fs)) H1 → fx_G H H1 → W p l e R s m args below meth c H1 locs (cells + 1) (slots + n) Q (F0 m (pc + 3) ls (.ref q :: rest))) : W p l e R s m args below meth c H locs cells slots Q (F0 m pc ls rest) := by
  have hKn := hK.1 ci _ hc.1
  refine W.newcK hexec hb hown hcl hinst hini rfl hdg hcells hslots hKn.2.1 rfl fun H1 kC hkC e1 z1 o1 => ?_
  exact kk H.size H1 rfl ⟨_, hc.1, (u_born ty hc.2.1 (fun _ h => h) hKn hkC e1 hc.2.2.1).to hfs⟩ ⟨z1, o1⟩
theorem fx_iald (hexec : p.tables.exec = Jvm.exec) (hb : c.code = cc) (hK : va_K D cl tys s) (t0 : Nat) {cA : ClassId} {n : Nat} {f : Nat → Int32} (hO : va_at D cl (a, .inl (cA, n, .inl f)) H) (ht : tys[t0]? = some (cA, .int)) {i : Int32} {j : Nat} (hi : i = nI j) (hj : j < n) (hn : n < 2 ^ 31) (hdg : decode cc pc = .ok (.iaload, 1))
    (kk : W p l e R s m args below meth c H locs cells slots Q (F0 m (pc + 1) ls (.int (f j) :: rest))) : W p l e R s m args below meth c H locs cells slots Q (F0 m pc ls (.int i :: .ref a :: rest)) := by
  subst hi
  refine va_iald hexec hb hK (fx_one hO) 0 t0 rfl ht (vp_in_nI hj hn) hdg ?_
  rw [nI_clamp (by omega)]
  exact kk
theorem fx_lald (hexec : p.tables.exec = Jvm.exec) (hb : c.code = cc) (hK : va_K D cl tys s) (t0 : Nat) {cA : ClassId} {n : Nat} {f : Nat → Int64} (hO : va_at D cl (a, .inl (cA, n, .inr (.inl f))) H) (ht : tys[t0]? = some (cA, .long)) {i : Int32} {j : Nat} (hi : i = nI j) (hj : j < n) (hn : n < 2 ^ 31) (hdg : decode cc pc = .ok (.laload, 1))
    (kk : W p l e R s m args below meth c H locs cells slots Q (F0 m (pc + 1) ls (.long (f j) :: rest))) : W p l e R s m args below meth c H locs cells slots Q (F0 m pc ls (.int i :: .ref a :: rest)) := by
  subst hi
  refine va_lald hexec hb hK (fx_one hO) 0 t0 rfl ht (vp_in_nI hj hn) hdg ?_
  rw [nI_clamp (by omega)]
  exact kk
theorem fx_aald (hexec : p.tables.exec = Jvm.exec) (hb : c.code = cc) (hK : va_K D cl tys s) (t0 : Nat) {cA : ClassId} {E : String} {n : Nat} {f : Nat → Option Nat} (hO : va_at D cl (a, .inl (cA, n, .inr (.inr (.inr (.inr f))))) H) (ht : tys[t0]? = some (cA, .object E)) {i : Int32} {j : Nat} (hi : i = nI j) (hj : j < n) (hn : n < 2 ^ 31) (hdg : decode cc pc = .ok (.aaload, 1))
    (kk : W p l e R s m args below meth c H locs cells slots Q (F0 m (pc + 1) ls (va_rf (f j) :: rest))) : W p l e R s m args below meth c H locs cells slots Q (F0 m pc ls (.int i :: .ref a :: rest)) := by
  subst hi
  refine va_aldq hexec hb hK (fx_one hO) 0 t0 rfl ht (vp_in_nI hj hn) hdg ?_
  rw [nI_clamp (by omega)]
  exact kk
theorem fx_alen (hexec : p.tables.exec = Jvm.exec) (hb : c.code = cc) (hK : va_K D cl tys s) (t0 : Nat) {cA : ClassId} {x : vp_A} {t : FieldType} (hO : va_at D cl (a, .inl (cA, x)) H) (ht : tys[t0]? = some (cA, t)) (hdg : decode cc pc = .ok (.arraylength, 1))
    (kk : W p l e R s m args below meth c H locs cells slots Q (F0 m (pc + 1) ls (.int (nI x.1) :: rest))) : W p l e R s m args below meth c H locs cells slots Q (F0 m pc ls (.ref a :: rest)) :=
  va_alen hexec hb hK (fx_one hO) 0 t0 rfl ht rfl hdg kk
theorem fx_iast (hexec : p.tables.exec = Jvm.exec) (hb : c.code = cc) (hK : va_K D cl tys s) (t0 : Nat) {cA : ClassId} {n : Nat} {f : Nat → Int32} (hO : va_at D cl (a, .inl (cA, n, .inl f)) H) (ht : tys[t0]? = some (cA, .int)) {i x : Int32} {j : Nat} (hi : i = nI j) (hj : j < n) (hn : n < 2 ^ 31) (hL : ∀ q ∈ locs, B q.base) (ha : B a) (hdg : decode cc pc = .ok (.iastore, 1))
    (kk : ∀ (H1 : Heap) (locs1 : List Loc), va_at D cl (a, .inl (cA, n, .inl (upd f j x))) H1 → fx_U a H H1 → (∀ q ∈ locs1, B q.base) → W p l e R s m args below meth c H1 locs1 cells slots Q (F0 m (pc + 1) ls rest)) : W p l e R s m args below meth c H locs cells slots Q (F0 m pc ls (.int x :: .int i :: .ref a :: rest)) := by
  subst hi
  refine W.iast hexec hb hO ((hK.2 t0 _ ht).1 n (fun j => .int (f j))) (fun q => by cases q) (by show ¬ (nI j < 0 ∨ (arrV _ _ _).slots.size ≤ _); rw [arrV_size]; exact vp_in_nI hj hn) rfl rfl hdg fun H1 e z oq => ?_
  refine kk H1 _ ?_ ⟨z, oq⟩ (fx_app1 hL ha)
  show H1[a]? = some (vp_cell _ _)
  rw [e, nI_clamp (by omega)]
  show some ((vp_cell cA (n, .inl f)).setSlot j (.int x)) = _
  rw [vp_cell_i, vp_cell_i, arrV_store]
  congr 2
  funext q
  by_cases hq : q = j
  · subst hq
    simp [updV, upd]
  · simp [updV, upd, hq]
theorem fx_last (hexec : p.tables.exec = Jvm.exec) (hb : c.code = cc) (hK : va_K D cl tys s) (t0 : Nat) {cA : ClassId} {n : Nat} {f : Nat → Int64} (hO : va_at D cl (a, .inl (cA, n, .inr (.inl f))) H) (ht : tys[t0]? = some (cA, .long)) {i : Int32} {x : Int64} {j : Nat} (hi : i = nI j) (hj : j < n) (hn : n < 2 ^ 31) (hL : ∀ q ∈ locs, B q.base) (ha : B a) (hdg : decode cc pc = .ok (.lastore, 1))
    (kk : ∀ (H1 : Heap) (locs1 : List Loc), va_at D cl (a, .inl (cA, n, .inr (.inl (vp_updL f j x)))) H1 → fx_U a H H1 → (∀ q ∈ locs1, B q.base) → W p l e R s m args below meth c H1 locs1 cells slots Q (F0 m (pc + 1) ls rest)) : W p l e R s m args below meth c H locs cells slots Q (F0 m pc ls (.long x :: .int i :: .ref a :: rest)) := by
  subst hi
  refine W.last hexec hb hO ((hK.2 t0 _ ht).1 n (fun j => .long (f j))) (fun q => by cases q) (by show ¬ (nI j < 0 ∨ (arrV _ _ _).slots.size ≤ _); rw [arrV_size]; exact vp_in_nI hj hn) rfl rfl hdg fun H1 e z oq => ?_
  refine kk H1 _ ?_ ⟨z, oq⟩ (fx_app1 hL ha)
  show H1[a]? = some (vp_cell _ _)
  rw [e, nI_clamp (by omega)]
  show some ((vp_cell cA (n, .inr (.inl f))).setSlot j (.long x)) = _
  rw [vp_cell_l, vp_cell_l, arrV_store]
  congr 2
  funext q
  by_cases hq : q = j
  · subst hq
    simp [updV, vp_updL]
  · simp [updV, vp_updL, hq]
/-- a new array of ints: its class is the one known -/
theorem fx_newI (hexec : p.tables.exec = Jvm.exec) (hb : c.code = cc) (hK : va_K D cl tys s) (t0 : Nat) {cA : ClassId} (ht : tys[t0]? = some (cA, .int)) (harr : (Cond.arrayClass .int).before args s = true) {n : Int32} {N : Nat} (hn : n = nI N) (hN : N ≤ 100000) (hcells : cells + 1 ≤ R.cells) (hslots : slots + N ≤ R.slots) (hdg : decode cc pc = .ok (.newarray .int, 2))
    (kk : ∀ (q : Nat) (H1 : Heap), q = H.size → va_at D cl (q, .inl (cA, N, .inl (fun _ => 0))) H1 → fx_G H H1 → W p l e R s m args below meth c H1 locs (cells + 1) (slots + N) Q (F0 m (pc + 2) ls (.ref q :: rest))) : W p l e R s m args below meth c H locs cells slots Q (F0 m pc ls (.int n :: rest)) := by
  subst hn
  refine va_newaK (atype := .int) hexec hb harr rfl hdg rfl (nI_pos (by omega)) (nI_clamp (by omega)) (by show N * 4 ≤ 536870912; omega) hcells hslots rfl fun H1 cB e1 z1 o1 hAr hNm => ?_
  have h2 : s.vm.findClass ("[" ++ FieldType.int.toString) = some cA := (hK.2 t0 _ ht).2
  have h3 : s.vm.findClass ("[" ++ FieldType.int.toString) = some cB := hNm
  cases Option.some.inj (h2.symm.trans h3)
  exact kk H.size H1 rfl e1 ⟨z1, o1⟩
theorem fx_newL (hexec : p.tables.exec = Jvm.exec) (hb : c.code = cc) (hK : va_K D cl tys s) (t0 : Nat) {cA : ClassId} (ht : tys[t0]? = some (cA, .long)) (harr : (Cond.arrayClass .long).before args s = true) {n : Int32} {N : Nat} (hn : n = nI N) (hN : N ≤ 100000) (hcells : cells + 1 ≤ R.cells) (hslots : slots + N ≤ R.slots) (hdg : decode cc pc = .ok (.newarray .long, 2))
    (kk : ∀ (q : Nat) (H1 : Heap), q = H.size → va_at D cl (q, .inl (cA, N, .inr (.inl (fun _ => 0)))) H1 → fx_G H H1 → W p l e R s m args below meth c H1 locs (cells + 1) (slots + N) Q (F0 m (pc + 2) ls (.ref q :: rest))) : W p l e R s m args below meth c H locs cells slots Q (F0 m pc ls (.int n :: rest)) := by
  subst hn
  refine va_newaK (atype := .long) hexec hb harr rfl hdg rfl (nI_pos (by omega)) (nI_clamp (by omega)) (by show N * 8 ≤ 536870912; omega) hcells hslots rfl fun H1 cB e1 z1 o1 hAr hNm => ?_
  have h2 : s.vm.findClass ("[" ++ FieldType.long.toString) = some cA := (hK.2 t0 _ ht).2
  have h3 : s.vm.findClass ("[" ++ FieldType.long.toString) = some cB := hNm
  cases Option.some.inj (h2.symm.trans h3)
  exact kk H.size H1 rfl e1 ⟨z1, o1⟩
end FXH
/-- an array of ints that holds a list -/
def fx_A (D : va_G) (cl : List vw_C) (cI : ClassId) (a : Nat) (xs : List Int32) (H : Heap) : Prop := va_at D cl (a, .inl (cI, xs.length, .inl (fun j => xs.getD j 0))) H
theorem fx_cell_eq {cI : ClassId} {n : Nat} {f g : Nat → Int32} (h : ∀ j, j < n → f j = g j) : vp_cell cI (n, .inl f) = vp_cell cI (n, .inl g) := by
  rw [vp_cell_i, vp_cell_i]
  unfold arrV
  congr 1
  apply Array.ext_getElem?
  intro i
  by_cases hi : i < n
  · simp [Array.getElem?_ofFn, hi, h i hi]
  · simp [Array.getElem?_ofFn, hi]
theorem fx_A.of {D : va_G} {cl : List vw_C} {cI : ClassId} {a n : Nat} {f : Nat → Int32} {xs : List Int32} {H : Heap} (h : va_at D cl (a, .inl (cI, n, .inl f)) H) (hn : n = xs.length) (hf : ∀ j, j < n → f j = xs.getD j 0) : fx_A D cl cI a xs H := by
  subst hn
  have h1 : H[a]? = some (vp_cell cI (xs.length, .inl f)) := h
  show H[a]? = some (vp_cell cI (xs.length, .inl (fun j => xs.getD j 0)))
  rw [h1, fx_cell_eq hf]
theorem fx_A.ex {D : va_G} {cl : List vw_C} {cI : ClassId} {a : Nat} {xs : List Int32} {H H' : Heap} (h : fx_A D cl cI a xs H) (hx : fx_Ex H H') : fx_A D cl cI a xs H' := hx.kept h
theorem fx_gen {p : Program} {l : Launch} {e : Env} {R : Room} {s : State} {m : MethodId} {args : Array Value} {below : List Frame} {meth : Method} {c : Code} {H : Heap} {locs : List Loc} {cells slots : Nat} {Q : State → Prop} {g : JFrame} (h : ∀ Q', Q' = Q → W p l e R s m args below meth c H locs cells slots Q' g) : W p l e R s m args below meth c H locs cells slots Q g := h Q rfl
end
section
/-! System.arraycopy between two arrays of ints, and an array's clone, with exact frames. -/
section FXCP
variable {p : Program} {l : Launch} {e : Env} {R : Room} {s : State} {m : MethodId} {args : Array Value} {below : List Frame} {meth : Method} {c : Code} {H : Heap} {locs : List Loc} {cells slots : Nat} {Q : State → Prop}
variable {cc : ByteArray} {pc : Nat} {ls : Array Slot} {rest : List Value} {D : va_G} {cl : List vw_C} {a : Nat} {tys : List (ClassId × FieldType)} {B : Nat → Prop}
theorem fx_copyI (hexec : p.tables.exec = Jvm.exec) (hb : c.code = cc) (hml : ls.size = c.maxLocals) {own : String} {index : Nat} (hown : s.vm.findClass own = some m.cls) (hlink : (Cond.methodLink own index arraycopyName).before args s = true) (hnat : (Cond.native arraycopyName).before args s = true) (hstat : (Cond.static arraycopyName).before args s = true) (hini : (Cond.initialized "java/lang/System").before args s = true)
    (hK : va_K D cl tys s) (t0 : Nat) {a0 : Nat} {cI : ClassId} {n0 n1 : Nat} {f g : Nat → Int32} (ht : tys[t0]? = some (cI, .int)) (ha0 : va_at D cl (a0, .inl (cI, n0, .inl f)) H) (ha1 : va_at D cl (a, .inl (cI, n1, .inl g)) H)
    {sp dp n : Int32} {i j k : Nat} (hi : sp = nI i) (hj : dp = nI j) (hk : n = nI k) (h4 : i + k ≤ n0) (h5 : j + k ≤ n1) (hz : n0 < 2 ^ 31 ∧ n1 < 2 ^ 31)
    (hframes : 1 ≤ R.frames) (hlocals : (rest.map fun v => v.category).sum + (nativeFrameWords "java/lang/System" "arraycopy" 5 + 11) ≤ R.locals) (hL : ∀ q ∈ locs, B q.base) (hB : B a) (hdg : decode cc pc = .ok (.invokestatic index, 3))
    (kk : ∀ (H1 : Heap) (locs1 : List Loc), va_at D cl (a, .inl (cI, n1, .inl (va_cpy f g i j k))) H1 → fx_U a H H1 → (∀ q ∈ locs1, B q.base) → W p l e R s m args below meth c H1 locs1 cells slots Q (F0 m (pc + 3) ls rest)) : W p l e R s m args below meth c H locs cells slots Q (F0 m pc ls (.int n :: .int dp :: .ref a :: .int sp :: .ref a0 :: rest)) := by
  subst hi; subst hj; subst hk
  have ei : (nI i).toNatClampNeg = i := nI_clamp (by omega)
  have ej : (nI j).toNatClampNeg = j := nI_clamp (by omega)
  have ek : (nI k).toNatClampNeg = k := nI_clamp (by omega)
  intro T hT X
  have hc0 : H[a0]? = some (vp_cell cI (n0, .inl f)) := ha0
  have hc1 : H[a]? = some (vp_cell cI (n1, .inl g)) := ha1
  obtain ⟨-, k0, hk0, cm0, hkk0⟩ := (hK.2 t0 _ ht).1 n0 (fun j => .int (f j))
  obtain ⟨-, k1, hk1, cm1, hkk1⟩ := (hK.2 t0 _ ht).1 n1 (fun j => .int (g j))
  obtain ⟨vm', X', step⟩ := X.arraycopy hexec hown hlink hnat hstat hini (src := a0) (dst := a) (cs := vp_cell cI (n0, .inl f)) (cd := vp_cell cI (n1, .inl g)) (srcPos := nI i) (destPos := nI j) (n := nI k) (by rw [hT]; exact hc0) (by rw [hT]; exact hc1)
    (fun _ h => by cases h) (fun _ h => by cases h) (fun h => by cases h) (fun h => by cases h) hk0 hk1 hkk0 hkk1 (show (refKind FieldType.int != refKind FieldType.int || !refKind FieldType.int && FieldType.int != FieldType.int) = false by decide) (nI_pos (by omega)) (nI_pos (by omega)) (nI_pos (by omega))
    (by rw [nI_toInt (by omega), nI_toInt (by omega)]; show ¬ _ > ((arrV cI n0 (fun j => .int (f j))).slots.size : Int); rw [arrV_size]; omega)
    (by rw [nI_toInt (by omega), nI_toInt (by omega)]; show ¬ _ > ((arrV cI n1 (fun j => .int (g j))).slots.size : Int); rw [arrV_size]; omega)
    (fun vm₁ _ z hz => by
      rw [ek] at hz
      have e : (vp_cell cI (n0, .inl f)).slots.getD ((nI i).toNatClampNeg + z) .null = .int (f ((nI i).toNatClampNeg + z)) := by
        show (arrV cI n0 (fun j => .int (f j))).slots.getD _ _ = _
        rw [Array.getD_eq_getD_getElem?, arrV_read _ _ (by omega)]
        rfl
      refine ⟨?_, ?_⟩
      · rw [e]
        rfl
      · rw [e]
        exact trivial)
    (g := F0 m pc ls (.int (nI k) :: .int (nI j) :: .ref a :: .int (nI i) :: .ref a0 :: rest)) rfl (by rw [← hml]) (rest := rest) rfl (by rw [hb]; exact hdg) hframes (by show 2 * 0 + _ + _ ≤ _; omega)
  have e1 : copied (vp_cell cI (n0, .inl f)) (vp_cell cI (n1, .inl g)) (nI i) (nI j) (nI k) = vp_cell cI (n1, .inl (va_cpy f g i j k)) := by
    have := va_copied (fun z => .int z) cI cI (n0 := n0) (n1 := n1) (sp := (nI i).toNatClampNeg) (dp := (nI j).toNatClampNeg) (n := (nI k).toNatClampNeg) f g (by rw [ei, ek]; exact h4)
    rw [ei, ej, ek] at this
    exact Eq.trans (by unfold copied; rw [ei, ej, ek]; rfl) this
  rw [e1] at X' step
  have hl : a < H.size := (Array.getElem?_eq_some_iff.mp hc1).1
  have hheap : ((T.setVm vm').setCell a (vp_cell cI (n1, .inl (va_cpy f g i j k)))).heap = H.setIfInBounds a (vp_cell cI (n1, .inl (va_cpy f g i j k))) := by rw [← hT]; rfl
  obtain ⟨t, a1, b1⟩ := kk (H.setIfInBounds a (vp_cell cI (n1, .inl (va_cpy f g i j k)))) _ (show (H.setIfInBounds a _)[a]? = some _ by simp [Array.getElem?_setIfInBounds, hl]) ⟨by simp, fun q hq => by simp [Array.getElem?_setIfInBounds, Ne.symm hq]⟩
    (fun q hq => by
      rcases List.mem_append.mp hq with h | h
      · exact hL q h
      · obtain ⟨z, -, hz⟩ := List.mem_map.mp h
        rw [← hz]
        exact hB) _ hheap X'
  exact ⟨t, step t a1, b1⟩
end FXCP
end
section
/-! The document's state and calls as mathematics: a list of versions (kind, form, elements, keys); a call answers (code, value, the new list): code 0: it returned; 1, 2, 3: the first, second, third of its exceptions. -/
abbrev sV : Type := Int32 × Int32 × List Int32 × List Int32
abbrev sV.es (o : sV) : List Int32 := o.2.2.1
abbrev sV.ks (o : sV) : List Int32 := o.2.2.2
def sv_ok (o : sV) : Prop := o.2.2.1.length ≤ 100 ∧ (o.1 = 3 → o.2.2.2.length = o.2.2.1.length) ∧ o.2.2.2.length ≤ 100
def sv_cb (xs : List Int32) (x : Int32) : Nat := (xs.takeWhile (fun y => decide (y < x))).length
def sv_ins (xs : List Int32) (p : Nat) (x : Int32) : List Int32 := xs.take p ++ x :: xs.drop p
def sv_plc (o : sV) (x : Int32) : Nat := if o.1 = 2 then 0 else if o.1 = 1 then sv_cb o.2.2.1 x else o.2.2.1.length
def sv_mg : Nat → List Int32 → List Int32 → List Int32
  | 0, _, _ => []
  | n + 1, xs, ys => match xs, ys with
    | [], [] => []
    | x :: xs', [] => x :: sv_mg n xs' []
    | [], y :: ys' => y :: sv_mg n [] ys'
    | x :: xs', y :: ys' => if x ≤ y then x :: sv_mg n xs' (y :: ys') else y :: sv_mg n (x :: xs') ys'
def sv_mrg (xs ys : List Int32) : List Int32 := sv_mg (xs.length + ys.length) xs ys
def sv_at (Vs : List sV) (v : Int32) : Option sV := if v < 0 then none else Vs[v.toNatClampNeg]?
/-- the fewest trees of 1, 3, 7, 15, .. that have n elements together, taken greedily -/
def sv_few (n : Nat) : Nat := n / 63 + n % 63 / 31 + n % 63 % 31 / 15 + n % 63 % 31 % 15 / 7 + n % 63 % 31 % 15 % 7 / 3 + n % 63 % 31 % 15 % 7 % 3
def sv_bit (n : Nat) : Nat := n % 2 + n / 2 % 2 + n / 4 % 2 + n / 8 % 2 + n / 16 % 2 + n / 32 % 2 + n / 64 % 2
def sv_prt (o : sV) : Nat := if o.1 = 2 ∧ o.2.1 = 0 then sv_few o.2.2.1.length else if (o.1 = 1 ∨ o.1 = 2) ∧ o.2.1 = 1 then sv_bit o.2.2.1.length else if 0 < o.2.2.1.length then 1 else 0
abbrev sR : Type := Nat × Int32 × List sV
def sv_new (Vs : List sV) (o : sV) : sR := (0, nI Vs.length, Vs ++ [o])
def so_empty (Vs : List sV) (k f : Int32) : sR :=
  if 0 ≤ k ∧ k ≤ 4 ∧ 0 ≤ f ∧ f ≤ (if k < 2 then 2 else if k < 4 then 1 else 0) then (if 64 ≤ Vs.length then (2, 0, Vs) else sv_new Vs (k, f, [], [])) else (1, 0, Vs)
def so_add (Vs : List sV) (v x : Int32) : sR := match sv_at Vs v with
  | none => (1, 0, Vs)
  | some o => if o.1 = 3 then (1, 0, Vs) else if 64 ≤ Vs.length ∨ 100 ≤ o.2.2.1.length then (2, 0, Vs) else sv_new Vs (o.1, o.2.1, sv_ins o.2.2.1 (sv_plc o x) x, o.2.2.2)
def so_first (Vs : List sV) (v : Int32) : sR := match sv_at Vs v with
  | none => (1, 0, Vs)
  | some o => if o.1 = 3 then (1, 0, Vs) else if o.2.2.1.length = 0 then (2, 0, Vs) else (0, o.2.2.1.getD 0 0, Vs)
def so_rest (Vs : List sV) (v : Int32) : sR := match sv_at Vs v with
  | none => (1, 0, Vs)
  | some o => if o.1 = 3 then (1, 0, Vs) else if 64 ≤ Vs.length then (2, 0, Vs) else if o.2.2.1.length = 0 then (3, 0, Vs) else sv_new Vs (o.1, o.2.1, o.2.2.1.drop 1, o.2.2.2)
def so_join (Vs : List sV) (v w : Int32) : sR := match sv_at Vs v, sv_at Vs w with
  | some a, some b => if (a.1 = 1 ∨ a.1 = 4) ∧ a.1 = b.1 ∧ a.2.1 = b.2.1 then (if 64 ≤ Vs.length ∨ 100 < a.2.2.1.length + b.2.2.1.length then (2, 0, Vs) else sv_new Vs (a.1, a.2.1, (if a.1 = 4 then a.2.2.1 ++ b.2.2.1 else sv_mrg a.2.2.1 b.2.2.1), a.2.2.2)) else (1, 0, Vs)
  | _, _ => (1, 0, Vs)
def so_bind (Vs : List sV) (v key x : Int32) : sR := match sv_at Vs v with
  | none => (1, 0, Vs)
  | some o => if o.1 = 3 ∧ 0 ≤ key ∧ key ≤ 255 then
      (if o.2.2.2[sv_cb o.2.2.2 key]? = some key then (if 64 ≤ Vs.length then (2, 0, Vs) else sv_new Vs (o.1, o.2.1, o.2.2.1.set (sv_cb o.2.2.2 key) x, o.2.2.2))
       else (if 64 ≤ Vs.length ∨ 100 ≤ o.2.2.1.length then (2, 0, Vs) else sv_new Vs (o.1, o.2.1, sv_ins o.2.2.1 (sv_cb o.2.2.2 key) x, sv_ins o.2.2.2 (sv_cb o.2.2.2 key) key)))
      else (1, 0, Vs)
def so_value (Vs : List sV) (v key : Int32) : sR := match sv_at Vs v with
  | none => (1, 0, Vs)
  | some o => if o.1 = 3 then (if o.2.2.2[sv_cb o.2.2.2 key]? = some key then (0, o.2.2.1.getD (sv_cb o.2.2.2 key) 0, Vs) else (2, 0, Vs)) else (1, 0, Vs)
def so_update (Vs : List sV) (v i x : Int32) : sR := match sv_at Vs v with
  | none => (1, 0, Vs)
  | some o => if o.1 = 2 then (if 64 ≤ Vs.length then (2, 0, Vs) else if i < 0 ∨ nI o.2.2.1.length ≤ i then (3, 0, Vs) else sv_new Vs (o.1, o.2.1, o.2.2.1.set i.toNatClampNeg x, o.2.2.2)) else (1, 0, Vs)
def so_at (Vs : List sV) (v i : Int32) : sR := match sv_at Vs v with
  | none => (1, 0, Vs)
  | some o => if i < 0 ∨ nI o.2.2.1.length ≤ i then (2, 0, Vs) else (0, o.2.2.1.getD i.toNatClampNeg 0, Vs)
def so_size (Vs : List sV) (v : Int32) : sR := match sv_at Vs v with
  | none => (1, 0, Vs)
  | some o => (0, nI o.2.2.1.length, Vs)
def so_parts (Vs : List sV) (v : Int32) : sR := match sv_at Vs v with
  | none => (1, 0, Vs)
  | some o => (0, nI (sv_prt o), Vs)
def so_kind (Vs : List sV) (v : Int32) : sR := match sv_at Vs v with
  | none => (1, 0, Vs)
  | some o => (0, 10 * o.1 + o.2.1, Vs)
-- pure rows
theorem sv_cb_le (xs : List Int32) (x : Int32) : sv_cb xs x ≤ xs.length := by
  unfold sv_cb
  exact List.IsPrefix.length_le (List.takeWhile_prefix _)
theorem sv_cb_cons (y : Int32) (ys : List Int32) (x : Int32) : sv_cb (y :: ys) x = if y < x then sv_cb ys x + 1 else 0 := by
  unfold sv_cb
  by_cases h : y < x
  · simp [h]
  · simp [h]
/-- the loop's end: all before k are below x, and k is the end or the element at k isn't below -/
theorem sv_cb_of : ∀ (xs : List Int32) (x : Int32) (k : Nat), k ≤ xs.length → (∀ j, j < k → xs.getD j 0 < x) → (k = xs.length ∨ ¬ xs.getD k 0 < x) → sv_cb xs x = k
  | [], x, k, h1, _, _ => by
    have : k = 0 := by simpa using h1
    subst this
    rfl
  | y :: ys, x, k, h1, h2, h3 => by
    rw [sv_cb_cons]
    cases k with
    | zero =>
      rcases h3 with h3 | h3
      · simp at h3
      · rw [if_neg (by simpa using h3)]
    | succ k =>
      have h0 : y < x := by simpa using h2 0 (by omega)
      rw [if_pos h0]
      congr 1
      refine sv_cb_of ys x k (by simpa using h1) (fun j hj => by simpa using h2 (j + 1) (by omega)) ?_
      rcases h3 with h3 | h3
      · left; simpa using h3
      · right; simpa using h3
theorem sv_ins_length {xs : List Int32} {p : Nat} {x : Int32} (h : p ≤ xs.length) : (sv_ins xs p x).length = xs.length + 1 := by
  unfold sv_ins
  simp only [List.length_append, List.length_take, List.length_cons, List.length_drop]
  omega
theorem sv_ins_get {xs : List Int32} {p : Nat} {x : Int32} (h : p ≤ xs.length) (j : Nat) : (sv_ins xs p x).getD j 0 = if j < p then xs.getD j 0 else if j = p then x else xs.getD (j - 1) 0 := by
  unfold sv_ins
  simp only [List.getD_eq_getElem?_getD]
  by_cases h1 : j < p
  · rw [if_pos h1, List.getElem?_append_left (by simp only [List.length_take]; omega), List.getElem?_take, if_pos h1]
  · rw [if_neg h1, List.getElem?_append_right (by simp only [List.length_take]; omega)]
    have e : j - (xs.take p).length = j - p := by simp only [List.length_take]; omega
    rw [e]
    by_cases h2 : j = p
    · subst h2
      simp
    · rw [if_neg h2]
      have e2 : j - p = (j - p - 1) + 1 := by omega
      rw [e2, List.getElem?_cons_succ, List.getElem?_drop]
      congr 2
      omega
theorem sv_mg_left {n : Nat} {x : Int32} {xs ys : List Int32} (h : ys = [] ∨ x ≤ ys.getD 0 0) : sv_mg (n + 1) (x :: xs) ys = x :: sv_mg n xs ys := by
  cases ys with
  | nil => rfl
  | cons y ys =>
    have h' : x ≤ y := by
      rcases h with h | h
      · cases h
      · simpa using h
    show (if x ≤ y then x :: sv_mg n xs (y :: ys) else y :: sv_mg n (x :: xs) ys) = _
    rw [if_pos h']
theorem sv_mg_right {n : Nat} {y : Int32} {xs ys : List Int32} (h : xs = [] ∨ ¬ xs.getD 0 0 ≤ y) : sv_mg (n + 1) xs (y :: ys) = y :: sv_mg n xs ys := by
  cases xs with
  | nil => rfl
  | cons x xs =>
    have h' : ¬ x ≤ y := by
      rcases h with h | h
      · cases h
      · simpa using h
    show (if x ≤ y then x :: sv_mg n xs (y :: ys) else y :: sv_mg n (x :: xs) ys) = _
    rw [if_neg h']
theorem sv_mg_len : ∀ (n : Nat) (xs ys : List Int32), n = xs.length + ys.length → (sv_mg n xs ys).length = n
  | 0, _, _, _ => rfl
  | n + 1, [], [], h => by simp at h
  | n + 1, x :: xs, [], h => by
    show (x :: sv_mg n xs []).length = _
    rw [List.length_cons, sv_mg_len n xs [] (by simpa using h)]
  | n + 1, [], y :: ys, h => by
    show (y :: sv_mg n [] ys).length = _
    rw [List.length_cons, sv_mg_len n [] ys (by simpa using h)]
  | n + 1, x :: xs, y :: ys, h => by
    show (if x ≤ y then x :: sv_mg n xs (y :: ys) else y :: sv_mg n (x :: xs) ys).length = _
    simp only [List.length_cons] at h
    by_cases hc : x ≤ y
    · rw [if_pos hc, List.length_cons, sv_mg_len n xs (y :: ys) (by simp only [List.length_cons]; omega)]
    · rw [if_neg hc, List.length_cons, sv_mg_len n (x :: xs) ys (by simp only [List.length_cons]; omega)]
theorem sv_mrg_length (xs ys : List Int32) : (sv_mrg xs ys).length = xs.length + ys.length := sv_mg_len _ _ _ rfl
end
