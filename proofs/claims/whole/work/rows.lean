section
/-! PART A of the skeleton -/
-- ===== PART A: goes FIRST, ahead of the names: the tables' words, and 'selects' of the private methods out of them =====
/-- a private method of a class that the tables say can be made, by its rows of tables_1 -/
def lw_okq (q : MethodName × Nat) : Prop := (q.1.cls ≠ "java/lang/invoke/MethodHandle" ∧ q.1.cls ≠ "java/lang/invoke/VarHandle") ∧ Cond.instantiable q.1.cls q.2 ∈ tables_1 ∧ Cond.privateMethod q.1 ∈ tables_1 ∧ Cond.instanceMethod q.1 ∈ tables_1
theorem lw_p0 : lw_okq (⟨"java/lang/Throwable", "fillInStackTrace", "(I)Ljava/lang/Throwable;"⟩, 6) := ⟨⟨by decide +kernel, by decide +kernel⟩, List.mem_of_getElem? (i := 121) (by decide +kernel), List.mem_of_getElem? (i := 119) (by decide +kernel), List.mem_of_getElem? (i := 120) (by decide +kernel)⟩
theorem lw_p1 : lw_okq (⟨"LastingShapes", "refuseBeyondLimits", "(I)V"⟩, 1) := ⟨⟨by decide +kernel, by decide +kernel⟩, List.mem_of_getElem? (i := 22) (by decide +kernel), List.mem_of_getElem? (i := 151) (by decide +kernel), List.mem_of_getElem? (i := 152) (by decide +kernel)⟩
theorem lw_p2 : lw_okq (⟨"LastingShapes", "keep", "(LLastingShapes$Version;)I"⟩, 1) := ⟨⟨by decide +kernel, by decide +kernel⟩, List.mem_of_getElem? (i := 22) (by decide +kernel), List.mem_of_getElem? (i := 196) (by decide +kernel), List.mem_of_getElem? (i := 197) (by decide +kernel)⟩
theorem lw_p3 : lw_okq (⟨"java/util/ArrayList", "add", "(Ljava/lang/Object;[Ljava/lang/Object;I)V"⟩, 3) := ⟨⟨by decide +kernel, by decide +kernel⟩, List.mem_of_getElem? (i := 30) (by decide +kernel), List.mem_of_getElem? (i := 204) (by decide +kernel), List.mem_of_getElem? (i := 205) (by decide +kernel)⟩
theorem lw_p4 : lw_okq (⟨"java/util/ArrayList", "grow", "()[Ljava/lang/Object;"⟩, 3) := ⟨⟨by decide +kernel, by decide +kernel⟩, List.mem_of_getElem? (i := 30) (by decide +kernel), List.mem_of_getElem? (i := 208) (by decide +kernel), List.mem_of_getElem? (i := 209) (by decide +kernel)⟩
theorem lw_p5 : lw_okq (⟨"java/util/ArrayList", "grow", "(I)[Ljava/lang/Object;"⟩, 3) := ⟨⟨by decide +kernel, by decide +kernel⟩, List.mem_of_getElem? (i := 30) (by decide +kernel), List.mem_of_getElem? (i := 212) (by decide +kernel), List.mem_of_getElem? (i := 213) (by decide +kernel)⟩
theorem lw_p6 : lw_okq (⟨"LastingShapes", "foundButNoMap", "(I)LLastingShapes$Version;"⟩, 1) := ⟨⟨by decide +kernel, by decide +kernel⟩, List.mem_of_getElem? (i := 22) (by decide +kernel), List.mem_of_getElem? (i := 262) (by decide +kernel), List.mem_of_getElem? (i := 263) (by decide +kernel)⟩
theorem lw_p7 : lw_okq (⟨"LastingShapes", "found", "(I)LLastingShapes$Version;"⟩, 1) := ⟨⟨by decide +kernel, by decide +kernel⟩, List.mem_of_getElem? (i := 22) (by decide +kernel), List.mem_of_getElem? (i := 266) (by decide +kernel), List.mem_of_getElem? (i := 267) (by decide +kernel)⟩
theorem lw_p8 : lw_okq (⟨"LastingShapes$Version", "with", "([I)LLastingShapes$Version;"⟩, 4) := ⟨⟨by decide +kernel, by decide +kernel⟩, List.mem_of_getElem? (i := 172) (by decide +kernel), List.mem_of_getElem? (i := 296) (by decide +kernel), List.mem_of_getElem? (i := 297) (by decide +kernel)⟩
theorem lw_p9 : lw_okq (⟨"LastingShapes", "foundOfKind", "(II)LLastingShapes$Version;"⟩, 1) := ⟨⟨by decide +kernel, by decide +kernel⟩, List.mem_of_getElem? (i := 22) (by decide +kernel), List.mem_of_getElem? (i := 379) (by decide +kernel), List.mem_of_getElem? (i := 380) (by decide +kernel)⟩
theorem lw_p10 : lw_okq (⟨"LastingShapesModel", "isFull", "()Z"⟩, 8) := ⟨⟨by decide +kernel, by decide +kernel⟩, List.mem_of_getElem? (i := 466) (by decide +kernel), List.mem_of_getElem? (i := 505) (by decide +kernel), List.mem_of_getElem? (i := 506) (by decide +kernel)⟩
theorem lw_p11 : lw_okq (⟨"LastingShapesModel", "throwsBy", "(I)Z"⟩, 8) := ⟨⟨by decide +kernel, by decide +kernel⟩, List.mem_of_getElem? (i := 466) (by decide +kernel), List.mem_of_getElem? (i := 509) (by decide +kernel), List.mem_of_getElem? (i := 510) (by decide +kernel)⟩
theorem lw_p12 : lw_okq (⟨"LastingShapesModel", "create", "(II)I"⟩, 8) := ⟨⟨by decide +kernel, by decide +kernel⟩, List.mem_of_getElem? (i := 466) (by decide +kernel), List.mem_of_getElem? (i := 513) (by decide +kernel), List.mem_of_getElem? (i := 514) (by decide +kernel)⟩
theorem lw_p13 : lw_okq (⟨"LastingShapesModel", "isRow", "(I)Z"⟩, 8) := ⟨⟨by decide +kernel, by decide +kernel⟩, List.mem_of_getElem? (i := 466) (by decide +kernel), List.mem_of_getElem? (i := 521) (by decide +kernel), List.mem_of_getElem? (i := 522) (by decide +kernel)⟩
theorem lw_p14 : lw_okq (⟨"LastingShapesModel", "is", "(I)Z"⟩, 8) := ⟨⟨by decide +kernel, by decide +kernel⟩, List.mem_of_getElem? (i := 466) (by decide +kernel), List.mem_of_getElem? (i := 525) (by decide +kernel), List.mem_of_getElem? (i := 526) (by decide +kernel)⟩
theorem lw_p15 : lw_okq (⟨"LastingShapesModel", "isMap", "(I)Z"⟩, 8) := ⟨⟨by decide +kernel, by decide +kernel⟩, List.mem_of_getElem? (i := 466) (by decide +kernel), List.mem_of_getElem? (i := 529) (by decide +kernel), List.mem_of_getElem? (i := 530) (by decide +kernel)⟩
def lw_privs_1 : List (MethodName × Nat) := [(⟨"java/lang/Throwable", "fillInStackTrace", "(I)Ljava/lang/Throwable;"⟩, 6), (⟨"LastingShapes", "refuseBeyondLimits", "(I)V"⟩, 1), (⟨"LastingShapes", "keep", "(LLastingShapes$Version;)I"⟩, 1), (⟨"java/util/ArrayList", "add", "(Ljava/lang/Object;[Ljava/lang/Object;I)V"⟩, 3), (⟨"java/util/ArrayList", "grow", "()[Ljava/lang/Object;"⟩, 3), (⟨"java/util/ArrayList", "grow", "(I)[Ljava/lang/Object;"⟩, 3), (⟨"LastingShapes", "foundButNoMap", "(I)LLastingShapes$Version;"⟩, 1), (⟨"LastingShapes", "found", "(I)LLastingShapes$Version;"⟩, 1), (⟨"LastingShapes$Version", "with", "([I)LLastingShapes$Version;"⟩, 4), (⟨"LastingShapes", "foundOfKind", "(II)LLastingShapes$Version;"⟩, 1), (⟨"LastingShapesModel", "isFull", "()Z"⟩, 8), (⟨"LastingShapesModel", "throwsBy", "(I)Z"⟩, 8), (⟨"LastingShapesModel", "create", "(II)I"⟩, 8), (⟨"LastingShapesModel", "isRow", "(I)Z"⟩, 8), (⟨"LastingShapesModel", "is", "(I)Z"⟩, 8), (⟨"LastingShapesModel", "isMap", "(I)Z"⟩, 8)]
theorem lw_r1 : ∀ q ∈ lw_privs_1, lw_okq q := List.forall_mem_cons.mpr ⟨lw_p0, List.forall_mem_cons.mpr ⟨lw_p1, List.forall_mem_cons.mpr ⟨lw_p2, List.forall_mem_cons.mpr ⟨lw_p3, List.forall_mem_cons.mpr ⟨lw_p4, List.forall_mem_cons.mpr ⟨lw_p5, List.forall_mem_cons.mpr ⟨lw_p6, List.forall_mem_cons.mpr ⟨lw_p7, List.forall_mem_cons.mpr ⟨lw_p8, List.forall_mem_cons.mpr ⟨lw_p9, List.forall_mem_cons.mpr ⟨lw_p10, List.forall_mem_cons.mpr ⟨lw_p11, List.forall_mem_cons.mpr ⟨lw_p12, List.forall_mem_cons.mpr ⟨lw_p13, List.forall_mem_cons.mpr ⟨lw_p14, List.forall_mem_cons.mpr ⟨lw_p15, fun _ h => absurd h List.not_mem_nil⟩⟩⟩⟩⟩⟩⟩⟩⟩⟩⟩⟩⟩⟩⟩⟩
theorem lw_p16 : lw_okq (⟨"LastingShapesModel", "below", "(II)I"⟩, 8) := ⟨⟨by decide +kernel, by decide +kernel⟩, List.mem_of_getElem? (i := 466) (by decide +kernel), List.mem_of_getElem? (i := 533) (by decide +kernel), List.mem_of_getElem? (i := 534) (by decide +kernel)⟩
theorem lw_p17 : lw_okq (⟨"LastingShapesModel", "putAll", "(III)V"⟩, 8) := ⟨⟨by decide +kernel, by decide +kernel⟩, List.mem_of_getElem? (i := 466) (by decide +kernel), List.mem_of_getElem? (i := 537) (by decide +kernel), List.mem_of_getElem? (i := 538) (by decide +kernel)⟩
theorem lw_p18 : lw_okq (⟨"LastingShapesModel", "put", "(II)V"⟩, 8) := ⟨⟨by decide +kernel, by decide +kernel⟩, List.mem_of_getElem? (i := 466) (by decide +kernel), List.mem_of_getElem? (i := 541) (by decide +kernel), List.mem_of_getElem? (i := 542) (by decide +kernel)⟩
theorem lw_p19 : lw_okq (⟨"LastingShapesModel", "placeOf", "(II)I"⟩, 8) := ⟨⟨by decide +kernel, by decide +kernel⟩, List.mem_of_getElem? (i := 466) (by decide +kernel), List.mem_of_getElem? (i := 561) (by decide +kernel), List.mem_of_getElem? (i := 562) (by decide +kernel)⟩
theorem lw_p20 : lw_okq (⟨"LastingShapesModel", "hasAt", "(III)Z"⟩, 8) := ⟨⟨by decide +kernel, by decide +kernel⟩, List.mem_of_getElem? (i := 466) (by decide +kernel), List.mem_of_getElem? (i := 565) (by decide +kernel), List.mem_of_getElem? (i := 566) (by decide +kernel)⟩
def lw_privs_2 : List (MethodName × Nat) := [(⟨"LastingShapesModel", "below", "(II)I"⟩, 8), (⟨"LastingShapesModel", "putAll", "(III)V"⟩, 8), (⟨"LastingShapesModel", "put", "(II)V"⟩, 8), (⟨"LastingShapesModel", "placeOf", "(II)I"⟩, 8), (⟨"LastingShapesModel", "hasAt", "(III)Z"⟩, 8)]
theorem lw_r2 : ∀ q ∈ lw_privs_2, lw_okq q := List.forall_mem_cons.mpr ⟨lw_p16, List.forall_mem_cons.mpr ⟨lw_p17, List.forall_mem_cons.mpr ⟨lw_p18, List.forall_mem_cons.mpr ⟨lw_p19, List.forall_mem_cons.mpr ⟨lw_p20, fun _ h => absurd h List.not_mem_nil⟩⟩⟩⟩⟩
def lw_privs : List (MethodName × Nat) := lw_privs_1 ++ (lw_privs_2)
def lw_tbl : List Cond := k2_sels lw_privs ++ tables_1
theorem lw_privs_ok : ∀ q ∈ lw_privs, lw_okq q := by
  show ∀ q ∈ lw_privs_1 ++ (lw_privs_2), lw_okq q
  exact List.forall_mem_append.mpr ⟨lw_r1, lw_r2⟩
end
section
/-! The frame of a walk: contracts that may return or throw, over the machine itself; rows that end a walk; rows that call. -/
section FX
variable {p : Program} {l : Launch} {e : Env} {R : Room} {s : State} {m : MethodId} {args : Array Value} {below : List Frame} {meth : Method} {c : Code} {H : Heap} {locs : List Loc} {cells slots : Nat} {Q : State → Prop}
/-- the end of a walk: it returned or threw; the heap as Post says; the tables warmer; at most mc cells of ms slots are new; what was written lies in A -/
def fx_E (below : List Frame) (s : State) (Post : Outcome → Heap → Prop) (mc ms : Nat) (A : Nat → Prop) : State → Prop := fun t =>
  ∃ o, t.status = .running ∧ Ended t below o ∧ Post o t.heap ∧ s.WarmedH t.vm ∧ ∃ L, s.sameButNew ({ t with vm := s.vm } : State) L mc ms ∧ ∀ q ∈ L, A q.base
/-- a contract: from every state whose tables say K, with the arguments av and a heap as Pre says, the method comes to an end as Post says -/
def fx_C (K : State → Prop) (y : MethodName) (nL : Nat) (rm : Room) (av : List Value) (Pre : Heap → Prop) (Post : Heap → Outcome → Heap → Prop) (A : Heap → Nat → Prop) : Prop :=
  ∀ (p : Program) (l : Launch) (e : Env) (s : State) (m : MethodId) (below : List Frame) (meth : Method) (c : Code),
    p.tables.exec = Jvm.exec → l.flags = flags0 → K s → s.methodNamed? y = some m → s.vm.method? m = some meth → meth.code = some c → Pre s.heap →
    W p l e rm s m av.toArray below meth c s.heap [] 0 0 (fx_E below s (Post s.heap) rm.cells rm.slots (A s.heap)) (entryFrame m av.toArray nL)
/-- throwing x over the frame g -/
def fx_T (p : Program) (l : Launch) (e : Env) (R : Room) (s : State) (m : MethodId) (args : Array Value) (below : List Frame) (meth : Method) (c : Code) (H : Heap) (locs : List Loc) (cells slots : Nat) (Q : State → Prop) (g : JFrame) (x : Nat) : Prop :=
  ∀ T : State, T.heap = H → Stand p l e R s m args below meth c T locs cells slots → ∃ t, Steps p.tables e below ((T.setTop g).pushFrame (.throwing x)) t ∧ Q t
/-- old cells outside A stay; at most mc cells are new -/
def fx_F (A : Nat → Prop) (mc : Nat) (H H' : Heap) : Prop := H.size ≤ H'.size ∧ H'.size ≤ H.size + mc ∧ ∀ q : Nat, q < H.size → ¬ A q → H'[q]? = H[q]?
theorem fx_mono {Q' : State → Prop} {g : JFrame} (h : ∀ t, Q t → Q' t) (k : W p l e R s m args below meth c H locs cells slots Q g) : W p l e R s m args below meth c H locs cells slots Q' g := by
  intro T hT X
  obtain ⟨t, a, b⟩ := k T hT X
  exact ⟨t, a, h t b⟩
theorem fx_ofMQ {Post : Outcome → Heap → Prop} {A : Nat → Prop} {k n mc ms : Nat} (hk : k ≤ mc) (hn : n ≤ ms) {t : State} (h : MQ below (fun _ _ o t => Post o t.heap) args s k n A t) : fx_E below s Post mc ms A t := by
  obtain ⟨o, h1, h2, h3, L, ⟨-, h4, h5⟩, h6⟩ := h
  exact ⟨o, h1, h2, h3, h4, L, h5.mono hk hn, h6⟩
variable {cc : ByteArray} {pc : Nat} {ls : Array Slot} {rest : List Value} {Post : Outcome → Heap → Prop} {A : Nat → Prop} {mc ms : Nat}
theorem fx_iret {v : Int32} (hexec : p.tables.exec = Jvm.exec) (hb : c.code = cc) (hr : meth.sig.returnType = some .int) (hlk : meth.locks = false) (hA : ∀ q ∈ locs, A q.base) (hc : cells ≤ mc) (hs : slots ≤ ms) (hdg : decode cc pc = .ok (.ireturn, 1)) (hq : Post (.returned (some (.int v))) H) :
    W p l e R s m args below meth c H locs cells slots (fx_E below s Post mc ms A) (F0 m pc ls [.int v]) :=
  fx_mono (fun _ h => fx_ofMQ hc hs h) (W.iret (Qc := fun _ _ o t => Post o t.heap) hexec hb hr (fun t ht _ => by show Post _ t.heap; rw [ht]; exact hq) hA hdg hlk)
theorem fx_zret {v : Int32} {ty : FieldType} (hexec : p.tables.exec = Jvm.exec) (hb : c.code = cc) (hr : meth.sig.returnType = some ty) (hn : narrow ty (.int v) = .int v) (hlk : meth.locks = false) (hA : ∀ q ∈ locs, A q.base) (hc : cells ≤ mc) (hs : slots ≤ ms) (hdg : decode cc pc = .ok (.ireturn, 1)) (hq : Post (.returned (some (.int v))) H) :
    W p l e R s m args below meth c H locs cells slots (fx_E below s Post mc ms A) (F0 m pc ls [.int v]) :=
  fx_mono (fun _ h => fx_ofMQ hc hs h) (W.zret (Qc := fun _ _ o t => Post o t.heap) hexec hb hr hn (fun t ht _ => by show Post _ t.heap; rw [ht]; exact hq) hA hdg hlk)
theorem fx_vret (hexec : p.tables.exec = Jvm.exec) (hb : c.code = cc) (hr : meth.sig.returnType = none) (hlk : meth.locks = false) (hA : ∀ q ∈ locs, A q.base) (hc : cells ≤ mc) (hs : slots ≤ ms) (hdg : decode cc pc = .ok (.return_, 1)) (hq : Post (.returned none) H) :
    W p l e R s m args below meth c H locs cells slots (fx_E below s Post mc ms A) (F0 m pc ls []) :=
  fx_mono (fun _ h => fx_ofMQ hc hs h) (W.vret (Qc := fun _ _ o t => Post o t.heap) hexec hb hr (fun t ht _ => by show Post _ t.heap; rw [ht]; exact hq) hA hdg hlk)
theorem fx_aret {v : Value} {rt : FieldType} (hexec : p.tables.exec = Jvm.exec) (hb : c.code = cc) (hr : meth.sig.returnType = some rt) (hrt : (∃ n, rt = .object n) ∨ ∃ t, rt = .array t) (hv : v = .null ∨ ∃ a, v = .ref a) (hlk : meth.locks = false) (hA : ∀ q ∈ locs, A q.base) (hc : cells ≤ mc) (hs : slots ≤ ms) (hdg : decode cc pc = .ok (.areturn, 1)) (hq : Post (.returned (some v)) H) :
    W p l e R s m args below meth c H locs cells slots (fx_E below s Post mc ms A) (F0 m pc ls [v]) :=
  fx_mono (fun _ h => fx_ofMQ hc hs h) (W.aret (Qc := fun _ _ o t => Post o t.heap) hexec hb hr hrt hv (fun t ht _ => by show Post _ t.heap; rw [ht]; exact hq) hA hdg hlk)
/-- nothing here catches: the method throws too -/
theorem fx_out {g : JFrame} {x : Nat} (hg : g.method = m) (h1 : g.locked = none) (h2 : g.entered = []) (hnt : c.exceptionTable.isEmpty = true) (hlk : meth.locks = false) (hA : ∀ q ∈ locs, A q.base) (hc : cells ≤ mc) (hs : slots ≤ ms) (hq : Post (.threw x) H) :
    fx_T p l e R s m args below meth c H locs cells slots (fx_E below s Post mc ms A) g x := by
  intro T hT X
  obtain ⟨st, hrun, hend, hW, hsame⟩ := X.leaveThrown x hg h1 h2 (covers_of_empty hnt _) hlk
  refine ⟨_, st, .threw x, hrun, hend, ?_, hW, locs, hsame.mono hc hs, hA⟩
  show Post _ T.heap
  rw [hT]
  exact hq
/-- caught: the walk goes on at the handler, the exception alone on the stack -/
theorem fx_catch {x pc' : Nat} {st : List Value} (hf : ∀ T : State, T.heap = H → Stand p l e R s m args below meth c T locs cells slots → Finds e ((T.setTop (F0 m pc ls st)).pushFrame (.throwing x)) (F0 m pc ls st) x (.found pc'))
    (k : W p l e R s m args below meth c H locs cells slots Q (F0 m pc' ls [.ref x])) : fx_T p l e R s m args below meth c H locs cells slots Q (F0 m pc ls st) x := by
  intro T hT X
  obtain ⟨t, a, b⟩ := k T hT X
  exact ⟨t, X.catchAt x rfl (hf T hT X) a, b⟩
/-- what a callee left: cells outside what it may write are as they were -/
theorem fx_frame {T T' : State} {L : List Loc} {k n : Nat} {B : Nat → Prop} (h : T.sameButNew (T'.setVm T.vm) L k n) (hB : ∀ q ∈ L, B q.base) : fx_F B k T.heap T'.heap := by
  obtain ⟨-, h1, h2, -, -, h3⟩ := h
  refine ⟨h1, h2, fun q hq hn => ?_⟩
  obtain ⟨cell, hcell⟩ : ∃ cell, T.heap[q]? = some cell := ⟨_, Array.getElem?_eq_getElem hq⟩
  obtain ⟨c', e1, e2, e3, e4⟩ := h3 q cell hcell
  have e5 : c'.slots = cell.slots := by
    apply Array.ext_getElem?
    intro i
    exact e4 i (fun hm => hn (hB _ hm))
  have e6 : c' = cell := by rw [e2, e5]
  have e7 : T'.heap[q]? = some c' := e1
  rw [e7, hcell, e6]
theorem fx_core {K : State → Prop} (hKm : ∀ s U : State, s.WarmedH U.vm → K s → K U) {T : State} {y : MethodName} {nL : Nat} {rm : Room} {av : List Value} {Pre : Heap → Prop} {PostC : Heap → Outcome → Heap → Prop} {AC : Heap → Nat → Prop}
    (hC : fx_C K y nL rm av Pre PostC AC) (hexec : p.tables.exec = Jvm.exec) (hfl : l.flags = flags0) (X : Stand p l e R s m args below meth c T locs cells slots) (hk : K s)
    {g : JFrame} (hg : g.method = m) (hsize : g.locals.size = c.maxLocals) {ig : Instr} {len : Nat} (hdg : decode c.code g.pc = .ok (ig, len))
    {mk : MethodId} {methk : Method} {ck : Code} (hn : s.methodNamed? y = some mk) (hmk : s.vm.method? mk = some methk) (hck : methk.code = some ck) (hlk : methk.locks = false) (hnl : ck.maxLocals = nL) (hpl : plainFor y = true)
    (hpre : Pre T.heap) (hframes : rm.frames + 1 ≤ R.frames) (hlocals : 2 * g.monitorRoom + (g.stack.map fun v => v.category).sum + (nL + 11) + rm.locals ≤ R.locals) (hcells : cells + rm.cells ≤ R.cells) (hslots : slots + rm.slots ≤ R.slots) :
    ∃ (o : Outcome) (T' : State) (L : List Loc), Stand p l e R s m args below meth c T' (locs ++ L) (cells + rm.cells) (slots + rm.slots) ∧ (∀ q ∈ L, AC T.heap q.base) ∧ PostC T.heap o T'.heap ∧ fx_F (AC T.heap) rm.cells T.heap T'.heap ∧
      ∀ acts, Steps p.tables e below (doInvoke e (T.setTop g) acts mk av.toArray).1 (match o with | .returned v => T'.setTop { g with pc := g.pc + len, stack := v.toList ++ g.stack } | .threw x => (T'.setTop g).pushFrame (.throwing x)) := by
  have hmk' : T.vm.method? mk = some methk := by rw [X.warmed.alike.method?]; exact hmk
  have hnT : T.methodNamed? y = some mk := X.named hn
  have hpk : T.plainMethod mk := State.plainMethod.of_named hpl hnT hmk'
  obtain ⟨Y, hin⟩ := X.into hg hsize hdg av.toArray (R' := rm) hmk' hck hlk hpk hframes (by rw [hnl]; exact hlocals) hcells hslots
  have hKc : K (T.calling g mk av.toArray) := hKm s (T.calling g mk av.toArray) X.warmed hk
  have hnc : (T.calling g mk av.toArray).methodNamed? y = some mk := hnT
  have hw := hC p l e (T.calling g mk av.toArray) mk (.java g :: below) methk ck hexec hfl hKc hnc hmk' hck hpre
  obtain ⟨t, st, o, hrun, hend, hpost, hW, L, hsame, hL⟩ := hw ((T.setTop g).pushFrame (.java (entryFrame mk av.toArray ck.maxLocals))) rfl Y
  rw [← hnl] at st
  cases o with
  | returned v =>
    obtain ⟨T', X', hW', hB', ht⟩ := X.outOf hg hdg hend hW hsame
    have hth : T'.heap = t.heap := by rw [ht]; rfl
    refine ⟨.returned v, T', L, X', hL, by rw [hth]; exact hpost, fx_frame hB' hL, fun acts => ?_⟩
    rw [hin acts]
    show Steps p.tables e below _ (T'.setTop { g with pc := g.pc + len, stack := v.toList ++ g.stack })
    rw [← ht]
    exact Steps.weaken (mid := [.java g]) st
  | threw x =>
    obtain ⟨T', X', hW', hB', ht⟩ := X.outOfThrown hg hend hW hsame
    have hth : T'.heap = t.heap := by rw [ht]; exact (Stand.throwing_heap T' g x).symm
    refine ⟨.threw x, T', L, X', hL, by rw [hth]; exact hpost, fx_frame hB' hL, fun acts => ?_⟩
    rw [hin acts]
    show Steps p.tables e below _ ((T'.setTop g).pushFrame (.throwing x))
    rw [← ht]
    exact Steps.weaken (mid := [.java g]) st
end FX
end
section
/-! Rows that call: static, virtual, constructor; the same to a nest mate. Two roads behind each: it returned, it threw. -/
section FXC
variable {p : Program} {l : Launch} {e : Env} {R : Room} {s : State} {m : MethodId} {args : Array Value} {below : List Frame} {meth : Method} {c : Code} {H : Heap} {locs : List Loc} {cells slots : Nat} {Q : State → Prop}
variable {cc : ByteArray} {pc : Nat} {ls : Array Slot} {rest st av : List Value} {K : State → Prop} {y : MethodName} {nL : Nat} {rm : Room} {Pre : Heap → Prop} {PostC : Heap → Outcome → Heap → Prop} {AC : Heap → Nat → Prop} {B : Nat → Prop}
/-- the callee is there -/
def fx_Y (s : State) (y : MethodName) (nL : Nat) : Prop := ∃ (mk : MethodId) (methk : Method) (ck : Code), s.methodNamed? y = some mk ∧ s.vm.method? mk = some methk ∧ methk.code = some ck ∧ ck.maxLocals = nL ∧ methk.locks = false ∧ parseMethodDescriptor y.desc = some methk.sig
theorem fx_Y.code {bytes : ByteArray} {ret : Option FieldType} (h : (Cond.code y bytes nL ret).before args s = true) : fx_Y s y nL := by
  obtain ⟨mk, hn⟩ := Cond.code_named h
  obtain ⟨methk, ck, h1, h2, -, h4, -, h6, -, h8⟩ := Cond.code_spec hn h
  exact ⟨mk, methk, ck, hn, h1, h2, h4, h6, h8⟩
theorem fx_Y.codeWith {bytes : ByteArray} {ret : Option FieldType} {hh : List (Nat × Nat × Nat × Nat)} (h : (Cond.codeWith y bytes nL ret hh).before args s = true) : fx_Y s y nL := by
  obtain ⟨mk, methk, ck, hn, h1, h2, -, h4, -, -, h6, h8⟩ := Cond.codeWith_spec h
  exact ⟨mk, methk, ck, hn, h1, h2, h4, h6, h8⟩
/-- what every call row asks of y's name and of the room -/
abbrev fx_N (y : MethodName) (n : Nat) : Prop := (y.cls ≠ "java/lang/invoke/MethodHandle" ∧ y.cls ≠ "java/lang/invoke/VarHandle") ∧ plainFor y = true ∧ (parseMethodDescriptor y.desc).map (fun d => d.parameters.length) = some n
abbrev fx_R (R rm : Room) (nL cells slots : Nat) (rest : List Value) : Prop := rm.frames + 1 ≤ R.frames ∧ (rest.map fun v => v.category).sum + (nL + 11) + rm.locals ≤ R.locals ∧ cells + rm.cells ≤ R.cells ∧ slots + rm.slots ≤ R.slots
theorem fx_fin {T : State} {vm₁ : Vm} {mk : MethodId} {a : Array Value} (hT : T.heap = H)
    (hcore : ∃ (o : Outcome) (T' : State) (L : List Loc), Stand p l e R s m args below meth c T' (locs ++ L) (cells + rm.cells) (slots + rm.slots) ∧ (∀ q ∈ L, AC (T.setVm vm₁).heap q.base) ∧ PostC (T.setVm vm₁).heap o T'.heap ∧ fx_F (AC (T.setVm vm₁).heap) rm.cells (T.setVm vm₁).heap T'.heap ∧
      ∀ acts, Steps p.tables e below (doInvoke e ((T.setVm vm₁).setTop (F0 m pc ls rest)) acts mk a).1 (match o with | .returned v => T'.setTop { F0 m pc ls rest with pc := (F0 m pc ls rest).pc + 3, stack := v.toList ++ (F0 m pc ls rest).stack } | .threw x => (T'.setTop (F0 m pc ls rest)).pushFrame (.throwing x)))
    (hstep : ∀ target, (∀ acts, Steps p.tables e below (doInvoke e ((T.setVm vm₁).setTop (F0 m pc ls rest)) acts mk a).1 target) → Steps p.tables e below (T.setTop (F0 m pc ls st)) target)
    (hL : ∀ q ∈ locs, B q.base) (hAB : ∀ q, AC H q → B q)
    (kr : ∀ (v : Option Value) (H' : Heap) (locs' : List Loc), PostC H (.returned v) H' → fx_F (AC H) rm.cells H H' → (∀ q ∈ locs', B q.base) → W p l e R s m args below meth c H' locs' (cells + rm.cells) (slots + rm.slots) Q (F0 m (pc + 3) ls (v.toList ++ rest)))
    (kt : ∀ (x : Nat) (H' : Heap) (locs' : List Loc), PostC H (.threw x) H' → fx_F (AC H) rm.cells H H' → (∀ q ∈ locs', B q.base) → fx_T p l e R s m args below meth c H' locs' (cells + rm.cells) (slots + rm.slots) Q (F0 m pc ls rest) x) :
    ∃ t, Steps p.tables e below (T.setTop (F0 m pc ls st)) t ∧ Q t := by
  obtain ⟨o, T', L, X', hL', hpost, hF, hs⟩ := hcore
  have hH : (T.setVm vm₁).heap = H := hT
  rw [hH] at hL' hpost hF
  have hl2 : ∀ q ∈ locs ++ L, B q.base := fun q hq => by
    rcases List.mem_append.mp hq with h | h
    · exact hL q h
    · exact hAB _ (hL' q h)
  cases o with
  | returned v =>
    obtain ⟨t, a1, b1⟩ := kr v T'.heap (locs ++ L) hpost hF hl2 T' rfl X'
    exact ⟨t, hstep t (fun acts => (hs acts).trans a1), b1⟩
  | threw x =>
    obtain ⟨t, a1, b1⟩ := kt x T'.heap (locs ++ L) hpost hF hl2 T' rfl X'
    exact ⟨t, hstep t (fun acts => (hs acts).trans a1), b1⟩
theorem fx_cS (hKm : ∀ s U : State, s.WarmedH U.vm → K s → K U) (hC : fx_C K y nL rm av Pre PostC AC) (hexec : p.tables.exec = Jvm.exec) (hfl : l.flags = flags0) (hk : K s) (hb : c.code = cc) (hsz : ls.size = c.maxLocals) {own : String} {index : Nat} (hown : s.vm.findClass own = some m.cls)
    (hlink : (Cond.methodLink own index y).before args s = true) (hY : fx_Y s y nL) (hstat : (Cond.static y).before args s = true) (hini : (Cond.initialized y.cls).before args s = true) (hN : fx_N y av.length) (hst : st = av.reverse ++ rest) (hR : fx_R R rm nL cells slots rest) (hpre : Pre H)
    (hdg : decode cc pc = .ok (.invokestatic index, 3)) (hL : ∀ q ∈ locs, B q.base) (hAB : ∀ q, AC H q → B q)
    (kr : ∀ (v : Option Value) (H' : Heap) (locs' : List Loc), PostC H (.returned v) H' → fx_F (AC H) rm.cells H H' → (∀ q ∈ locs', B q.base) → W p l e R s m args below meth c H' locs' (cells + rm.cells) (slots + rm.slots) Q (F0 m (pc + 3) ls (v.toList ++ rest)))
    (kt : ∀ (x : Nat) (H' : Heap) (locs' : List Loc), PostC H (.threw x) H' → fx_F (AC H) rm.cells H H' → (∀ q ∈ locs', B q.base) → fx_T p l e R s m args below meth c H' locs' (cells + rm.cells) (slots + rm.slots) Q (F0 m pc ls rest) x) :
    W p l e R s m args below meth c H locs cells slots Q (F0 m pc ls st) := by
  intro T hT X
  obtain ⟨mk, methk, ck, hn, hmk, hck, hnl, hlk, hsig⟩ := hY
  obtain ⟨hy, hpl, hd⟩ := hN
  rw [hsig] at hd
  have hlen : av.length = methk.sig.parameters.length := (Option.some.inj hd).symm
  have hstatic : methk.isStatic = true := Cond.static_spec hn hmk hstat
  obtain ⟨kP, hkP, -⟩ := className_of_methodNamed hn
  have hinitP : kP.init = .initialized := Cond.initialized_spec (findClass_of_methodNamed hn) hkP hini
  obtain ⟨vm₁, X₁, hstep⟩ := X.invokestatic hexec hown hlink hn hmk hstatic hkP hinitP hy (g := F0 m pc ls st) rfl (argsL := av) (rest := rest) hlen hst (by rw [hb]; exact hdg)
  refine fx_fin hT (fx_core hKm hC hexec hfl X₁ hk (g := F0 m pc ls rest) rfl hsz (by rw [hb]; exact hdg) hn hmk hck hlk hnl hpl (by show Pre T.heap; rw [hT]; exact hpre) hR.1 ?_ hR.2.2.1 hR.2.2.2) hstep hL hAB kr kt
  have := hR.2.1
  show 2 * 0 + (rest.map fun v => v.category).sum + (nL + 11) + rm.locals ≤ R.locals
  omega
theorem fx_cV (hKm : ∀ s U : State, s.WarmedH U.vm → K s → K U) {b : Nat} (hC : fx_C K y nL rm (.ref b :: av) Pre PostC AC) (hexec : p.tables.exec = Jvm.exec) (hfl : l.flags = flags0) (hk : K s) (hb : c.code = cc) (hsz : ls.size = c.maxLocals) {own C : String} {index : Nat} (hown : s.vm.findClass own = some m.cls)
    (hlink : (Cond.methodLink own index y).before args s = true) (hY : fx_Y s y nL) (hinst : (Cond.instanceMethod y).before args s = true) (hsel : (Cond.selects C y y).before args s = true) (hN : fx_N y av.length) (hrc : ∃ cell : Cell, H[b]? = some cell ∧ cell.vm.isStatics = false ∧ s.vm.findClass C = some cell.cls) (hst : st = av.reverse ++ .ref b :: rest) (hR : fx_R R rm nL cells slots rest) (hpre : Pre H)
    (hdg : decode cc pc = .ok (.invokevirtual index, 3)) (hL : ∀ q ∈ locs, B q.base) (hAB : ∀ q, AC H q → B q)
    (kr : ∀ (v : Option Value) (H' : Heap) (locs' : List Loc), PostC H (.returned v) H' → fx_F (AC H) rm.cells H H' → (∀ q ∈ locs', B q.base) → W p l e R s m args below meth c H' locs' (cells + rm.cells) (slots + rm.slots) Q (F0 m (pc + 3) ls (v.toList ++ rest)))
    (kt : ∀ (x : Nat) (H' : Heap) (locs' : List Loc), PostC H (.threw x) H' → fx_F (AC H) rm.cells H H' → (∀ q ∈ locs', B q.base) → fx_T p l e R s m args below meth c H' locs' (cells + rm.cells) (slots + rm.slots) Q (F0 m pc ls rest) x) :
    W p l e R s m args below meth c H locs cells slots Q (F0 m pc ls st) := by
  intro T hT X
  obtain ⟨mk, methk, ck, hn, hmk, hck, hnl, hlk, hsig⟩ := hY
  obtain ⟨hy, hpl, hd⟩ := hN
  rw [hsig] at hd
  have hlen : av.length = methk.sig.parameters.length := (Option.some.inj hd).symm
  obtain ⟨mk', methM, hn', hmethM, hstM, habM⟩ := Cond.instanceMethod_spec hinst
  cases Option.some.inj (hn.symm.trans hn')
  cases Option.some.inj (hmk.symm.trans hmethM)
  obtain ⟨cellB, hcB, hoB, hclB⟩ := hrc
  obtain ⟨c2, r2, m2, q1, q2, q3, q4, kP, hkP, hkPi⟩ := Cond.selects_spec hsel
  cases Option.some.inj (hclB.symm.trans q1)
  cases Option.some.inj ((State.methodFound?_of_named hn hy).symm.trans q2)
  cases Option.some.inj (hn.symm.trans q3)
  have hselP : selectMethod e.platform s.vm cellB.cls mk = .method mk := by rw [Launch.admits_selectMethod X.admits]; exact q4
  obtain ⟨vm₁, X₁, hstep⟩ := X.invokevirtual hexec hown hlink hn hmk hstM hkP hkPi hy (a := b) (cell := cellB) (by rw [hT]; exact hcB) (fun z h => by rw [h] at hoB; cases hoB) hselP hmk habM hkP hkPi (g := F0 m pc ls st) rfl (argsL := av) (rest := rest) hlen hst (by rw [hb]; exact hdg)
  refine fx_fin hT (fx_core hKm hC hexec hfl X₁ hk (g := F0 m pc ls rest) rfl hsz (by rw [hb]; exact hdg) hn hmk hck hlk hnl hpl (by show Pre T.heap; rw [hT]; exact hpre) hR.1 ?_ hR.2.2.1 hR.2.2.2) hstep hL hAB kr kt
  have := hR.2.1
  show 2 * 0 + (rest.map fun v => v.category).sum + (nL + 11) + rm.locals ≤ R.locals
  omega
theorem fx_cVN (hKm : ∀ s U : State, s.WarmedH U.vm → K s → K U) {b : Nat} (hC : fx_C K y nL rm (.ref b :: av) Pre PostC AC) (hexec : p.tables.exec = Jvm.exec) (hfl : l.flags = flags0) (hk : K s) (hb : c.code = cc) (hsz : ls.size = c.maxLocals) {own C host : String} {index : Nat} (hown : s.vm.findClass own = some m.cls)
    (hlink : (Cond.methodLinkNest own index y host).before args s = true) (hY : fx_Y s y nL) (hinst : (Cond.instanceMethod y).before args s = true) (hsel : (Cond.selects C y y).before args s = true) (hN : fx_N y av.length) (hrc : ∃ cell : Cell, H[b]? = some cell ∧ cell.vm.isStatics = false ∧ s.vm.findClass C = some cell.cls) (hst : st = av.reverse ++ .ref b :: rest) (hR : fx_R R rm nL cells slots rest) (hpre : Pre H)
    (hdg : decode cc pc = .ok (.invokevirtual index, 3)) (hL : ∀ q ∈ locs, B q.base) (hAB : ∀ q, AC H q → B q)
    (kr : ∀ (v : Option Value) (H' : Heap) (locs' : List Loc), PostC H (.returned v) H' → fx_F (AC H) rm.cells H H' → (∀ q ∈ locs', B q.base) → W p l e R s m args below meth c H' locs' (cells + rm.cells) (slots + rm.slots) Q (F0 m (pc + 3) ls (v.toList ++ rest)))
    (kt : ∀ (x : Nat) (H' : Heap) (locs' : List Loc), PostC H (.threw x) H' → fx_F (AC H) rm.cells H H' → (∀ q ∈ locs', B q.base) → fx_T p l e R s m args below meth c H' locs' (cells + rm.cells) (slots + rm.slots) Q (F0 m pc ls rest) x) :
    W p l e R s m args below meth c H locs cells slots Q (F0 m pc ls st) := by
  intro T hT X
  obtain ⟨mk, methk, ck, hn, hmk, hck, hnl, hlk, hsig⟩ := hY
  obtain ⟨hy, hpl, hd⟩ := hN
  rw [hsig] at hd
  have hlen : av.length = methk.sig.parameters.length := (Option.some.inj hd).symm
  obtain ⟨mk', methM, hn', hmethM, hstM, habM⟩ := Cond.instanceMethod_spec hinst
  cases Option.some.inj (hn.symm.trans hn')
  cases Option.some.inj (hmk.symm.trans hmethM)
  obtain ⟨cellB, hcB, hoB, hclB⟩ := hrc
  obtain ⟨c2, r2, m2, q1, q2, q3, q4, kP, hkP, hkPi⟩ := Cond.selects_spec hsel
  cases Option.some.inj (hclB.symm.trans q1)
  cases Option.some.inj ((State.methodFound?_of_named hn hy).symm.trans q2)
  cases Option.some.inj (hn.symm.trans q3)
  have hselP : selectMethod e.platform s.vm cellB.cls mk = .method mk := by rw [Launch.admits_selectMethod X.admits]; exact q4
  obtain ⟨vm₁, X₁, hstep⟩ := X.invokevirtualNest hexec hown hlink hn hmk hstM hkP hkPi hy (a := b) (cell := cellB) (by rw [hT]; exact hcB) (fun z h => by rw [h] at hoB; cases hoB) hselP hmk habM hkP hkPi (g := F0 m pc ls st) rfl (argsL := av) (rest := rest) hlen hst (by rw [hb]; exact hdg)
  refine fx_fin hT (fx_core hKm hC hexec hfl X₁ hk (g := F0 m pc ls rest) rfl hsz (by rw [hb]; exact hdg) hn hmk hck hlk hnl hpl (by show Pre T.heap; rw [hT]; exact hpre) hR.1 ?_ hR.2.2.1 hR.2.2.2) hstep hL hAB kr kt
  have := hR.2.1
  show 2 * 0 + (rest.map fun v => v.category).sum + (nL + 11) + rm.locals ≤ R.locals
  omega
theorem fx_cI (hKm : ∀ s U : State, s.WarmedH U.vm → K s → K U) {b : Nat} (hC : fx_C K y nL rm (.ref b :: av) Pre PostC AC) (hexec : p.tables.exec = Jvm.exec) (hfl : l.flags = flags0) (hk : K s) (hb : c.code = cc) (hsz : ls.size = c.maxLocals) {own : String} {index : Nat} {bytes : ByteArray} (hown : s.vm.findClass own = some m.cls)
    (hlink : (Cond.methodLink own index y).before args s = true) (hcode : (Cond.code y bytes nL none).before args s = true) (hinst : (Cond.instanceMethod y).before args s = true) (hy1 : y.name = "<init>") (hN : fx_N y av.length) (hst : st = av.reverse ++ .ref b :: rest) (hR : fx_R R rm nL cells slots rest) (hpre : Pre H)
    (hdg : decode cc pc = .ok (.invokespecial index, 3)) (hL : ∀ q ∈ locs, B q.base) (hAB : ∀ q, AC H q → B q)
    (kr : ∀ (v : Option Value) (H' : Heap) (locs' : List Loc), PostC H (.returned v) H' → fx_F (AC H) rm.cells H H' → (∀ q ∈ locs', B q.base) → W p l e R s m args below meth c H' locs' (cells + rm.cells) (slots + rm.slots) Q (F0 m (pc + 3) ls (v.toList ++ rest)))
    (kt : ∀ (x : Nat) (H' : Heap) (locs' : List Loc), PostC H (.threw x) H' → fx_F (AC H) rm.cells H H' → (∀ q ∈ locs', B q.base) → fx_T p l e R s m args below meth c H' locs' (cells + rm.cells) (slots + rm.slots) Q (F0 m pc ls rest) x) :
    W p l e R s m args below meth c H locs cells slots Q (F0 m pc ls st) := by
  intro T hT X
  obtain ⟨mk, methk, ck, hn, hmk, hck, hnl, hlk, hsig⟩ := fx_Y.code hcode
  obtain ⟨hy, hpl, hd⟩ := hN
  have hd2 : ∀ sig, parseMethodDescriptor y.desc = some sig → av.length = sig.parameters.length := fun sig h => by rw [h] at hd; exact (Option.some.inj hd).symm
  have hplat : e.platform.magicAccessors = ({} : Platform).magicAccessors := by rw [X.admits.platform]
  obtain ⟨mk', methM, cM, kP, vm₁, hn', -, -, -, -, -, hkP, -, hW₁, hstep⟩ := Steps.initColdArgs (e := e) X.here hexec X.warmed hplat hown hy1 hy hlink hinst hcode (f := F0 m pc ls st) rfl hd2 hst (by rw [hb]; exact hdg)
  cases Option.some.inj (hn.symm.trans hn')
  have X₁ := X.noted hW₁
  refine fx_fin hT (fx_core hKm hC hexec hfl X₁ hk (g := F0 m pc ls rest) rfl hsz (by rw [hb]; exact hdg) hn hmk hck hlk hnl hpl (by show Pre T.heap; rw [hT]; exact hpre) hR.1 ?_ hR.2.2.1 hR.2.2.2) hstep hL hAB kr kt
  have := hR.2.1
  show 2 * 0 + (rest.map fun v => v.category).sum + (nL + 11) + rm.locals ≤ R.locals
  omega
theorem fx_cIN (hKm : ∀ s U : State, s.WarmedH U.vm → K s → K U) {b : Nat} (hC : fx_C K y nL rm (.ref b :: av) Pre PostC AC) (hexec : p.tables.exec = Jvm.exec) (hfl : l.flags = flags0) (hk : K s) (hb : c.code = cc) (hsz : ls.size = c.maxLocals) {own host : String} {index : Nat} {bytes : ByteArray} (hown : s.vm.findClass own = some m.cls)
    (hlink : (Cond.methodLinkNest own index y host).before args s = true) (hcode : (Cond.code y bytes nL none).before args s = true) (hinst : (Cond.instanceMethod y).before args s = true) (hy1 : y.name = "<init>") (hN : fx_N y av.length) (hst : st = av.reverse ++ .ref b :: rest) (hR : fx_R R rm nL cells slots rest) (hpre : Pre H)
    (hdg : decode cc pc = .ok (.invokespecial index, 3)) (hL : ∀ q ∈ locs, B q.base) (hAB : ∀ q, AC H q → B q)
    (kr : ∀ (v : Option Value) (H' : Heap) (locs' : List Loc), PostC H (.returned v) H' → fx_F (AC H) rm.cells H H' → (∀ q ∈ locs', B q.base) → W p l e R s m args below meth c H' locs' (cells + rm.cells) (slots + rm.slots) Q (F0 m (pc + 3) ls (v.toList ++ rest)))
    (kt : ∀ (x : Nat) (H' : Heap) (locs' : List Loc), PostC H (.threw x) H' → fx_F (AC H) rm.cells H H' → (∀ q ∈ locs', B q.base) → fx_T p l e R s m args below meth c H' locs' (cells + rm.cells) (slots + rm.slots) Q (F0 m pc ls rest) x) :
    W p l e R s m args below meth c H locs cells slots Q (F0 m pc ls st) := by
  intro T hT X
  obtain ⟨mk, methk, ck, hn, hmk, hck, hnl, hlk, hsig⟩ := fx_Y.code hcode
  obtain ⟨hy, hpl, hd⟩ := hN
  have hd2 : ∀ sig, parseMethodDescriptor y.desc = some sig → av.length = sig.parameters.length := fun sig h => by rw [h] at hd; exact (Option.some.inj hd).symm
  have hplat : e.platform.magicAccessors = ({} : Platform).magicAccessors := by rw [X.admits.platform]
  obtain ⟨mk', methM, cM, kP, vm₁, hn', -, -, -, -, -, hkP, -, hW₁, hstep⟩ := Steps.initColdArgsNest (e := e) X.here hexec X.warmed hplat hown hy1 hy hlink hinst hcode (f := F0 m pc ls st) rfl hd2 hst (by rw [hb]; exact hdg)
  cases Option.some.inj (hn.symm.trans hn')
  have X₁ := X.noted hW₁
  refine fx_fin hT (fx_core hKm hC hexec hfl X₁ hk (g := F0 m pc ls rest) rfl hsz (by rw [hb]; exact hdg) hn hmk hck hlk hnl hpl (by show Pre T.heap; rw [hT]; exact hpre) hR.1 ?_ hR.2.2.1 hR.2.2.2) hstep hL hAB kr kt
  have := hR.2.1
  show 2 * 0 + (rest.map fun v => v.category).sum + (nL + 11) + rm.locals ≤ R.locals
  omega
/-- how a contract of a method without handlers is begun -/
theorem fx_of {Pre : Heap → Prop} {PostC : Heap → Outcome → Heap → Prop} {AC : Heap → Nat → Prop} {ret : Option FieldType} (hcode : ∀ s, K s → (Cond.code y cc nL ret).before #[] s = true) (hsl : (lg_sl av).length ≤ nL)
    (body : ∀ (p : Program) (l : Launch) (e : Env) (s : State) (m : MethodId) (below : List Frame) (meth : Method) (c : Code), p.tables.exec = Jvm.exec → l.flags = flags0 → K s → c.code = cc → c.maxLocals = nL → meth.sig.returnType = ret → meth.locks = false → c.exceptionTable.isEmpty = true → s.vm.findClass y.cls = some m.cls → meth.name = y.name → Pre s.heap →
      ∀ ls : Array Slot, lv_has ls nL (lv_args 0 av) → W p l e rm s m av.toArray below meth c s.heap [] 0 0 (fx_E below s (PostC s.heap) rm.cells rm.slots (AC s.heap)) (F0 m 0 ls [])) : fx_C K y nL rm av Pre PostC AC := by
  intro p l e s m below meth c hx hfl hK hn hm hc hpre
  obtain ⟨meth', c', h1, h2, h3, h4, h5, h6, h7, -⟩ := Cond.code_spec hn (hcode s hK)
  cases Option.some.inj (hm.symm.trans h1)
  cases Option.some.inj (hc.symm.trans h2)
  rw [lg_entry_eq]
  exact body p l e s m below meth c hx hfl hK h3 h4 h5 h6 h7 (findClass_of_methodNamed hn) (name_of_methodNamed hn hm).1 hpre _ (lv_entry av hsl)
/-- how a contract of a method with handlers is begun -/
theorem fx_ofW {Pre : Heap → Prop} {PostC : Heap → Outcome → Heap → Prop} {AC : Heap → Nat → Prop} {ret : Option FieldType} {hh : List (Nat × Nat × Nat × Nat)} (hcode : ∀ s, K s → (Cond.codeWith y cc nL ret hh).before #[] s = true) (hsl : (lg_sl av).length ≤ nL)
    (body : ∀ (p : Program) (l : Launch) (e : Env) (s : State) (m : MethodId) (below : List Frame) (meth : Method) (c : Code), p.tables.exec = Jvm.exec → l.flags = flags0 → K s → c.code = cc → c.maxLocals = nL → meth.sig.returnType = ret → meth.locks = false → c.exceptionTable.toList.map (fun h => (h.startPc, h.endPc, h.handlerPc, h.catchType)) = hh → s.vm.findClass y.cls = some m.cls → meth.name = y.name → Pre s.heap →
      ∀ ls : Array Slot, lv_has ls nL (lv_args 0 av) → W p l e rm s m av.toArray below meth c s.heap [] 0 0 (fx_E below s (PostC s.heap) rm.cells rm.slots (AC s.heap)) (F0 m 0 ls [])) : fx_C K y nL rm av Pre PostC AC := by
  intro p l e s m below meth c hx hfl hK hn hm hc hpre
  obtain ⟨m', meth', c', h0, h1, h2, h3, h4, h7, h5, h6, -⟩ := Cond.codeWith_spec (hcode s hK)
  cases Option.some.inj (hn.symm.trans h0)
  cases Option.some.inj (hm.symm.trans h1)
  cases Option.some.inj (hc.symm.trans h2)
  rw [lg_entry_eq]
  exact body p l e s m below meth c hx hfl hK h3 h4 h5 h6 h7 (findClass_of_methodNamed hn) (name_of_methodNamed hn hm).1 hpre _ (lv_entry av hsl)
end FXC
end
