/-! The world's constants, and what the tables say of them wherever the walk stands. -/
abbrev Wd : Type := va_G × (ClassId × ClassId × ClassId) × Heap × (Nat × Nat × Nat) × (Nat → Nat)
abbrev Wd.D (w : Wd) : va_G := w.1
abbrev Wd.I (w : Wd) : ClassId := w.2.1.1
abbrev Wd.J (w : Wd) : ClassId := w.2.1.2.1
abbrev Wd.O (w : Wd) : ClassId := w.2.1.2.2
abbrev Wd.H0 (w : Wd) : Heap := w.2.2.1
abbrev Wd.FA (w : Wd) : Nat := w.2.2.2.1.1
abbrev Wd.E0 (w : Wd) : Nat := w.2.2.2.1.2.1
abbrev Wd.mi (w : Wd) : Nat := w.2.2.2.1.2.2
abbrev Wd.sa (w : Wd) : Nat → Nat := w.2.2.2.2
abbrev ktys (w : Wd) : List (ClassId × FieldType) := [(w.I, .int), (w.J, .long), (w.O, .object "java/lang/Object")]
/-- the cells that came behind the law's entry -/
def kold (w : Wd) : Nat → Prop := fun q => w.H0.size ≤ q
/-- the old cells are as they were -/
def Low (w : Wd) (H : Heap) : Prop := fx_Ex w.H0 H
abbrev kIAE : String := "java/lang/IllegalArgumentException"
abbrev kISE : String := "java/lang/IllegalStateException"
abbrev kNSE : String := "java/util/NoSuchElementException"
abbrev kIOB : String := "java/lang/IndexOutOfBoundsException"
def kstr : List (Nat × String) := [(22, "no such kind or form"), (152, "no room for a version more"), (155, "too many elements"), (140, "no such version"), (148, "the version is a map"), (161, "no element"), (76, "not two heaps or two chains of one form"), (146, "the version is of another kind"), (93, "no key that a map may have"), (114, "no such key"), (165, "no such place")]
def kcst : List (String × String) := [(kIAE, kIAE), (kISE, kISE), (kNSE, kNSE), (kIOB, kIOB), ("[I", "java/lang/Cloneable"), (R_V, R_V), (R_V, "java/lang/Object")]
def knot : List (String × String) := [(kISE, kIAE), (kNSE, kIAE), (kNSE, kISE), (kIOB, kIAE), (kIOB, kISE)]
def kdec : List MethodName := [⟨"java/lang/RuntimeException", "<init>", "(Ljava/lang/String;)V"⟩, ⟨"java/lang/Exception", "<init>", "(Ljava/lang/String;)V"⟩, ⟨"java/lang/Throwable", "<init>", "(Ljava/lang/String;)V"⟩]
def kforms : Nat → Int32 := fun k => match k with
  | 0 => 3
  | 1 => 3
  | 2 => 2
  | 3 => 2
  | _ => 1
def KX1 (U : State) : Prop := va_Nw (.methodLinkNest R_L 33 y_V_init "LastingShapes") U ∧ va_Nw (.methodLinkNest R_L 56 y_V_with "LastingShapes") U ∧ va_Nw (.fieldLinkNest R_L 78 R_V "kind" "I" "LastingShapes") U ∧ va_Nw (.fieldLinkNest R_L 109 R_V "form" "I" "LastingShapes") U ∧ va_Nw (.fieldLinkNest R_L 44 R_V "elements" "[I" "LastingShapes") U ∧ va_Nw (.fieldLinkNest R_L 95 R_V "keys" "[I" "LastingShapes") U
def KX2 (w : Wd) (U : State) : Prop := ∀ q ∈ kstr, vk_R R_L q.1 q.2 (w.sa q.1) U
def KX3 (U : State) : Prop := (∀ q ∈ kcst, va_Nw (.castable q.1 q.2) U) ∧ (∀ q ∈ knot, va_Nc q.1 q.2 U) ∧ (∀ q ∈ kdec, va_Nw (.declares q) U) ∧ va_Dc U ∧ va_AO "java/lang/Object" U
def kex : Nat → String := fun k => match k with
  | 0 => kIAE
  | 1 => kISE
  | 2 => kNSE
  | _ => kIOB
def KX5 (w : Wd) (U : State) : Prop := ∀ i, i < 4 → U.vm.findClass (kex i) = some (w.D.1 (10 + i))
def KX4 (w : Wd) (U : State) : Prop := vx_Zq Bundle.tN "UNASSIGNED_STACK" Bundle.steD (kold w) U w.H0 ∧ vx_Zq Bundle.tN "SUPPRESSED_SENTINEL" Bundle.listD (kold w) U w.H0 ∧ va_Z R_L "FORMS" "[I" (.ref w.FA) (kold w) U w.H0 ∧ va_T .int w.FA 5 (fun j => .int (kforms j)) (kold w) U w.H0 ∧
  va_Z R_AL "DEFAULTCAPACITY_EMPTY_ELEMENTDATA" "[Ljava/lang/Object;" (.ref w.E0) (kold w) U w.H0 ∧ va_T (.object "java/lang/Object") w.E0 0 (fun _ => .null) (kold w) U w.H0 ∧ va_Mi "[Ljava/lang/Object;" w.mi U ∧ KX5 w U
def KX (w : Wd) (U : State) : Prop := KX1 U ∧ KX2 w U ∧ KX3 U ∧ KX4 w U
def KT (w : Wd) (U : State) : Prop := (∀ x ∈ gw, ∀ a : Array Value, x.before a U = true) ∧ va_K w.D cls (ktys w) U ∧ KX w U
theorem KX1_moved {s U : State} (hW : s.WarmedH U.vm) (h : KX1 s) : KX1 U := by
  obtain ⟨h1, h2, h3, h4, h5, h6⟩ := h
  exact ⟨h1.warmM hW, h2.warmM hW, h3.warmF hW, h4.warmF hW, h5.warmF hW, h6.warmF hW⟩
theorem KX2_moved {w : Wd} {s U : State} (hW : s.WarmedH U.vm) (h : KX2 w s) : KX2 w U := fun q hq => (h q hq).warm hW
theorem KX3_moved {s U : State} (hW : s.WarmedH U.vm) (h : KX3 s) : KX3 U := by
  obtain ⟨h1, h2, h3, h4, h5⟩ := h
  exact ⟨fun q hq => (h1 q hq).warmC hW, fun q hq => (h2 q hq).moved hW.alike, fun q hq => (h3 q hq).warmD hW, h4.moved hW.alike, h5.moved hW.alike⟩
theorem KX4_moved {w : Wd} {s U : State} (hW : s.WarmedH U.vm) (h : KX4 w s) : KX4 w U := by
  obtain ⟨h1, h2, h3, h4, h5, h6, h7, h8⟩ := h
  exact ⟨h1.moved hW.alike, h2.moved hW.alike, h3.moved hW.alike, h4.moved hW.alike, h5.moved hW.alike, h6.moved hW.alike, h7.moved hW.alike, fun i hi => by rw [hW.alike.findClass]; exact h8 i hi⟩
theorem gw_good {x : Cond} (h : x ∈ gw) : goodWord x = true := (List.mem_filter.mp h).2
theorem KT_moved {w : Wd} (s U : State) (hW : s.WarmedH U.vm) (h : KT w s) : KT w U :=
  ⟨fun x hx a => word_at hW (good_of_word (gw_good hx)) (h.1 x hx #[]), va_K.moved hW.alike h.2.1, KX1_moved hW h.2.2.1, KX2_moved hW h.2.2.2.1, KX3_moved hW h.2.2.2.2.1, KX4_moved hW h.2.2.2.2.2⟩
theorem kc_L {w : Wd} {s : State} (hK : KT w s) (args : Array Value) : fx_K s args cls 0 R_L T_L 1 ty_L := ⟨rfl, fun x hx => hK.1 x (wl_L x hx) args, tyok_L, nm_L⟩
theorem kc_V {w : Wd} {s : State} (hK : KT w s) (args : Array Value) : fx_K s args cls 1 R_V T_V 4 ty_V := ⟨rfl, fun x hx => hK.1 x (wl_V x hx) args, tyok_V, nm_V⟩
theorem kc_M {w : Wd} {s : State} (hK : KT w s) (args : Array Value) : fx_K s args cls 2 R_M T_M 8 ty_M := ⟨rfl, fun x hx => hK.1 x (wl_M x hx) args, tyok_M, nm_M⟩
theorem kc_AL {w : Wd} {s : State} (hK : KT w s) (args : Array Value) : fx_K s args cls 3 R_AL T_AL 3 ty_AL := ⟨rfl, fun x hx => hK.1 x (wl_AL x hx) args, tyok_AL, nm_AL⟩
theorem nl_L_78 {w : Wd} {s : State} (hK : KT w s) (args : Array Value) : (Cond.fieldLinkNest R_L 78 R_V "kind" "I" "LastingShapes").before args s = true := va_Nw.use rfl hK.2.2.1.2.2.1
theorem nl_L_109 {w : Wd} {s : State} (hK : KT w s) (args : Array Value) : (Cond.fieldLinkNest R_L 109 R_V "form" "I" "LastingShapes").before args s = true := va_Nw.use rfl hK.2.2.1.2.2.2.1
theorem nl_L_44 {w : Wd} {s : State} (hK : KT w s) (args : Array Value) : (Cond.fieldLinkNest R_L 44 R_V "elements" "[I" "LastingShapes").before args s = true := va_Nw.use rfl hK.2.2.1.2.2.2.2.1
theorem nl_L_95 {w : Wd} {s : State} (hK : KT w s) (args : Array Value) : (Cond.fieldLinkNest R_L 95 R_V "keys" "[I" "LastingShapes").before args s = true := va_Nw.use rfl hK.2.2.1.2.2.2.2.2
theorem nl_L_33 {w : Wd} {s : State} (hK : KT w s) (args : Array Value) : (Cond.methodLinkNest R_L 33 y_V_init "LastingShapes").before args s = true := va_Nw.use rfl hK.2.2.1.1
theorem nl_L_56 {w : Wd} {s : State} (hK : KT w s) (args : Array Value) : (Cond.methodLinkNest R_L 56 y_V_with "LastingShapes").before args s = true := va_Nw.use rfl hK.2.2.1.2.1
/-- x is an exception of the i-th class -/
def xcp (w : Wd) (i x : Nat) (H : Heap) : Prop := ∃ ce : Cell, H[x]? = some ce ∧ ce.cls = w.D.1 (10 + i) ∧ ce.vm = .none
theorem xcp.ex {w : Wd} {i x : Nat} {H H' : Heap} (h : xcp w i x H) (he : fx_Ex H H') : xcp w i x H' := by
  obtain ⟨ce, h1, h2⟩ := h
  exact ⟨ce, he.at h1, h2⟩
