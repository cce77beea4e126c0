section
/-! PART A of the skeleton -/
-- ===== PART A: goes FIRST, ahead of the names: the tables' words, and 'selects' of the private methods out of them =====
/-- a private method of a class that the tables say can be made, by its rows of tables_1 -/
def lw_okq (q : MethodName × Nat) : Prop := (q.1.cls ≠ "java/lang/invoke/MethodHandle" ∧ q.1.cls ≠ "java/lang/invoke/VarHandle") ∧ Cond.instantiable q.1.cls q.2 ∈ tables_1 ∧ Cond.privateMethod q.1 ∈ tables_1 ∧ Cond.instanceMethod q.1 ∈ tables_1
theorem lw_p0 : lw_okq (⟨"java/lang/Throwable", "fillInStackTrace", "(I)Ljava/lang/Throwable;"⟩, 6) := ⟨⟨by decide +kernel, by decide +kernel⟩, List.mem_of_getElem? (i := 121) (by decide +kernel), List.mem_of_getElem? (i := 119) (by decide +kernel), List.mem_of_getElem? (i := 120) (by decide +kernel)⟩
theorem lw_p1 : lw_okq (⟨"LastingShapes", "refuseBeyondLimits", "(I)V"⟩, 1) := ⟨⟨by decide +kernel, by decide +kernel⟩, List.mem_of_getElem? (i := 22) (by decide +kernel), List.mem_of_getElem? (i := 151) (by decide +kernel), List.mem_of_getElem? (i := 152) (by decide +kernel)⟩
theorem lw_p2 : lw_okq (⟨"LastingShapes", "keep", "(LLastingShapes$Version;)I"⟩, 1) := ⟨⟨by decide +kernel, by decide +kernel⟩, List.mem_of_getElem? (i := 22) (by decide +kernel), List.mem_of_getElem? (i := 196) (by decide +kernel), List.mem_of_getElem? (i := 197) (by decide +kernel)⟩
theorem lw_p3 : lw_okq (⟨"java/util/ArrayList", "add", "(Ljava/lang/Object;[Ljava/lang/Object;I)V"⟩, 3) := ⟨⟨by decide +kernel, by decide +kernel⟩, List.mem_of_getElem? (i := 30) (by decide +kernel), List.mem_of_getElem? (i := 204) (by decide +kernel), List.mem_of_getElem? (i := 205) (by decide +kernel)⟩
theorem lw_p4 : lw_okq (⟨"java/util/ArrayList", "grow", "()[Ljava/lang/Object;"⟩, 3) := ⟨⟨by decide +kernel, by decide +kernel⟩, List.mem_of_getElem? (i := 30) (by decide +kernel), List.mem_of_getElem? (i := 208) (by decide +kernel), List.mem_of_getElem? (i := 209) (by decide +kernel)⟩
theorem lw_p5 : lw_okq (⟨"java/util/ArrayList", "grow", "(I)[Ljava/lang/Object;"⟩, 3) := ⟨⟨by decide +kernel, by decide +kernel⟩, List.mem_of_getElem? (i := 30) (by decide +kernel), List.mem_of_getElem? (i := 212) (by decide +kernel), List.mem_of_getElem? (i := 213) (by decide +kernel)⟩
theorem lw_p6 : lw_okq (⟨"LastingShapes", "foundButNoMap", "(I)LLastingShapes$Version;"⟩, 1) := ⟨⟨by decide +kernel, by decide +kernel⟩, List.mem_of_getElem? (i := 22) (by decide +kernel), List.mem_of_getElem? (i := 262) (by decide +kernel), List.mem_of_getElem? (i := 263) (by decide +kernel)⟩
theorem lw_p7 : lw_okq (⟨"LastingShapes", "found", "(I)LLastingShapes$Version;"⟩, 1) := ⟨⟨by decide +kernel, by decide +kernel⟩, List.mem_of_getElem? (i := 22) (by decide +kernel), List.mem_of_getElem? (i := 266) (by decide +kernel), List.mem_of_getElem? (i := 267) (by decide +kernel)⟩
theorem lw_p8 : lw_okq (⟨"LastingShapes$Version", "with", "([I)LLastingShapes$Version;"⟩, 4) := ⟨⟨by decide +kernel, by decide +kernel⟩, List.mem_of_getElem? (i := 172) (by decide +kernel), List.mem_of_getElem? (i := 296) (by decide +kernel), List.mem_of_getElem? (i := 297) (by decide +kernel)⟩
theorem lw_p9 : lw_okq (⟨"LastingShapes", "foundOfKind", "(II)LLastingShapes$Version;"⟩, 1) := ⟨⟨by decide +kernel, by decide +kernel⟩, List.mem_of_getElem? (i := 22) (by decide +kernel), List.mem_of_getElem? (i := 379) (by decide +kernel), List.mem_of_getElem? (i := 380) (by decide +kernel)⟩
theorem lw_p10 : lw_okq (⟨"LastingShapesModel", "isFull", "()Z"⟩, 8) := ⟨⟨by decide +kernel, by decide +kernel⟩, List.mem_of_getElem? (i := 466) (by decide +kernel), List.mem_of_getElem? (i := 505) (by decide +kernel), List.mem_of_getElem? (i := 506) (by decide +kernel)⟩
theorem lw_p11 : lw_okq (⟨"LastingShapesModel", "throwsBy", "(I)Z"⟩, 8) := ⟨⟨by decide +kernel, by decide +kernel⟩, List.mem_of_getElem? (i := 466) (by decide +kernel), List.mem_of_getElem? (i := 509) (by decide +kernel), List.mem_of_getElem? (i := 510) (by decide +kernel)⟩
theorem lw_p12 : lw_okq (⟨"LastingShapesModel", "create", "(II)I"⟩, 8) := ⟨⟨by decide +kernel, by decide +kernel⟩, List.mem_of_getElem? (i := 466) (by decide +kernel), List.mem_of_getElem? (i := 513) (by decide +kernel), List.mem_of_getElem? (i := 514) (by decide +kernel)⟩
theorem lw_p13 : lw_okq (⟨"LastingShapesModel", "isRow", "(I)Z"⟩, 8) := ⟨⟨by decide +kernel, by decide +kernel⟩, List.mem_of_getElem? (i := 466) (by decide +kernel), List.mem_of_getElem? (i := 521) (by decide +kernel), List.mem_of_getElem? (i := 522) (by decide +kernel)⟩
theorem lw_p14 : lw_okq (⟨"LastingShapesModel", "is", "(I)Z"⟩, 8) := ⟨⟨by decide +kernel, by decide +kernel⟩, List.mem_of_getElem? (i := 466) (by decide +kernel), List.mem_of_getElem? (i := 525) (by decide +kernel), List.mem_of_getElem? (i := 526) (by decide +kernel)⟩
theorem lw_p15 : lw_okq (⟨"LastingShapesModel", "isMap", "(I)Z"⟩, 8) := ⟨⟨by decide +kernel, by decide +kernel⟩, List.mem_of_getElem? (i := 466) (by decide +kernel), List.mem_of_getElem? (i := 529) (by decide +kernel), List.mem_of_getElem? (i := 530) (by decide +kernel)⟩
def lw_privs_1 : List (MethodName × Nat) := [(⟨"java/lang/Throwable", "fillInStackTrace", "(I)Ljava/lang/Throwable;"⟩, 6), (⟨"LastingShapes", "refuseBeyondLimits", "(I)V"⟩, 1), (⟨"LastingShapes", "keep", "(LLastingShapes$Version;)I"⟩, 1), (⟨"java/util/ArrayList", "add", "(Ljava/lang/Object;[Ljava/lang/Object;I)V"⟩, 3), (⟨"java/util/ArrayList", "grow", "()[Ljava/lang/Object;"⟩, 3), (⟨"java/util/ArrayList", "grow", "(I)[Ljava/lang/Object;"⟩, 3), (⟨"LastingShapes", "foundButNoMap", "(I)LLastingShapes$Version;"⟩, 1), (⟨"LastingShapes", "found", "(I)LLastingShapes$Version;"⟩, 1), (⟨"LastingShapes$Version", "with", "([I)LLastingShapes$Version;"⟩, 4), (⟨"LastingShapes", "foundOfKind", "(II)LLastingShapes$Version;"⟩, 1), (⟨"LastingShapesModel", "isFull", "()Z"⟩, 8), (⟨"LastingShapesModel", "throwsBy", "(I)Z"⟩, 8), (⟨"LastingShapesModel", "create", "(II)I"⟩, 8), (⟨"LastingShapesModel", "isRow", "(I)Z"⟩, 8), (⟨"LastingShapesModel", "is", "(I)Z"⟩, 8), (⟨"LastingShapesModel", "isMap", "(I)Z"⟩, 8)]
theorem lw_r1 : ∀ q ∈ lw_privs_1, lw_okq q := List.forall_mem_cons.mpr ⟨lw_p0, List.forall_mem_cons.mpr ⟨lw_p1, List.forall_mem_cons.mpr ⟨lw_p2, List.forall_mem_cons.mpr ⟨lw_p3, List.forall_mem_cons.mpr ⟨lw_p4, List.forall_mem_cons.mpr ⟨lw_p5, List.forall_mem_cons.mpr ⟨lw_p6, List.forall_mem_cons.mpr ⟨lw_p7, List.forall_mem_cons.mpr ⟨lw_p8, List.forall_mem_cons.mpr ⟨lw_p9, List.forall_mem_cons.mpr ⟨lw_p10, List.forall_mem_cons.mpr ⟨lw_p11, List.forall_mem_cons.mpr ⟨lw_p12, List.forall_mem_cons.mpr ⟨lw_p13, List.forall_mem_cons.mpr ⟨lw_p14, List.forall_mem_cons.mpr ⟨lw_p15, fun _ h => absurd h List.not_mem_nil⟩⟩⟩⟩⟩⟩⟩⟩⟩⟩⟩⟩⟩⟩⟩⟩
theorem lw_p16 : lw_okq (⟨"LastingShapesModel", "below", "(II)I"⟩, 8) := ⟨⟨by decide +kernel, by decide +kernel⟩, List.mem_of_getElem? (i := 466) (by decide +kernel), List.mem_of_getElem? (i := 533) (by decide +kernel), List.mem_of_getElem? (i := 534) (by decide +kernel)⟩
theorem lw_p17 : lw_okq (⟨"LastingShapesModel", "putAll", "(III)V"⟩, 8) := ⟨⟨by decide +kernel, by decide +kernel⟩, List.mem_of_getElem? (i := 466) (by decide +kernel), List.mem_of_getElem? (i := 537) (by decide +kernel), List.mem_of_getElem? (i := 538) (by decide +kernel)⟩
theorem lw_p18 : lw_okq (⟨"LastingShapesModel", "put", "(II)V"⟩, 8) := ⟨⟨by decide +kernel, by decide +kernel⟩, List.mem_of_getElem? (i := 466) (by decide +kernel), List.mem_of_getElem? (i := 541) (by decide +kernel), List.mem_of_getElem? (i := 542) (by decide +kernel)⟩
theorem lw_p19 : lw_okq (⟨"LastingShapesModel", "placeOf", "(II)I"⟩, 8) := ⟨⟨by decide +kernel, by decide +kernel⟩, List.mem_of_getElem? (i := 466) (by decide +kernel), List.mem_of_getElem? (i := 561) (by decide +kernel), List.mem_of_getElem? (i := 562) (by decide +kernel)⟩
theorem lw_p20 : lw_okq (⟨"LastingShapesModel", "hasAt", "(III)Z"⟩, 8) := ⟨⟨by decide +kernel, by decide +kernel⟩, List.mem_of_getElem? (i := 466) (by decide +kernel), List.mem_of_getElem? (i := 565) (by decide +kernel), List.mem_of_getElem? (i := 566) (by decide +kernel)⟩
def lw_privs_2 : List (MethodName × Nat) := [(⟨"LastingShapesModel", "below", "(II)I"⟩, 8), (⟨"LastingShapesModel", "putAll", "(III)V"⟩, 8), (⟨"LastingShapesModel", "put", "(II)V"⟩, 8), (⟨"LastingShapesModel", "placeOf", "(II)I"⟩, 8), (⟨"LastingShapesModel", "hasAt", "(III)Z"⟩, 8)]
theorem lw_r2 : ∀ q ∈ lw_privs_2, lw_okq q := List.forall_mem_cons.mpr ⟨lw_p16, List.forall_mem_cons.mpr ⟨lw_p17, List.forall_mem_cons.mpr ⟨lw_p18, List.forall_mem_cons.mpr ⟨lw_p19, List.forall_mem_cons.mpr ⟨lw_p20, fun _ h => absurd h List.not_mem_nil⟩⟩⟩⟩⟩
def lw_privs : List (MethodName × Nat) := lw_privs_1 ++ (lw_privs_2)
def lw_tbl : List Cond := k2_sels lw_privs ++ tables_1
theorem lw_privs_ok : ∀ q ∈ lw_privs, lw_okq q := by
  show ∀ q ∈ lw_privs_1 ++ (lw_privs_2), lw_okq q
  exact List.forall_mem_append.mpr ⟨lw_r1, lw_r2⟩
end
section
/-! Names: classes, fields, methods, decode rows, words of the tables by their places (by program out of the Statement). -/
abbrev R_L : String := "LastingShapes"
abbrev R_V : String := "LastingShapes$Version"
abbrev R_M : String := "LastingShapesModel"
abbrev R_W : String := "LastingShapesLaw"
abbrev R_AL : String := "java/util/ArrayList"
abbrev R_AB : String := "java/util/AbstractList"
abbrev R_AC : String := "java/util/AbstractCollection"
abbrev R_AR : String := "java/util/Arrays"
abbrev R_AS : String := "jdk/internal/util/ArraysSupport"
abbrev R_PC : String := "jdk/internal/util/Preconditions"
abbrev R_OB : String := "java/util/Objects"
abbrev R_MT : String := "java/lang/Math"
abbrev R_IN : String := "java/lang/Integer"
abbrev R_OJ : String := "java/lang/Object"
abbrev R_SY : String := "java/lang/System"
def T_L : u_T := fun k => match k with
  | _ => ("LastingShapes", "made", "Ljava/util/ArrayList;", true)
def ty_L : Nat → FieldType := fun k => match k with
  | _ => .object "java/util/ArrayList"
theorem tyok_L : ∀ k, k < 1 → parseFieldDescriptor (T_L k).2.2.1 = some (ty_L k) := by decide +kernel
theorem nm_L : ∀ a, a < 1 → ∀ b, b < 1 → a ≠ b → (T_L a).2.1 ≠ (T_L b).2.1 := by decide +kernel
def T_V : u_T := fun k => match k with
  | 0 => ("LastingShapes$Version", "kind", "I", true)
  | 1 => ("LastingShapes$Version", "form", "I", true)
  | 2 => ("LastingShapes$Version", "elements", "[I", true)
  | _ => ("LastingShapes$Version", "keys", "[I", true)
def ty_V : Nat → FieldType := fun k => match k with
  | 0 => .int
  | 1 => .int
  | 2 => .array .int
  | _ => .array .int
theorem tyok_V : ∀ k, k < 4 → parseFieldDescriptor (T_V k).2.2.1 = some (ty_V k) := by decide +kernel
theorem nm_V : ∀ a, a < 4 → ∀ b, b < 4 → a ≠ b → (T_V a).2.1 ≠ (T_V b).2.1 := by decide +kernel
def T_M : u_T := fun k => match k with
  | 0 => ("LastingShapesModel", "versions", "I", false)
  | 1 => ("LastingShapesModel", "kinds", "[I", true)
  | 2 => ("LastingShapesModel", "forms", "[I", true)
  | 3 => ("LastingShapesModel", "sizes", "[I", true)
  | 4 => ("LastingShapesModel", "elements", "[I", true)
  | 5 => ("LastingShapesModel", "keys", "[I", true)
  | 6 => ("LastingShapesModel", "thrown", "I", false)
  | _ => ("LastingShapesModel", "fewest", "[I", true)
def ty_M : Nat → FieldType := fun k => match k with
  | 0 => .int
  | 1 => .array .int
  | 2 => .array .int
  | 3 => .array .int
  | 4 => .array .int
  | 5 => .array .int
  | 6 => .int
  | _ => .array .int
theorem tyok_M : ∀ k, k < 8 → parseFieldDescriptor (T_M k).2.2.1 = some (ty_M k) := by decide +kernel
theorem nm_M : ∀ a, a < 8 → ∀ b, b < 8 → a ≠ b → (T_M a).2.1 ≠ (T_M b).2.1 := by decide +kernel
def T_AL : u_T := fun k => match k with
  | 0 => ("java/util/AbstractList", "modCount", "I", false)
  | 1 => ("java/util/ArrayList", "elementData", "[Ljava/lang/Object;", false)
  | _ => ("java/util/ArrayList", "size", "I", false)
def ty_AL : Nat → FieldType := fun k => match k with
  | 0 => .int
  | 1 => .array (.object "java/lang/Object")
  | _ => .int
theorem tyok_AL : ∀ k, k < 3 → parseFieldDescriptor (T_AL k).2.2.1 = some (ty_AL k) := by decide +kernel
theorem nm_AL : ∀ a, a < 3 → ∀ b, b < 3 → a ≠ b → (T_AL a).2.1 ≠ (T_AL b).2.1 := by decide +kernel
abbrev cls : List vw_C := [(R_L, T_L, 1), (R_V, T_V, 4), (R_M, T_M, 8), (R_AL, T_AL, 3)]
def gw : List Cond := lw_tbl.filter goodWord
theorem gw_in {x : Cond} (h : x ∈ lw_tbl) (g : goodWord x = true) : x ∈ gw := List.mem_filter.mpr ⟨h, g⟩
abbrev b_L_init : ByteArray := prog_1_method_1_code
def y_L_init : MethodName := ⟨R_L, "<init>", "()V"⟩
theorem mk_L_init : Cond.code y_L_init b_L_init 1 none ∈ gw := gw_in (List.mem_append_right _ (show _ ∈ tables_1 from List.mem_append_left _ (List.mem_of_getElem? (i := 25) rfl))) rfl
abbrev b_OJ_init : ByteArray := object_method_1_code
def y_OJ_init : MethodName := ⟨R_OJ, "<init>", "()V"⟩
theorem mk_OJ_init : Cond.code y_OJ_init b_OJ_init 1 none ∈ gw := gw_in (List.mem_append_right _ (show _ ∈ tables_1 from List.mem_append_left _ (List.mem_of_getElem? (i := 28) rfl))) rfl
abbrev b_AL_init : ByteArray := prog_20_method_2_code
def y_AL_init : MethodName := ⟨R_AL, "<init>", "()V"⟩
theorem mk_AL_init : Cond.code y_AL_init b_AL_init 1 none ∈ gw := gw_in (List.mem_append_right _ (show _ ∈ tables_1 from List.mem_append_left _ (List.mem_of_getElem? (i := 33) rfl))) rfl
abbrev b_AB_init : ByteArray := prog_19_method_1_code
def y_AB_init : MethodName := ⟨R_AB, "<init>", "()V"⟩
theorem mk_AB_init : Cond.code y_AB_init b_AB_init 1 none ∈ gw := gw_in (List.mem_append_right _ (show _ ∈ tables_1 from List.mem_append_left _ (List.mem_of_getElem? (i := 36) rfl))) rfl
abbrev b_AC_init : ByteArray := prog_18_method_1_code
def y_AC_init : MethodName := ⟨R_AC, "<init>", "()V"⟩
theorem mk_AC_init : Cond.code y_AC_init b_AC_init 1 none ∈ gw := gw_in (List.mem_append_right _ (show _ ∈ tables_1 from List.mem_append_left _ (List.mem_of_getElem? (i := 39) rfl))) rfl
abbrev b_L_versions : ByteArray := prog_1_method_14_code
def y_L_versions : MethodName := ⟨R_L, "versions", "()I"⟩
theorem mk_L_versions : Cond.code y_L_versions b_L_versions 1 (some (FieldType.int)) ∈ gw := gw_in (List.mem_append_right _ (show _ ∈ tables_1 from List.mem_append_left _ (List.mem_of_getElem? (i := 62) rfl))) rfl
abbrev b_AL_size : ByteArray := prog_20_method_8_code
def y_AL_size : MethodName := ⟨R_AL, "size", "()I"⟩
theorem mk_AL_size : Cond.code y_AL_size b_AL_size 1 (some (FieldType.int)) ∈ gw := gw_in (List.mem_append_right _ (show _ ∈ tables_1 from List.mem_append_left _ (List.mem_of_getElem? (i := 66) rfl))) rfl
abbrev b_W_empty : ByteArray := method_3_code
def y_W_empty : MethodName := ⟨R_W, "empty", "(LLastingShapes;II[J)I"⟩
theorem mk_W_empty : Cond.codeWith y_W_empty b_W_empty 5 (some (FieldType.int)) [(0, 10, 13, 13), (0, 10, 17, 15)] ∈ gw := gw_in (List.mem_append_right _ (show _ ∈ tables_1 from List.mem_append_left _ (List.mem_of_getElem? (i := 69) rfl))) rfl
abbrev b_L_empty : ByteArray := prog_1_method_2_code
def y_L_empty : MethodName := ⟨R_L, "empty", "(II)I"⟩
theorem mk_L_empty : Cond.code y_L_empty b_L_empty 3 (some (FieldType.int)) ∈ gw := gw_in (List.mem_append_right _ (show _ ∈ tables_1 from List.mem_append_left _ (List.mem_of_getElem? (i := 75) rfl))) rfl
abbrev b_L_isKindWithForm : ByteArray := prog_1_method_22_code
def y_L_isKindWithForm : MethodName := ⟨R_L, "isKindWithForm", "(II)Z"⟩
theorem mk_L_isKindWithForm : Cond.code y_L_isKindWithForm b_L_isKindWithForm 2 (some (FieldType.boolean)) ∈ gw := gw_in (List.mem_append_right _ (show _ ∈ tables_1 from List.mem_append_left _ (List.mem_of_getElem? (i := 78) rfl))) rfl
abbrev b_L_refuseBeyondLimits : ByteArray := prog_1_method_18_code
def y_L_refuseBeyondLimits : MethodName := ⟨R_L, "refuseBeyondLimits", "(I)V"⟩
theorem mk_L_refuseBeyondLimits : Cond.code y_L_refuseBeyondLimits b_L_refuseBeyondLimits 2 none ∈ gw := gw_in (List.mem_append_right _ (show _ ∈ tables_1 from List.mem_append_left _ (List.mem_of_getElem? (i := 153) rfl))) rfl
abbrev b_V_init : ByteArray := prog_2_method_1_code
def y_V_init : MethodName := ⟨R_V, "<init>", "(II[I[I)V"⟩
theorem mk_V_init : Cond.code y_V_init b_V_init 5 none ∈ gw := gw_in (List.mem_append_right _ (show _ ∈ tables_1 from List.mem_append_left _ (List.mem_of_getElem? (i := 175) rfl))) rfl
abbrev b_L_keep : ByteArray := prog_1_method_19_code
def y_L_keep : MethodName := ⟨R_L, "keep", "(LLastingShapes$Version;)I"⟩
theorem mk_L_keep : Cond.code y_L_keep b_L_keep 2 (some (FieldType.int)) ∈ gw := gw_in (List.mem_append_right _ (show _ ∈ tables_1 from List.mem_append_left _ (List.mem_of_getElem? (i := 198) rfl))) rfl
abbrev b_AL_add : ByteArray := prog_20_method_25_code
def y_AL_add : MethodName := ⟨R_AL, "add", "(Ljava/lang/Object;)Z"⟩
theorem mk_AL_add : Cond.code y_AL_add b_AL_add 2 (some (FieldType.boolean)) ∈ gw := gw_in (List.mem_append_right _ (show _ ∈ tables_1 from List.mem_append_left _ (List.mem_of_getElem? (i := 202) rfl))) rfl
abbrev b_AL_add3 : ByteArray := prog_20_method_24_code
def y_AL_add3 : MethodName := ⟨R_AL, "add", "(Ljava/lang/Object;[Ljava/lang/Object;I)V"⟩
theorem mk_AL_add3 : Cond.code y_AL_add3 b_AL_add3 4 none ∈ gw := gw_in (List.mem_append_right _ (show _ ∈ tables_1 from List.mem_append_left _ (List.mem_of_getElem? (i := 206) rfl))) rfl
abbrev b_AL_grow : ByteArray := prog_20_method_7_code
def y_AL_grow : MethodName := ⟨R_AL, "grow", "()[Ljava/lang/Object;"⟩
theorem mk_AL_grow : Cond.code y_AL_grow b_AL_grow 1 (some ((FieldType.array (FieldType.object "java/lang/Object")))) ∈ gw := gw_in (List.mem_append_right _ (show _ ∈ tables_1 from List.mem_append_left _ (List.mem_of_getElem? (i := 210) rfl))) rfl
abbrev b_AL_growI : ByteArray := prog_20_method_6_code
def y_AL_growI : MethodName := ⟨R_AL, "grow", "(I)[Ljava/lang/Object;"⟩
theorem mk_AL_growI : Cond.code y_AL_growI b_AL_growI 4 (some ((FieldType.array (FieldType.object "java/lang/Object")))) ∈ gw := gw_in (List.mem_append_right _ (show _ ∈ tables_1 from List.mem_append_left _ (List.mem_of_getElem? (i := 214) rfl))) rfl
abbrev b_AS_newLength : ByteArray := prog_28_method_27_code
def y_AS_newLength : MethodName := ⟨R_AS, "newLength", "(III)I"⟩
theorem mk_AS_newLength : Cond.code y_AS_newLength b_AS_newLength 4 (some (FieldType.int)) ∈ gw := gw_in (List.mem_append_right _ (show _ ∈ tables_1 from List.mem_append_left _ (List.mem_of_getElem? (i := 217) rfl))) rfl
abbrev b_MT_max : ByteArray := prog_13_method_65_code
def y_MT_max : MethodName := ⟨R_MT, "max", "(II)I"⟩
theorem mk_MT_max : Cond.code y_MT_max b_MT_max 2 (some (FieldType.int)) ∈ gw := gw_in (List.mem_append_right _ (show _ ∈ tables_1 from List.mem_append_left _ (List.mem_of_getElem? (i := 220) rfl))) rfl
abbrev b_AS_hugeLength : ByteArray := prog_28_method_28_code
def y_AS_hugeLength : MethodName := ⟨R_AS, "hugeLength", "(II)I"⟩
theorem mk_AS_hugeLength : Cond.code y_AS_hugeLength b_AS_hugeLength 3 (some (FieldType.int)) ∈ gw := gw_in (List.mem_append_right _ (show _ ∈ tables_1 from List.mem_append_left _ (List.mem_of_getElem? (i := 224) rfl))) rfl
abbrev b_AR_copyOf2 : ByteArray := prog_21_method_119_code
def y_AR_copyOf2 : MethodName := ⟨R_AR, "copyOf", "([Ljava/lang/Object;I)[Ljava/lang/Object;"⟩
theorem mk_AR_copyOf2 : Cond.code y_AR_copyOf2 b_AR_copyOf2 2 (some ((FieldType.array (FieldType.object "java/lang/Object")))) ∈ gw := gw_in (List.mem_append_right _ (show _ ∈ tables_1 from List.mem_append_left _ (List.mem_of_getElem? (i := 227) rfl))) rfl
abbrev b_AR_copyOf3 : ByteArray := prog_21_method_120_code
def y_AR_copyOf3 : MethodName := ⟨R_AR, "copyOf", "([Ljava/lang/Object;ILjava/lang/Class;)[Ljava/lang/Object;"⟩
theorem mk_AR_copyOf3 : Cond.code y_AR_copyOf3 b_AR_copyOf3 4 (some ((FieldType.array (FieldType.object "java/lang/Object")))) ∈ gw := gw_in (List.mem_append_right _ (show _ ∈ tables_1 from List.mem_append_right _ (List.mem_append_left _ (List.mem_of_getElem? (i := 2) rfl)))) rfl
abbrev b_MT_min : ByteArray := prog_13_method_69_code
def y_MT_min : MethodName := ⟨R_MT, "min", "(II)I"⟩
theorem mk_MT_min : Cond.code y_MT_min b_MT_min 2 (some (FieldType.int)) ∈ gw := gw_in (List.mem_append_right _ (show _ ∈ tables_1 from List.mem_append_right _ (List.mem_append_left _ (List.mem_of_getElem? (i := 8) rfl)))) rfl
abbrev b_W_add : ByteArray := method_4_code
def y_W_add : MethodName := ⟨R_W, "add", "(LLastingShapes;II[J)I"⟩
theorem mk_W_add : Cond.codeWith y_W_add b_W_add 5 (some (FieldType.int)) [(0, 10, 13, 13), (0, 10, 17, 15)] ∈ gw := gw_in (List.mem_append_right _ (show _ ∈ tables_1 from List.mem_append_right _ (List.mem_append_left _ (List.mem_of_getElem? (i := 16) rfl)))) rfl
abbrev b_L_add : ByteArray := prog_1_method_3_code
def y_L_add : MethodName := ⟨R_L, "add", "(II)I"⟩
theorem mk_L_add : Cond.code y_L_add b_L_add 4 (some (FieldType.int)) ∈ gw := gw_in (List.mem_append_right _ (show _ ∈ tables_1 from List.mem_append_right _ (List.mem_append_left _ (List.mem_of_getElem? (i := 20) rfl)))) rfl
abbrev b_L_foundButNoMap : ByteArray := prog_1_method_17_code
def y_L_foundButNoMap : MethodName := ⟨R_L, "foundButNoMap", "(I)LLastingShapes$Version;"⟩
theorem mk_L_foundButNoMap : Cond.code y_L_foundButNoMap b_L_foundButNoMap 3 (some ((FieldType.object "LastingShapes$Version"))) ∈ gw := gw_in (List.mem_append_right _ (show _ ∈ tables_1 from List.mem_append_right _ (List.mem_append_left _ (List.mem_of_getElem? (i := 24) rfl)))) rfl
abbrev b_L_found : ByteArray := prog_1_method_15_code
def y_L_found : MethodName := ⟨R_L, "found", "(I)LLastingShapes$Version;"⟩
theorem mk_L_found : Cond.code y_L_found b_L_found 2 (some ((FieldType.object "LastingShapes$Version"))) ∈ gw := gw_in (List.mem_append_right _ (show _ ∈ tables_1 from List.mem_append_right _ (List.mem_append_left _ (List.mem_of_getElem? (i := 28) rfl)))) rfl
abbrev b_AL_get : ByteArray := prog_20_method_20_code
def y_AL_get : MethodName := ⟨R_AL, "get", "(I)Ljava/lang/Object;"⟩
theorem mk_AL_get : Cond.code y_AL_get b_AL_get 2 (some ((FieldType.object "java/lang/Object"))) ∈ gw := gw_in (List.mem_append_right _ (show _ ∈ tables_1 from List.mem_append_right _ (List.mem_append_left _ (List.mem_of_getElem? (i := 33) rfl)))) rfl
abbrev b_OB_checkIndex : ByteArray := prog_25_method_17_code
def y_OB_checkIndex : MethodName := ⟨R_OB, "checkIndex", "(II)I"⟩
theorem mk_OB_checkIndex : Cond.code y_OB_checkIndex b_OB_checkIndex 2 (some (FieldType.int)) ∈ gw := gw_in (List.mem_append_right _ (show _ ∈ tables_1 from List.mem_append_right _ (List.mem_append_left _ (List.mem_of_getElem? (i := 36) rfl)))) rfl
abbrev b_PC_checkIndex : ByteArray := prog_29_method_11_code
def y_PC_checkIndex : MethodName := ⟨R_PC, "checkIndex", "(IILjava/util/function/BiFunction;)I"⟩
theorem mk_PC_checkIndex : Cond.code y_PC_checkIndex b_PC_checkIndex 3 (some (FieldType.int)) ∈ gw := gw_in (List.mem_append_right _ (show _ ∈ tables_1 from List.mem_append_right _ (List.mem_append_left _ (List.mem_of_getElem? (i := 39) rfl)))) rfl
abbrev b_AL_elementData : ByteArray := prog_20_method_18_code
def y_AL_elementData : MethodName := ⟨R_AL, "elementData", "(I)Ljava/lang/Object;"⟩
theorem mk_AL_elementData : Cond.code y_AL_elementData b_AL_elementData 2 (some ((FieldType.object "java/lang/Object"))) ∈ gw := gw_in (List.mem_append_right _ (show _ ∈ tables_1 from List.mem_append_right _ (List.mem_append_left _ (List.mem_of_getElem? (i := 43) rfl)))) rfl
abbrev b_L_placeToAdd : ByteArray := prog_1_method_24_code
def y_L_placeToAdd : MethodName := ⟨R_L, "placeToAdd", "(LLastingShapes$Version;I)I"⟩
theorem mk_L_placeToAdd : Cond.code y_L_placeToAdd b_L_placeToAdd 2 (some (FieldType.int)) ∈ gw := gw_in (List.mem_append_right _ (show _ ∈ tables_1 from List.mem_append_right _ (List.mem_append_left _ (List.mem_of_getElem? (i := 47) rfl)))) rfl
abbrev b_L_countBelow : ByteArray := prog_1_method_25_code
def y_L_countBelow : MethodName := ⟨R_L, "countBelow", "([II)I"⟩
theorem mk_L_countBelow : Cond.code y_L_countBelow b_L_countBelow 3 (some (FieldType.int)) ∈ gw := gw_in (List.mem_append_right _ (show _ ∈ tables_1 from List.mem_append_right _ (List.mem_append_left _ (List.mem_of_getElem? (i := 50) rfl)))) rfl
abbrev b_L_inserted : ByteArray := prog_1_method_27_code
def y_L_inserted : MethodName := ⟨R_L, "inserted", "([III)[I"⟩
theorem mk_L_inserted : Cond.code y_L_inserted b_L_inserted 4 (some ((FieldType.array FieldType.int))) ∈ gw := gw_in (List.mem_append_right _ (show _ ∈ tables_1 from List.mem_append_right _ (List.mem_append_left _ (List.mem_of_getElem? (i := 53) rfl)))) rfl
abbrev b_V_with : ByteArray := prog_2_method_2_code
def y_V_with : MethodName := ⟨R_V, "with", "([I)LLastingShapes$Version;"⟩
theorem mk_V_with : Cond.code y_V_with b_V_with 2 (some ((FieldType.object "LastingShapes$Version"))) ∈ gw := gw_in (List.mem_append_right _ (show _ ∈ tables_1 from List.mem_append_right _ (List.mem_append_left _ (List.mem_of_getElem? (i := 58) rfl)))) rfl
abbrev b_W_first : ByteArray := method_5_code
def y_W_first : MethodName := ⟨R_W, "first", "(LLastingShapes;I[J)I"⟩
theorem mk_W_first : Cond.codeWith y_W_first b_W_first 4 (some (FieldType.int)) [(0, 9, 12, 13), (0, 9, 15, 24)] ∈ gw := gw_in (List.mem_append_right _ (show _ ∈ tables_1 from List.mem_append_right _ (List.mem_append_left _ (List.mem_of_getElem? (i := 63) rfl)))) rfl
abbrev b_L_first : ByteArray := prog_1_method_4_code
def y_L_first : MethodName := ⟨R_L, "first", "(I)I"⟩
theorem mk_L_first : Cond.code y_L_first b_L_first 3 (some (FieldType.int)) ∈ gw := gw_in (List.mem_append_right _ (show _ ∈ tables_1 from List.mem_append_right _ (List.mem_append_left _ (List.mem_of_getElem? (i := 68) rfl)))) rfl
abbrev b_L_refuseWithoutElements : ByteArray := prog_1_method_20_code
def y_L_refuseWithoutElements : MethodName := ⟨R_L, "refuseWithoutElements", "(LLastingShapes$Version;)V"⟩
theorem mk_L_refuseWithoutElements : Cond.code y_L_refuseWithoutElements b_L_refuseWithoutElements 1 none ∈ gw := gw_in (List.mem_append_right _ (show _ ∈ tables_1 from List.mem_append_right _ (List.mem_append_left _ (List.mem_of_getElem? (i := 71) rfl)))) rfl
abbrev b_W_rest : ByteArray := method_6_code
def y_W_rest : MethodName := ⟨R_W, "rest", "(LLastingShapes;I[J)I"⟩
theorem mk_W_rest : Cond.codeWith y_W_rest b_W_rest 4 (some (FieldType.int)) [(0, 9, 12, 13), (0, 9, 15, 15), (0, 9, 18, 24)] ∈ gw := gw_in (List.mem_append_right _ (show _ ∈ tables_1 from List.mem_append_right _ (List.mem_append_left _ (List.mem_of_getElem? (i := 90) rfl)))) rfl
abbrev b_L_rest : ByteArray := prog_1_method_5_code
def y_L_rest : MethodName := ⟨R_L, "rest", "(I)I"⟩
theorem mk_L_rest : Cond.code y_L_rest b_L_rest 3 (some (FieldType.int)) ∈ gw := gw_in (List.mem_append_right _ (show _ ∈ tables_1 from List.mem_append_right _ (List.mem_append_left _ (List.mem_of_getElem? (i := 94) rfl)))) rfl
abbrev b_AR_copyOfRange : ByteArray := prog_21_method_136_code
def y_AR_copyOfRange : MethodName := ⟨R_AR, "copyOfRange", "([III)[I"⟩
theorem mk_AR_copyOfRange : Cond.code y_AR_copyOfRange b_AR_copyOfRange 3 (some ((FieldType.array FieldType.int))) ∈ gw := gw_in (List.mem_append_right _ (show _ ∈ tables_1 from List.mem_append_right _ (List.mem_append_left _ (List.mem_of_getElem? (i := 97) rfl)))) rfl
abbrev b_AR_copyOfRangeInt : ByteArray := prog_21_method_137_code
def y_AR_copyOfRangeInt : MethodName := ⟨R_AR, "copyOfRangeInt", "([III)[I"⟩
theorem mk_AR_copyOfRangeInt : Cond.code y_AR_copyOfRangeInt b_AR_copyOfRangeInt 5 (some ((FieldType.array FieldType.int))) ∈ gw := gw_in (List.mem_append_right _ (show _ ∈ tables_1 from List.mem_append_right _ (List.mem_append_left _ (List.mem_of_getElem? (i := 100) rfl)))) rfl
abbrev b_AR_checkLength : ByteArray := prog_21_method_131_code
def y_AR_checkLength : MethodName := ⟨R_AR, "checkLength", "(II)V"⟩
theorem mk_AR_checkLength : Cond.code y_AR_checkLength b_AR_checkLength 2 none ∈ gw := gw_in (List.mem_append_right _ (show _ ∈ tables_1 from List.mem_append_right _ (List.mem_append_left _ (List.mem_of_getElem? (i := 103) rfl)))) rfl
abbrev b_W_join : ByteArray := method_7_code
def y_W_join : MethodName := ⟨R_W, "join", "(LLastingShapes;II[J)I"⟩
theorem mk_W_join : Cond.codeWith y_W_join b_W_join 5 (some (FieldType.int)) [(0, 10, 13, 13), (0, 10, 17, 15)] ∈ gw := gw_in (List.mem_append_right _ (show _ ∈ tables_1 from List.mem_append_right _ (List.mem_append_left _ (List.mem_of_getElem? (i := 113) rfl)))) rfl
abbrev b_L_join : ByteArray := prog_1_method_6_code
def y_L_join : MethodName := ⟨R_L, "join", "(II)I"⟩
theorem mk_L_join : Cond.code y_L_join b_L_join 6 (some (FieldType.int)) ∈ gw := gw_in (List.mem_append_right _ (show _ ∈ tables_1 from List.mem_append_right _ (List.mem_append_left _ (List.mem_of_getElem? (i := 117) rfl)))) rfl
abbrev b_L_canBeJoined : ByteArray := prog_1_method_23_code
def y_L_canBeJoined : MethodName := ⟨R_L, "canBeJoined", "(LLastingShapes$Version;LLastingShapes$Version;)Z"⟩
theorem mk_L_canBeJoined : Cond.code y_L_canBeJoined b_L_canBeJoined 2 (some (FieldType.boolean)) ∈ gw := gw_in (List.mem_append_right _ (show _ ∈ tables_1 from List.mem_append_right _ (List.mem_append_left _ (List.mem_of_getElem? (i := 120) rfl)))) rfl
abbrev b_L_merged : ByteArray := prog_1_method_30_code
def y_L_merged : MethodName := ⟨R_L, "merged", "([I[I)[I"⟩
theorem mk_L_merged : Cond.code y_L_merged b_L_merged 6 (some ((FieldType.array FieldType.int))) ∈ gw := gw_in (List.mem_append_right _ (show _ ∈ tables_1 from List.mem_append_right _ (List.mem_append_left _ (List.mem_of_getElem? (i := 124) rfl)))) rfl
abbrev b_L_appended : ByteArray := prog_1_method_29_code
def y_L_appended : MethodName := ⟨R_L, "appended", "([I[I)[I"⟩
theorem mk_L_appended : Cond.code y_L_appended b_L_appended 3 (some ((FieldType.array FieldType.int))) ∈ gw := gw_in (List.mem_append_right _ (show _ ∈ tables_1 from List.mem_append_right _ (List.mem_append_left _ (List.mem_of_getElem? (i := 127) rfl)))) rfl
abbrev b_AR_copyOfI : ByteArray := prog_21_method_123_code
def y_AR_copyOfI : MethodName := ⟨R_AR, "copyOf", "([II)[I"⟩
theorem mk_AR_copyOfI : Cond.code y_AR_copyOfI b_AR_copyOfI 3 (some ((FieldType.array FieldType.int))) ∈ gw := gw_in (List.mem_append_right _ (show _ ∈ tables_1 from List.mem_append_right _ (List.mem_append_left _ (List.mem_of_getElem? (i := 130) rfl)))) rfl
abbrev b_W_bind : ByteArray := method_8_code
def y_W_bind : MethodName := ⟨R_W, "bind", "(LLastingShapes;III[J)I"⟩
theorem mk_W_bind : Cond.codeWith y_W_bind b_W_bind 6 (some (FieldType.int)) [(0, 12, 15, 13), (0, 12, 19, 15)] ∈ gw := gw_in (List.mem_append_right _ (show _ ∈ tables_1 from List.mem_append_right _ (List.mem_append_left _ (List.mem_of_getElem? (i := 133) rfl)))) rfl
abbrev b_L_bind : ByteArray := prog_1_method_7_code
def y_L_bind : MethodName := ⟨R_L, "bind", "(III)I"⟩
theorem mk_L_bind : Cond.code y_L_bind b_L_bind 7 (some (FieldType.int)) ∈ gw := gw_in (List.mem_append_right _ (show _ ∈ tables_1 from List.mem_append_right _ (List.mem_append_left _ (List.mem_of_getElem? (i := 137) rfl)))) rfl
abbrev b_L_foundOfKind : ByteArray := prog_1_method_16_code
def y_L_foundOfKind : MethodName := ⟨R_L, "foundOfKind", "(II)LLastingShapes$Version;"⟩
theorem mk_L_foundOfKind : Cond.code y_L_foundOfKind b_L_foundOfKind 4 (some ((FieldType.object "LastingShapes$Version"))) ∈ gw := gw_in (List.mem_append_right _ (show _ ∈ tables_1 from List.mem_append_right _ (List.mem_append_left _ (List.mem_of_getElem? (i := 141) rfl)))) rfl
abbrev b_L_hasAt : ByteArray := prog_1_method_26_code
def y_L_hasAt : MethodName := ⟨R_L, "hasAt", "([III)Z"⟩
theorem mk_L_hasAt : Cond.code y_L_hasAt b_L_hasAt 3 (some (FieldType.boolean)) ∈ gw := gw_in (List.mem_append_right _ (show _ ∈ tables_1 from List.mem_append_right _ (List.mem_append_left _ (List.mem_of_getElem? (i := 146) rfl)))) rfl
abbrev b_L_replaced : ByteArray := prog_1_method_28_code
def y_L_replaced : MethodName := ⟨R_L, "replaced", "([III)[I"⟩
theorem mk_L_replaced : Cond.code y_L_replaced b_L_replaced 4 (some ((FieldType.array FieldType.int))) ∈ gw := gw_in (List.mem_append_right _ (show _ ∈ tables_1 from List.mem_append_right _ (List.mem_append_left _ (List.mem_of_getElem? (i := 149) rfl)))) rfl
abbrev b_W_value : ByteArray := method_9_code
def y_W_value : MethodName := ⟨R_W, "value", "(LLastingShapes;II[J)I"⟩
theorem mk_W_value : Cond.codeWith y_W_value b_W_value 5 (some (FieldType.int)) [(0, 10, 13, 13), (0, 10, 17, 24)] ∈ gw := gw_in (List.mem_append_right _ (show _ ∈ tables_1 from List.mem_append_right _ (List.mem_append_left _ (List.mem_of_getElem? (i := 154) rfl)))) rfl
abbrev b_L_value : ByteArray := prog_1_method_8_code
def y_L_value : MethodName := ⟨R_L, "value", "(II)I"⟩
theorem mk_L_value : Cond.code y_L_value b_L_value 5 (some (FieldType.int)) ∈ gw := gw_in (List.mem_append_right _ (show _ ∈ tables_1 from List.mem_append_right _ (List.mem_append_left _ (List.mem_of_getElem? (i := 158) rfl)))) rfl
abbrev b_W_update : ByteArray := method_10_code
def y_W_update : MethodName := ⟨R_W, "update", "(LLastingShapes;III[J)I"⟩
theorem mk_W_update : Cond.codeWith y_W_update b_W_update 6 (some (FieldType.int)) [(0, 12, 15, 13), (0, 12, 19, 15), (0, 12, 23, 42)] ∈ gw := gw_in (List.mem_append_right _ (show _ ∈ tables_1 from List.mem_append_right _ (List.mem_append_left _ (List.mem_of_getElem? (i := 162) rfl)))) rfl
abbrev b_L_update : ByteArray := prog_1_method_9_code
def y_L_update : MethodName := ⟨R_L, "update", "(III)I"⟩
theorem mk_L_update : Cond.code y_L_update b_L_update 5 (some (FieldType.int)) ∈ gw := gw_in (List.mem_append_right _ (show _ ∈ tables_1 from List.mem_append_right _ (List.mem_append_left _ (List.mem_of_getElem? (i := 167) rfl)))) rfl
abbrev b_L_refuseOutside : ByteArray := prog_1_method_21_code
def y_L_refuseOutside : MethodName := ⟨R_L, "refuseOutside", "(LLastingShapes$Version;I)V"⟩
theorem mk_L_refuseOutside : Cond.code y_L_refuseOutside b_L_refuseOutside 2 none ∈ gw := gw_in (List.mem_append_right _ (show _ ∈ tables_1 from List.mem_append_right _ (List.mem_append_left _ (List.mem_of_getElem? (i := 170) rfl)))) rfl
abbrev b_W_at : ByteArray := method_11_code
def y_W_at : MethodName := ⟨R_W, "at", "(LLastingShapes;II[J)I"⟩
theorem mk_W_at : Cond.codeWith y_W_at b_W_at 5 (some (FieldType.int)) [(0, 10, 13, 13), (0, 10, 17, 42)] ∈ gw := gw_in (List.mem_append_right _ (show _ ∈ tables_1 from List.mem_append_right _ (List.mem_append_left _ (List.mem_of_getElem? (i := 189) rfl)))) rfl
abbrev b_L_at : ByteArray := prog_1_method_10_code
def y_L_at : MethodName := ⟨R_L, "at", "(II)I"⟩
theorem mk_L_at : Cond.code y_L_at b_L_at 4 (some (FieldType.int)) ∈ gw := gw_in (List.mem_append_right _ (show _ ∈ tables_1 from List.mem_append_right _ (List.mem_append_left _ (List.mem_of_getElem? (i := 193) rfl)))) rfl
abbrev b_W_size : ByteArray := method_12_code
def y_W_size : MethodName := ⟨R_W, "size", "(LLastingShapes;I[J)I"⟩
theorem mk_W_size : Cond.codeWith y_W_size b_W_size 4 (some (FieldType.int)) [(0, 9, 12, 13)] ∈ gw := gw_in (List.mem_append_right _ (show _ ∈ tables_1 from List.mem_append_right _ (List.mem_append_left _ (List.mem_of_getElem? (i := 196) rfl)))) rfl
abbrev b_L_size : ByteArray := prog_1_method_11_code
def y_L_size : MethodName := ⟨R_L, "size", "(I)I"⟩
theorem mk_L_size : Cond.code y_L_size b_L_size 2 (some (FieldType.int)) ∈ gw := gw_in (List.mem_append_right _ (show _ ∈ tables_1 from List.mem_append_right _ (List.mem_append_left _ (List.mem_of_getElem? (i := 200) rfl)))) rfl
abbrev b_W_parts : ByteArray := method_13_code
def y_W_parts : MethodName := ⟨R_W, "parts", "(LLastingShapes;I[J)I"⟩
theorem mk_W_parts : Cond.codeWith y_W_parts b_W_parts 4 (some (FieldType.int)) [(0, 9, 12, 13)] ∈ gw := gw_in (List.mem_append_right _ (show _ ∈ tables_1 from List.mem_append_right _ (List.mem_append_left _ (List.mem_of_getElem? (i := 203) rfl)))) rfl
abbrev b_L_parts : ByteArray := prog_1_method_12_code
def y_L_parts : MethodName := ⟨R_L, "parts", "(I)I"⟩
theorem mk_L_parts : Cond.code y_L_parts b_L_parts 4 (some (FieldType.int)) ∈ gw := gw_in (List.mem_append_right _ (show _ ∈ tables_1 from List.mem_append_right _ (List.mem_append_left _ (List.mem_of_getElem? (i := 207) rfl)))) rfl
abbrev b_L_fewestTrees : ByteArray := prog_1_method_31_code
def y_L_fewestTrees : MethodName := ⟨R_L, "fewestTrees", "(I)I"⟩
theorem mk_L_fewestTrees : Cond.code y_L_fewestTrees b_L_fewestTrees 4 (some (FieldType.int)) ∈ gw := gw_in (List.mem_append_right _ (show _ ∈ tables_1 from List.mem_append_right _ (List.mem_append_left _ (List.mem_of_getElem? (i := 210) rfl)))) rfl
abbrev b_IN_bitCount : ByteArray := prog_11_method_49_code
def y_IN_bitCount : MethodName := ⟨R_IN, "bitCount", "(I)I"⟩
theorem mk_IN_bitCount : Cond.code y_IN_bitCount b_IN_bitCount 1 (some (FieldType.int)) ∈ gw := gw_in (List.mem_append_right _ (show _ ∈ tables_1 from List.mem_append_right _ (List.mem_append_left _ (List.mem_of_getElem? (i := 213) rfl)))) rfl
abbrev b_W_kind : ByteArray := method_14_code
def y_W_kind : MethodName := ⟨R_W, "kind", "(LLastingShapes;I[J)I"⟩
theorem mk_W_kind : Cond.codeWith y_W_kind b_W_kind 4 (some (FieldType.int)) [(0, 9, 12, 13)] ∈ gw := gw_in (List.mem_append_right _ (show _ ∈ tables_1 from List.mem_append_right _ (List.mem_append_left _ (List.mem_of_getElem? (i := 220) rfl)))) rfl
abbrev b_L_kind : ByteArray := prog_1_method_13_code
def y_L_kind : MethodName := ⟨R_L, "kind", "(I)I"⟩
theorem mk_L_kind : Cond.code y_L_kind b_L_kind 3 (some (FieldType.int)) ∈ gw := gw_in (List.mem_append_right _ (show _ ∈ tables_1 from List.mem_append_right _ (List.mem_append_left _ (List.mem_of_getElem? (i := 224) rfl)))) rfl
abbrev b_M_init : ByteArray := prog_4_method_1_code
def y_M_init : MethodName := ⟨R_M, "<init>", "()V"⟩
theorem mk_M_init : Cond.code y_M_init b_M_init 4 none ∈ gw := gw_in (List.mem_append_right _ (show _ ∈ tables_1 from List.mem_append_right _ (List.mem_append_left _ (List.mem_of_getElem? (i := 229) rfl)))) rfl
abbrev b_M_thrown : ByteArray := prog_4_method_2_code
def y_M_thrown : MethodName := ⟨R_M, "thrown", "()I"⟩
theorem mk_M_thrown : Cond.code y_M_thrown b_M_thrown 1 (some (FieldType.int)) ∈ gw := gw_in (List.mem_append_right _ (show _ ∈ tables_1 from List.mem_append_right _ (List.mem_append_right _ (List.mem_of_getElem? (i := 19) rfl)))) rfl
abbrev b_M_empty : ByteArray := prog_4_method_11_code
def y_M_empty : MethodName := ⟨R_M, "empty", "(II)I"⟩
theorem mk_M_empty : Cond.code y_M_empty b_M_empty 5 (some (FieldType.int)) ∈ gw := gw_in (List.mem_append_right _ (show _ ∈ tables_1 from List.mem_append_right _ (List.mem_append_right _ (List.mem_of_getElem? (i := 23) rfl)))) rfl
abbrev b_M_isFull : ByteArray := prog_4_method_7_code
def y_M_isFull : MethodName := ⟨R_M, "isFull", "()Z"⟩
theorem mk_M_isFull : Cond.code y_M_isFull b_M_isFull 1 (some (FieldType.boolean)) ∈ gw := gw_in (List.mem_append_right _ (show _ ∈ tables_1 from List.mem_append_right _ (List.mem_append_right _ (List.mem_of_getElem? (i := 27) rfl)))) rfl
abbrev b_M_throwsBy : ByteArray := prog_4_method_3_code
def y_M_throwsBy : MethodName := ⟨R_M, "throwsBy", "(I)Z"⟩
theorem mk_M_throwsBy : Cond.code y_M_throwsBy b_M_throwsBy 2 (some (FieldType.boolean)) ∈ gw := gw_in (List.mem_append_right _ (show _ ∈ tables_1 from List.mem_append_right _ (List.mem_append_right _ (List.mem_of_getElem? (i := 31) rfl)))) rfl
abbrev b_M_create : ByteArray := prog_4_method_8_code
def y_M_create : MethodName := ⟨R_M, "create", "(II)I"⟩
theorem mk_M_create : Cond.code y_M_create b_M_create 3 (some (FieldType.int)) ∈ gw := gw_in (List.mem_append_right _ (show _ ∈ tables_1 from List.mem_append_right _ (List.mem_append_right _ (List.mem_of_getElem? (i := 35) rfl)))) rfl
abbrev b_M_add : ByteArray := prog_4_method_13_code
def y_M_add : MethodName := ⟨R_M, "add", "(II)I"⟩
theorem mk_M_add : Cond.code y_M_add b_M_add 5 (some (FieldType.int)) ∈ gw := gw_in (List.mem_append_right _ (show _ ∈ tables_1 from List.mem_append_right _ (List.mem_append_right _ (List.mem_of_getElem? (i := 39) rfl)))) rfl
abbrev b_M_isRow : ByteArray := prog_4_method_6_code
def y_M_isRow : MethodName := ⟨R_M, "isRow", "(I)Z"⟩
theorem mk_M_isRow : Cond.code y_M_isRow b_M_isRow 2 (some (FieldType.boolean)) ∈ gw := gw_in (List.mem_append_right _ (show _ ∈ tables_1 from List.mem_append_right _ (List.mem_append_right _ (List.mem_of_getElem? (i := 43) rfl)))) rfl
abbrev b_M_is : ByteArray := prog_4_method_4_code
def y_M_is : MethodName := ⟨R_M, "is", "(I)Z"⟩
theorem mk_M_is : Cond.code y_M_is b_M_is 2 (some (FieldType.boolean)) ∈ gw := gw_in (List.mem_append_right _ (show _ ∈ tables_1 from List.mem_append_right _ (List.mem_append_right _ (List.mem_of_getElem? (i := 47) rfl)))) rfl
abbrev b_M_isMap : ByteArray := prog_4_method_5_code
def y_M_isMap : MethodName := ⟨R_M, "isMap", "(I)Z"⟩
theorem mk_M_isMap : Cond.code y_M_isMap b_M_isMap 2 (some (FieldType.boolean)) ∈ gw := gw_in (List.mem_append_right _ (show _ ∈ tables_1 from List.mem_append_right _ (List.mem_append_right _ (List.mem_of_getElem? (i := 51) rfl)))) rfl
abbrev b_M_below : ByteArray := prog_4_method_12_code
def y_M_below : MethodName := ⟨R_M, "below", "(II)I"⟩
theorem mk_M_below : Cond.code y_M_below b_M_below 4 (some (FieldType.int)) ∈ gw := gw_in (List.mem_append_right _ (show _ ∈ tables_1 from List.mem_append_right _ (List.mem_append_right _ (List.mem_of_getElem? (i := 55) rfl)))) rfl
abbrev b_M_putAll : ByteArray := prog_4_method_10_code
def y_M_putAll : MethodName := ⟨R_M, "putAll", "(III)V"⟩
theorem mk_M_putAll : Cond.code y_M_putAll b_M_putAll 5 none ∈ gw := gw_in (List.mem_append_right _ (show _ ∈ tables_1 from List.mem_append_right _ (List.mem_append_right _ (List.mem_of_getElem? (i := 59) rfl)))) rfl
abbrev b_M_put : ByteArray := prog_4_method_9_code
def y_M_put : MethodName := ⟨R_M, "put", "(II)V"⟩
theorem mk_M_put : Cond.code y_M_put b_M_put 4 none ∈ gw := gw_in (List.mem_append_right _ (show _ ∈ tables_1 from List.mem_append_right _ (List.mem_append_right _ (List.mem_of_getElem? (i := 63) rfl)))) rfl
abbrev b_M_first : ByteArray := prog_4_method_14_code
def y_M_first : MethodName := ⟨R_M, "first", "(I)I"⟩
theorem mk_M_first : Cond.code y_M_first b_M_first 2 (some (FieldType.int)) ∈ gw := gw_in (List.mem_append_right _ (show _ ∈ tables_1 from List.mem_append_right _ (List.mem_append_right _ (List.mem_of_getElem? (i := 67) rfl)))) rfl
abbrev b_M_rest : ByteArray := prog_4_method_15_code
def y_M_rest : MethodName := ⟨R_M, "rest", "(I)I"⟩
theorem mk_M_rest : Cond.code y_M_rest b_M_rest 3 (some (FieldType.int)) ∈ gw := gw_in (List.mem_append_right _ (show _ ∈ tables_1 from List.mem_append_right _ (List.mem_append_right _ (List.mem_of_getElem? (i := 71) rfl)))) rfl
abbrev b_M_join : ByteArray := prog_4_method_16_code
def y_M_join : MethodName := ⟨R_M, "join", "(II)I"⟩
theorem mk_M_join : Cond.code y_M_join b_M_join 8 (some (FieldType.int)) ∈ gw := gw_in (List.mem_append_right _ (show _ ∈ tables_1 from List.mem_append_right _ (List.mem_append_right _ (List.mem_of_getElem? (i := 75) rfl)))) rfl
abbrev b_M_bind : ByteArray := prog_4_method_19_code
def y_M_bind : MethodName := ⟨R_M, "bind", "(III)I"⟩
theorem mk_M_bind : Cond.code y_M_bind b_M_bind 8 (some (FieldType.int)) ∈ gw := gw_in (List.mem_append_right _ (show _ ∈ tables_1 from List.mem_append_right _ (List.mem_append_right _ (List.mem_of_getElem? (i := 79) rfl)))) rfl
abbrev b_M_placeOf : ByteArray := prog_4_method_17_code
def y_M_placeOf : MethodName := ⟨R_M, "placeOf", "(II)I"⟩
theorem mk_M_placeOf : Cond.code y_M_placeOf b_M_placeOf 4 (some (FieldType.int)) ∈ gw := gw_in (List.mem_append_right _ (show _ ∈ tables_1 from List.mem_append_right _ (List.mem_append_right _ (List.mem_of_getElem? (i := 83) rfl)))) rfl
abbrev b_M_hasAt : ByteArray := prog_4_method_18_code
def y_M_hasAt : MethodName := ⟨R_M, "hasAt", "(III)Z"⟩
theorem mk_M_hasAt : Cond.code y_M_hasAt b_M_hasAt 4 (some (FieldType.boolean)) ∈ gw := gw_in (List.mem_append_right _ (show _ ∈ tables_1 from List.mem_append_right _ (List.mem_append_right _ (List.mem_of_getElem? (i := 87) rfl)))) rfl
abbrev b_M_value : ByteArray := prog_4_method_20_code
def y_M_value : MethodName := ⟨R_M, "value", "(II)I"⟩
theorem mk_M_value : Cond.code y_M_value b_M_value 5 (some (FieldType.int)) ∈ gw := gw_in (List.mem_append_right _ (show _ ∈ tables_1 from List.mem_append_right _ (List.mem_append_right _ (List.mem_of_getElem? (i := 91) rfl)))) rfl
abbrev b_M_update : ByteArray := prog_4_method_21_code
def y_M_update : MethodName := ⟨R_M, "update", "(III)I"⟩
theorem mk_M_update : Cond.code y_M_update b_M_update 6 (some (FieldType.int)) ∈ gw := gw_in (List.mem_append_right _ (show _ ∈ tables_1 from List.mem_append_right _ (List.mem_append_right _ (List.mem_of_getElem? (i := 95) rfl)))) rfl
abbrev b_M_at : ByteArray := prog_4_method_22_code
def y_M_at : MethodName := ⟨R_M, "at", "(II)I"⟩
theorem mk_M_at : Cond.code y_M_at b_M_at 3 (some (FieldType.int)) ∈ gw := gw_in (List.mem_append_right _ (show _ ∈ tables_1 from List.mem_append_right _ (List.mem_append_right _ (List.mem_of_getElem? (i := 99) rfl)))) rfl
abbrev b_M_size : ByteArray := prog_4_method_23_code
def y_M_size : MethodName := ⟨R_M, "size", "(I)I"⟩
theorem mk_M_size : Cond.code y_M_size b_M_size 2 (some (FieldType.int)) ∈ gw := gw_in (List.mem_append_right _ (show _ ∈ tables_1 from List.mem_append_right _ (List.mem_append_right _ (List.mem_of_getElem? (i := 103) rfl)))) rfl
abbrev b_M_parts : ByteArray := prog_4_method_25_code
def y_M_parts : MethodName := ⟨R_M, "parts", "(I)I"⟩
theorem mk_M_parts : Cond.code y_M_parts b_M_parts 3 (some (FieldType.int)) ∈ gw := gw_in (List.mem_append_right _ (show _ ∈ tables_1 from List.mem_append_right _ (List.mem_append_right _ (List.mem_of_getElem? (i := 107) rfl)))) rfl
abbrev b_M_bits : ByteArray := prog_4_method_24_code
def y_M_bits : MethodName := ⟨R_M, "bits", "(I)I"⟩
theorem mk_M_bits : Cond.code y_M_bits b_M_bits 3 (some (FieldType.int)) ∈ gw := gw_in (List.mem_append_right _ (show _ ∈ tables_1 from List.mem_append_right _ (List.mem_append_right _ (List.mem_of_getElem? (i := 110) rfl)))) rfl
abbrev b_M_kind : ByteArray := prog_4_method_26_code
def y_M_kind : MethodName := ⟨R_M, "kind", "(I)I"⟩
theorem mk_M_kind : Cond.code y_M_kind b_M_kind 2 (some (FieldType.int)) ∈ gw := gw_in (List.mem_append_right _ (show _ ∈ tables_1 from List.mem_append_right _ (List.mem_append_right _ (List.mem_of_getElem? (i := 114) rfl)))) rfl
abbrev b_M_versions : ByteArray := prog_4_method_27_code
def y_M_versions : MethodName := ⟨R_M, "versions", "()I"⟩
theorem mk_M_versions : Cond.code y_M_versions b_M_versions 1 (some (FieldType.int)) ∈ gw := gw_in (List.mem_append_right _ (show _ ∈ tables_1 from List.mem_append_right _ (List.mem_append_right _ (List.mem_of_getElem? (i := 118) rfl)))) rfl
theorem mn_W : Cond.initialized "LastingShapesLaw" ∈ gw := gw_in (List.mem_append_right _ (show _ ∈ tables_1 from List.mem_append_left _ (List.mem_of_getElem? (i := 0) rfl))) rfl
theorem mn_L : Cond.initialized "LastingShapes" ∈ gw := gw_in (List.mem_append_right _ (show _ ∈ tables_1 from List.mem_append_left _ (List.mem_of_getElem? (i := 1) rfl))) rfl
theorem mn_AC : Cond.initialized "java/util/AbstractCollection" ∈ gw := gw_in (List.mem_append_right _ (show _ ∈ tables_1 from List.mem_append_left _ (List.mem_of_getElem? (i := 2) rfl))) rfl
theorem mn_AB : Cond.initialized "java/util/AbstractList" ∈ gw := gw_in (List.mem_append_right _ (show _ ∈ tables_1 from List.mem_append_left _ (List.mem_of_getElem? (i := 3) rfl))) rfl
theorem mn_AL : Cond.initialized "java/util/ArrayList" ∈ gw := gw_in (List.mem_append_right _ (show _ ∈ tables_1 from List.mem_append_left _ (List.mem_of_getElem? (i := 4) rfl))) rfl
theorem mn_M : Cond.initialized "LastingShapesModel" ∈ gw := gw_in (List.mem_append_right _ (show _ ∈ tables_1 from List.mem_append_left _ (List.mem_of_getElem? (i := 5) rfl))) rfl
theorem mn_Throwable : Cond.initialized "java/lang/Throwable" ∈ gw := gw_in (List.mem_append_right _ (show _ ∈ tables_1 from List.mem_append_left _ (List.mem_of_getElem? (i := 6) rfl))) rfl
theorem mn_Exception : Cond.initialized "java/lang/Exception" ∈ gw := gw_in (List.mem_append_right _ (show _ ∈ tables_1 from List.mem_append_left _ (List.mem_of_getElem? (i := 7) rfl))) rfl
theorem mn_RuntimeException : Cond.initialized "java/lang/RuntimeException" ∈ gw := gw_in (List.mem_append_right _ (show _ ∈ tables_1 from List.mem_append_left _ (List.mem_of_getElem? (i := 8) rfl))) rfl
theorem mn_IllegalArgumentException : Cond.initialized "java/lang/IllegalArgumentException" ∈ gw := gw_in (List.mem_append_right _ (show _ ∈ tables_1 from List.mem_append_left _ (List.mem_of_getElem? (i := 9) rfl))) rfl
theorem mn_IllegalStateException : Cond.initialized "java/lang/IllegalStateException" ∈ gw := gw_in (List.mem_append_right _ (show _ ∈ tables_1 from List.mem_append_left _ (List.mem_of_getElem? (i := 10) rfl))) rfl
theorem mn_V : Cond.initialized "LastingShapes$Version" ∈ gw := gw_in (List.mem_append_right _ (show _ ∈ tables_1 from List.mem_append_left _ (List.mem_of_getElem? (i := 11) rfl))) rfl
theorem mn_AS : Cond.initialized "jdk/internal/util/ArraysSupport" ∈ gw := gw_in (List.mem_append_right _ (show _ ∈ tables_1 from List.mem_append_left _ (List.mem_of_getElem? (i := 12) rfl))) rfl
theorem mn_MT : Cond.initialized "java/lang/Math" ∈ gw := gw_in (List.mem_append_right _ (show _ ∈ tables_1 from List.mem_append_left _ (List.mem_of_getElem? (i := 13) rfl))) rfl
theorem mn_AR : Cond.initialized "java/util/Arrays" ∈ gw := gw_in (List.mem_append_right _ (show _ ∈ tables_1 from List.mem_append_left _ (List.mem_of_getElem? (i := 14) rfl))) rfl
theorem mn_SY : Cond.initialized "java/lang/System" ∈ gw := gw_in (List.mem_append_right _ (show _ ∈ tables_1 from List.mem_append_left _ (List.mem_of_getElem? (i := 15) rfl))) rfl
theorem mn_OB : Cond.initialized "java/util/Objects" ∈ gw := gw_in (List.mem_append_right _ (show _ ∈ tables_1 from List.mem_append_left _ (List.mem_of_getElem? (i := 16) rfl))) rfl
theorem mn_PC : Cond.initialized "jdk/internal/util/Preconditions" ∈ gw := gw_in (List.mem_append_right _ (show _ ∈ tables_1 from List.mem_append_left _ (List.mem_of_getElem? (i := 17) rfl))) rfl
theorem mn_NoSuchElementException : Cond.initialized "java/util/NoSuchElementException" ∈ gw := gw_in (List.mem_append_right _ (show _ ∈ tables_1 from List.mem_append_left _ (List.mem_of_getElem? (i := 18) rfl))) rfl
theorem mn_IndexOutOfBoundsException : Cond.initialized "java/lang/IndexOutOfBoundsException" ∈ gw := gw_in (List.mem_append_right _ (show _ ∈ tables_1 from List.mem_append_left _ (List.mem_of_getElem? (i := 19) rfl))) rfl
theorem mn_IN : Cond.initialized "java/lang/Integer" ∈ gw := gw_in (List.mem_append_right _ (show _ ∈ tables_1 from List.mem_append_left _ (List.mem_of_getElem? (i := 20) rfl))) rfl
theorem mc_W_8 : Cond.classLink R_W 8 "LastingShapes" ∈ gw := gw_in (List.mem_append_right _ (show _ ∈ tables_1 from List.mem_append_left _ (List.mem_of_getElem? (i := 21) rfl))) rfl
theorem mt_L : Cond.instantiable "LastingShapes" 1 ∈ gw := gw_in (List.mem_append_right _ (show _ ∈ tables_1 from List.mem_append_left _ (List.mem_of_getElem? (i := 22) rfl))) rfl
theorem mm_W_56 : Cond.methodLink R_W 56 y_L_init ∈ gw := gw_in (List.mem_append_right _ (show _ ∈ tables_1 from List.mem_append_left _ (List.mem_of_getElem? (i := 23) rfl))) rfl
theorem mi_L_init : Cond.instanceMethod y_L_init ∈ gw := gw_in (List.mem_append_right _ (show _ ∈ tables_1 from List.mem_append_left _ (List.mem_of_getElem? (i := 24) rfl))) rfl
theorem mm_L_1 : Cond.methodLink R_L 1 y_OJ_init ∈ gw := gw_in (List.mem_append_right _ (show _ ∈ tables_1 from List.mem_append_left _ (List.mem_of_getElem? (i := 26) rfl))) rfl
theorem mi_OJ_init : Cond.instanceMethod y_OJ_init ∈ gw := gw_in (List.mem_append_right _ (show _ ∈ tables_1 from List.mem_append_left _ (List.mem_of_getElem? (i := 27) rfl))) rfl
theorem mc_L_7 : Cond.classLink R_L 7 "java/util/ArrayList" ∈ gw := gw_in (List.mem_append_right _ (show _ ∈ tables_1 from List.mem_append_left _ (List.mem_of_getElem? (i := 29) rfl))) rfl
theorem mt_AL : Cond.instantiable "java/util/ArrayList" 3 ∈ gw := gw_in (List.mem_append_right _ (show _ ∈ tables_1 from List.mem_append_left _ (List.mem_of_getElem? (i := 30) rfl))) rfl
theorem mm_L_9 : Cond.methodLink R_L 9 y_AL_init ∈ gw := gw_in (List.mem_append_right _ (show _ ∈ tables_1 from List.mem_append_left _ (List.mem_of_getElem? (i := 31) rfl))) rfl
theorem mi_AL_init : Cond.instanceMethod y_AL_init ∈ gw := gw_in (List.mem_append_right _ (show _ ∈ tables_1 from List.mem_append_left _ (List.mem_of_getElem? (i := 32) rfl))) rfl
theorem mm_AL_1 : Cond.methodLink R_AL 1 y_AB_init ∈ gw := gw_in (List.mem_append_right _ (show _ ∈ tables_1 from List.mem_append_left _ (List.mem_of_getElem? (i := 34) rfl))) rfl
theorem mi_AB_init : Cond.instanceMethod y_AB_init ∈ gw := gw_in (List.mem_append_right _ (show _ ∈ tables_1 from List.mem_append_left _ (List.mem_of_getElem? (i := 35) rfl))) rfl
theorem mm_AB_1 : Cond.methodLink R_AB 1 y_AC_init ∈ gw := gw_in (List.mem_append_right _ (show _ ∈ tables_1 from List.mem_append_left _ (List.mem_of_getElem? (i := 37) rfl))) rfl
theorem mi_AC_init : Cond.instanceMethod y_AC_init ∈ gw := gw_in (List.mem_append_right _ (show _ ∈ tables_1 from List.mem_append_left _ (List.mem_of_getElem? (i := 38) rfl))) rfl
theorem mm_AC_1 : Cond.methodLink R_AC 1 y_OJ_init ∈ gw := gw_in (List.mem_append_right _ (show _ ∈ tables_1 from List.mem_append_left _ (List.mem_of_getElem? (i := 40) rfl))) rfl
theorem mf_AL_39 : Cond.fieldLink R_AL 39 "java/util/ArrayList" "DEFAULTCAPACITY_EMPTY_ELEMENTDATA" "[Ljava/lang/Object;" ∈ gw := gw_in (List.mem_append_right _ (show _ ∈ tables_1 from List.mem_append_left _ (List.mem_of_getElem? (i := 41) rfl))) rfl
theorem mf_AL_9 : Cond.fieldLink R_AL 9 "java/util/ArrayList" "elementData" "[Ljava/lang/Object;" ∈ gw := gw_in (List.mem_append_right _ (show _ ∈ tables_1 from List.mem_append_left _ (List.mem_of_getElem? (i := 43) rfl))) rfl
theorem mf_AL_48 : Cond.fieldLink R_AL 48 "java/util/ArrayList" "size" "I" ∈ gw := gw_in (List.mem_append_right _ (show _ ∈ tables_1 from List.mem_append_left _ (List.mem_of_getElem? (i := 44) rfl))) rfl
theorem mf_AB_7 : Cond.fieldLink R_AB 7 "java/util/AbstractList" "modCount" "I" ∈ gw := gw_in (List.mem_append_right _ (show _ ∈ tables_1 from List.mem_append_left _ (List.mem_of_getElem? (i := 45) rfl))) rfl
theorem mf_AL_63 : Cond.fieldLink R_AL 63 "java/util/ArrayList" "modCount" "I" ∈ gw := gw_in (List.mem_append_right _ (show _ ∈ tables_1 from List.mem_append_left _ (List.mem_of_getElem? (i := 46) rfl))) rfl
theorem me_modCount : Cond.sameField "java/util/ArrayList" "java/util/AbstractList" "modCount" "I" ∈ gw := gw_in (List.mem_append_right _ (show _ ∈ tables_1 from List.mem_append_left _ (List.mem_of_getElem? (i := 47) rfl))) rfl
theorem ml_AL_1 : u_lay R_AL T_AL 1 ∈ gw := gw_in (List.mem_append_right _ (show _ ∈ tables_1 from List.mem_append_left _ (List.mem_of_getElem? (i := 48) rfl))) rfl
theorem ml_AL_2 : u_lay R_AL T_AL 2 ∈ gw := gw_in (List.mem_append_right _ (show _ ∈ tables_1 from List.mem_append_left _ (List.mem_of_getElem? (i := 50) rfl))) rfl
theorem ml_AL_0 : u_lay R_AL T_AL 0 ∈ gw := gw_in (List.mem_append_right _ (show _ ∈ tables_1 from List.mem_append_left _ (List.mem_of_getElem? (i := 52) rfl))) rfl
theorem mf_L_10 : Cond.fieldLink R_L 10 "LastingShapes" "made" "Ljava/util/ArrayList;" ∈ gw := gw_in (List.mem_append_right _ (show _ ∈ tables_1 from List.mem_append_left _ (List.mem_of_getElem? (i := 55) rfl))) rfl
theorem ml_L_0 : u_lay R_L T_L 0 ∈ gw := gw_in (List.mem_append_right _ (show _ ∈ tables_1 from List.mem_append_left _ (List.mem_of_getElem? (i := 56) rfl))) rfl
theorem mm_W_105 : Cond.methodLink R_W 105 y_L_versions ∈ gw := gw_in (List.mem_append_right _ (show _ ∈ tables_1 from List.mem_append_left _ (List.mem_of_getElem? (i := 59) rfl))) rfl
theorem mi_L_versions : Cond.instanceMethod y_L_versions ∈ gw := gw_in (List.mem_append_right _ (show _ ∈ tables_1 from List.mem_append_left _ (List.mem_of_getElem? (i := 60) rfl))) rfl
theorem mq_L_versions : Cond.selects "LastingShapes" y_L_versions y_L_versions ∈ gw := gw_in (List.mem_append_right _ (show _ ∈ tables_1 from List.mem_append_left _ (List.mem_of_getElem? (i := 61) rfl))) rfl
theorem mm_L_136 : Cond.methodLink R_L 136 y_AL_size ∈ gw := gw_in (List.mem_append_right _ (show _ ∈ tables_1 from List.mem_append_left _ (List.mem_of_getElem? (i := 63) rfl))) rfl
theorem mi_AL_size : Cond.instanceMethod y_AL_size ∈ gw := gw_in (List.mem_append_right _ (show _ ∈ tables_1 from List.mem_append_left _ (List.mem_of_getElem? (i := 64) rfl))) rfl
theorem mq_AL_size : Cond.selects "java/util/ArrayList" y_AL_size y_AL_size ∈ gw := gw_in (List.mem_append_right _ (show _ ∈ tables_1 from List.mem_append_left _ (List.mem_of_getElem? (i := 65) rfl))) rfl
theorem mm_W_60 : Cond.methodLink R_W 60 y_W_empty ∈ gw := gw_in (List.mem_append_right _ (show _ ∈ tables_1 from List.mem_append_left _ (List.mem_of_getElem? (i := 67) rfl))) rfl
theorem ms_W_empty : Cond.static y_W_empty ∈ gw := gw_in (List.mem_append_right _ (show _ ∈ tables_1 from List.mem_append_left _ (List.mem_of_getElem? (i := 68) rfl))) rfl
theorem mc_W_13 : Cond.classLink R_W 13 "java/lang/IllegalArgumentException" ∈ gw := gw_in (List.mem_append_right _ (show _ ∈ tables_1 from List.mem_append_left _ (List.mem_of_getElem? (i := 70) rfl))) rfl
theorem mc_W_15 : Cond.classLink R_W 15 "java/lang/IllegalStateException" ∈ gw := gw_in (List.mem_append_right _ (show _ ∈ tables_1 from List.mem_append_left _ (List.mem_of_getElem? (i := 71) rfl))) rfl
theorem mm_W_7 : Cond.methodLink R_W 7 y_L_empty ∈ gw := gw_in (List.mem_append_right _ (show _ ∈ tables_1 from List.mem_append_left _ (List.mem_of_getElem? (i := 72) rfl))) rfl
theorem mi_L_empty : Cond.instanceMethod y_L_empty ∈ gw := gw_in (List.mem_append_right _ (show _ ∈ tables_1 from List.mem_append_left _ (List.mem_of_getElem? (i := 73) rfl))) rfl
theorem mq_L_empty : Cond.selects "LastingShapes" y_L_empty y_L_empty ∈ gw := gw_in (List.mem_append_right _ (show _ ∈ tables_1 from List.mem_append_left _ (List.mem_of_getElem? (i := 74) rfl))) rfl
theorem mm_L_16 : Cond.methodLink R_L 16 y_L_isKindWithForm ∈ gw := gw_in (List.mem_append_right _ (show _ ∈ tables_1 from List.mem_append_left _ (List.mem_of_getElem? (i := 76) rfl))) rfl
theorem ms_L_isKindWithForm : Cond.static y_L_isKindWithForm ∈ gw := gw_in (List.mem_append_right _ (show _ ∈ tables_1 from List.mem_append_left _ (List.mem_of_getElem? (i := 77) rfl))) rfl
theorem mf_L_168 : Cond.fieldLink R_L 168 "LastingShapes" "FORMS" "[I" ∈ gw := gw_in (List.mem_append_right _ (show _ ∈ tables_1 from List.mem_append_left _ (List.mem_of_getElem? (i := 79) rfl))) rfl
theorem mc_L_20 : Cond.classLink R_L 20 "java/lang/IllegalArgumentException" ∈ gw := gw_in (List.mem_append_right _ (show _ ∈ tables_1 from List.mem_append_left _ (List.mem_of_getElem? (i := 81) rfl))) rfl
theorem mt_IllegalArgumentException : Cond.instantiable "java/lang/IllegalArgumentException" 6 ∈ gw := gw_in (List.mem_append_right _ (show _ ∈ tables_1 from List.mem_append_left _ (List.mem_of_getElem? (i := 82) rfl))) rfl
theorem mo_Throwable_fillInStackTrace : Cond.sameMethod "java/lang/Throwable" "java/lang/Throwable" "fillInStackTrace" "()Ljava/lang/Throwable;" ∈ gw := gw_in (List.mem_append_right _ (show _ ∈ tables_1 from List.mem_append_left _ (List.mem_of_getElem? (i := 113) rfl))) rfl
theorem mt_Throwable : Cond.instantiable "java/lang/Throwable" 6 ∈ gw := gw_in (List.mem_append_right _ (show _ ∈ tables_1 from List.mem_append_left _ (List.mem_of_getElem? (i := 121) rfl))) rfl
theorem mm_L_24 : Cond.methodLink R_L 24 ⟨"java/lang/IllegalArgumentException", "<init>", "(Ljava/lang/String;)V"⟩ ∈ gw := gw_in (List.mem_append_right _ (show _ ∈ tables_1 from List.mem_append_left _ (List.mem_of_getElem? (i := 124) rfl))) rfl
theorem ma_byte : Cond.arrayClass .byte ∈ gw := gw_in (List.mem_append_right _ (show _ ∈ tables_1 from List.mem_append_left _ (List.mem_of_getElem? (i := 149) rfl))) rfl
theorem mm_L_27 : Cond.methodLink R_L 27 y_L_refuseBeyondLimits ∈ gw := gw_in (List.mem_append_right _ (show _ ∈ tables_1 from List.mem_append_left _ (List.mem_of_getElem? (i := 150) rfl))) rfl
theorem mi_L_refuseBeyondLimits : Cond.instanceMethod y_L_refuseBeyondLimits ∈ gw := gw_in (List.mem_append_right _ (show _ ∈ tables_1 from List.mem_append_left _ (List.mem_of_getElem? (i := 152) rfl))) rfl
theorem mc_L_150 : Cond.classLink R_L 150 "java/lang/IllegalStateException" ∈ gw := gw_in (List.mem_append_right _ (show _ ∈ tables_1 from List.mem_append_left _ (List.mem_of_getElem? (i := 154) rfl))) rfl
theorem mt_IllegalStateException : Cond.instantiable "java/lang/IllegalStateException" 6 ∈ gw := gw_in (List.mem_append_right _ (show _ ∈ tables_1 from List.mem_append_left _ (List.mem_of_getElem? (i := 155) rfl))) rfl
theorem mm_L_154 : Cond.methodLink R_L 154 ⟨"java/lang/IllegalStateException", "<init>", "(Ljava/lang/String;)V"⟩ ∈ gw := gw_in (List.mem_append_right _ (show _ ∈ tables_1 from List.mem_append_left _ (List.mem_of_getElem? (i := 164) rfl))) rfl
theorem mc_L_31 : Cond.classLink R_L 31 "LastingShapes$Version" ∈ gw := gw_in (List.mem_append_right _ (show _ ∈ tables_1 from List.mem_append_left _ (List.mem_of_getElem? (i := 171) rfl))) rfl
theorem mt_V : Cond.instantiable "LastingShapes$Version" 4 ∈ gw := gw_in (List.mem_append_right _ (show _ ∈ tables_1 from List.mem_append_left _ (List.mem_of_getElem? (i := 172) rfl))) rfl
theorem mi_V_init : Cond.instanceMethod y_V_init ∈ gw := gw_in (List.mem_append_right _ (show _ ∈ tables_1 from List.mem_append_left _ (List.mem_of_getElem? (i := 174) rfl))) rfl
theorem mm_V_1 : Cond.methodLink R_V 1 y_OJ_init ∈ gw := gw_in (List.mem_append_right _ (show _ ∈ tables_1 from List.mem_append_left _ (List.mem_of_getElem? (i := 176) rfl))) rfl
theorem mf_V_7 : Cond.fieldLink R_V 7 "LastingShapes$Version" "kind" "I" ∈ gw := gw_in (List.mem_append_right _ (show _ ∈ tables_1 from List.mem_append_left _ (List.mem_of_getElem? (i := 177) rfl))) rfl
theorem mf_V_13 : Cond.fieldLink R_V 13 "LastingShapes$Version" "form" "I" ∈ gw := gw_in (List.mem_append_right _ (show _ ∈ tables_1 from List.mem_append_left _ (List.mem_of_getElem? (i := 179) rfl))) rfl
theorem mf_V_16 : Cond.fieldLink R_V 16 "LastingShapes$Version" "elements" "[I" ∈ gw := gw_in (List.mem_append_right _ (show _ ∈ tables_1 from List.mem_append_left _ (List.mem_of_getElem? (i := 181) rfl))) rfl
theorem mf_V_20 : Cond.fieldLink R_V 20 "LastingShapes$Version" "keys" "[I" ∈ gw := gw_in (List.mem_append_right _ (show _ ∈ tables_1 from List.mem_append_left _ (List.mem_of_getElem? (i := 183) rfl))) rfl
theorem ml_V_0 : u_lay R_V T_V 0 ∈ gw := gw_in (List.mem_append_right _ (show _ ∈ tables_1 from List.mem_append_left _ (List.mem_of_getElem? (i := 185) rfl))) rfl
theorem ml_V_1 : u_lay R_V T_V 1 ∈ gw := gw_in (List.mem_append_right _ (show _ ∈ tables_1 from List.mem_append_left _ (List.mem_of_getElem? (i := 187) rfl))) rfl
theorem ml_V_2 : u_lay R_V T_V 2 ∈ gw := gw_in (List.mem_append_right _ (show _ ∈ tables_1 from List.mem_append_left _ (List.mem_of_getElem? (i := 189) rfl))) rfl
theorem ml_V_3 : u_lay R_V T_V 3 ∈ gw := gw_in (List.mem_append_right _ (show _ ∈ tables_1 from List.mem_append_left _ (List.mem_of_getElem? (i := 191) rfl))) rfl
theorem ma_int : Cond.arrayClass .int ∈ gw := gw_in (List.mem_append_right _ (show _ ∈ tables_1 from List.mem_append_left _ (List.mem_of_getElem? (i := 194) rfl))) rfl
theorem mm_L_36 : Cond.methodLink R_L 36 y_L_keep ∈ gw := gw_in (List.mem_append_right _ (show _ ∈ tables_1 from List.mem_append_left _ (List.mem_of_getElem? (i := 195) rfl))) rfl
theorem mi_L_keep : Cond.instanceMethod y_L_keep ∈ gw := gw_in (List.mem_append_right _ (show _ ∈ tables_1 from List.mem_append_left _ (List.mem_of_getElem? (i := 197) rfl))) rfl
theorem mm_L_157 : Cond.methodLink R_L 157 y_AL_add ∈ gw := gw_in (List.mem_append_right _ (show _ ∈ tables_1 from List.mem_append_left _ (List.mem_of_getElem? (i := 199) rfl))) rfl
theorem mi_AL_add : Cond.instanceMethod y_AL_add ∈ gw := gw_in (List.mem_append_right _ (show _ ∈ tables_1 from List.mem_append_left _ (List.mem_of_getElem? (i := 200) rfl))) rfl
theorem mq_AL_add : Cond.selects "java/util/ArrayList" y_AL_add y_AL_add ∈ gw := gw_in (List.mem_append_right _ (show _ ∈ tables_1 from List.mem_append_left _ (List.mem_of_getElem? (i := 201) rfl))) rfl
theorem mm_AL_131 : Cond.methodLink R_AL 131 y_AL_add3 ∈ gw := gw_in (List.mem_append_right _ (show _ ∈ tables_1 from List.mem_append_left _ (List.mem_of_getElem? (i := 203) rfl))) rfl
theorem mi_AL_add3 : Cond.instanceMethod y_AL_add3 ∈ gw := gw_in (List.mem_append_right _ (show _ ∈ tables_1 from List.mem_append_left _ (List.mem_of_getElem? (i := 205) rfl))) rfl
theorem mm_AL_129 : Cond.methodLink R_AL 129 y_AL_grow ∈ gw := gw_in (List.mem_append_right _ (show _ ∈ tables_1 from List.mem_append_left _ (List.mem_of_getElem? (i := 207) rfl))) rfl
theorem mi_AL_grow : Cond.instanceMethod y_AL_grow ∈ gw := gw_in (List.mem_append_right _ (show _ ∈ tables_1 from List.mem_append_left _ (List.mem_of_getElem? (i := 209) rfl))) rfl
theorem mm_AL_69 : Cond.methodLink R_AL 69 y_AL_growI ∈ gw := gw_in (List.mem_append_right _ (show _ ∈ tables_1 from List.mem_append_left _ (List.mem_of_getElem? (i := 211) rfl))) rfl
theorem mi_AL_growI : Cond.instanceMethod y_AL_growI ∈ gw := gw_in (List.mem_append_right _ (show _ ∈ tables_1 from List.mem_append_left _ (List.mem_of_getElem? (i := 213) rfl))) rfl
theorem mm_AL_73 : Cond.methodLink R_AL 73 y_AS_newLength ∈ gw := gw_in (List.mem_append_right _ (show _ ∈ tables_1 from List.mem_append_left _ (List.mem_of_getElem? (i := 215) rfl))) rfl
theorem ms_AS_newLength : Cond.static y_AS_newLength ∈ gw := gw_in (List.mem_append_right _ (show _ ∈ tables_1 from List.mem_append_left _ (List.mem_of_getElem? (i := 216) rfl))) rfl
theorem mm_AS_194 : Cond.methodLink R_AS 194 y_MT_max ∈ gw := gw_in (List.mem_append_right _ (show _ ∈ tables_1 from List.mem_append_left _ (List.mem_of_getElem? (i := 218) rfl))) rfl
theorem ms_MT_max : Cond.static y_MT_max ∈ gw := gw_in (List.mem_append_right _ (show _ ∈ tables_1 from List.mem_append_left _ (List.mem_of_getElem? (i := 219) rfl))) rfl
theorem mx_AS_200 : Cond.constant R_AS 200 2147483639 ∈ gw := gw_in (List.mem_append_right _ (show _ ∈ tables_1 from List.mem_append_left _ (List.mem_of_getElem? (i := 221) rfl))) rfl
theorem mm_AS_201 : Cond.methodLink R_AS 201 y_AS_hugeLength ∈ gw := gw_in (List.mem_append_right _ (show _ ∈ tables_1 from List.mem_append_left _ (List.mem_of_getElem? (i := 222) rfl))) rfl
theorem ms_AS_hugeLength : Cond.static y_AS_hugeLength ∈ gw := gw_in (List.mem_append_right _ (show _ ∈ tables_1 from List.mem_append_left _ (List.mem_of_getElem? (i := 223) rfl))) rfl
theorem mm_AL_66 : Cond.methodLink R_AL 66 y_AR_copyOf2 ∈ gw := gw_in (List.mem_append_right _ (show _ ∈ tables_1 from List.mem_append_left _ (List.mem_of_getElem? (i := 225) rfl))) rfl
theorem ms_AR_copyOf2 : Cond.static y_AR_copyOf2 ∈ gw := gw_in (List.mem_append_right _ (show _ ∈ tables_1 from List.mem_append_left _ (List.mem_of_getElem? (i := 226) rfl))) rfl
theorem mm_AR_86 : Cond.methodLink R_AR 86 ⟨"java/lang/Object", "getClass", "()Ljava/lang/Class;"⟩ ∈ gw := gw_in (List.mem_append_right _ (show _ ∈ tables_1 from List.mem_append_left _ (List.mem_of_getElem? (i := 228) rfl))) rfl
theorem mi_OJ_getClass : Cond.instanceMethod ⟨"java/lang/Object", "getClass", "()Ljava/lang/Class;"⟩ ∈ gw := gw_in (List.mem_append_right _ (show _ ∈ tables_1 from List.mem_append_left _ (List.mem_of_getElem? (i := 229) rfl))) rfl
theorem mo_OJ_getClass : Cond.sameMethod "java/lang/Object" "java/lang/Object" "getClass" "()Ljava/lang/Class;" ∈ gw := gw_in (List.mem_append_right _ (show _ ∈ tables_1 from List.mem_append_left _ (List.mem_of_getElem? (i := 230) rfl))) rfl
theorem mq_OJ_getClass_x : Cond.selects "LastingShapes" ⟨"java/lang/Object", "getClass", "()Ljava/lang/Class;"⟩ ⟨"java/lang/Object", "getClass", "()Ljava/lang/Class;"⟩ ∈ gw := gw_in (List.mem_append_right _ (show _ ∈ tables_1 from List.mem_append_left _ (List.mem_of_getElem? (i := 231) rfl))) rfl
theorem mv_OJ_getClass : Cond.native ⟨"java/lang/Object", "getClass", "()Ljava/lang/Class;"⟩ ∈ gw := gw_in (List.mem_append_right _ (show _ ∈ tables_1 from List.mem_append_left _ (List.mem_of_getElem? (i := 239) rfl))) rfl
theorem mm_AR_300 : Cond.methodLink R_AR 300 y_AR_copyOf3 ∈ gw := gw_in (List.mem_append_right _ (show _ ∈ tables_1 from List.mem_append_right _ (List.mem_append_left _ (List.mem_of_getElem? (i := 0) rfl)))) rfl
theorem ms_AR_copyOf3 : Cond.static y_AR_copyOf3 ∈ gw := gw_in (List.mem_append_right _ (show _ ∈ tables_1 from List.mem_append_right _ (List.mem_append_left _ (List.mem_of_getElem? (i := 1) rfl)))) rfl
theorem mc_AR_110 : Cond.classLink R_AR 110 "[Ljava/lang/Object;" ∈ gw := gw_in (List.mem_append_right _ (show _ ∈ tables_1 from List.mem_append_right _ (List.mem_append_left _ (List.mem_of_getElem? (i := 3) rfl)))) rfl
theorem mc_AR_2 : Cond.classLink R_AR 2 "java/lang/Object" ∈ gw := gw_in (List.mem_append_right _ (show _ ∈ tables_1 from List.mem_append_right _ (List.mem_append_left _ (List.mem_of_getElem? (i := 5) rfl)))) rfl
theorem mm_AR_304 : Cond.methodLink R_AR 304 y_MT_min ∈ gw := gw_in (List.mem_append_right _ (show _ ∈ tables_1 from List.mem_append_right _ (List.mem_append_left _ (List.mem_of_getElem? (i := 6) rfl)))) rfl
theorem ms_MT_min : Cond.static y_MT_min ∈ gw := gw_in (List.mem_append_right _ (show _ ∈ tables_1 from List.mem_append_right _ (List.mem_append_left _ (List.mem_of_getElem? (i := 7) rfl)))) rfl
theorem mm_AR_150 : Cond.methodLink R_AR 150 ⟨"java/lang/System", "arraycopy", "(Ljava/lang/Object;ILjava/lang/Object;II)V"⟩ ∈ gw := gw_in (List.mem_append_right _ (show _ ∈ tables_1 from List.mem_append_right _ (List.mem_append_left _ (List.mem_of_getElem? (i := 9) rfl)))) rfl
theorem ms_SY_arraycopy : Cond.static ⟨"java/lang/System", "arraycopy", "(Ljava/lang/Object;ILjava/lang/Object;II)V"⟩ ∈ gw := gw_in (List.mem_append_right _ (show _ ∈ tables_1 from List.mem_append_right _ (List.mem_append_left _ (List.mem_of_getElem? (i := 10) rfl)))) rfl
theorem mv_SY_arraycopy : Cond.native ⟨"java/lang/System", "arraycopy", "(Ljava/lang/Object;ILjava/lang/Object;II)V"⟩ ∈ gw := gw_in (List.mem_append_right _ (show _ ∈ tables_1 from List.mem_append_right _ (List.mem_append_left _ (List.mem_of_getElem? (i := 11) rfl)))) rfl
theorem mm_AL_79 : Cond.methodLink R_AL 79 y_MT_max ∈ gw := gw_in (List.mem_append_right _ (show _ ∈ tables_1 from List.mem_append_right _ (List.mem_append_left _ (List.mem_of_getElem? (i := 12) rfl)))) rfl
theorem mc_AL_7 : Cond.classLink R_AL 7 "java/lang/Object" ∈ gw := gw_in (List.mem_append_right _ (show _ ∈ tables_1 from List.mem_append_right _ (List.mem_append_left _ (List.mem_of_getElem? (i := 13) rfl)))) rfl
theorem mm_W_70 : Cond.methodLink R_W 70 y_W_add ∈ gw := gw_in (List.mem_append_right _ (show _ ∈ tables_1 from List.mem_append_right _ (List.mem_append_left _ (List.mem_of_getElem? (i := 14) rfl)))) rfl
theorem ms_W_add : Cond.static y_W_add ∈ gw := gw_in (List.mem_append_right _ (show _ ∈ tables_1 from List.mem_append_right _ (List.mem_append_left _ (List.mem_of_getElem? (i := 15) rfl)))) rfl
theorem mm_W_17 : Cond.methodLink R_W 17 y_L_add ∈ gw := gw_in (List.mem_append_right _ (show _ ∈ tables_1 from List.mem_append_right _ (List.mem_append_left _ (List.mem_of_getElem? (i := 17) rfl)))) rfl
theorem mi_L_add : Cond.instanceMethod y_L_add ∈ gw := gw_in (List.mem_append_right _ (show _ ∈ tables_1 from List.mem_append_right _ (List.mem_append_left _ (List.mem_of_getElem? (i := 18) rfl)))) rfl
theorem mq_L_add : Cond.selects "LastingShapes" y_L_add y_L_add ∈ gw := gw_in (List.mem_append_right _ (show _ ∈ tables_1 from List.mem_append_right _ (List.mem_append_left _ (List.mem_of_getElem? (i := 19) rfl)))) rfl
theorem mm_L_40 : Cond.methodLink R_L 40 y_L_foundButNoMap ∈ gw := gw_in (List.mem_append_right _ (show _ ∈ tables_1 from List.mem_append_right _ (List.mem_append_left _ (List.mem_of_getElem? (i := 21) rfl)))) rfl
theorem mi_L_foundButNoMap : Cond.instanceMethod y_L_foundButNoMap ∈ gw := gw_in (List.mem_append_right _ (show _ ∈ tables_1 from List.mem_append_right _ (List.mem_append_left _ (List.mem_of_getElem? (i := 23) rfl)))) rfl
theorem mm_L_69 : Cond.methodLink R_L 69 y_L_found ∈ gw := gw_in (List.mem_append_right _ (show _ ∈ tables_1 from List.mem_append_right _ (List.mem_append_left _ (List.mem_of_getElem? (i := 25) rfl)))) rfl
theorem mi_L_found : Cond.instanceMethod y_L_found ∈ gw := gw_in (List.mem_append_right _ (show _ ∈ tables_1 from List.mem_append_right _ (List.mem_append_left _ (List.mem_of_getElem? (i := 27) rfl)))) rfl
theorem mm_L_142 : Cond.methodLink R_L 142 y_AL_get ∈ gw := gw_in (List.mem_append_right _ (show _ ∈ tables_1 from List.mem_append_right _ (List.mem_append_left _ (List.mem_of_getElem? (i := 30) rfl)))) rfl
theorem mi_AL_get : Cond.instanceMethod y_AL_get ∈ gw := gw_in (List.mem_append_right _ (show _ ∈ tables_1 from List.mem_append_right _ (List.mem_append_left _ (List.mem_of_getElem? (i := 31) rfl)))) rfl
theorem mq_AL_get : Cond.selects "java/util/ArrayList" y_AL_get y_AL_get ∈ gw := gw_in (List.mem_append_right _ (show _ ∈ tables_1 from List.mem_append_right _ (List.mem_append_left _ (List.mem_of_getElem? (i := 32) rfl)))) rfl
theorem mm_AL_118 : Cond.methodLink R_AL 118 y_OB_checkIndex ∈ gw := gw_in (List.mem_append_right _ (show _ ∈ tables_1 from List.mem_append_right _ (List.mem_append_left _ (List.mem_of_getElem? (i := 34) rfl)))) rfl
theorem ms_OB_checkIndex : Cond.static y_OB_checkIndex ∈ gw := gw_in (List.mem_append_right _ (show _ ∈ tables_1 from List.mem_append_right _ (List.mem_append_left _ (List.mem_of_getElem? (i := 35) rfl)))) rfl
theorem mm_OB_105 : Cond.methodLink R_OB 105 y_PC_checkIndex ∈ gw := gw_in (List.mem_append_right _ (show _ ∈ tables_1 from List.mem_append_right _ (List.mem_append_left _ (List.mem_of_getElem? (i := 37) rfl)))) rfl
theorem ms_PC_checkIndex : Cond.static y_PC_checkIndex ∈ gw := gw_in (List.mem_append_right _ (show _ ∈ tables_1 from List.mem_append_right _ (List.mem_append_left _ (List.mem_of_getElem? (i := 38) rfl)))) rfl
theorem mm_AL_123 : Cond.methodLink R_AL 123 y_AL_elementData ∈ gw := gw_in (List.mem_append_right _ (show _ ∈ tables_1 from List.mem_append_right _ (List.mem_append_left _ (List.mem_of_getElem? (i := 40) rfl)))) rfl
theorem mi_AL_elementData : Cond.instanceMethod y_AL_elementData ∈ gw := gw_in (List.mem_append_right _ (show _ ∈ tables_1 from List.mem_append_right _ (List.mem_append_left _ (List.mem_of_getElem? (i := 41) rfl)))) rfl
theorem mq_AL_elementData : Cond.selects "java/util/ArrayList" y_AL_elementData y_AL_elementData ∈ gw := gw_in (List.mem_append_right _ (show _ ∈ tables_1 from List.mem_append_right _ (List.mem_append_left _ (List.mem_of_getElem? (i := 42) rfl)))) rfl
theorem mm_L_48 : Cond.methodLink R_L 48 y_L_placeToAdd ∈ gw := gw_in (List.mem_append_right _ (show _ ∈ tables_1 from List.mem_append_right _ (List.mem_append_left _ (List.mem_of_getElem? (i := 45) rfl)))) rfl
theorem ms_L_placeToAdd : Cond.static y_L_placeToAdd ∈ gw := gw_in (List.mem_append_right _ (show _ ∈ tables_1 from List.mem_append_right _ (List.mem_append_left _ (List.mem_of_getElem? (i := 46) rfl)))) rfl
theorem mm_L_98 : Cond.methodLink R_L 98 y_L_countBelow ∈ gw := gw_in (List.mem_append_right _ (show _ ∈ tables_1 from List.mem_append_right _ (List.mem_append_left _ (List.mem_of_getElem? (i := 48) rfl)))) rfl
theorem ms_L_countBelow : Cond.static y_L_countBelow ∈ gw := gw_in (List.mem_append_right _ (show _ ∈ tables_1 from List.mem_append_right _ (List.mem_append_left _ (List.mem_of_getElem? (i := 49) rfl)))) rfl
theorem mm_L_52 : Cond.methodLink R_L 52 y_L_inserted ∈ gw := gw_in (List.mem_append_right _ (show _ ∈ tables_1 from List.mem_append_right _ (List.mem_append_left _ (List.mem_of_getElem? (i := 51) rfl)))) rfl
theorem ms_L_inserted : Cond.static y_L_inserted ∈ gw := gw_in (List.mem_append_right _ (show _ ∈ tables_1 from List.mem_append_right _ (List.mem_append_left _ (List.mem_of_getElem? (i := 52) rfl)))) rfl
theorem mm_L_171 : Cond.methodLink R_L 171 ⟨"java/lang/System", "arraycopy", "(Ljava/lang/Object;ILjava/lang/Object;II)V"⟩ ∈ gw := gw_in (List.mem_append_right _ (show _ ∈ tables_1 from List.mem_append_right _ (List.mem_append_left _ (List.mem_of_getElem? (i := 54) rfl)))) rfl
theorem mi_V_with : Cond.instanceMethod y_V_with ∈ gw := gw_in (List.mem_append_right _ (show _ ∈ tables_1 from List.mem_append_right _ (List.mem_append_left _ (List.mem_of_getElem? (i := 57) rfl)))) rfl
theorem mc_V_8 : Cond.classLink R_V 8 "LastingShapes$Version" ∈ gw := gw_in (List.mem_append_right _ (show _ ∈ tables_1 from List.mem_append_right _ (List.mem_append_left _ (List.mem_of_getElem? (i := 59) rfl)))) rfl
theorem mm_V_23 : Cond.methodLink R_V 23 y_V_init ∈ gw := gw_in (List.mem_append_right _ (show _ ∈ tables_1 from List.mem_append_right _ (List.mem_append_left _ (List.mem_of_getElem? (i := 60) rfl)))) rfl
theorem mm_W_73 : Cond.methodLink R_W 73 y_W_first ∈ gw := gw_in (List.mem_append_right _ (show _ ∈ tables_1 from List.mem_append_right _ (List.mem_append_left _ (List.mem_of_getElem? (i := 61) rfl)))) rfl
theorem ms_W_first : Cond.static y_W_first ∈ gw := gw_in (List.mem_append_right _ (show _ ∈ tables_1 from List.mem_append_right _ (List.mem_append_left _ (List.mem_of_getElem? (i := 62) rfl)))) rfl
theorem mc_W_24 : Cond.classLink R_W 24 "java/util/NoSuchElementException" ∈ gw := gw_in (List.mem_append_right _ (show _ ∈ tables_1 from List.mem_append_right _ (List.mem_append_left _ (List.mem_of_getElem? (i := 64) rfl)))) rfl
theorem mm_W_20 : Cond.methodLink R_W 20 y_L_first ∈ gw := gw_in (List.mem_append_right _ (show _ ∈ tables_1 from List.mem_append_right _ (List.mem_append_left _ (List.mem_of_getElem? (i := 65) rfl)))) rfl
theorem mi_L_first : Cond.instanceMethod y_L_first ∈ gw := gw_in (List.mem_append_right _ (show _ ∈ tables_1 from List.mem_append_right _ (List.mem_append_left _ (List.mem_of_getElem? (i := 66) rfl)))) rfl
theorem mq_L_first : Cond.selects "LastingShapes" y_L_first y_L_first ∈ gw := gw_in (List.mem_append_right _ (show _ ∈ tables_1 from List.mem_append_right _ (List.mem_append_left _ (List.mem_of_getElem? (i := 67) rfl)))) rfl
theorem mm_L_60 : Cond.methodLink R_L 60 y_L_refuseWithoutElements ∈ gw := gw_in (List.mem_append_right _ (show _ ∈ tables_1 from List.mem_append_right _ (List.mem_append_left _ (List.mem_of_getElem? (i := 69) rfl)))) rfl
theorem ms_L_refuseWithoutElements : Cond.static y_L_refuseWithoutElements ∈ gw := gw_in (List.mem_append_right _ (show _ ∈ tables_1 from List.mem_append_right _ (List.mem_append_left _ (List.mem_of_getElem? (i := 70) rfl)))) rfl
theorem mc_L_112 : Cond.classLink R_L 112 "java/util/NoSuchElementException" ∈ gw := gw_in (List.mem_append_right _ (show _ ∈ tables_1 from List.mem_append_right _ (List.mem_append_left _ (List.mem_of_getElem? (i := 72) rfl)))) rfl
theorem mt_NoSuchElementException : Cond.instantiable "java/util/NoSuchElementException" 6 ∈ gw := gw_in (List.mem_append_right _ (show _ ∈ tables_1 from List.mem_append_right _ (List.mem_append_left _ (List.mem_of_getElem? (i := 73) rfl)))) rfl
theorem mm_L_116 : Cond.methodLink R_L 116 ⟨"java/util/NoSuchElementException", "<init>", "(Ljava/lang/String;)V"⟩ ∈ gw := gw_in (List.mem_append_right _ (show _ ∈ tables_1 from List.mem_append_right _ (List.mem_append_left _ (List.mem_of_getElem? (i := 82) rfl)))) rfl
theorem mm_W_77 : Cond.methodLink R_W 77 y_W_rest ∈ gw := gw_in (List.mem_append_right _ (show _ ∈ tables_1 from List.mem_append_right _ (List.mem_append_left _ (List.mem_of_getElem? (i := 88) rfl)))) rfl
theorem ms_W_rest : Cond.static y_W_rest ∈ gw := gw_in (List.mem_append_right _ (show _ ∈ tables_1 from List.mem_append_right _ (List.mem_append_left _ (List.mem_of_getElem? (i := 89) rfl)))) rfl
theorem mm_W_26 : Cond.methodLink R_W 26 y_L_rest ∈ gw := gw_in (List.mem_append_right _ (show _ ∈ tables_1 from List.mem_append_right _ (List.mem_append_left _ (List.mem_of_getElem? (i := 91) rfl)))) rfl
theorem mi_L_rest : Cond.instanceMethod y_L_rest ∈ gw := gw_in (List.mem_append_right _ (show _ ∈ tables_1 from List.mem_append_right _ (List.mem_append_left _ (List.mem_of_getElem? (i := 92) rfl)))) rfl
theorem mq_L_rest : Cond.selects "LastingShapes" y_L_rest y_L_rest ∈ gw := gw_in (List.mem_append_right _ (show _ ∈ tables_1 from List.mem_append_right _ (List.mem_append_left _ (List.mem_of_getElem? (i := 93) rfl)))) rfl
theorem mm_L_64 : Cond.methodLink R_L 64 y_AR_copyOfRange ∈ gw := gw_in (List.mem_append_right _ (show _ ∈ tables_1 from List.mem_append_right _ (List.mem_append_left _ (List.mem_of_getElem? (i := 95) rfl)))) rfl
theorem ms_AR_copyOfRange : Cond.static y_AR_copyOfRange ∈ gw := gw_in (List.mem_append_right _ (show _ ∈ tables_1 from List.mem_append_right _ (List.mem_append_left _ (List.mem_of_getElem? (i := 96) rfl)))) rfl
theorem mm_AR_351 : Cond.methodLink R_AR 351 y_AR_copyOfRangeInt ∈ gw := gw_in (List.mem_append_right _ (show _ ∈ tables_1 from List.mem_append_right _ (List.mem_append_left _ (List.mem_of_getElem? (i := 98) rfl)))) rfl
theorem ms_AR_copyOfRangeInt : Cond.static y_AR_copyOfRangeInt ∈ gw := gw_in (List.mem_append_right _ (show _ ∈ tables_1 from List.mem_append_right _ (List.mem_append_left _ (List.mem_of_getElem? (i := 99) rfl)))) rfl
theorem mm_AR_343 : Cond.methodLink R_AR 343 y_AR_checkLength ∈ gw := gw_in (List.mem_append_right _ (show _ ∈ tables_1 from List.mem_append_right _ (List.mem_append_left _ (List.mem_of_getElem? (i := 101) rfl)))) rfl
theorem ms_AR_checkLength : Cond.static y_AR_checkLength ∈ gw := gw_in (List.mem_append_right _ (show _ ∈ tables_1 from List.mem_append_right _ (List.mem_append_left _ (List.mem_of_getElem? (i := 102) rfl)))) rfl
theorem mm_AR_316 : Cond.methodLink R_AR 316 ⟨"[I", "clone", "()Ljava/lang/Object;"⟩ ∈ gw := gw_in (List.mem_append_right _ (show _ ∈ tables_1 from List.mem_append_right _ (List.mem_append_left _ (List.mem_of_getElem? (i := 104) rfl)))) rfl
theorem mo_A_clone : Cond.sameMethod "[I" "java/lang/Object" "clone" "()Ljava/lang/Object;" ∈ gw := gw_in (List.mem_append_right _ (show _ ∈ tables_1 from List.mem_append_right _ (List.mem_append_left _ (List.mem_of_getElem? (i := 105) rfl)))) rfl
theorem mv_OJ_clone : Cond.native ⟨"java/lang/Object", "clone", "()Ljava/lang/Object;"⟩ ∈ gw := gw_in (List.mem_append_right _ (show _ ∈ tables_1 from List.mem_append_right _ (List.mem_append_left _ (List.mem_of_getElem? (i := 106) rfl)))) rfl
theorem mi_OJ_clone : Cond.instanceMethod ⟨"java/lang/Object", "clone", "()Ljava/lang/Object;"⟩ ∈ gw := gw_in (List.mem_append_right _ (show _ ∈ tables_1 from List.mem_append_right _ (List.mem_append_left _ (List.mem_of_getElem? (i := 107) rfl)))) rfl
theorem mq_OJ_clone_y : Cond.selects "[I" ⟨"[I", "clone", "()Ljava/lang/Object;"⟩ ⟨"java/lang/Object", "clone", "()Ljava/lang/Object;"⟩ ∈ gw := gw_in (List.mem_append_right _ (show _ ∈ tables_1 from List.mem_append_right _ (List.mem_append_left _ (List.mem_of_getElem? (i := 108) rfl)))) rfl
theorem mc_AR_317 : Cond.classLink R_AR 317 "[I" ∈ gw := gw_in (List.mem_append_right _ (show _ ∈ tables_1 from List.mem_append_right _ (List.mem_append_left _ (List.mem_of_getElem? (i := 110) rfl)))) rfl
theorem mm_W_80 : Cond.methodLink R_W 80 y_W_join ∈ gw := gw_in (List.mem_append_right _ (show _ ∈ tables_1 from List.mem_append_right _ (List.mem_append_left _ (List.mem_of_getElem? (i := 111) rfl)))) rfl
theorem ms_W_join : Cond.static y_W_join ∈ gw := gw_in (List.mem_append_right _ (show _ ∈ tables_1 from List.mem_append_right _ (List.mem_append_left _ (List.mem_of_getElem? (i := 112) rfl)))) rfl
theorem mm_W_29 : Cond.methodLink R_W 29 y_L_join ∈ gw := gw_in (List.mem_append_right _ (show _ ∈ tables_1 from List.mem_append_right _ (List.mem_append_left _ (List.mem_of_getElem? (i := 114) rfl)))) rfl
theorem mi_L_join : Cond.instanceMethod y_L_join ∈ gw := gw_in (List.mem_append_right _ (show _ ∈ tables_1 from List.mem_append_right _ (List.mem_append_left _ (List.mem_of_getElem? (i := 115) rfl)))) rfl
theorem mq_L_join : Cond.selects "LastingShapes" y_L_join y_L_join ∈ gw := gw_in (List.mem_append_right _ (show _ ∈ tables_1 from List.mem_append_right _ (List.mem_append_left _ (List.mem_of_getElem? (i := 116) rfl)))) rfl
theorem mm_L_72 : Cond.methodLink R_L 72 y_L_canBeJoined ∈ gw := gw_in (List.mem_append_right _ (show _ ∈ tables_1 from List.mem_append_right _ (List.mem_append_left _ (List.mem_of_getElem? (i := 118) rfl)))) rfl
theorem ms_L_canBeJoined : Cond.static y_L_canBeJoined ∈ gw := gw_in (List.mem_append_right _ (show _ ∈ tables_1 from List.mem_append_right _ (List.mem_append_left _ (List.mem_of_getElem? (i := 119) rfl)))) rfl
theorem mm_L_82 : Cond.methodLink R_L 82 y_L_merged ∈ gw := gw_in (List.mem_append_right _ (show _ ∈ tables_1 from List.mem_append_right _ (List.mem_append_left _ (List.mem_of_getElem? (i := 122) rfl)))) rfl
theorem ms_L_merged : Cond.static y_L_merged ∈ gw := gw_in (List.mem_append_right _ (show _ ∈ tables_1 from List.mem_append_right _ (List.mem_append_left _ (List.mem_of_getElem? (i := 123) rfl)))) rfl
theorem mm_L_86 : Cond.methodLink R_L 86 y_L_appended ∈ gw := gw_in (List.mem_append_right _ (show _ ∈ tables_1 from List.mem_append_right _ (List.mem_append_left _ (List.mem_of_getElem? (i := 125) rfl)))) rfl
theorem ms_L_appended : Cond.static y_L_appended ∈ gw := gw_in (List.mem_append_right _ (show _ ∈ tables_1 from List.mem_append_right _ (List.mem_append_left _ (List.mem_of_getElem? (i := 126) rfl)))) rfl
theorem mm_L_182 : Cond.methodLink R_L 182 y_AR_copyOfI ∈ gw := gw_in (List.mem_append_right _ (show _ ∈ tables_1 from List.mem_append_right _ (List.mem_append_left _ (List.mem_of_getElem? (i := 128) rfl)))) rfl
theorem ms_AR_copyOfI : Cond.static y_AR_copyOfI ∈ gw := gw_in (List.mem_append_right _ (show _ ∈ tables_1 from List.mem_append_right _ (List.mem_append_left _ (List.mem_of_getElem? (i := 129) rfl)))) rfl
theorem mm_W_83 : Cond.methodLink R_W 83 y_W_bind ∈ gw := gw_in (List.mem_append_right _ (show _ ∈ tables_1 from List.mem_append_right _ (List.mem_append_left _ (List.mem_of_getElem? (i := 131) rfl)))) rfl
theorem ms_W_bind : Cond.static y_W_bind ∈ gw := gw_in (List.mem_append_right _ (show _ ∈ tables_1 from List.mem_append_right _ (List.mem_append_left _ (List.mem_of_getElem? (i := 132) rfl)))) rfl
theorem mm_W_32 : Cond.methodLink R_W 32 y_L_bind ∈ gw := gw_in (List.mem_append_right _ (show _ ∈ tables_1 from List.mem_append_right _ (List.mem_append_left _ (List.mem_of_getElem? (i := 134) rfl)))) rfl
theorem mi_L_bind : Cond.instanceMethod y_L_bind ∈ gw := gw_in (List.mem_append_right _ (show _ ∈ tables_1 from List.mem_append_right _ (List.mem_append_left _ (List.mem_of_getElem? (i := 135) rfl)))) rfl
theorem mq_L_bind : Cond.selects "LastingShapes" y_L_bind y_L_bind ∈ gw := gw_in (List.mem_append_right _ (show _ ∈ tables_1 from List.mem_append_right _ (List.mem_append_left _ (List.mem_of_getElem? (i := 136) rfl)))) rfl
theorem mm_L_89 : Cond.methodLink R_L 89 y_L_foundOfKind ∈ gw := gw_in (List.mem_append_right _ (show _ ∈ tables_1 from List.mem_append_right _ (List.mem_append_left _ (List.mem_of_getElem? (i := 138) rfl)))) rfl
theorem mi_L_foundOfKind : Cond.instanceMethod y_L_foundOfKind ∈ gw := gw_in (List.mem_append_right _ (show _ ∈ tables_1 from List.mem_append_right _ (List.mem_append_left _ (List.mem_of_getElem? (i := 140) rfl)))) rfl
theorem mm_L_102 : Cond.methodLink R_L 102 y_L_hasAt ∈ gw := gw_in (List.mem_append_right _ (show _ ∈ tables_1 from List.mem_append_right _ (List.mem_append_left _ (List.mem_of_getElem? (i := 144) rfl)))) rfl
theorem ms_L_hasAt : Cond.static y_L_hasAt ∈ gw := gw_in (List.mem_append_right _ (show _ ∈ tables_1 from List.mem_append_right _ (List.mem_append_left _ (List.mem_of_getElem? (i := 145) rfl)))) rfl
theorem mm_L_106 : Cond.methodLink R_L 106 y_L_replaced ∈ gw := gw_in (List.mem_append_right _ (show _ ∈ tables_1 from List.mem_append_right _ (List.mem_append_left _ (List.mem_of_getElem? (i := 147) rfl)))) rfl
theorem ms_L_replaced : Cond.static y_L_replaced ∈ gw := gw_in (List.mem_append_right _ (show _ ∈ tables_1 from List.mem_append_right _ (List.mem_append_left _ (List.mem_of_getElem? (i := 148) rfl)))) rfl
theorem mm_L_177 : Cond.methodLink R_L 177 ⟨"[I", "clone", "()Ljava/lang/Object;"⟩ ∈ gw := gw_in (List.mem_append_right _ (show _ ∈ tables_1 from List.mem_append_right _ (List.mem_append_left _ (List.mem_of_getElem? (i := 150) rfl)))) rfl
theorem mc_L_178 : Cond.classLink R_L 178 "[I" ∈ gw := gw_in (List.mem_append_right _ (show _ ∈ tables_1 from List.mem_append_right _ (List.mem_append_left _ (List.mem_of_getElem? (i := 151) rfl)))) rfl
theorem mm_W_87 : Cond.methodLink R_W 87 y_W_value ∈ gw := gw_in (List.mem_append_right _ (show _ ∈ tables_1 from List.mem_append_right _ (List.mem_append_left _ (List.mem_of_getElem? (i := 152) rfl)))) rfl
theorem ms_W_value : Cond.static y_W_value ∈ gw := gw_in (List.mem_append_right _ (show _ ∈ tables_1 from List.mem_append_right _ (List.mem_append_left _ (List.mem_of_getElem? (i := 153) rfl)))) rfl
theorem mm_W_36 : Cond.methodLink R_W 36 y_L_value ∈ gw := gw_in (List.mem_append_right _ (show _ ∈ tables_1 from List.mem_append_right _ (List.mem_append_left _ (List.mem_of_getElem? (i := 155) rfl)))) rfl
theorem mi_L_value : Cond.instanceMethod y_L_value ∈ gw := gw_in (List.mem_append_right _ (show _ ∈ tables_1 from List.mem_append_right _ (List.mem_append_left _ (List.mem_of_getElem? (i := 156) rfl)))) rfl
theorem mq_L_value : Cond.selects "LastingShapes" y_L_value y_L_value ∈ gw := gw_in (List.mem_append_right _ (show _ ∈ tables_1 from List.mem_append_right _ (List.mem_append_left _ (List.mem_of_getElem? (i := 157) rfl)))) rfl
theorem mm_W_90 : Cond.methodLink R_W 90 y_W_update ∈ gw := gw_in (List.mem_append_right _ (show _ ∈ tables_1 from List.mem_append_right _ (List.mem_append_left _ (List.mem_of_getElem? (i := 160) rfl)))) rfl
theorem ms_W_update : Cond.static y_W_update ∈ gw := gw_in (List.mem_append_right _ (show _ ∈ tables_1 from List.mem_append_right _ (List.mem_append_left _ (List.mem_of_getElem? (i := 161) rfl)))) rfl
theorem mc_W_42 : Cond.classLink R_W 42 "java/lang/IndexOutOfBoundsException" ∈ gw := gw_in (List.mem_append_right _ (show _ ∈ tables_1 from List.mem_append_right _ (List.mem_append_left _ (List.mem_of_getElem? (i := 163) rfl)))) rfl
theorem mm_W_39 : Cond.methodLink R_W 39 y_L_update ∈ gw := gw_in (List.mem_append_right _ (show _ ∈ tables_1 from List.mem_append_right _ (List.mem_append_left _ (List.mem_of_getElem? (i := 164) rfl)))) rfl
theorem mi_L_update : Cond.instanceMethod y_L_update ∈ gw := gw_in (List.mem_append_right _ (show _ ∈ tables_1 from List.mem_append_right _ (List.mem_append_left _ (List.mem_of_getElem? (i := 165) rfl)))) rfl
theorem mq_L_update : Cond.selects "LastingShapes" y_L_update y_L_update ∈ gw := gw_in (List.mem_append_right _ (show _ ∈ tables_1 from List.mem_append_right _ (List.mem_append_left _ (List.mem_of_getElem? (i := 166) rfl)))) rfl
theorem mm_L_117 : Cond.methodLink R_L 117 y_L_refuseOutside ∈ gw := gw_in (List.mem_append_right _ (show _ ∈ tables_1 from List.mem_append_right _ (List.mem_append_left _ (List.mem_of_getElem? (i := 168) rfl)))) rfl
theorem ms_L_refuseOutside : Cond.static y_L_refuseOutside ∈ gw := gw_in (List.mem_append_right _ (show _ ∈ tables_1 from List.mem_append_right _ (List.mem_append_left _ (List.mem_of_getElem? (i := 169) rfl)))) rfl
theorem mc_L_163 : Cond.classLink R_L 163 "java/lang/IndexOutOfBoundsException" ∈ gw := gw_in (List.mem_append_right _ (show _ ∈ tables_1 from List.mem_append_right _ (List.mem_append_left _ (List.mem_of_getElem? (i := 171) rfl)))) rfl
theorem mt_IndexOutOfBoundsException : Cond.instantiable "java/lang/IndexOutOfBoundsException" 6 ∈ gw := gw_in (List.mem_append_right _ (show _ ∈ tables_1 from List.mem_append_right _ (List.mem_append_left _ (List.mem_of_getElem? (i := 172) rfl)))) rfl
theorem mm_L_167 : Cond.methodLink R_L 167 ⟨"java/lang/IndexOutOfBoundsException", "<init>", "(Ljava/lang/String;)V"⟩ ∈ gw := gw_in (List.mem_append_right _ (show _ ∈ tables_1 from List.mem_append_right _ (List.mem_append_left _ (List.mem_of_getElem? (i := 181) rfl)))) rfl
theorem mm_W_93 : Cond.methodLink R_W 93 y_W_at ∈ gw := gw_in (List.mem_append_right _ (show _ ∈ tables_1 from List.mem_append_right _ (List.mem_append_left _ (List.mem_of_getElem? (i := 187) rfl)))) rfl
theorem ms_W_at : Cond.static y_W_at ∈ gw := gw_in (List.mem_append_right _ (show _ ∈ tables_1 from List.mem_append_right _ (List.mem_append_left _ (List.mem_of_getElem? (i := 188) rfl)))) rfl
theorem mm_W_44 : Cond.methodLink R_W 44 y_L_at ∈ gw := gw_in (List.mem_append_right _ (show _ ∈ tables_1 from List.mem_append_right _ (List.mem_append_left _ (List.mem_of_getElem? (i := 190) rfl)))) rfl
theorem mi_L_at : Cond.instanceMethod y_L_at ∈ gw := gw_in (List.mem_append_right _ (show _ ∈ tables_1 from List.mem_append_right _ (List.mem_append_left _ (List.mem_of_getElem? (i := 191) rfl)))) rfl
theorem mq_L_at : Cond.selects "LastingShapes" y_L_at y_L_at ∈ gw := gw_in (List.mem_append_right _ (show _ ∈ tables_1 from List.mem_append_right _ (List.mem_append_left _ (List.mem_of_getElem? (i := 192) rfl)))) rfl
theorem mm_W_96 : Cond.methodLink R_W 96 y_W_size ∈ gw := gw_in (List.mem_append_right _ (show _ ∈ tables_1 from List.mem_append_right _ (List.mem_append_left _ (List.mem_of_getElem? (i := 194) rfl)))) rfl
theorem ms_W_size : Cond.static y_W_size ∈ gw := gw_in (List.mem_append_right _ (show _ ∈ tables_1 from List.mem_append_right _ (List.mem_append_left _ (List.mem_of_getElem? (i := 195) rfl)))) rfl
theorem mm_W_47 : Cond.methodLink R_W 47 y_L_size ∈ gw := gw_in (List.mem_append_right _ (show _ ∈ tables_1 from List.mem_append_right _ (List.mem_append_left _ (List.mem_of_getElem? (i := 197) rfl)))) rfl
theorem mi_L_size : Cond.instanceMethod y_L_size ∈ gw := gw_in (List.mem_append_right _ (show _ ∈ tables_1 from List.mem_append_right _ (List.mem_append_left _ (List.mem_of_getElem? (i := 198) rfl)))) rfl
theorem mq_L_size : Cond.selects "LastingShapes" y_L_size y_L_size ∈ gw := gw_in (List.mem_append_right _ (show _ ∈ tables_1 from List.mem_append_right _ (List.mem_append_left _ (List.mem_of_getElem? (i := 199) rfl)))) rfl
theorem mm_W_99 : Cond.methodLink R_W 99 y_W_parts ∈ gw := gw_in (List.mem_append_right _ (show _ ∈ tables_1 from List.mem_append_right _ (List.mem_append_left _ (List.mem_of_getElem? (i := 201) rfl)))) rfl
theorem ms_W_parts : Cond.static y_W_parts ∈ gw := gw_in (List.mem_append_right _ (show _ ∈ tables_1 from List.mem_append_right _ (List.mem_append_left _ (List.mem_of_getElem? (i := 202) rfl)))) rfl
theorem mm_W_50 : Cond.methodLink R_W 50 y_L_parts ∈ gw := gw_in (List.mem_append_right _ (show _ ∈ tables_1 from List.mem_append_right _ (List.mem_append_left _ (List.mem_of_getElem? (i := 204) rfl)))) rfl
theorem mi_L_parts : Cond.instanceMethod y_L_parts ∈ gw := gw_in (List.mem_append_right _ (show _ ∈ tables_1 from List.mem_append_right _ (List.mem_append_left _ (List.mem_of_getElem? (i := 205) rfl)))) rfl
theorem mq_L_parts : Cond.selects "LastingShapes" y_L_parts y_L_parts ∈ gw := gw_in (List.mem_append_right _ (show _ ∈ tables_1 from List.mem_append_right _ (List.mem_append_left _ (List.mem_of_getElem? (i := 206) rfl)))) rfl
theorem mm_L_121 : Cond.methodLink R_L 121 y_L_fewestTrees ∈ gw := gw_in (List.mem_append_right _ (show _ ∈ tables_1 from List.mem_append_right _ (List.mem_append_left _ (List.mem_of_getElem? (i := 208) rfl)))) rfl
theorem ms_L_fewestTrees : Cond.static y_L_fewestTrees ∈ gw := gw_in (List.mem_append_right _ (show _ ∈ tables_1 from List.mem_append_right _ (List.mem_append_left _ (List.mem_of_getElem? (i := 209) rfl)))) rfl
theorem mm_L_125 : Cond.methodLink R_L 125 y_IN_bitCount ∈ gw := gw_in (List.mem_append_right _ (show _ ∈ tables_1 from List.mem_append_right _ (List.mem_append_left _ (List.mem_of_getElem? (i := 211) rfl)))) rfl
theorem ms_IN_bitCount : Cond.static y_IN_bitCount ∈ gw := gw_in (List.mem_append_right _ (show _ ∈ tables_1 from List.mem_append_right _ (List.mem_append_left _ (List.mem_of_getElem? (i := 212) rfl)))) rfl
theorem mx_IN_265 : Cond.constant R_IN 265 1431655765 ∈ gw := gw_in (List.mem_append_right _ (show _ ∈ tables_1 from List.mem_append_right _ (List.mem_append_left _ (List.mem_of_getElem? (i := 214) rfl)))) rfl
theorem mx_IN_266 : Cond.constant R_IN 266 858993459 ∈ gw := gw_in (List.mem_append_right _ (show _ ∈ tables_1 from List.mem_append_right _ (List.mem_append_left _ (List.mem_of_getElem? (i := 215) rfl)))) rfl
theorem mx_IN_267 : Cond.constant R_IN 267 252645135 ∈ gw := gw_in (List.mem_append_right _ (show _ ∈ tables_1 from List.mem_append_right _ (List.mem_append_left _ (List.mem_of_getElem? (i := 216) rfl)))) rfl
theorem mm_L_130 : Cond.methodLink R_L 130 y_MT_min ∈ gw := gw_in (List.mem_append_right _ (show _ ∈ tables_1 from List.mem_append_right _ (List.mem_append_left _ (List.mem_of_getElem? (i := 217) rfl)))) rfl
theorem mm_W_102 : Cond.methodLink R_W 102 y_W_kind ∈ gw := gw_in (List.mem_append_right _ (show _ ∈ tables_1 from List.mem_append_right _ (List.mem_append_left _ (List.mem_of_getElem? (i := 218) rfl)))) rfl
theorem ms_W_kind : Cond.static y_W_kind ∈ gw := gw_in (List.mem_append_right _ (show _ ∈ tables_1 from List.mem_append_right _ (List.mem_append_left _ (List.mem_of_getElem? (i := 219) rfl)))) rfl
theorem mm_W_53 : Cond.methodLink R_W 53 y_L_kind ∈ gw := gw_in (List.mem_append_right _ (show _ ∈ tables_1 from List.mem_append_right _ (List.mem_append_left _ (List.mem_of_getElem? (i := 221) rfl)))) rfl
theorem mi_L_kind : Cond.instanceMethod y_L_kind ∈ gw := gw_in (List.mem_append_right _ (show _ ∈ tables_1 from List.mem_append_right _ (List.mem_append_left _ (List.mem_of_getElem? (i := 222) rfl)))) rfl
theorem mq_L_kind : Cond.selects "LastingShapes" y_L_kind y_L_kind ∈ gw := gw_in (List.mem_append_right _ (show _ ∈ tables_1 from List.mem_append_right _ (List.mem_append_left _ (List.mem_of_getElem? (i := 223) rfl)))) rfl
theorem mc_W_57 : Cond.classLink R_W 57 "LastingShapesModel" ∈ gw := gw_in (List.mem_append_right _ (show _ ∈ tables_1 from List.mem_append_right _ (List.mem_append_left _ (List.mem_of_getElem? (i := 225) rfl)))) rfl
theorem mt_M : Cond.instantiable "LastingShapesModel" 8 ∈ gw := gw_in (List.mem_append_right _ (show _ ∈ tables_1 from List.mem_append_right _ (List.mem_append_left _ (List.mem_of_getElem? (i := 226) rfl)))) rfl
theorem mm_W_59 : Cond.methodLink R_W 59 y_M_init ∈ gw := gw_in (List.mem_append_right _ (show _ ∈ tables_1 from List.mem_append_right _ (List.mem_append_left _ (List.mem_of_getElem? (i := 227) rfl)))) rfl
theorem mi_M_init : Cond.instanceMethod y_M_init ∈ gw := gw_in (List.mem_append_right _ (show _ ∈ tables_1 from List.mem_append_right _ (List.mem_append_left _ (List.mem_of_getElem? (i := 228) rfl)))) rfl
theorem mm_M_1 : Cond.methodLink R_M 1 y_OJ_init ∈ gw := gw_in (List.mem_append_right _ (show _ ∈ tables_1 from List.mem_append_right _ (List.mem_append_left _ (List.mem_of_getElem? (i := 230) rfl)))) rfl
theorem mf_M_32 : Cond.fieldLink R_M 32 "LastingShapesModel" "versions" "I" ∈ gw := gw_in (List.mem_append_right _ (show _ ∈ tables_1 from List.mem_append_right _ (List.mem_append_left _ (List.mem_of_getElem? (i := 231) rfl)))) rfl
theorem mf_M_7 : Cond.fieldLink R_M 7 "LastingShapesModel" "kinds" "[I" ∈ gw := gw_in (List.mem_append_right _ (show _ ∈ tables_1 from List.mem_append_right _ (List.mem_append_left _ (List.mem_of_getElem? (i := 232) rfl)))) rfl
theorem mf_M_13 : Cond.fieldLink R_M 13 "LastingShapesModel" "forms" "[I" ∈ gw := gw_in (List.mem_append_right _ (show _ ∈ tables_1 from List.mem_append_right _ (List.mem_append_left _ (List.mem_of_getElem? (i := 233) rfl)))) rfl
theorem mf_M_16 : Cond.fieldLink R_M 16 "LastingShapesModel" "sizes" "[I" ∈ gw := gw_in (List.mem_append_right _ (show _ ∈ tables_1 from List.mem_append_right _ (List.mem_append_left _ (List.mem_of_getElem? (i := 234) rfl)))) rfl
theorem mf_M_19 : Cond.fieldLink R_M 19 "LastingShapesModel" "elements" "[I" ∈ gw := gw_in (List.mem_append_right _ (show _ ∈ tables_1 from List.mem_append_right _ (List.mem_append_left _ (List.mem_of_getElem? (i := 235) rfl)))) rfl
theorem mf_M_22 : Cond.fieldLink R_M 22 "LastingShapesModel" "keys" "[I" ∈ gw := gw_in (List.mem_append_right _ (show _ ∈ tables_1 from List.mem_append_right _ (List.mem_append_left _ (List.mem_of_getElem? (i := 236) rfl)))) rfl
theorem mf_M_28 : Cond.fieldLink R_M 28 "LastingShapesModel" "thrown" "I" ∈ gw := gw_in (List.mem_append_right _ (show _ ∈ tables_1 from List.mem_append_right _ (List.mem_append_left _ (List.mem_of_getElem? (i := 237) rfl)))) rfl
theorem mf_M_25 : Cond.fieldLink R_M 25 "LastingShapesModel" "fewest" "[I" ∈ gw := gw_in (List.mem_append_right _ (show _ ∈ tables_1 from List.mem_append_right _ (List.mem_append_left _ (List.mem_of_getElem? (i := 238) rfl)))) rfl
theorem ml_M_0 : u_lay R_M T_M 0 ∈ gw := gw_in (List.mem_append_right _ (show _ ∈ tables_1 from List.mem_append_right _ (List.mem_append_left _ (List.mem_of_getElem? (i := 239) rfl)))) rfl
theorem ml_M_1 : u_lay R_M T_M 1 ∈ gw := gw_in (List.mem_append_right _ (show _ ∈ tables_1 from List.mem_append_right _ (List.mem_append_right _ (List.mem_of_getElem? (i := 1) rfl)))) rfl
theorem ml_M_2 : u_lay R_M T_M 2 ∈ gw := gw_in (List.mem_append_right _ (show _ ∈ tables_1 from List.mem_append_right _ (List.mem_append_right _ (List.mem_of_getElem? (i := 3) rfl)))) rfl
theorem ml_M_3 : u_lay R_M T_M 3 ∈ gw := gw_in (List.mem_append_right _ (show _ ∈ tables_1 from List.mem_append_right _ (List.mem_append_right _ (List.mem_of_getElem? (i := 5) rfl)))) rfl
theorem ml_M_4 : u_lay R_M T_M 4 ∈ gw := gw_in (List.mem_append_right _ (show _ ∈ tables_1 from List.mem_append_right _ (List.mem_append_right _ (List.mem_of_getElem? (i := 7) rfl)))) rfl
theorem ml_M_5 : u_lay R_M T_M 5 ∈ gw := gw_in (List.mem_append_right _ (show _ ∈ tables_1 from List.mem_append_right _ (List.mem_append_right _ (List.mem_of_getElem? (i := 9) rfl)))) rfl
theorem ml_M_6 : u_lay R_M T_M 6 ∈ gw := gw_in (List.mem_append_right _ (show _ ∈ tables_1 from List.mem_append_right _ (List.mem_append_right _ (List.mem_of_getElem? (i := 11) rfl)))) rfl
theorem ml_M_7 : u_lay R_M T_M 7 ∈ gw := gw_in (List.mem_append_right _ (show _ ∈ tables_1 from List.mem_append_right _ (List.mem_append_right _ (List.mem_of_getElem? (i := 13) rfl)))) rfl
theorem mm_W_66 : Cond.methodLink R_W 66 y_M_thrown ∈ gw := gw_in (List.mem_append_right _ (show _ ∈ tables_1 from List.mem_append_right _ (List.mem_append_right _ (List.mem_of_getElem? (i := 16) rfl)))) rfl
theorem mi_M_thrown : Cond.instanceMethod y_M_thrown ∈ gw := gw_in (List.mem_append_right _ (show _ ∈ tables_1 from List.mem_append_right _ (List.mem_append_right _ (List.mem_of_getElem? (i := 17) rfl)))) rfl
theorem mq_M_thrown : Cond.selects "LastingShapesModel" y_M_thrown y_M_thrown ∈ gw := gw_in (List.mem_append_right _ (show _ ∈ tables_1 from List.mem_append_right _ (List.mem_append_right _ (List.mem_of_getElem? (i := 18) rfl)))) rfl
theorem mm_W_65 : Cond.methodLink R_W 65 y_M_empty ∈ gw := gw_in (List.mem_append_right _ (show _ ∈ tables_1 from List.mem_append_right _ (List.mem_append_right _ (List.mem_of_getElem? (i := 20) rfl)))) rfl
theorem mi_M_empty : Cond.instanceMethod y_M_empty ∈ gw := gw_in (List.mem_append_right _ (show _ ∈ tables_1 from List.mem_append_right _ (List.mem_append_right _ (List.mem_of_getElem? (i := 21) rfl)))) rfl
theorem mq_M_empty : Cond.selects "LastingShapesModel" y_M_empty y_M_empty ∈ gw := gw_in (List.mem_append_right _ (show _ ∈ tables_1 from List.mem_append_right _ (List.mem_append_right _ (List.mem_of_getElem? (i := 22) rfl)))) rfl
theorem mm_M_46 : Cond.methodLink R_M 46 y_M_isFull ∈ gw := gw_in (List.mem_append_right _ (show _ ∈ tables_1 from List.mem_append_right _ (List.mem_append_right _ (List.mem_of_getElem? (i := 24) rfl)))) rfl
theorem mi_M_isFull : Cond.instanceMethod y_M_isFull ∈ gw := gw_in (List.mem_append_right _ (show _ ∈ tables_1 from List.mem_append_right _ (List.mem_append_right _ (List.mem_of_getElem? (i := 26) rfl)))) rfl
theorem mm_M_50 : Cond.methodLink R_M 50 y_M_throwsBy ∈ gw := gw_in (List.mem_append_right _ (show _ ∈ tables_1 from List.mem_append_right _ (List.mem_append_right _ (List.mem_of_getElem? (i := 28) rfl)))) rfl
theorem mi_M_throwsBy : Cond.instanceMethod y_M_throwsBy ∈ gw := gw_in (List.mem_append_right _ (show _ ∈ tables_1 from List.mem_append_right _ (List.mem_append_right _ (List.mem_of_getElem? (i := 30) rfl)))) rfl
theorem mm_M_53 : Cond.methodLink R_M 53 y_M_create ∈ gw := gw_in (List.mem_append_right _ (show _ ∈ tables_1 from List.mem_append_right _ (List.mem_append_right _ (List.mem_of_getElem? (i := 32) rfl)))) rfl
theorem mi_M_create : Cond.instanceMethod y_M_create ∈ gw := gw_in (List.mem_append_right _ (show _ ∈ tables_1 from List.mem_append_right _ (List.mem_append_right _ (List.mem_of_getElem? (i := 34) rfl)))) rfl
theorem mm_W_72 : Cond.methodLink R_W 72 y_M_add ∈ gw := gw_in (List.mem_append_right _ (show _ ∈ tables_1 from List.mem_append_right _ (List.mem_append_right _ (List.mem_of_getElem? (i := 36) rfl)))) rfl
theorem mi_M_add : Cond.instanceMethod y_M_add ∈ gw := gw_in (List.mem_append_right _ (show _ ∈ tables_1 from List.mem_append_right _ (List.mem_append_right _ (List.mem_of_getElem? (i := 37) rfl)))) rfl
theorem mq_M_add : Cond.selects "LastingShapesModel" y_M_add y_M_add ∈ gw := gw_in (List.mem_append_right _ (show _ ∈ tables_1 from List.mem_append_right _ (List.mem_append_right _ (List.mem_of_getElem? (i := 38) rfl)))) rfl
theorem mm_M_57 : Cond.methodLink R_M 57 y_M_isRow ∈ gw := gw_in (List.mem_append_right _ (show _ ∈ tables_1 from List.mem_append_right _ (List.mem_append_right _ (List.mem_of_getElem? (i := 40) rfl)))) rfl
theorem mi_M_isRow : Cond.instanceMethod y_M_isRow ∈ gw := gw_in (List.mem_append_right _ (show _ ∈ tables_1 from List.mem_append_right _ (List.mem_append_right _ (List.mem_of_getElem? (i := 42) rfl)))) rfl
theorem mm_M_35 : Cond.methodLink R_M 35 y_M_is ∈ gw := gw_in (List.mem_append_right _ (show _ ∈ tables_1 from List.mem_append_right _ (List.mem_append_right _ (List.mem_of_getElem? (i := 44) rfl)))) rfl
theorem mi_M_is : Cond.instanceMethod y_M_is ∈ gw := gw_in (List.mem_append_right _ (show _ ∈ tables_1 from List.mem_append_right _ (List.mem_append_right _ (List.mem_of_getElem? (i := 46) rfl)))) rfl
theorem mm_M_39 : Cond.methodLink R_M 39 y_M_isMap ∈ gw := gw_in (List.mem_append_right _ (show _ ∈ tables_1 from List.mem_append_right _ (List.mem_append_right _ (List.mem_of_getElem? (i := 48) rfl)))) rfl
theorem mi_M_isMap : Cond.instanceMethod y_M_isMap ∈ gw := gw_in (List.mem_append_right _ (show _ ∈ tables_1 from List.mem_append_right _ (List.mem_append_right _ (List.mem_of_getElem? (i := 50) rfl)))) rfl
theorem mm_M_60 : Cond.methodLink R_M 60 y_M_below ∈ gw := gw_in (List.mem_append_right _ (show _ ∈ tables_1 from List.mem_append_right _ (List.mem_append_right _ (List.mem_of_getElem? (i := 52) rfl)))) rfl
theorem mi_M_below : Cond.instanceMethod y_M_below ∈ gw := gw_in (List.mem_append_right _ (show _ ∈ tables_1 from List.mem_append_right _ (List.mem_append_right _ (List.mem_of_getElem? (i := 54) rfl)))) rfl
theorem mm_M_63 : Cond.methodLink R_M 63 y_M_putAll ∈ gw := gw_in (List.mem_append_right _ (show _ ∈ tables_1 from List.mem_append_right _ (List.mem_append_right _ (List.mem_of_getElem? (i := 56) rfl)))) rfl
theorem mi_M_putAll : Cond.instanceMethod y_M_putAll ∈ gw := gw_in (List.mem_append_right _ (show _ ∈ tables_1 from List.mem_append_right _ (List.mem_append_right _ (List.mem_of_getElem? (i := 58) rfl)))) rfl
theorem mm_M_42 : Cond.methodLink R_M 42 y_M_put ∈ gw := gw_in (List.mem_append_right _ (show _ ∈ tables_1 from List.mem_append_right _ (List.mem_append_right _ (List.mem_of_getElem? (i := 60) rfl)))) rfl
theorem mi_M_put : Cond.instanceMethod y_M_put ∈ gw := gw_in (List.mem_append_right _ (show _ ∈ tables_1 from List.mem_append_right _ (List.mem_append_right _ (List.mem_of_getElem? (i := 62) rfl)))) rfl
theorem mm_W_76 : Cond.methodLink R_W 76 y_M_first ∈ gw := gw_in (List.mem_append_right _ (show _ ∈ tables_1 from List.mem_append_right _ (List.mem_append_right _ (List.mem_of_getElem? (i := 64) rfl)))) rfl
theorem mi_M_first : Cond.instanceMethod y_M_first ∈ gw := gw_in (List.mem_append_right _ (show _ ∈ tables_1 from List.mem_append_right _ (List.mem_append_right _ (List.mem_of_getElem? (i := 65) rfl)))) rfl
theorem mq_M_first : Cond.selects "LastingShapesModel" y_M_first y_M_first ∈ gw := gw_in (List.mem_append_right _ (show _ ∈ tables_1 from List.mem_append_right _ (List.mem_append_right _ (List.mem_of_getElem? (i := 66) rfl)))) rfl
theorem mm_W_79 : Cond.methodLink R_W 79 y_M_rest ∈ gw := gw_in (List.mem_append_right _ (show _ ∈ tables_1 from List.mem_append_right _ (List.mem_append_right _ (List.mem_of_getElem? (i := 68) rfl)))) rfl
theorem mi_M_rest : Cond.instanceMethod y_M_rest ∈ gw := gw_in (List.mem_append_right _ (show _ ∈ tables_1 from List.mem_append_right _ (List.mem_append_right _ (List.mem_of_getElem? (i := 69) rfl)))) rfl
theorem mq_M_rest : Cond.selects "LastingShapesModel" y_M_rest y_M_rest ∈ gw := gw_in (List.mem_append_right _ (show _ ∈ tables_1 from List.mem_append_right _ (List.mem_append_right _ (List.mem_of_getElem? (i := 70) rfl)))) rfl
theorem mm_W_82 : Cond.methodLink R_W 82 y_M_join ∈ gw := gw_in (List.mem_append_right _ (show _ ∈ tables_1 from List.mem_append_right _ (List.mem_append_right _ (List.mem_of_getElem? (i := 72) rfl)))) rfl
theorem mi_M_join : Cond.instanceMethod y_M_join ∈ gw := gw_in (List.mem_append_right _ (show _ ∈ tables_1 from List.mem_append_right _ (List.mem_append_right _ (List.mem_of_getElem? (i := 73) rfl)))) rfl
theorem mq_M_join : Cond.selects "LastingShapesModel" y_M_join y_M_join ∈ gw := gw_in (List.mem_append_right _ (show _ ∈ tables_1 from List.mem_append_right _ (List.mem_append_right _ (List.mem_of_getElem? (i := 74) rfl)))) rfl
theorem mm_W_86 : Cond.methodLink R_W 86 y_M_bind ∈ gw := gw_in (List.mem_append_right _ (show _ ∈ tables_1 from List.mem_append_right _ (List.mem_append_right _ (List.mem_of_getElem? (i := 76) rfl)))) rfl
theorem mi_M_bind : Cond.instanceMethod y_M_bind ∈ gw := gw_in (List.mem_append_right _ (show _ ∈ tables_1 from List.mem_append_right _ (List.mem_append_right _ (List.mem_of_getElem? (i := 77) rfl)))) rfl
theorem mq_M_bind : Cond.selects "LastingShapesModel" y_M_bind y_M_bind ∈ gw := gw_in (List.mem_append_right _ (show _ ∈ tables_1 from List.mem_append_right _ (List.mem_append_right _ (List.mem_of_getElem? (i := 78) rfl)))) rfl
theorem mm_M_67 : Cond.methodLink R_M 67 y_M_placeOf ∈ gw := gw_in (List.mem_append_right _ (show _ ∈ tables_1 from List.mem_append_right _ (List.mem_append_right _ (List.mem_of_getElem? (i := 80) rfl)))) rfl
theorem mi_M_placeOf : Cond.instanceMethod y_M_placeOf ∈ gw := gw_in (List.mem_append_right _ (show _ ∈ tables_1 from List.mem_append_right _ (List.mem_append_right _ (List.mem_of_getElem? (i := 82) rfl)))) rfl
theorem mm_M_70 : Cond.methodLink R_M 70 y_M_hasAt ∈ gw := gw_in (List.mem_append_right _ (show _ ∈ tables_1 from List.mem_append_right _ (List.mem_append_right _ (List.mem_of_getElem? (i := 84) rfl)))) rfl
theorem mi_M_hasAt : Cond.instanceMethod y_M_hasAt ∈ gw := gw_in (List.mem_append_right _ (show _ ∈ tables_1 from List.mem_append_right _ (List.mem_append_right _ (List.mem_of_getElem? (i := 86) rfl)))) rfl
theorem mm_W_89 : Cond.methodLink R_W 89 y_M_value ∈ gw := gw_in (List.mem_append_right _ (show _ ∈ tables_1 from List.mem_append_right _ (List.mem_append_right _ (List.mem_of_getElem? (i := 88) rfl)))) rfl
theorem mi_M_value : Cond.instanceMethod y_M_value ∈ gw := gw_in (List.mem_append_right _ (show _ ∈ tables_1 from List.mem_append_right _ (List.mem_append_right _ (List.mem_of_getElem? (i := 89) rfl)))) rfl
theorem mq_M_value : Cond.selects "LastingShapesModel" y_M_value y_M_value ∈ gw := gw_in (List.mem_append_right _ (show _ ∈ tables_1 from List.mem_append_right _ (List.mem_append_right _ (List.mem_of_getElem? (i := 90) rfl)))) rfl
theorem mm_W_92 : Cond.methodLink R_W 92 y_M_update ∈ gw := gw_in (List.mem_append_right _ (show _ ∈ tables_1 from List.mem_append_right _ (List.mem_append_right _ (List.mem_of_getElem? (i := 92) rfl)))) rfl
theorem mi_M_update : Cond.instanceMethod y_M_update ∈ gw := gw_in (List.mem_append_right _ (show _ ∈ tables_1 from List.mem_append_right _ (List.mem_append_right _ (List.mem_of_getElem? (i := 93) rfl)))) rfl
theorem mq_M_update : Cond.selects "LastingShapesModel" y_M_update y_M_update ∈ gw := gw_in (List.mem_append_right _ (show _ ∈ tables_1 from List.mem_append_right _ (List.mem_append_right _ (List.mem_of_getElem? (i := 94) rfl)))) rfl
theorem mm_W_95 : Cond.methodLink R_W 95 y_M_at ∈ gw := gw_in (List.mem_append_right _ (show _ ∈ tables_1 from List.mem_append_right _ (List.mem_append_right _ (List.mem_of_getElem? (i := 96) rfl)))) rfl
theorem mi_M_at : Cond.instanceMethod y_M_at ∈ gw := gw_in (List.mem_append_right _ (show _ ∈ tables_1 from List.mem_append_right _ (List.mem_append_right _ (List.mem_of_getElem? (i := 97) rfl)))) rfl
theorem mq_M_at : Cond.selects "LastingShapesModel" y_M_at y_M_at ∈ gw := gw_in (List.mem_append_right _ (show _ ∈ tables_1 from List.mem_append_right _ (List.mem_append_right _ (List.mem_of_getElem? (i := 98) rfl)))) rfl
theorem mm_W_98 : Cond.methodLink R_W 98 y_M_size ∈ gw := gw_in (List.mem_append_right _ (show _ ∈ tables_1 from List.mem_append_right _ (List.mem_append_right _ (List.mem_of_getElem? (i := 100) rfl)))) rfl
theorem mi_M_size : Cond.instanceMethod y_M_size ∈ gw := gw_in (List.mem_append_right _ (show _ ∈ tables_1 from List.mem_append_right _ (List.mem_append_right _ (List.mem_of_getElem? (i := 101) rfl)))) rfl
theorem mq_M_size : Cond.selects "LastingShapesModel" y_M_size y_M_size ∈ gw := gw_in (List.mem_append_right _ (show _ ∈ tables_1 from List.mem_append_right _ (List.mem_append_right _ (List.mem_of_getElem? (i := 102) rfl)))) rfl
theorem mm_W_101 : Cond.methodLink R_W 101 y_M_parts ∈ gw := gw_in (List.mem_append_right _ (show _ ∈ tables_1 from List.mem_append_right _ (List.mem_append_right _ (List.mem_of_getElem? (i := 104) rfl)))) rfl
theorem mi_M_parts : Cond.instanceMethod y_M_parts ∈ gw := gw_in (List.mem_append_right _ (show _ ∈ tables_1 from List.mem_append_right _ (List.mem_append_right _ (List.mem_of_getElem? (i := 105) rfl)))) rfl
theorem mq_M_parts : Cond.selects "LastingShapesModel" y_M_parts y_M_parts ∈ gw := gw_in (List.mem_append_right _ (show _ ∈ tables_1 from List.mem_append_right _ (List.mem_append_right _ (List.mem_of_getElem? (i := 106) rfl)))) rfl
theorem mm_M_74 : Cond.methodLink R_M 74 y_M_bits ∈ gw := gw_in (List.mem_append_right _ (show _ ∈ tables_1 from List.mem_append_right _ (List.mem_append_right _ (List.mem_of_getElem? (i := 108) rfl)))) rfl
theorem ms_M_bits : Cond.static y_M_bits ∈ gw := gw_in (List.mem_append_right _ (show _ ∈ tables_1 from List.mem_append_right _ (List.mem_append_right _ (List.mem_of_getElem? (i := 109) rfl)))) rfl
theorem mm_W_104 : Cond.methodLink R_W 104 y_M_kind ∈ gw := gw_in (List.mem_append_right _ (show _ ∈ tables_1 from List.mem_append_right _ (List.mem_append_right _ (List.mem_of_getElem? (i := 111) rfl)))) rfl
theorem mi_M_kind : Cond.instanceMethod y_M_kind ∈ gw := gw_in (List.mem_append_right _ (show _ ∈ tables_1 from List.mem_append_right _ (List.mem_append_right _ (List.mem_of_getElem? (i := 112) rfl)))) rfl
theorem mq_M_kind : Cond.selects "LastingShapesModel" y_M_kind y_M_kind ∈ gw := gw_in (List.mem_append_right _ (show _ ∈ tables_1 from List.mem_append_right _ (List.mem_append_right _ (List.mem_of_getElem? (i := 113) rfl)))) rfl
theorem mm_W_108 : Cond.methodLink R_W 108 y_M_versions ∈ gw := gw_in (List.mem_append_right _ (show _ ∈ tables_1 from List.mem_append_right _ (List.mem_append_right _ (List.mem_of_getElem? (i := 115) rfl)))) rfl
theorem mi_M_versions : Cond.instanceMethod y_M_versions ∈ gw := gw_in (List.mem_append_right _ (show _ ∈ tables_1 from List.mem_append_right _ (List.mem_append_right _ (List.mem_of_getElem? (i := 116) rfl)))) rfl
theorem mq_M_versions : Cond.selects "LastingShapesModel" y_M_versions y_M_versions ∈ gw := gw_in (List.mem_append_right _ (show _ ∈ tables_1 from List.mem_append_right _ (List.mem_append_right _ (List.mem_of_getElem? (i := 117) rfl)))) rfl
theorem ma_long : Cond.arrayClass .long ∈ gw := gw_in (List.mem_append_right _ (show _ ∈ tables_1 from List.mem_append_right _ (List.mem_append_right _ (List.mem_of_getElem? (i := 119) rfl)))) rfl
theorem mo_A_getClass : Cond.sameMethod "[Ljava/lang/Object;" "java/lang/Object" "getClass" "()Ljava/lang/Class;" ∈ gw := gw_in (List.mem_append_right _ (show _ ∈ tables_1 from List.mem_append_right _ (List.mem_append_right _ (List.mem_of_getElem? (i := 122) rfl)))) rfl
theorem mq_L_refuseBeyondLimits : Cond.selects R_L y_L_refuseBeyondLimits y_L_refuseBeyondLimits ∈ gw := gw_in (List.mem_append_left _ (List.mem_of_getElem? (i := 1) rfl)) rfl
theorem mq_L_keep : Cond.selects R_L y_L_keep y_L_keep ∈ gw := gw_in (List.mem_append_left _ (List.mem_of_getElem? (i := 2) rfl)) rfl
theorem mq_AL_add3 : Cond.selects R_AL y_AL_add3 y_AL_add3 ∈ gw := gw_in (List.mem_append_left _ (List.mem_of_getElem? (i := 3) rfl)) rfl
theorem mq_AL_grow : Cond.selects R_AL y_AL_grow y_AL_grow ∈ gw := gw_in (List.mem_append_left _ (List.mem_of_getElem? (i := 4) rfl)) rfl
theorem mq_AL_growI : Cond.selects R_AL y_AL_growI y_AL_growI ∈ gw := gw_in (List.mem_append_left _ (List.mem_of_getElem? (i := 5) rfl)) rfl
theorem mq_L_foundButNoMap : Cond.selects R_L y_L_foundButNoMap y_L_foundButNoMap ∈ gw := gw_in (List.mem_append_left _ (List.mem_of_getElem? (i := 6) rfl)) rfl
theorem mq_L_found : Cond.selects R_L y_L_found y_L_found ∈ gw := gw_in (List.mem_append_left _ (List.mem_of_getElem? (i := 7) rfl)) rfl
theorem mq_V_with : Cond.selects R_V y_V_with y_V_with ∈ gw := gw_in (List.mem_append_left _ (List.mem_of_getElem? (i := 8) rfl)) rfl
theorem mq_L_foundOfKind : Cond.selects R_L y_L_foundOfKind y_L_foundOfKind ∈ gw := gw_in (List.mem_append_left _ (List.mem_of_getElem? (i := 9) rfl)) rfl
theorem mq_M_isFull : Cond.selects R_M y_M_isFull y_M_isFull ∈ gw := gw_in (List.mem_append_left _ (List.mem_of_getElem? (i := 10) rfl)) rfl
theorem mq_M_throwsBy : Cond.selects R_M y_M_throwsBy y_M_throwsBy ∈ gw := gw_in (List.mem_append_left _ (List.mem_of_getElem? (i := 11) rfl)) rfl
theorem mq_M_create : Cond.selects R_M y_M_create y_M_create ∈ gw := gw_in (List.mem_append_left _ (List.mem_of_getElem? (i := 12) rfl)) rfl
theorem mq_M_isRow : Cond.selects R_M y_M_isRow y_M_isRow ∈ gw := gw_in (List.mem_append_left _ (List.mem_of_getElem? (i := 13) rfl)) rfl
theorem mq_M_is : Cond.selects R_M y_M_is y_M_is ∈ gw := gw_in (List.mem_append_left _ (List.mem_of_getElem? (i := 14) rfl)) rfl
theorem mq_M_isMap : Cond.selects R_M y_M_isMap y_M_isMap ∈ gw := gw_in (List.mem_append_left _ (List.mem_of_getElem? (i := 15) rfl)) rfl
theorem mq_M_below : Cond.selects R_M y_M_below y_M_below ∈ gw := gw_in (List.mem_append_left _ (List.mem_of_getElem? (i := 16) rfl)) rfl
theorem mq_M_putAll : Cond.selects R_M y_M_putAll y_M_putAll ∈ gw := gw_in (List.mem_append_left _ (List.mem_of_getElem? (i := 17) rfl)) rfl
theorem mq_M_put : Cond.selects R_M y_M_put y_M_put ∈ gw := gw_in (List.mem_append_left _ (List.mem_of_getElem? (i := 18) rfl)) rfl
theorem mq_M_placeOf : Cond.selects R_M y_M_placeOf y_M_placeOf ∈ gw := gw_in (List.mem_append_left _ (List.mem_of_getElem? (i := 19) rfl)) rfl
theorem mq_M_hasAt : Cond.selects R_M y_M_hasAt y_M_hasAt ∈ gw := gw_in (List.mem_append_left _ (List.mem_of_getElem? (i := 20) rfl)) rfl
theorem wl_L : ∀ x ∈ u_ws R_L T_L 1, x ∈ gw := by
  intro x hx
  obtain ⟨k, hk, rfl⟩ := List.mem_map.mp hx
  have hk := List.mem_range.mp hk
  match k, hk with
  | 0, _ => exact ml_L_0
  | n + 1, h => exact absurd h (by omega)
theorem wl_V : ∀ x ∈ u_ws R_V T_V 4, x ∈ gw := by
  intro x hx
  obtain ⟨k, hk, rfl⟩ := List.mem_map.mp hx
  have hk := List.mem_range.mp hk
  match k, hk with
  | 0, _ => exact ml_V_0
  | 1, _ => exact ml_V_1
  | 2, _ => exact ml_V_2
  | 3, _ => exact ml_V_3
  | n + 4, h => exact absurd h (by omega)
theorem wl_M : ∀ x ∈ u_ws R_M T_M 8, x ∈ gw := by
  intro x hx
  obtain ⟨k, hk, rfl⟩ := List.mem_map.mp hx
  have hk := List.mem_range.mp hk
  match k, hk with
  | 0, _ => exact ml_M_0
  | 1, _ => exact ml_M_1
  | 2, _ => exact ml_M_2
  | 3, _ => exact ml_M_3
  | 4, _ => exact ml_M_4
  | 5, _ => exact ml_M_5
  | 6, _ => exact ml_M_6
  | 7, _ => exact ml_M_7
  | n + 8, h => exact absurd h (by omega)
theorem wl_AL : ∀ x ∈ u_ws R_AL T_AL 3, x ∈ gw := by
  intro x hx
  obtain ⟨k, hk, rfl⟩ := List.mem_map.mp hx
  have hk := List.mem_range.mp hk
  match k, hk with
  | 0, _ => exact ml_AL_0
  | 1, _ => exact ml_AL_1
  | 2, _ => exact ml_AL_2
  | n + 3, h => exact absurd h (by omega)
theorem mz_DEFAULTCAPACITY_EMPTY_ELEMENTDATA : Cond.laysStatic "java/util/ArrayList" "DEFAULTCAPACITY_EMPTY_ELEMENTDATA" "[Ljava/lang/Object;" ∈ lw_tbl := List.mem_append_right _ (show _ ∈ tables_1 from List.mem_append_left _ (List.mem_of_getElem? (i := 42) rfl))
theorem mz_FORMS : Cond.laysStatic "LastingShapes" "FORMS" "[I" ∈ lw_tbl := List.mem_append_right _ (show _ ∈ tables_1 from List.mem_append_left _ (List.mem_of_getElem? (i := 80) rfl))
theorem mp_IllegalArgumentException_IllegalArgumentException : Cond.castable "java/lang/IllegalArgumentException" "java/lang/IllegalArgumentException" ∈ lw_tbl := List.mem_append_right _ (show _ ∈ tables_1 from List.mem_append_left _ (List.mem_of_getElem? (i := 83) rfl))
theorem mz_UNASSIGNED_STACK : Cond.laysStatic "java/lang/Throwable" "UNASSIGNED_STACK" "[Ljava/lang/StackTraceElement;" ∈ lw_tbl := List.mem_append_right _ (show _ ∈ tables_1 from List.mem_append_left _ (List.mem_of_getElem? (i := 108) rfl))
theorem mz_SUPPRESSED_SENTINEL : Cond.laysStatic "java/lang/Throwable" "SUPPRESSED_SENTINEL" "Ljava/util/List;" ∈ lw_tbl := List.mem_append_right _ (show _ ∈ tables_1 from List.mem_append_left _ (List.mem_of_getElem? (i := 110) rfl))
theorem mr_L_22 : Cond.stringRef R_L 22 "no such kind or form" ∈ lw_tbl := List.mem_append_right _ (show _ ∈ tables_1 from List.mem_append_left _ (List.mem_of_getElem? (i := 123) rfl))
theorem mp_IllegalStateException_IllegalStateException : Cond.castable "java/lang/IllegalStateException" "java/lang/IllegalStateException" ∈ lw_tbl := List.mem_append_right _ (show _ ∈ tables_1 from List.mem_append_left _ (List.mem_of_getElem? (i := 156) rfl))
theorem mr_L_152 : Cond.stringRef R_L 152 "no room for a version more" ∈ lw_tbl := List.mem_append_right _ (show _ ∈ tables_1 from List.mem_append_left _ (List.mem_of_getElem? (i := 163) rfl))
theorem mr_L_155 : Cond.stringRef R_L 155 "too many elements" ∈ lw_tbl := List.mem_append_right _ (show _ ∈ tables_1 from List.mem_append_left _ (List.mem_of_getElem? (i := 170) rfl))
theorem nm_L_33 : Cond.methodLinkNest R_L 33 y_V_init "LastingShapes" ∈ lw_tbl := List.mem_append_right _ (show _ ∈ tables_1 from List.mem_append_left _ (List.mem_of_getElem? (i := 173) rfl))
theorem nf_L_78 : Cond.fieldLinkNest R_L 78 R_V "kind" "I" "LastingShapes" ∈ lw_tbl := List.mem_append_right _ (show _ ∈ tables_1 from List.mem_append_left _ (List.mem_of_getElem? (i := 178) rfl))
theorem nf_L_109 : Cond.fieldLinkNest R_L 109 R_V "form" "I" "LastingShapes" ∈ lw_tbl := List.mem_append_right _ (show _ ∈ tables_1 from List.mem_append_left _ (List.mem_of_getElem? (i := 180) rfl))
theorem nf_L_44 : Cond.fieldLinkNest R_L 44 R_V "elements" "[I" "LastingShapes" ∈ lw_tbl := List.mem_append_right _ (show _ ∈ tables_1 from List.mem_append_left _ (List.mem_of_getElem? (i := 182) rfl))
theorem nf_L_95 : Cond.fieldLinkNest R_L 95 R_V "keys" "[I" "LastingShapes" ∈ lw_tbl := List.mem_append_right _ (show _ ∈ tables_1 from List.mem_append_left _ (List.mem_of_getElem? (i := 184) rfl))
theorem mu_object : Cond.arrayOver (.object "java/lang/Object") ∈ lw_tbl := List.mem_append_right _ (show _ ∈ tables_1 from List.mem_append_right _ (List.mem_append_left _ (List.mem_of_getElem? (i := 4) rfl)))
theorem mr_L_140 : Cond.stringRef R_L 140 "no such version" ∈ lw_tbl := List.mem_append_right _ (show _ ∈ tables_1 from List.mem_append_right _ (List.mem_append_left _ (List.mem_of_getElem? (i := 29) rfl)))
theorem mr_L_148 : Cond.stringRef R_L 148 "the version is a map" ∈ lw_tbl := List.mem_append_right _ (show _ ∈ tables_1 from List.mem_append_right _ (List.mem_append_left _ (List.mem_of_getElem? (i := 44) rfl)))
theorem nm_L_56 : Cond.methodLinkNest R_L 56 y_V_with "LastingShapes" ∈ lw_tbl := List.mem_append_right _ (show _ ∈ tables_1 from List.mem_append_right _ (List.mem_append_left _ (List.mem_of_getElem? (i := 55) rfl)))
theorem mp_NoSuchElementException_NoSuchElementException : Cond.castable "java/util/NoSuchElementException" "java/util/NoSuchElementException" ∈ lw_tbl := List.mem_append_right _ (show _ ∈ tables_1 from List.mem_append_right _ (List.mem_append_left _ (List.mem_of_getElem? (i := 74) rfl)))
theorem mr_L_161 : Cond.stringRef R_L 161 "no element" ∈ lw_tbl := List.mem_append_right _ (show _ ∈ tables_1 from List.mem_append_right _ (List.mem_append_left _ (List.mem_of_getElem? (i := 81) rfl)))
theorem mp_I_Cloneable : Cond.castable "[I" "java/lang/Cloneable" ∈ lw_tbl := List.mem_append_right _ (show _ ∈ tables_1 from List.mem_append_right _ (List.mem_append_left _ (List.mem_of_getElem? (i := 109) rfl)))
theorem mr_L_76 : Cond.stringRef R_L 76 "not two heaps or two chains of one form" ∈ lw_tbl := List.mem_append_right _ (show _ ∈ tables_1 from List.mem_append_right _ (List.mem_append_left _ (List.mem_of_getElem? (i := 121) rfl)))
theorem mr_L_146 : Cond.stringRef R_L 146 "the version is of another kind" ∈ lw_tbl := List.mem_append_right _ (show _ ∈ tables_1 from List.mem_append_right _ (List.mem_append_left _ (List.mem_of_getElem? (i := 142) rfl)))
theorem mr_L_93 : Cond.stringRef R_L 93 "no key that a map may have" ∈ lw_tbl := List.mem_append_right _ (show _ ∈ tables_1 from List.mem_append_right _ (List.mem_append_left _ (List.mem_of_getElem? (i := 143) rfl)))
theorem mr_L_114 : Cond.stringRef R_L 114 "no such key" ∈ lw_tbl := List.mem_append_right _ (show _ ∈ tables_1 from List.mem_append_right _ (List.mem_append_left _ (List.mem_of_getElem? (i := 159) rfl)))
theorem mp_IndexOutOfBoundsException_IndexOutOfBoundsException : Cond.castable "java/lang/IndexOutOfBoundsException" "java/lang/IndexOutOfBoundsException" ∈ lw_tbl := List.mem_append_right _ (show _ ∈ tables_1 from List.mem_append_right _ (List.mem_append_left _ (List.mem_of_getElem? (i := 173) rfl)))
theorem mr_L_165 : Cond.stringRef R_L 165 "no such place" ∈ lw_tbl := List.mem_append_right _ (show _ ∈ tables_1 from List.mem_append_right _ (List.mem_append_left _ (List.mem_of_getElem? (i := 180) rfl)))
theorem mp_LastingShapesVersion_LastingShapesVersion : Cond.castable "LastingShapes$Version" "LastingShapes$Version" ∈ lw_tbl := List.mem_append_right _ (show _ ∈ tables_1 from List.mem_append_right _ (List.mem_append_right _ (List.mem_of_getElem? (i := 121) rfl)))
theorem mj_getClass : Cond.declares ⟨"java/lang/Object", "getClass", "()Ljava/lang/Class;"⟩ ∈ lw_tbl := List.mem_append_right _ (show _ ∈ tables_1 from List.mem_append_right _ (List.mem_append_right _ (List.mem_of_getElem? (i := 124) rfl)))
theorem mp_LastingShapes_Object : Cond.castable "LastingShapes" "java/lang/Object" ∈ lw_tbl := List.mem_append_right _ (show _ ∈ tables_1 from List.mem_append_right _ (List.mem_append_right _ (List.mem_of_getElem? (i := 125) rfl)))
theorem mp_LastingShapesModel_Object : Cond.castable "LastingShapesModel" "java/lang/Object" ∈ lw_tbl := List.mem_append_right _ (show _ ∈ tables_1 from List.mem_append_right _ (List.mem_append_right _ (List.mem_of_getElem? (i := 126) rfl)))
theorem mp_LastingShapesVersion_Object : Cond.castable "LastingShapes$Version" "java/lang/Object" ∈ lw_tbl := List.mem_append_right _ (show _ ∈ tables_1 from List.mem_append_right _ (List.mem_append_right _ (List.mem_of_getElem? (i := 127) rfl)))
theorem mp_String_Object : Cond.castable "java/lang/String" "java/lang/Object" ∈ lw_tbl := List.mem_append_right _ (show _ ∈ tables_1 from List.mem_append_right _ (List.mem_append_right _ (List.mem_of_getElem? (i := 128) rfl)))
end
section
theorem d_L_init_0 : decode b_L_init 0 = .ok (.aload_n 0, 1) := by decide +kernel
theorem d_L_init_1 : decode b_L_init 1 = .ok (.invokespecial 1, 3) := by decide +kernel
theorem d_L_init_4 : decode b_L_init 4 = .ok (.aload_n 0, 1) := by decide +kernel
theorem d_L_init_5 : decode b_L_init 5 = .ok (.new 7, 3) := by decide +kernel
theorem d_L_init_8 : decode b_L_init 8 = .ok (.dup, 1) := by decide +kernel
theorem d_L_init_9 : decode b_L_init 9 = .ok (.invokespecial 9, 3) := by decide +kernel
theorem d_L_init_12 : decode b_L_init 12 = .ok (.putfield 10, 3) := by decide +kernel
theorem d_L_init_15 : decode b_L_init 15 = .ok (.return_, 1) := by decide +kernel
theorem d_OJ_init_0 : decode b_OJ_init 0 = .ok (.return_, 1) := by decide +kernel
theorem d_AL_init_0 : decode b_AL_init 0 = .ok (.aload_n 0, 1) := by decide +kernel
theorem d_AL_init_1 : decode b_AL_init 1 = .ok (.invokespecial 1, 3) := by decide +kernel
theorem d_AL_init_4 : decode b_AL_init 4 = .ok (.aload_n 0, 1) := by decide +kernel
theorem d_AL_init_5 : decode b_AL_init 5 = .ok (.getstatic 39, 3) := by decide +kernel
theorem d_AL_init_8 : decode b_AL_init 8 = .ok (.putfield 9, 3) := by decide +kernel
theorem d_AL_init_11 : decode b_AL_init 11 = .ok (.return_, 1) := by decide +kernel
theorem d_AB_init_0 : decode b_AB_init 0 = .ok (.aload_n 0, 1) := by decide +kernel
theorem d_AB_init_1 : decode b_AB_init 1 = .ok (.invokespecial 1, 3) := by decide +kernel
theorem d_AB_init_4 : decode b_AB_init 4 = .ok (.aload_n 0, 1) := by decide +kernel
theorem d_AB_init_5 : decode b_AB_init 5 = .ok (.iconst 0, 1) := by decide +kernel
theorem d_AB_init_6 : decode b_AB_init 6 = .ok (.putfield 7, 3) := by decide +kernel
theorem d_AB_init_9 : decode b_AB_init 9 = .ok (.return_, 1) := by decide +kernel
theorem d_AC_init_0 : decode b_AC_init 0 = .ok (.aload_n 0, 1) := by decide +kernel
theorem d_AC_init_1 : decode b_AC_init 1 = .ok (.invokespecial 1, 3) := by decide +kernel
theorem d_AC_init_4 : decode b_AC_init 4 = .ok (.return_, 1) := by decide +kernel
theorem d_L_versions_0 : decode b_L_versions 0 = .ok (.aload_n 0, 1) := by decide +kernel
theorem d_L_versions_1 : decode b_L_versions 1 = .ok (.getfield 10, 3) := by decide +kernel
theorem d_L_versions_4 : decode b_L_versions 4 = .ok (.invokevirtual 136, 3) := by decide +kernel
theorem d_L_versions_7 : decode b_L_versions 7 = .ok (.ireturn, 1) := by decide +kernel
theorem d_AL_size_0 : decode b_AL_size 0 = .ok (.aload_n 0, 1) := by decide +kernel
theorem d_AL_size_1 : decode b_AL_size 1 = .ok (.getfield 48, 3) := by decide +kernel
theorem d_AL_size_4 : decode b_AL_size 4 = .ok (.ireturn, 1) := by decide +kernel
theorem d_W_empty_0 : decode b_W_empty 0 = .ok (.aload_n 3, 1) := by decide +kernel
theorem d_W_empty_1 : decode b_W_empty 1 = .ok (.iconst 0, 1) := by decide +kernel
theorem d_W_empty_2 : decode b_W_empty 2 = .ok (.aload_n 0, 1) := by decide +kernel
theorem d_W_empty_3 : decode b_W_empty 3 = .ok (.iload_n 1, 1) := by decide +kernel
theorem d_W_empty_4 : decode b_W_empty 4 = .ok (.iload_n 2, 1) := by decide +kernel
theorem d_W_empty_5 : decode b_W_empty 5 = .ok (.invokevirtual 7, 3) := by decide +kernel
theorem d_W_empty_8 : decode b_W_empty 8 = .ok (.i2l, 1) := by decide +kernel
theorem d_W_empty_9 : decode b_W_empty 9 = .ok (.lastore, 1) := by decide +kernel
theorem d_W_empty_10 : decode b_W_empty 10 = .ok (.goto 11, 3) := by decide +kernel
theorem d_W_empty_13 : decode b_W_empty 13 = .ok (.astore 4, 2) := by decide +kernel
theorem d_W_empty_15 : decode b_W_empty 15 = .ok (.iconst 1, 1) := by decide +kernel
theorem d_W_empty_16 : decode b_W_empty 16 = .ok (.ireturn, 1) := by decide +kernel
theorem d_W_empty_17 : decode b_W_empty 17 = .ok (.astore 4, 2) := by decide +kernel
theorem d_W_empty_19 : decode b_W_empty 19 = .ok (.iconst 2, 1) := by decide +kernel
theorem d_W_empty_20 : decode b_W_empty 20 = .ok (.ireturn, 1) := by decide +kernel
theorem d_W_empty_21 : decode b_W_empty 21 = .ok (.iconst 0, 1) := by decide +kernel
theorem d_W_empty_22 : decode b_W_empty 22 = .ok (.ireturn, 1) := by decide +kernel
theorem d_L_empty_0 : decode b_L_empty 0 = .ok (.iload_n 1, 1) := by decide +kernel
theorem d_L_empty_1 : decode b_L_empty 1 = .ok (.iload_n 2, 1) := by decide +kernel
theorem d_L_empty_2 : decode b_L_empty 2 = .ok (.invokestatic 16, 3) := by decide +kernel
theorem d_L_empty_5 : decode b_L_empty 5 = .ok (.ifCond .ne 13, 3) := by decide +kernel
theorem d_L_empty_8 : decode b_L_empty 8 = .ok (.new 20, 3) := by decide +kernel
theorem d_L_empty_11 : decode b_L_empty 11 = .ok (.dup, 1) := by decide +kernel
theorem d_L_empty_12 : decode b_L_empty 12 = .ok (.ldc 22, 2) := by decide +kernel
theorem d_L_empty_14 : decode b_L_empty 14 = .ok (.invokespecial 24, 3) := by decide +kernel
theorem d_L_empty_17 : decode b_L_empty 17 = .ok (.athrow, 1) := by decide +kernel
theorem d_L_empty_18 : decode b_L_empty 18 = .ok (.aload_n 0, 1) := by decide +kernel
theorem d_L_empty_19 : decode b_L_empty 19 = .ok (.iconst 0, 1) := by decide +kernel
theorem d_L_empty_20 : decode b_L_empty 20 = .ok (.invokevirtual 27, 3) := by decide +kernel
theorem d_L_empty_23 : decode b_L_empty 23 = .ok (.aload_n 0, 1) := by decide +kernel
theorem d_L_empty_24 : decode b_L_empty 24 = .ok (.new 31, 3) := by decide +kernel
theorem d_L_empty_27 : decode b_L_empty 27 = .ok (.dup, 1) := by decide +kernel
theorem d_L_empty_28 : decode b_L_empty 28 = .ok (.iload_n 1, 1) := by decide +kernel
theorem d_L_empty_29 : decode b_L_empty 29 = .ok (.iload_n 2, 1) := by decide +kernel
theorem d_L_empty_30 : decode b_L_empty 30 = .ok (.iconst 0, 1) := by decide +kernel
theorem d_L_empty_31 : decode b_L_empty 31 = .ok (.newarray .int, 2) := by decide +kernel
theorem d_L_empty_33 : decode b_L_empty 33 = .ok (.iconst 0, 1) := by decide +kernel
theorem d_L_empty_34 : decode b_L_empty 34 = .ok (.newarray .int, 2) := by decide +kernel
theorem d_L_empty_36 : decode b_L_empty 36 = .ok (.invokespecial 33, 3) := by decide +kernel
theorem d_L_empty_39 : decode b_L_empty 39 = .ok (.invokevirtual 36, 3) := by decide +kernel
theorem d_L_empty_42 : decode b_L_empty 42 = .ok (.ireturn, 1) := by decide +kernel
theorem d_L_isKindWithForm_0 : decode b_L_isKindWithForm 0 = .ok (.iload_n 0, 1) := by decide +kernel
theorem d_L_isKindWithForm_1 : decode b_L_isKindWithForm 1 = .ok (.ifCond .lt 28, 3) := by decide +kernel
theorem d_L_isKindWithForm_4 : decode b_L_isKindWithForm 4 = .ok (.iload_n 0, 1) := by decide +kernel
theorem d_L_isKindWithForm_5 : decode b_L_isKindWithForm 5 = .ok (.getstatic 168, 3) := by decide +kernel
theorem d_L_isKindWithForm_8 : decode b_L_isKindWithForm 8 = .ok (.arraylength, 1) := by decide +kernel
theorem d_L_isKindWithForm_9 : decode b_L_isKindWithForm 9 = .ok (.if_icmp .ge 20, 3) := by decide +kernel
theorem d_L_isKindWithForm_12 : decode b_L_isKindWithForm 12 = .ok (.iload_n 1, 1) := by decide +kernel
theorem d_L_isKindWithForm_13 : decode b_L_isKindWithForm 13 = .ok (.ifCond .lt 16, 3) := by decide +kernel
theorem d_L_isKindWithForm_16 : decode b_L_isKindWithForm 16 = .ok (.iload_n 1, 1) := by decide +kernel
theorem d_L_isKindWithForm_17 : decode b_L_isKindWithForm 17 = .ok (.getstatic 168, 3) := by decide +kernel
theorem d_L_isKindWithForm_20 : decode b_L_isKindWithForm 20 = .ok (.iload_n 0, 1) := by decide +kernel
theorem d_L_isKindWithForm_21 : decode b_L_isKindWithForm 21 = .ok (.iaload, 1) := by decide +kernel
theorem d_L_isKindWithForm_22 : decode b_L_isKindWithForm 22 = .ok (.if_icmp .ge 7, 3) := by decide +kernel
theorem d_L_isKindWithForm_25 : decode b_L_isKindWithForm 25 = .ok (.iconst 1, 1) := by decide +kernel
theorem d_L_isKindWithForm_26 : decode b_L_isKindWithForm 26 = .ok (.goto 4, 3) := by decide +kernel
theorem d_L_isKindWithForm_29 : decode b_L_isKindWithForm 29 = .ok (.iconst 0, 1) := by decide +kernel
theorem d_L_isKindWithForm_30 : decode b_L_isKindWithForm 30 = .ok (.ireturn, 1) := by decide +kernel
theorem d_L_refuseBeyondLimits_0 : decode b_L_refuseBeyondLimits 0 = .ok (.aload_n 0, 1) := by decide +kernel
theorem d_L_refuseBeyondLimits_1 : decode b_L_refuseBeyondLimits 1 = .ok (.getfield 10, 3) := by decide +kernel
theorem d_L_refuseBeyondLimits_4 : decode b_L_refuseBeyondLimits 4 = .ok (.invokevirtual 136, 3) := by decide +kernel
theorem d_L_refuseBeyondLimits_7 : decode b_L_refuseBeyondLimits 7 = .ok (.bipush 64, 2) := by decide +kernel
theorem d_L_refuseBeyondLimits_9 : decode b_L_refuseBeyondLimits 9 = .ok (.if_icmp .lt 13, 3) := by decide +kernel
theorem d_L_refuseBeyondLimits_12 : decode b_L_refuseBeyondLimits 12 = .ok (.new 150, 3) := by decide +kernel
theorem d_L_refuseBeyondLimits_15 : decode b_L_refuseBeyondLimits 15 = .ok (.dup, 1) := by decide +kernel
theorem d_L_refuseBeyondLimits_16 : decode b_L_refuseBeyondLimits 16 = .ok (.ldc 152, 2) := by decide +kernel
theorem d_L_refuseBeyondLimits_18 : decode b_L_refuseBeyondLimits 18 = .ok (.invokespecial 154, 3) := by decide +kernel
theorem d_L_refuseBeyondLimits_21 : decode b_L_refuseBeyondLimits 21 = .ok (.athrow, 1) := by decide +kernel
theorem d_L_refuseBeyondLimits_22 : decode b_L_refuseBeyondLimits 22 = .ok (.iload_n 1, 1) := by decide +kernel
theorem d_L_refuseBeyondLimits_23 : decode b_L_refuseBeyondLimits 23 = .ok (.bipush 100, 2) := by decide +kernel
theorem d_L_refuseBeyondLimits_25 : decode b_L_refuseBeyondLimits 25 = .ok (.if_icmp .le 13, 3) := by decide +kernel
theorem d_L_refuseBeyondLimits_28 : decode b_L_refuseBeyondLimits 28 = .ok (.new 150, 3) := by decide +kernel
theorem d_L_refuseBeyondLimits_31 : decode b_L_refuseBeyondLimits 31 = .ok (.dup, 1) := by decide +kernel
theorem d_L_refuseBeyondLimits_32 : decode b_L_refuseBeyondLimits 32 = .ok (.ldc 155, 2) := by decide +kernel
theorem d_L_refuseBeyondLimits_34 : decode b_L_refuseBeyondLimits 34 = .ok (.invokespecial 154, 3) := by decide +kernel
theorem d_L_refuseBeyondLimits_37 : decode b_L_refuseBeyondLimits 37 = .ok (.athrow, 1) := by decide +kernel
theorem d_L_refuseBeyondLimits_38 : decode b_L_refuseBeyondLimits 38 = .ok (.return_, 1) := by decide +kernel
theorem d_V_init_0 : decode b_V_init 0 = .ok (.aload_n 0, 1) := by decide +kernel
theorem d_V_init_1 : decode b_V_init 1 = .ok (.invokespecial 1, 3) := by decide +kernel
theorem d_V_init_4 : decode b_V_init 4 = .ok (.aload_n 0, 1) := by decide +kernel
theorem d_V_init_5 : decode b_V_init 5 = .ok (.iload_n 1, 1) := by decide +kernel
theorem d_V_init_6 : decode b_V_init 6 = .ok (.putfield 7, 3) := by decide +kernel
theorem d_V_init_9 : decode b_V_init 9 = .ok (.aload_n 0, 1) := by decide +kernel
theorem d_V_init_10 : decode b_V_init 10 = .ok (.iload_n 2, 1) := by decide +kernel
theorem d_V_init_11 : decode b_V_init 11 = .ok (.putfield 13, 3) := by decide +kernel
theorem d_V_init_14 : decode b_V_init 14 = .ok (.aload_n 0, 1) := by decide +kernel
theorem d_V_init_15 : decode b_V_init 15 = .ok (.aload_n 3, 1) := by decide +kernel
theorem d_V_init_16 : decode b_V_init 16 = .ok (.putfield 16, 3) := by decide +kernel
theorem d_V_init_19 : decode b_V_init 19 = .ok (.aload_n 0, 1) := by decide +kernel
theorem d_V_init_20 : decode b_V_init 20 = .ok (.aload 4, 2) := by decide +kernel
theorem d_V_init_22 : decode b_V_init 22 = .ok (.putfield 20, 3) := by decide +kernel
theorem d_V_init_25 : decode b_V_init 25 = .ok (.return_, 1) := by decide +kernel
theorem d_L_keep_0 : decode b_L_keep 0 = .ok (.aload_n 0, 1) := by decide +kernel
theorem d_L_keep_1 : decode b_L_keep 1 = .ok (.getfield 10, 3) := by decide +kernel
theorem d_L_keep_4 : decode b_L_keep 4 = .ok (.aload_n 1, 1) := by decide +kernel
theorem d_L_keep_5 : decode b_L_keep 5 = .ok (.invokevirtual 157, 3) := by decide +kernel
theorem d_L_keep_8 : decode b_L_keep 8 = .ok (.pop, 1) := by decide +kernel
theorem d_L_keep_9 : decode b_L_keep 9 = .ok (.aload_n 0, 1) := by decide +kernel
theorem d_L_keep_10 : decode b_L_keep 10 = .ok (.getfield 10, 3) := by decide +kernel
theorem d_L_keep_13 : decode b_L_keep 13 = .ok (.invokevirtual 136, 3) := by decide +kernel
theorem d_L_keep_16 : decode b_L_keep 16 = .ok (.iconst 1, 1) := by decide +kernel
theorem d_L_keep_17 : decode b_L_keep 17 = .ok (.isub, 1) := by decide +kernel
theorem d_L_keep_18 : decode b_L_keep 18 = .ok (.ireturn, 1) := by decide +kernel
theorem d_AL_add_0 : decode b_AL_add 0 = .ok (.aload_n 0, 1) := by decide +kernel
theorem d_AL_add_1 : decode b_AL_add 1 = .ok (.dup, 1) := by decide +kernel
theorem d_AL_add_2 : decode b_AL_add 2 = .ok (.getfield 63, 3) := by decide +kernel
theorem d_AL_add_5 : decode b_AL_add 5 = .ok (.iconst 1, 1) := by decide +kernel
theorem d_AL_add_6 : decode b_AL_add 6 = .ok (.iadd, 1) := by decide +kernel
theorem d_AL_add_7 : decode b_AL_add 7 = .ok (.putfield 63, 3) := by decide +kernel
theorem d_AL_add_10 : decode b_AL_add 10 = .ok (.aload_n 0, 1) := by decide +kernel
theorem d_AL_add_11 : decode b_AL_add 11 = .ok (.aload_n 1, 1) := by decide +kernel
theorem d_AL_add_12 : decode b_AL_add 12 = .ok (.aload_n 0, 1) := by decide +kernel
theorem d_AL_add_13 : decode b_AL_add 13 = .ok (.getfield 9, 3) := by decide +kernel
theorem d_AL_add_16 : decode b_AL_add 16 = .ok (.aload_n 0, 1) := by decide +kernel
theorem d_AL_add_17 : decode b_AL_add 17 = .ok (.getfield 48, 3) := by decide +kernel
theorem d_AL_add_20 : decode b_AL_add 20 = .ok (.invokevirtual 131, 3) := by decide +kernel
theorem d_AL_add_23 : decode b_AL_add 23 = .ok (.iconst 1, 1) := by decide +kernel
theorem d_AL_add_24 : decode b_AL_add 24 = .ok (.ireturn, 1) := by decide +kernel
theorem d_AL_add3_0 : decode b_AL_add3 0 = .ok (.iload_n 3, 1) := by decide +kernel
theorem d_AL_add3_1 : decode b_AL_add3 1 = .ok (.aload_n 2, 1) := by decide +kernel
theorem d_AL_add3_2 : decode b_AL_add3 2 = .ok (.arraylength, 1) := by decide +kernel
theorem d_AL_add3_3 : decode b_AL_add3 3 = .ok (.if_icmp .ne 8, 3) := by decide +kernel
theorem d_AL_add3_6 : decode b_AL_add3 6 = .ok (.aload_n 0, 1) := by decide +kernel
theorem d_AL_add3_7 : decode b_AL_add3 7 = .ok (.invokevirtual 129, 3) := by decide +kernel
theorem d_AL_add3_10 : decode b_AL_add3 10 = .ok (.astore_n 2, 1) := by decide +kernel
theorem d_AL_add3_11 : decode b_AL_add3 11 = .ok (.aload_n 2, 1) := by decide +kernel
theorem d_AL_add3_12 : decode b_AL_add3 12 = .ok (.iload_n 3, 1) := by decide +kernel
theorem d_AL_add3_13 : decode b_AL_add3 13 = .ok (.aload_n 1, 1) := by decide +kernel
theorem d_AL_add3_14 : decode b_AL_add3 14 = .ok (.aastore, 1) := by decide +kernel
theorem d_AL_add3_15 : decode b_AL_add3 15 = .ok (.aload_n 0, 1) := by decide +kernel
theorem d_AL_add3_16 : decode b_AL_add3 16 = .ok (.iload_n 3, 1) := by decide +kernel
theorem d_AL_add3_17 : decode b_AL_add3 17 = .ok (.iconst 1, 1) := by decide +kernel
theorem d_AL_add3_18 : decode b_AL_add3 18 = .ok (.iadd, 1) := by decide +kernel
theorem d_AL_add3_19 : decode b_AL_add3 19 = .ok (.putfield 48, 3) := by decide +kernel
theorem d_AL_add3_22 : decode b_AL_add3 22 = .ok (.return_, 1) := by decide +kernel
theorem d_AL_grow_0 : decode b_AL_grow 0 = .ok (.aload_n 0, 1) := by decide +kernel
theorem d_AL_grow_1 : decode b_AL_grow 1 = .ok (.aload_n 0, 1) := by decide +kernel
theorem d_AL_grow_2 : decode b_AL_grow 2 = .ok (.getfield 48, 3) := by decide +kernel
theorem d_AL_grow_5 : decode b_AL_grow 5 = .ok (.iconst 1, 1) := by decide +kernel
theorem d_AL_grow_6 : decode b_AL_grow 6 = .ok (.iadd, 1) := by decide +kernel
theorem d_AL_grow_7 : decode b_AL_grow 7 = .ok (.invokevirtual 69, 3) := by decide +kernel
theorem d_AL_grow_10 : decode b_AL_grow 10 = .ok (.areturn, 1) := by decide +kernel
theorem d_AL_growI_0 : decode b_AL_growI 0 = .ok (.aload_n 0, 1) := by decide +kernel
theorem d_AL_growI_1 : decode b_AL_growI 1 = .ok (.getfield 9, 3) := by decide +kernel
theorem d_AL_growI_4 : decode b_AL_growI 4 = .ok (.arraylength, 1) := by decide +kernel
theorem d_AL_growI_5 : decode b_AL_growI 5 = .ok (.istore_n 2, 1) := by decide +kernel
theorem d_AL_growI_6 : decode b_AL_growI 6 = .ok (.iload_n 2, 1) := by decide +kernel
theorem d_AL_growI_7 : decode b_AL_growI 7 = .ok (.ifCond .gt 13, 3) := by decide +kernel
theorem d_AL_growI_10 : decode b_AL_growI 10 = .ok (.aload_n 0, 1) := by decide +kernel
theorem d_AL_growI_11 : decode b_AL_growI 11 = .ok (.getfield 9, 3) := by decide +kernel
theorem d_AL_growI_14 : decode b_AL_growI 14 = .ok (.getstatic 39, 3) := by decide +kernel
theorem d_AL_growI_17 : decode b_AL_growI 17 = .ok (.if_acmp .eq 28, 3) := by decide +kernel
theorem d_AL_growI_20 : decode b_AL_growI 20 = .ok (.iload_n 2, 1) := by decide +kernel
theorem d_AL_growI_21 : decode b_AL_growI 21 = .ok (.iload_n 1, 1) := by decide +kernel
theorem d_AL_growI_22 : decode b_AL_growI 22 = .ok (.iload_n 2, 1) := by decide +kernel
theorem d_AL_growI_23 : decode b_AL_growI 23 = .ok (.isub, 1) := by decide +kernel
theorem d_AL_growI_24 : decode b_AL_growI 24 = .ok (.iload_n 2, 1) := by decide +kernel
theorem d_AL_growI_25 : decode b_AL_growI 25 = .ok (.iconst 1, 1) := by decide +kernel
theorem d_AL_growI_26 : decode b_AL_growI 26 = .ok (.ishr, 1) := by decide +kernel
theorem d_AL_growI_27 : decode b_AL_growI 27 = .ok (.invokestatic 73, 3) := by decide +kernel
theorem d_AL_growI_30 : decode b_AL_growI 30 = .ok (.istore_n 3, 1) := by decide +kernel
theorem d_AL_growI_31 : decode b_AL_growI 31 = .ok (.aload_n 0, 1) := by decide +kernel
theorem d_AL_growI_32 : decode b_AL_growI 32 = .ok (.aload_n 0, 1) := by decide +kernel
theorem d_AL_growI_33 : decode b_AL_growI 33 = .ok (.getfield 9, 3) := by decide +kernel
theorem d_AL_growI_36 : decode b_AL_growI 36 = .ok (.iload_n 3, 1) := by decide +kernel
theorem d_AL_growI_37 : decode b_AL_growI 37 = .ok (.invokestatic 66, 3) := by decide +kernel
theorem d_AL_growI_40 : decode b_AL_growI 40 = .ok (.dup_x1, 1) := by decide +kernel
theorem d_AL_growI_41 : decode b_AL_growI 41 = .ok (.putfield 9, 3) := by decide +kernel
theorem d_AL_growI_44 : decode b_AL_growI 44 = .ok (.areturn, 1) := by decide +kernel
theorem d_AL_growI_45 : decode b_AL_growI 45 = .ok (.aload_n 0, 1) := by decide +kernel
theorem d_AL_growI_46 : decode b_AL_growI 46 = .ok (.bipush 10, 2) := by decide +kernel
theorem d_AL_growI_48 : decode b_AL_growI 48 = .ok (.iload_n 1, 1) := by decide +kernel
theorem d_AL_growI_49 : decode b_AL_growI 49 = .ok (.invokestatic 79, 3) := by decide +kernel
theorem d_AL_growI_52 : decode b_AL_growI 52 = .ok (.anewarray 7, 3) := by decide +kernel
theorem d_AL_growI_55 : decode b_AL_growI 55 = .ok (.dup_x1, 1) := by decide +kernel
theorem d_AL_growI_56 : decode b_AL_growI 56 = .ok (.putfield 9, 3) := by decide +kernel
theorem d_AL_growI_59 : decode b_AL_growI 59 = .ok (.areturn, 1) := by decide +kernel
theorem d_AS_newLength_0 : decode b_AS_newLength 0 = .ok (.iload_n 0, 1) := by decide +kernel
theorem d_AS_newLength_1 : decode b_AS_newLength 1 = .ok (.iload_n 1, 1) := by decide +kernel
theorem d_AS_newLength_2 : decode b_AS_newLength 2 = .ok (.iload_n 2, 1) := by decide +kernel
theorem d_AS_newLength_3 : decode b_AS_newLength 3 = .ok (.invokestatic 194, 3) := by decide +kernel
theorem d_AS_newLength_6 : decode b_AS_newLength 6 = .ok (.iadd, 1) := by decide +kernel
theorem d_AS_newLength_7 : decode b_AS_newLength 7 = .ok (.istore_n 3, 1) := by decide +kernel
theorem d_AS_newLength_8 : decode b_AS_newLength 8 = .ok (.iconst 0, 1) := by decide +kernel
theorem d_AS_newLength_9 : decode b_AS_newLength 9 = .ok (.iload_n 3, 1) := by decide +kernel
theorem d_AS_newLength_10 : decode b_AS_newLength 10 = .ok (.if_icmp .ge 11, 3) := by decide +kernel
theorem d_AS_newLength_13 : decode b_AS_newLength 13 = .ok (.iload_n 3, 1) := by decide +kernel
theorem d_AS_newLength_14 : decode b_AS_newLength 14 = .ok (.ldc 200, 2) := by decide +kernel
theorem d_AS_newLength_16 : decode b_AS_newLength 16 = .ok (.if_icmp .gt 5, 3) := by decide +kernel
theorem d_AS_newLength_19 : decode b_AS_newLength 19 = .ok (.iload_n 3, 1) := by decide +kernel
theorem d_AS_newLength_20 : decode b_AS_newLength 20 = .ok (.ireturn, 1) := by decide +kernel
theorem d_AS_newLength_21 : decode b_AS_newLength 21 = .ok (.iload_n 0, 1) := by decide +kernel
theorem d_AS_newLength_22 : decode b_AS_newLength 22 = .ok (.iload_n 1, 1) := by decide +kernel
theorem d_AS_newLength_23 : decode b_AS_newLength 23 = .ok (.invokestatic 201, 3) := by decide +kernel
theorem d_AS_newLength_26 : decode b_AS_newLength 26 = .ok (.ireturn, 1) := by decide +kernel
theorem d_MT_max_0 : decode b_MT_max 0 = .ok (.iload_n 0, 1) := by decide +kernel
theorem d_MT_max_1 : decode b_MT_max 1 = .ok (.iload_n 1, 1) := by decide +kernel
theorem d_MT_max_2 : decode b_MT_max 2 = .ok (.if_icmp .lt 7, 3) := by decide +kernel
theorem d_MT_max_5 : decode b_MT_max 5 = .ok (.iload_n 0, 1) := by decide +kernel
theorem d_MT_max_6 : decode b_MT_max 6 = .ok (.goto 4, 3) := by decide +kernel
theorem d_MT_max_9 : decode b_MT_max 9 = .ok (.iload_n 1, 1) := by decide +kernel
theorem d_MT_max_10 : decode b_MT_max 10 = .ok (.ireturn, 1) := by decide +kernel
theorem d_AS_hugeLength_0 : decode b_AS_hugeLength 0 = .ok (.iload_n 0, 1) := by decide +kernel
theorem d_AS_hugeLength_1 : decode b_AS_hugeLength 1 = .ok (.iload_n 1, 1) := by decide +kernel
theorem d_AS_hugeLength_2 : decode b_AS_hugeLength 2 = .ok (.iadd, 1) := by decide +kernel
theorem d_AS_hugeLength_3 : decode b_AS_hugeLength 3 = .ok (.istore_n 2, 1) := by decide +kernel
theorem d_AS_hugeLength_4 : decode b_AS_hugeLength 4 = .ok (.iload_n 2, 1) := by decide +kernel
theorem d_AS_hugeLength_5 : decode b_AS_hugeLength 5 = .ok (.ifCond .ge 44, 3) := by decide +kernel
theorem d_AS_hugeLength_8 : decode b_AS_hugeLength 8 = .ok (.new 204, 3) := by decide +kernel
theorem d_AS_hugeLength_11 : decode b_AS_hugeLength 11 = .ok (.dup, 1) := by decide +kernel
theorem d_AS_hugeLength_12 : decode b_AS_hugeLength 12 = .ok (.new 89, 3) := by decide +kernel
theorem d_AS_hugeLength_15 : decode b_AS_hugeLength 15 = .ok (.dup, 1) := by decide +kernel
theorem d_AS_hugeLength_16 : decode b_AS_hugeLength 16 = .ok (.invokespecial 91, 3) := by decide +kernel
theorem d_AS_hugeLength_19 : decode b_AS_hugeLength 19 = .ok (.ldc 206, 2) := by decide +kernel
theorem d_AS_hugeLength_21 : decode b_AS_hugeLength 21 = .ok (.invokevirtual 94, 3) := by decide +kernel
theorem d_AS_hugeLength_24 : decode b_AS_hugeLength 24 = .ok (.iload_n 0, 1) := by decide +kernel
theorem d_AS_hugeLength_25 : decode b_AS_hugeLength 25 = .ok (.invokevirtual 98, 3) := by decide +kernel
theorem d_AS_hugeLength_28 : decode b_AS_hugeLength 28 = .ok (.ldc 208, 2) := by decide +kernel
theorem d_AS_hugeLength_30 : decode b_AS_hugeLength 30 = .ok (.invokevirtual 94, 3) := by decide +kernel
theorem d_AS_hugeLength_33 : decode b_AS_hugeLength 33 = .ok (.iload_n 1, 1) := by decide +kernel
theorem d_AS_hugeLength_34 : decode b_AS_hugeLength 34 = .ok (.invokevirtual 98, 3) := by decide +kernel
theorem d_AS_hugeLength_37 : decode b_AS_hugeLength 37 = .ok (.ldc 210, 2) := by decide +kernel
theorem d_AS_hugeLength_39 : decode b_AS_hugeLength 39 = .ok (.invokevirtual 94, 3) := by decide +kernel
theorem d_AS_hugeLength_42 : decode b_AS_hugeLength 42 = .ok (.invokevirtual 101, 3) := by decide +kernel
theorem d_AS_hugeLength_45 : decode b_AS_hugeLength 45 = .ok (.invokespecial 212, 3) := by decide +kernel
theorem d_AS_hugeLength_48 : decode b_AS_hugeLength 48 = .ok (.athrow, 1) := by decide +kernel
theorem d_AS_hugeLength_49 : decode b_AS_hugeLength 49 = .ok (.iload_n 2, 1) := by decide +kernel
theorem d_AS_hugeLength_50 : decode b_AS_hugeLength 50 = .ok (.ldc 200, 2) := by decide +kernel
theorem d_AS_hugeLength_52 : decode b_AS_hugeLength 52 = .ok (.if_icmp .gt 6, 3) := by decide +kernel
theorem d_AS_hugeLength_55 : decode b_AS_hugeLength 55 = .ok (.ldc 200, 2) := by decide +kernel
theorem d_AS_hugeLength_57 : decode b_AS_hugeLength 57 = .ok (.ireturn, 1) := by decide +kernel
theorem d_AS_hugeLength_58 : decode b_AS_hugeLength 58 = .ok (.iload_n 2, 1) := by decide +kernel
theorem d_AS_hugeLength_59 : decode b_AS_hugeLength 59 = .ok (.ireturn, 1) := by decide +kernel
theorem d_AR_copyOf2_0 : decode b_AR_copyOf2 0 = .ok (.aload_n 0, 1) := by decide +kernel
theorem d_AR_copyOf2_1 : decode b_AR_copyOf2 1 = .ok (.iload_n 1, 1) := by decide +kernel
theorem d_AR_copyOf2_2 : decode b_AR_copyOf2 2 = .ok (.aload_n 0, 1) := by decide +kernel
theorem d_AR_copyOf2_3 : decode b_AR_copyOf2 3 = .ok (.invokevirtual 86, 3) := by decide +kernel
theorem d_AR_copyOf2_6 : decode b_AR_copyOf2 6 = .ok (.invokestatic 300, 3) := by decide +kernel
theorem d_AR_copyOf2_9 : decode b_AR_copyOf2 9 = .ok (.areturn, 1) := by decide +kernel
theorem d_AR_copyOf3_0 : decode b_AR_copyOf3 0 = .ok (.aload_n 2, 1) := by decide +kernel
theorem d_AR_copyOf3_1 : decode b_AR_copyOf3 1 = .ok (.ldc 110, 2) := by decide +kernel
theorem d_AR_copyOf3_3 : decode b_AR_copyOf3 3 = .ok (.if_acmp .ne 10, 3) := by decide +kernel
theorem d_AR_copyOf3_6 : decode b_AR_copyOf3 6 = .ok (.iload_n 1, 1) := by decide +kernel
theorem d_AR_copyOf3_7 : decode b_AR_copyOf3 7 = .ok (.anewarray 2, 3) := by decide +kernel
theorem d_AR_copyOf3_10 : decode b_AR_copyOf3 10 = .ok (.goto 14, 3) := by decide +kernel
theorem d_AR_copyOf3_13 : decode b_AR_copyOf3 13 = .ok (.aload_n 2, 1) := by decide +kernel
theorem d_AR_copyOf3_14 : decode b_AR_copyOf3 14 = .ok (.invokevirtual 90, 3) := by decide +kernel
theorem d_AR_copyOf3_17 : decode b_AR_copyOf3 17 = .ok (.iload_n 1, 1) := by decide +kernel
theorem d_AR_copyOf3_18 : decode b_AR_copyOf3 18 = .ok (.invokestatic 95, 3) := by decide +kernel
theorem d_AR_copyOf3_21 : decode b_AR_copyOf3 21 = .ok (.checkcast 110, 3) := by decide +kernel
theorem d_AR_copyOf3_24 : decode b_AR_copyOf3 24 = .ok (.astore_n 3, 1) := by decide +kernel
theorem d_AR_copyOf3_25 : decode b_AR_copyOf3 25 = .ok (.aload_n 0, 1) := by decide +kernel
theorem d_AR_copyOf3_26 : decode b_AR_copyOf3 26 = .ok (.iconst 0, 1) := by decide +kernel
theorem d_AR_copyOf3_27 : decode b_AR_copyOf3 27 = .ok (.aload_n 3, 1) := by decide +kernel
theorem d_AR_copyOf3_28 : decode b_AR_copyOf3 28 = .ok (.iconst 0, 1) := by decide +kernel
theorem d_AR_copyOf3_29 : decode b_AR_copyOf3 29 = .ok (.aload_n 0, 1) := by decide +kernel
theorem d_AR_copyOf3_30 : decode b_AR_copyOf3 30 = .ok (.arraylength, 1) := by decide +kernel
theorem d_AR_copyOf3_31 : decode b_AR_copyOf3 31 = .ok (.iload_n 1, 1) := by decide +kernel
theorem d_AR_copyOf3_32 : decode b_AR_copyOf3 32 = .ok (.invokestatic 304, 3) := by decide +kernel
theorem d_AR_copyOf3_35 : decode b_AR_copyOf3 35 = .ok (.invokestatic 150, 3) := by decide +kernel
theorem d_AR_copyOf3_38 : decode b_AR_copyOf3 38 = .ok (.aload_n 3, 1) := by decide +kernel
theorem d_AR_copyOf3_39 : decode b_AR_copyOf3 39 = .ok (.areturn, 1) := by decide +kernel
theorem d_MT_min_0 : decode b_MT_min 0 = .ok (.iload_n 0, 1) := by decide +kernel
theorem d_MT_min_1 : decode b_MT_min 1 = .ok (.iload_n 1, 1) := by decide +kernel
theorem d_MT_min_2 : decode b_MT_min 2 = .ok (.if_icmp .gt 7, 3) := by decide +kernel
theorem d_MT_min_5 : decode b_MT_min 5 = .ok (.iload_n 0, 1) := by decide +kernel
theorem d_MT_min_6 : decode b_MT_min 6 = .ok (.goto 4, 3) := by decide +kernel
theorem d_MT_min_9 : decode b_MT_min 9 = .ok (.iload_n 1, 1) := by decide +kernel
theorem d_MT_min_10 : decode b_MT_min 10 = .ok (.ireturn, 1) := by decide +kernel
theorem d_W_add_0 : decode b_W_add 0 = .ok (.aload_n 3, 1) := by decide +kernel
theorem d_W_add_1 : decode b_W_add 1 = .ok (.iconst 0, 1) := by decide +kernel
theorem d_W_add_2 : decode b_W_add 2 = .ok (.aload_n 0, 1) := by decide +kernel
theorem d_W_add_3 : decode b_W_add 3 = .ok (.iload_n 1, 1) := by decide +kernel
theorem d_W_add_4 : decode b_W_add 4 = .ok (.iload_n 2, 1) := by decide +kernel
theorem d_W_add_5 : decode b_W_add 5 = .ok (.invokevirtual 17, 3) := by decide +kernel
theorem d_W_add_8 : decode b_W_add 8 = .ok (.i2l, 1) := by decide +kernel
theorem d_W_add_9 : decode b_W_add 9 = .ok (.lastore, 1) := by decide +kernel
theorem d_W_add_10 : decode b_W_add 10 = .ok (.goto 11, 3) := by decide +kernel
theorem d_W_add_13 : decode b_W_add 13 = .ok (.astore 4, 2) := by decide +kernel
theorem d_W_add_15 : decode b_W_add 15 = .ok (.iconst 1, 1) := by decide +kernel
theorem d_W_add_16 : decode b_W_add 16 = .ok (.ireturn, 1) := by decide +kernel
theorem d_W_add_17 : decode b_W_add 17 = .ok (.astore 4, 2) := by decide +kernel
theorem d_W_add_19 : decode b_W_add 19 = .ok (.iconst 2, 1) := by decide +kernel
theorem d_W_add_20 : decode b_W_add 20 = .ok (.ireturn, 1) := by decide +kernel
theorem d_W_add_21 : decode b_W_add 21 = .ok (.iconst 0, 1) := by decide +kernel
theorem d_W_add_22 : decode b_W_add 22 = .ok (.ireturn, 1) := by decide +kernel
theorem d_L_add_0 : decode b_L_add 0 = .ok (.aload_n 0, 1) := by decide +kernel
theorem d_L_add_1 : decode b_L_add 1 = .ok (.iload_n 1, 1) := by decide +kernel
theorem d_L_add_2 : decode b_L_add 2 = .ok (.invokevirtual 40, 3) := by decide +kernel
theorem d_L_add_5 : decode b_L_add 5 = .ok (.astore_n 3, 1) := by decide +kernel
theorem d_L_add_6 : decode b_L_add 6 = .ok (.aload_n 0, 1) := by decide +kernel
theorem d_L_add_7 : decode b_L_add 7 = .ok (.aload_n 3, 1) := by decide +kernel
theorem d_L_add_8 : decode b_L_add 8 = .ok (.getfield 44, 3) := by decide +kernel
theorem d_L_add_11 : decode b_L_add 11 = .ok (.arraylength, 1) := by decide +kernel
theorem d_L_add_12 : decode b_L_add 12 = .ok (.iconst 1, 1) := by decide +kernel
theorem d_L_add_13 : decode b_L_add 13 = .ok (.iadd, 1) := by decide +kernel
theorem d_L_add_14 : decode b_L_add 14 = .ok (.invokevirtual 27, 3) := by decide +kernel
theorem d_L_add_17 : decode b_L_add 17 = .ok (.aload_n 0, 1) := by decide +kernel
theorem d_L_add_18 : decode b_L_add 18 = .ok (.aload_n 3, 1) := by decide +kernel
theorem d_L_add_19 : decode b_L_add 19 = .ok (.aload_n 3, 1) := by decide +kernel
theorem d_L_add_20 : decode b_L_add 20 = .ok (.getfield 44, 3) := by decide +kernel
theorem d_L_add_23 : decode b_L_add 23 = .ok (.aload_n 3, 1) := by decide +kernel
theorem d_L_add_24 : decode b_L_add 24 = .ok (.iload_n 2, 1) := by decide +kernel
theorem d_L_add_25 : decode b_L_add 25 = .ok (.invokestatic 48, 3) := by decide +kernel
theorem d_L_add_28 : decode b_L_add 28 = .ok (.iload_n 2, 1) := by decide +kernel
theorem d_L_add_29 : decode b_L_add 29 = .ok (.invokestatic 52, 3) := by decide +kernel
theorem d_L_add_32 : decode b_L_add 32 = .ok (.invokevirtual 56, 3) := by decide +kernel
theorem d_L_add_35 : decode b_L_add 35 = .ok (.invokevirtual 36, 3) := by decide +kernel
theorem d_L_add_38 : decode b_L_add 38 = .ok (.ireturn, 1) := by decide +kernel
theorem d_L_foundButNoMap_0 : decode b_L_foundButNoMap 0 = .ok (.aload_n 0, 1) := by decide +kernel
theorem d_L_foundButNoMap_1 : decode b_L_foundButNoMap 1 = .ok (.iload_n 1, 1) := by decide +kernel
theorem d_L_foundButNoMap_2 : decode b_L_foundButNoMap 2 = .ok (.invokevirtual 69, 3) := by decide +kernel
theorem d_L_foundButNoMap_5 : decode b_L_foundButNoMap 5 = .ok (.astore_n 2, 1) := by decide +kernel
theorem d_L_foundButNoMap_6 : decode b_L_foundButNoMap 6 = .ok (.aload_n 2, 1) := by decide +kernel
theorem d_L_foundButNoMap_7 : decode b_L_foundButNoMap 7 = .ok (.getfield 78, 3) := by decide +kernel
theorem d_L_foundButNoMap_10 : decode b_L_foundButNoMap 10 = .ok (.iconst 3, 1) := by decide +kernel
theorem d_L_foundButNoMap_11 : decode b_L_foundButNoMap 11 = .ok (.if_icmp .ne 13, 3) := by decide +kernel
theorem d_L_foundButNoMap_14 : decode b_L_foundButNoMap 14 = .ok (.new 20, 3) := by decide +kernel
theorem d_L_foundButNoMap_17 : decode b_L_foundButNoMap 17 = .ok (.dup, 1) := by decide +kernel
theorem d_L_foundButNoMap_18 : decode b_L_foundButNoMap 18 = .ok (.ldc 148, 2) := by decide +kernel
theorem d_L_foundButNoMap_20 : decode b_L_foundButNoMap 20 = .ok (.invokespecial 24, 3) := by decide +kernel
theorem d_L_foundButNoMap_23 : decode b_L_foundButNoMap 23 = .ok (.athrow, 1) := by decide +kernel
theorem d_L_foundButNoMap_24 : decode b_L_foundButNoMap 24 = .ok (.aload_n 2, 1) := by decide +kernel
theorem d_L_foundButNoMap_25 : decode b_L_foundButNoMap 25 = .ok (.areturn, 1) := by decide +kernel
theorem d_L_found_0 : decode b_L_found 0 = .ok (.iload_n 1, 1) := by decide +kernel
theorem d_L_found_1 : decode b_L_found 1 = .ok (.ifCond .lt 14, 3) := by decide +kernel
theorem d_L_found_4 : decode b_L_found 4 = .ok (.iload_n 1, 1) := by decide +kernel
theorem d_L_found_5 : decode b_L_found 5 = .ok (.aload_n 0, 1) := by decide +kernel
theorem d_L_found_6 : decode b_L_found 6 = .ok (.getfield 10, 3) := by decide +kernel
theorem d_L_found_9 : decode b_L_found 9 = .ok (.invokevirtual 136, 3) := by decide +kernel
theorem d_L_found_12 : decode b_L_found 12 = .ok (.if_icmp .lt 13, 3) := by decide +kernel
theorem d_L_found_15 : decode b_L_found 15 = .ok (.new 20, 3) := by decide +kernel
theorem d_L_found_18 : decode b_L_found 18 = .ok (.dup, 1) := by decide +kernel
theorem d_L_found_19 : decode b_L_found 19 = .ok (.ldc 140, 2) := by decide +kernel
theorem d_L_found_21 : decode b_L_found 21 = .ok (.invokespecial 24, 3) := by decide +kernel
theorem d_L_found_24 : decode b_L_found 24 = .ok (.athrow, 1) := by decide +kernel
theorem d_L_found_25 : decode b_L_found 25 = .ok (.aload_n 0, 1) := by decide +kernel
theorem d_L_found_26 : decode b_L_found 26 = .ok (.getfield 10, 3) := by decide +kernel
theorem d_L_found_29 : decode b_L_found 29 = .ok (.iload_n 1, 1) := by decide +kernel
theorem d_L_found_30 : decode b_L_found 30 = .ok (.invokevirtual 142, 3) := by decide +kernel
theorem d_L_found_33 : decode b_L_found 33 = .ok (.checkcast 31, 3) := by decide +kernel
theorem d_L_found_36 : decode b_L_found 36 = .ok (.areturn, 1) := by decide +kernel
theorem d_AL_get_0 : decode b_AL_get 0 = .ok (.iload_n 1, 1) := by decide +kernel
theorem d_AL_get_1 : decode b_AL_get 1 = .ok (.aload_n 0, 1) := by decide +kernel
theorem d_AL_get_2 : decode b_AL_get 2 = .ok (.getfield 48, 3) := by decide +kernel
theorem d_AL_get_5 : decode b_AL_get 5 = .ok (.invokestatic 118, 3) := by decide +kernel
theorem d_AL_get_8 : decode b_AL_get 8 = .ok (.pop, 1) := by decide +kernel
theorem d_AL_get_9 : decode b_AL_get 9 = .ok (.aload_n 0, 1) := by decide +kernel
theorem d_AL_get_10 : decode b_AL_get 10 = .ok (.iload_n 1, 1) := by decide +kernel
theorem d_AL_get_11 : decode b_AL_get 11 = .ok (.invokevirtual 123, 3) := by decide +kernel
theorem d_AL_get_14 : decode b_AL_get 14 = .ok (.areturn, 1) := by decide +kernel
theorem d_OB_checkIndex_0 : decode b_OB_checkIndex 0 = .ok (.iload_n 0, 1) := by decide +kernel
theorem d_OB_checkIndex_1 : decode b_OB_checkIndex 1 = .ok (.iload_n 1, 1) := by decide +kernel
theorem d_OB_checkIndex_2 : decode b_OB_checkIndex 2 = .ok (.aconst_null, 1) := by decide +kernel
theorem d_OB_checkIndex_3 : decode b_OB_checkIndex 3 = .ok (.invokestatic 105, 3) := by decide +kernel
theorem d_OB_checkIndex_6 : decode b_OB_checkIndex 6 = .ok (.ireturn, 1) := by decide +kernel
theorem d_PC_checkIndex_0 : decode b_PC_checkIndex 0 = .ok (.iload_n 0, 1) := by decide +kernel
theorem d_PC_checkIndex_1 : decode b_PC_checkIndex 1 = .ok (.ifCond .lt 8, 3) := by decide +kernel
theorem d_PC_checkIndex_4 : decode b_PC_checkIndex 4 = .ok (.iload_n 0, 1) := by decide +kernel
theorem d_PC_checkIndex_5 : decode b_PC_checkIndex 5 = .ok (.iload_n 1, 1) := by decide +kernel
theorem d_PC_checkIndex_6 : decode b_PC_checkIndex 6 = .ok (.if_icmp .lt 10, 3) := by decide +kernel
theorem d_PC_checkIndex_9 : decode b_PC_checkIndex 9 = .ok (.aload_n 2, 1) := by decide +kernel
theorem d_PC_checkIndex_10 : decode b_PC_checkIndex 10 = .ok (.iload_n 0, 1) := by decide +kernel
theorem d_PC_checkIndex_11 : decode b_PC_checkIndex 11 = .ok (.iload_n 1, 1) := by decide +kernel
theorem d_PC_checkIndex_12 : decode b_PC_checkIndex 12 = .ok (.invokestatic 95, 3) := by decide +kernel
theorem d_PC_checkIndex_15 : decode b_PC_checkIndex 15 = .ok (.athrow, 1) := by decide +kernel
theorem d_PC_checkIndex_16 : decode b_PC_checkIndex 16 = .ok (.iload_n 0, 1) := by decide +kernel
theorem d_PC_checkIndex_17 : decode b_PC_checkIndex 17 = .ok (.ireturn, 1) := by decide +kernel
theorem d_AL_elementData_0 : decode b_AL_elementData 0 = .ok (.aload_n 0, 1) := by decide +kernel
theorem d_AL_elementData_1 : decode b_AL_elementData 1 = .ok (.getfield 9, 3) := by decide +kernel
theorem d_AL_elementData_4 : decode b_AL_elementData 4 = .ok (.iload_n 1, 1) := by decide +kernel
theorem d_AL_elementData_5 : decode b_AL_elementData 5 = .ok (.aaload, 1) := by decide +kernel
theorem d_AL_elementData_6 : decode b_AL_elementData 6 = .ok (.areturn, 1) := by decide +kernel
theorem d_L_placeToAdd_0 : decode b_L_placeToAdd 0 = .ok (.aload_n 0, 1) := by decide +kernel
theorem d_L_placeToAdd_1 : decode b_L_placeToAdd 1 = .ok (.getfield 78, 3) := by decide +kernel
theorem d_L_placeToAdd_4 : decode b_L_placeToAdd 4 = .ok (.lookupswitch 39 #[(1, 30), (2, 28)], 28) := by decide +kernel
theorem d_L_placeToAdd_32 : decode b_L_placeToAdd 32 = .ok (.iconst 0, 1) := by decide +kernel
theorem d_L_placeToAdd_33 : decode b_L_placeToAdd 33 = .ok (.ireturn, 1) := by decide +kernel
theorem d_L_placeToAdd_34 : decode b_L_placeToAdd 34 = .ok (.aload_n 0, 1) := by decide +kernel
theorem d_L_placeToAdd_35 : decode b_L_placeToAdd 35 = .ok (.getfield 44, 3) := by decide +kernel
theorem d_L_placeToAdd_38 : decode b_L_placeToAdd 38 = .ok (.iload_n 1, 1) := by decide +kernel
theorem d_L_placeToAdd_39 : decode b_L_placeToAdd 39 = .ok (.invokestatic 98, 3) := by decide +kernel
theorem d_L_placeToAdd_42 : decode b_L_placeToAdd 42 = .ok (.ireturn, 1) := by decide +kernel
theorem d_L_placeToAdd_43 : decode b_L_placeToAdd 43 = .ok (.aload_n 0, 1) := by decide +kernel
theorem d_L_placeToAdd_44 : decode b_L_placeToAdd 44 = .ok (.getfield 44, 3) := by decide +kernel
theorem d_L_placeToAdd_47 : decode b_L_placeToAdd 47 = .ok (.arraylength, 1) := by decide +kernel
theorem d_L_placeToAdd_48 : decode b_L_placeToAdd 48 = .ok (.ireturn, 1) := by decide +kernel
theorem d_L_countBelow_0 : decode b_L_countBelow 0 = .ok (.iconst 0, 1) := by decide +kernel
theorem d_L_countBelow_1 : decode b_L_countBelow 1 = .ok (.istore_n 2, 1) := by decide +kernel
theorem d_L_countBelow_2 : decode b_L_countBelow 2 = .ok (.iload_n 2, 1) := by decide +kernel
theorem d_L_countBelow_3 : decode b_L_countBelow 3 = .ok (.aload_n 0, 1) := by decide +kernel
theorem d_L_countBelow_4 : decode b_L_countBelow 4 = .ok (.arraylength, 1) := by decide +kernel
theorem d_L_countBelow_5 : decode b_L_countBelow 5 = .ok (.if_icmp .ge 16, 3) := by decide +kernel
theorem d_L_countBelow_8 : decode b_L_countBelow 8 = .ok (.aload_n 0, 1) := by decide +kernel
theorem d_L_countBelow_9 : decode b_L_countBelow 9 = .ok (.iload_n 2, 1) := by decide +kernel
theorem d_L_countBelow_10 : decode b_L_countBelow 10 = .ok (.iaload, 1) := by decide +kernel
theorem d_L_countBelow_11 : decode b_L_countBelow 11 = .ok (.iload_n 1, 1) := by decide +kernel
theorem d_L_countBelow_12 : decode b_L_countBelow 12 = .ok (.if_icmp .ge 9, 3) := by decide +kernel
theorem d_L_countBelow_15 : decode b_L_countBelow 15 = .ok (.iinc 2 1, 3) := by decide +kernel
theorem d_L_countBelow_18 : decode b_L_countBelow 18 = .ok (.goto (-16), 3) := by decide +kernel
theorem d_L_countBelow_21 : decode b_L_countBelow 21 = .ok (.iload_n 2, 1) := by decide +kernel
theorem d_L_countBelow_22 : decode b_L_countBelow 22 = .ok (.ireturn, 1) := by decide +kernel
theorem d_L_inserted_0 : decode b_L_inserted 0 = .ok (.aload_n 0, 1) := by decide +kernel
theorem d_L_inserted_1 : decode b_L_inserted 1 = .ok (.arraylength, 1) := by decide +kernel
theorem d_L_inserted_2 : decode b_L_inserted 2 = .ok (.iconst 1, 1) := by decide +kernel
theorem d_L_inserted_3 : decode b_L_inserted 3 = .ok (.iadd, 1) := by decide +kernel
theorem d_L_inserted_4 : decode b_L_inserted 4 = .ok (.newarray .int, 2) := by decide +kernel
theorem d_L_inserted_6 : decode b_L_inserted 6 = .ok (.astore_n 3, 1) := by decide +kernel
theorem d_L_inserted_7 : decode b_L_inserted 7 = .ok (.aload_n 0, 1) := by decide +kernel
theorem d_L_inserted_8 : decode b_L_inserted 8 = .ok (.iconst 0, 1) := by decide +kernel
theorem d_L_inserted_9 : decode b_L_inserted 9 = .ok (.aload_n 3, 1) := by decide +kernel
theorem d_L_inserted_10 : decode b_L_inserted 10 = .ok (.iconst 0, 1) := by decide +kernel
theorem d_L_inserted_11 : decode b_L_inserted 11 = .ok (.iload_n 1, 1) := by decide +kernel
theorem d_L_inserted_12 : decode b_L_inserted 12 = .ok (.invokestatic 171, 3) := by decide +kernel
theorem d_L_inserted_15 : decode b_L_inserted 15 = .ok (.aload_n 3, 1) := by decide +kernel
theorem d_L_inserted_16 : decode b_L_inserted 16 = .ok (.iload_n 1, 1) := by decide +kernel
theorem d_L_inserted_17 : decode b_L_inserted 17 = .ok (.iload_n 2, 1) := by decide +kernel
theorem d_L_inserted_18 : decode b_L_inserted 18 = .ok (.iastore, 1) := by decide +kernel
theorem d_L_inserted_19 : decode b_L_inserted 19 = .ok (.aload_n 0, 1) := by decide +kernel
theorem d_L_inserted_20 : decode b_L_inserted 20 = .ok (.iload_n 1, 1) := by decide +kernel
theorem d_L_inserted_21 : decode b_L_inserted 21 = .ok (.aload_n 3, 1) := by decide +kernel
theorem d_L_inserted_22 : decode b_L_inserted 22 = .ok (.iload_n 1, 1) := by decide +kernel
theorem d_L_inserted_23 : decode b_L_inserted 23 = .ok (.iconst 1, 1) := by decide +kernel
theorem d_L_inserted_24 : decode b_L_inserted 24 = .ok (.iadd, 1) := by decide +kernel
theorem d_L_inserted_25 : decode b_L_inserted 25 = .ok (.aload_n 0, 1) := by decide +kernel
theorem d_L_inserted_26 : decode b_L_inserted 26 = .ok (.arraylength, 1) := by decide +kernel
theorem d_L_inserted_27 : decode b_L_inserted 27 = .ok (.iload_n 1, 1) := by decide +kernel
theorem d_L_inserted_28 : decode b_L_inserted 28 = .ok (.isub, 1) := by decide +kernel
theorem d_L_inserted_29 : decode b_L_inserted 29 = .ok (.invokestatic 171, 3) := by decide +kernel
theorem d_L_inserted_32 : decode b_L_inserted 32 = .ok (.aload_n 3, 1) := by decide +kernel
theorem d_L_inserted_33 : decode b_L_inserted 33 = .ok (.areturn, 1) := by decide +kernel
theorem d_V_with_0 : decode b_V_with 0 = .ok (.new 8, 3) := by decide +kernel
theorem d_V_with_3 : decode b_V_with 3 = .ok (.dup, 1) := by decide +kernel
theorem d_V_with_4 : decode b_V_with 4 = .ok (.aload_n 0, 1) := by decide +kernel
theorem d_V_with_5 : decode b_V_with 5 = .ok (.getfield 7, 3) := by decide +kernel
theorem d_V_with_8 : decode b_V_with 8 = .ok (.aload_n 0, 1) := by decide +kernel
theorem d_V_with_9 : decode b_V_with 9 = .ok (.getfield 13, 3) := by decide +kernel
theorem d_V_with_12 : decode b_V_with 12 = .ok (.aload_n 1, 1) := by decide +kernel
theorem d_V_with_13 : decode b_V_with 13 = .ok (.aload_n 0, 1) := by decide +kernel
theorem d_V_with_14 : decode b_V_with 14 = .ok (.getfield 20, 3) := by decide +kernel
theorem d_V_with_17 : decode b_V_with 17 = .ok (.invokespecial 23, 3) := by decide +kernel
theorem d_V_with_20 : decode b_V_with 20 = .ok (.areturn, 1) := by decide +kernel
theorem d_W_first_0 : decode b_W_first 0 = .ok (.aload_n 2, 1) := by decide +kernel
theorem d_W_first_1 : decode b_W_first 1 = .ok (.iconst 0, 1) := by decide +kernel
theorem d_W_first_2 : decode b_W_first 2 = .ok (.aload_n 0, 1) := by decide +kernel
theorem d_W_first_3 : decode b_W_first 3 = .ok (.iload_n 1, 1) := by decide +kernel
theorem d_W_first_4 : decode b_W_first 4 = .ok (.invokevirtual 20, 3) := by decide +kernel
theorem d_W_first_7 : decode b_W_first 7 = .ok (.i2l, 1) := by decide +kernel
theorem d_W_first_8 : decode b_W_first 8 = .ok (.lastore, 1) := by decide +kernel
theorem d_W_first_9 : decode b_W_first 9 = .ok (.goto 9, 3) := by decide +kernel
theorem d_W_first_12 : decode b_W_first 12 = .ok (.astore_n 3, 1) := by decide +kernel
theorem d_W_first_13 : decode b_W_first 13 = .ok (.iconst 1, 1) := by decide +kernel
theorem d_W_first_14 : decode b_W_first 14 = .ok (.ireturn, 1) := by decide +kernel
theorem d_W_first_15 : decode b_W_first 15 = .ok (.astore_n 3, 1) := by decide +kernel
theorem d_W_first_16 : decode b_W_first 16 = .ok (.iconst 2, 1) := by decide +kernel
theorem d_W_first_17 : decode b_W_first 17 = .ok (.ireturn, 1) := by decide +kernel
theorem d_W_first_18 : decode b_W_first 18 = .ok (.iconst 0, 1) := by decide +kernel
theorem d_W_first_19 : decode b_W_first 19 = .ok (.ireturn, 1) := by decide +kernel
theorem d_L_first_0 : decode b_L_first 0 = .ok (.aload_n 0, 1) := by decide +kernel
theorem d_L_first_1 : decode b_L_first 1 = .ok (.iload_n 1, 1) := by decide +kernel
theorem d_L_first_2 : decode b_L_first 2 = .ok (.invokevirtual 40, 3) := by decide +kernel
theorem d_L_first_5 : decode b_L_first 5 = .ok (.astore_n 2, 1) := by decide +kernel
theorem d_L_first_6 : decode b_L_first 6 = .ok (.aload_n 2, 1) := by decide +kernel
theorem d_L_first_7 : decode b_L_first 7 = .ok (.invokestatic 60, 3) := by decide +kernel
theorem d_L_first_10 : decode b_L_first 10 = .ok (.aload_n 2, 1) := by decide +kernel
theorem d_L_first_11 : decode b_L_first 11 = .ok (.getfield 44, 3) := by decide +kernel
theorem d_L_first_14 : decode b_L_first 14 = .ok (.iconst 0, 1) := by decide +kernel
theorem d_L_first_15 : decode b_L_first 15 = .ok (.iaload, 1) := by decide +kernel
theorem d_L_first_16 : decode b_L_first 16 = .ok (.ireturn, 1) := by decide +kernel
theorem d_L_refuseWithoutElements_0 : decode b_L_refuseWithoutElements 0 = .ok (.aload_n 0, 1) := by decide +kernel
theorem d_L_refuseWithoutElements_1 : decode b_L_refuseWithoutElements 1 = .ok (.getfield 44, 3) := by decide +kernel
theorem d_L_refuseWithoutElements_4 : decode b_L_refuseWithoutElements 4 = .ok (.arraylength, 1) := by decide +kernel
theorem d_L_refuseWithoutElements_5 : decode b_L_refuseWithoutElements 5 = .ok (.ifCond .ne 13, 3) := by decide +kernel
theorem d_L_refuseWithoutElements_8 : decode b_L_refuseWithoutElements 8 = .ok (.new 112, 3) := by decide +kernel
theorem d_L_refuseWithoutElements_11 : decode b_L_refuseWithoutElements 11 = .ok (.dup, 1) := by decide +kernel
theorem d_L_refuseWithoutElements_12 : decode b_L_refuseWithoutElements 12 = .ok (.ldc 161, 2) := by decide +kernel
theorem d_L_refuseWithoutElements_14 : decode b_L_refuseWithoutElements 14 = .ok (.invokespecial 116, 3) := by decide +kernel
theorem d_L_refuseWithoutElements_17 : decode b_L_refuseWithoutElements 17 = .ok (.athrow, 1) := by decide +kernel
theorem d_L_refuseWithoutElements_18 : decode b_L_refuseWithoutElements 18 = .ok (.return_, 1) := by decide +kernel
theorem d_W_rest_0 : decode b_W_rest 0 = .ok (.aload_n 2, 1) := by decide +kernel
theorem d_W_rest_1 : decode b_W_rest 1 = .ok (.iconst 0, 1) := by decide +kernel
theorem d_W_rest_2 : decode b_W_rest 2 = .ok (.aload_n 0, 1) := by decide +kernel
theorem d_W_rest_3 : decode b_W_rest 3 = .ok (.iload_n 1, 1) := by decide +kernel
theorem d_W_rest_4 : decode b_W_rest 4 = .ok (.invokevirtual 26, 3) := by decide +kernel
theorem d_W_rest_7 : decode b_W_rest 7 = .ok (.i2l, 1) := by decide +kernel
theorem d_W_rest_8 : decode b_W_rest 8 = .ok (.lastore, 1) := by decide +kernel
theorem d_W_rest_9 : decode b_W_rest 9 = .ok (.goto 12, 3) := by decide +kernel
theorem d_W_rest_12 : decode b_W_rest 12 = .ok (.astore_n 3, 1) := by decide +kernel
theorem d_W_rest_13 : decode b_W_rest 13 = .ok (.iconst 1, 1) := by decide +kernel
theorem d_W_rest_14 : decode b_W_rest 14 = .ok (.ireturn, 1) := by decide +kernel
theorem d_W_rest_15 : decode b_W_rest 15 = .ok (.astore_n 3, 1) := by decide +kernel
theorem d_W_rest_16 : decode b_W_rest 16 = .ok (.iconst 2, 1) := by decide +kernel
theorem d_W_rest_17 : decode b_W_rest 17 = .ok (.ireturn, 1) := by decide +kernel
theorem d_W_rest_18 : decode b_W_rest 18 = .ok (.astore_n 3, 1) := by decide +kernel
theorem d_W_rest_19 : decode b_W_rest 19 = .ok (.iconst 3, 1) := by decide +kernel
theorem d_W_rest_20 : decode b_W_rest 20 = .ok (.ireturn, 1) := by decide +kernel
theorem d_W_rest_21 : decode b_W_rest 21 = .ok (.iconst 0, 1) := by decide +kernel
theorem d_W_rest_22 : decode b_W_rest 22 = .ok (.ireturn, 1) := by decide +kernel
theorem d_L_rest_0 : decode b_L_rest 0 = .ok (.aload_n 0, 1) := by decide +kernel
theorem d_L_rest_1 : decode b_L_rest 1 = .ok (.iload_n 1, 1) := by decide +kernel
theorem d_L_rest_2 : decode b_L_rest 2 = .ok (.invokevirtual 40, 3) := by decide +kernel
theorem d_L_rest_5 : decode b_L_rest 5 = .ok (.astore_n 2, 1) := by decide +kernel
theorem d_L_rest_6 : decode b_L_rest 6 = .ok (.aload_n 0, 1) := by decide +kernel
theorem d_L_rest_7 : decode b_L_rest 7 = .ok (.aload_n 2, 1) := by decide +kernel
theorem d_L_rest_8 : decode b_L_rest 8 = .ok (.getfield 44, 3) := by decide +kernel
theorem d_L_rest_11 : decode b_L_rest 11 = .ok (.arraylength, 1) := by decide +kernel
theorem d_L_rest_12 : decode b_L_rest 12 = .ok (.iconst 1, 1) := by decide +kernel
theorem d_L_rest_13 : decode b_L_rest 13 = .ok (.isub, 1) := by decide +kernel
theorem d_L_rest_14 : decode b_L_rest 14 = .ok (.invokevirtual 27, 3) := by decide +kernel
theorem d_L_rest_17 : decode b_L_rest 17 = .ok (.aload_n 2, 1) := by decide +kernel
theorem d_L_rest_18 : decode b_L_rest 18 = .ok (.invokestatic 60, 3) := by decide +kernel
theorem d_L_rest_21 : decode b_L_rest 21 = .ok (.aload_n 0, 1) := by decide +kernel
theorem d_L_rest_22 : decode b_L_rest 22 = .ok (.aload_n 2, 1) := by decide +kernel
theorem d_L_rest_23 : decode b_L_rest 23 = .ok (.aload_n 2, 1) := by decide +kernel
theorem d_L_rest_24 : decode b_L_rest 24 = .ok (.getfield 44, 3) := by decide +kernel
theorem d_L_rest_27 : decode b_L_rest 27 = .ok (.iconst 1, 1) := by decide +kernel
theorem d_L_rest_28 : decode b_L_rest 28 = .ok (.aload_n 2, 1) := by decide +kernel
theorem d_L_rest_29 : decode b_L_rest 29 = .ok (.getfield 44, 3) := by decide +kernel
theorem d_L_rest_32 : decode b_L_rest 32 = .ok (.arraylength, 1) := by decide +kernel
theorem d_L_rest_33 : decode b_L_rest 33 = .ok (.invokestatic 64, 3) := by decide +kernel
theorem d_L_rest_36 : decode b_L_rest 36 = .ok (.invokevirtual 56, 3) := by decide +kernel
theorem d_L_rest_39 : decode b_L_rest 39 = .ok (.invokevirtual 36, 3) := by decide +kernel
theorem d_L_rest_42 : decode b_L_rest 42 = .ok (.ireturn, 1) := by decide +kernel
theorem d_AR_copyOfRange_0 : decode b_AR_copyOfRange 0 = .ok (.iload_n 1, 1) := by decide +kernel
theorem d_AR_copyOfRange_1 : decode b_AR_copyOfRange 1 = .ok (.ifCond .ne 9, 3) := by decide +kernel
theorem d_AR_copyOfRange_4 : decode b_AR_copyOfRange 4 = .ok (.iload_n 2, 1) := by decide +kernel
theorem d_AR_copyOfRange_5 : decode b_AR_copyOfRange 5 = .ok (.aload_n 0, 1) := by decide +kernel
theorem d_AR_copyOfRange_6 : decode b_AR_copyOfRange 6 = .ok (.arraylength, 1) := by decide +kernel
theorem d_AR_copyOfRange_7 : decode b_AR_copyOfRange 7 = .ok (.if_icmp .eq 10, 3) := by decide +kernel
theorem d_AR_copyOfRange_10 : decode b_AR_copyOfRange 10 = .ok (.aload_n 0, 1) := by decide +kernel
theorem d_AR_copyOfRange_11 : decode b_AR_copyOfRange 11 = .ok (.iload_n 1, 1) := by decide +kernel
theorem d_AR_copyOfRange_12 : decode b_AR_copyOfRange 12 = .ok (.iload_n 2, 1) := by decide +kernel
theorem d_AR_copyOfRange_13 : decode b_AR_copyOfRange 13 = .ok (.invokestatic 351, 3) := by decide +kernel
theorem d_AR_copyOfRange_16 : decode b_AR_copyOfRange 16 = .ok (.areturn, 1) := by decide +kernel
theorem d_AR_copyOfRange_17 : decode b_AR_copyOfRange 17 = .ok (.aload_n 0, 1) := by decide +kernel
theorem d_AR_copyOfRange_18 : decode b_AR_copyOfRange 18 = .ok (.invokevirtual 316, 3) := by decide +kernel
end
section
theorem d_AR_copyOfRange_21 : decode b_AR_copyOfRange 21 = .ok (.checkcast 317, 3) := by decide +kernel
theorem d_AR_copyOfRange_24 : decode b_AR_copyOfRange 24 = .ok (.areturn, 1) := by decide +kernel
theorem d_AR_copyOfRangeInt_0 : decode b_AR_copyOfRangeInt 0 = .ok (.iload_n 1, 1) := by decide +kernel
theorem d_AR_copyOfRangeInt_1 : decode b_AR_copyOfRangeInt 1 = .ok (.iload_n 2, 1) := by decide +kernel
theorem d_AR_copyOfRangeInt_2 : decode b_AR_copyOfRangeInt 2 = .ok (.invokestatic 343, 3) := by decide +kernel
theorem d_AR_copyOfRangeInt_5 : decode b_AR_copyOfRangeInt 5 = .ok (.iload_n 2, 1) := by decide +kernel
theorem d_AR_copyOfRangeInt_6 : decode b_AR_copyOfRangeInt 6 = .ok (.iload_n 1, 1) := by decide +kernel
theorem d_AR_copyOfRangeInt_7 : decode b_AR_copyOfRangeInt 7 = .ok (.isub, 1) := by decide +kernel
theorem d_AR_copyOfRangeInt_8 : decode b_AR_copyOfRangeInt 8 = .ok (.istore_n 3, 1) := by decide +kernel
theorem d_AR_copyOfRangeInt_9 : decode b_AR_copyOfRangeInt 9 = .ok (.iload_n 3, 1) := by decide +kernel
theorem d_AR_copyOfRangeInt_10 : decode b_AR_copyOfRangeInt 10 = .ok (.newarray .int, 2) := by decide +kernel
theorem d_AR_copyOfRangeInt_12 : decode b_AR_copyOfRangeInt 12 = .ok (.astore 4, 2) := by decide +kernel
theorem d_AR_copyOfRangeInt_14 : decode b_AR_copyOfRangeInt 14 = .ok (.aload_n 0, 1) := by decide +kernel
theorem d_AR_copyOfRangeInt_15 : decode b_AR_copyOfRangeInt 15 = .ok (.iload_n 1, 1) := by decide +kernel
theorem d_AR_copyOfRangeInt_16 : decode b_AR_copyOfRangeInt 16 = .ok (.aload 4, 2) := by decide +kernel
theorem d_AR_copyOfRangeInt_18 : decode b_AR_copyOfRangeInt 18 = .ok (.iconst 0, 1) := by decide +kernel
theorem d_AR_copyOfRangeInt_19 : decode b_AR_copyOfRangeInt 19 = .ok (.aload_n 0, 1) := by decide +kernel
theorem d_AR_copyOfRangeInt_20 : decode b_AR_copyOfRangeInt 20 = .ok (.arraylength, 1) := by decide +kernel
theorem d_AR_copyOfRangeInt_21 : decode b_AR_copyOfRangeInt 21 = .ok (.iload_n 1, 1) := by decide +kernel
theorem d_AR_copyOfRangeInt_22 : decode b_AR_copyOfRangeInt 22 = .ok (.isub, 1) := by decide +kernel
theorem d_AR_copyOfRangeInt_23 : decode b_AR_copyOfRangeInt 23 = .ok (.iload_n 3, 1) := by decide +kernel
theorem d_AR_copyOfRangeInt_24 : decode b_AR_copyOfRangeInt 24 = .ok (.invokestatic 304, 3) := by decide +kernel
theorem d_AR_copyOfRangeInt_27 : decode b_AR_copyOfRangeInt 27 = .ok (.invokestatic 150, 3) := by decide +kernel
theorem d_AR_copyOfRangeInt_30 : decode b_AR_copyOfRangeInt 30 = .ok (.aload 4, 2) := by decide +kernel
theorem d_AR_copyOfRangeInt_32 : decode b_AR_copyOfRangeInt 32 = .ok (.areturn, 1) := by decide +kernel
theorem d_AR_checkLength_0 : decode b_AR_checkLength 0 = .ok (.iload_n 1, 1) := by decide +kernel
theorem d_AR_checkLength_1 : decode b_AR_checkLength 1 = .ok (.iload_n 0, 1) := by decide +kernel
theorem d_AR_checkLength_2 : decode b_AR_checkLength 2 = .ok (.if_icmp .ge 35, 3) := by decide +kernel
theorem d_AR_checkLength_5 : decode b_AR_checkLength 5 = .ok (.new 43, 3) := by decide +kernel
theorem d_AR_checkLength_8 : decode b_AR_checkLength 8 = .ok (.dup, 1) := by decide +kernel
theorem d_AR_checkLength_9 : decode b_AR_checkLength 9 = .ok (.new 45, 3) := by decide +kernel
theorem d_AR_checkLength_12 : decode b_AR_checkLength 12 = .ok (.dup, 1) := by decide +kernel
theorem d_AR_checkLength_13 : decode b_AR_checkLength 13 = .ok (.invokespecial 47, 3) := by decide +kernel
theorem d_AR_checkLength_16 : decode b_AR_checkLength 16 = .ok (.iload_n 0, 1) := by decide +kernel
theorem d_AR_checkLength_17 : decode b_AR_checkLength 17 = .ok (.invokevirtual 54, 3) := by decide +kernel
theorem d_AR_checkLength_20 : decode b_AR_checkLength 20 = .ok (.ldc_w 337, 3) := by decide +kernel
theorem d_AR_checkLength_23 : decode b_AR_checkLength 23 = .ok (.invokevirtual 50, 3) := by decide +kernel
theorem d_AR_checkLength_26 : decode b_AR_checkLength 26 = .ok (.iload_n 1, 1) := by decide +kernel
theorem d_AR_checkLength_27 : decode b_AR_checkLength 27 = .ok (.invokevirtual 54, 3) := by decide +kernel
theorem d_AR_checkLength_30 : decode b_AR_checkLength 30 = .ok (.invokevirtual 61, 3) := by decide +kernel
theorem d_AR_checkLength_33 : decode b_AR_checkLength 33 = .ok (.invokespecial 65, 3) := by decide +kernel
theorem d_AR_checkLength_36 : decode b_AR_checkLength 36 = .ok (.athrow, 1) := by decide +kernel
theorem d_AR_checkLength_37 : decode b_AR_checkLength 37 = .ok (.return_, 1) := by decide +kernel
theorem d_W_join_0 : decode b_W_join 0 = .ok (.aload_n 3, 1) := by decide +kernel
theorem d_W_join_1 : decode b_W_join 1 = .ok (.iconst 0, 1) := by decide +kernel
theorem d_W_join_2 : decode b_W_join 2 = .ok (.aload_n 0, 1) := by decide +kernel
theorem d_W_join_3 : decode b_W_join 3 = .ok (.iload_n 1, 1) := by decide +kernel
theorem d_W_join_4 : decode b_W_join 4 = .ok (.iload_n 2, 1) := by decide +kernel
theorem d_W_join_5 : decode b_W_join 5 = .ok (.invokevirtual 29, 3) := by decide +kernel
theorem d_W_join_8 : decode b_W_join 8 = .ok (.i2l, 1) := by decide +kernel
theorem d_W_join_9 : decode b_W_join 9 = .ok (.lastore, 1) := by decide +kernel
theorem d_W_join_10 : decode b_W_join 10 = .ok (.goto 11, 3) := by decide +kernel
theorem d_W_join_13 : decode b_W_join 13 = .ok (.astore 4, 2) := by decide +kernel
theorem d_W_join_15 : decode b_W_join 15 = .ok (.iconst 1, 1) := by decide +kernel
theorem d_W_join_16 : decode b_W_join 16 = .ok (.ireturn, 1) := by decide +kernel
theorem d_W_join_17 : decode b_W_join 17 = .ok (.astore 4, 2) := by decide +kernel
theorem d_W_join_19 : decode b_W_join 19 = .ok (.iconst 2, 1) := by decide +kernel
theorem d_W_join_20 : decode b_W_join 20 = .ok (.ireturn, 1) := by decide +kernel
theorem d_W_join_21 : decode b_W_join 21 = .ok (.iconst 0, 1) := by decide +kernel
theorem d_W_join_22 : decode b_W_join 22 = .ok (.ireturn, 1) := by decide +kernel
theorem d_L_join_0 : decode b_L_join 0 = .ok (.aload_n 0, 1) := by decide +kernel
theorem d_L_join_1 : decode b_L_join 1 = .ok (.iload_n 1, 1) := by decide +kernel
theorem d_L_join_2 : decode b_L_join 2 = .ok (.invokevirtual 69, 3) := by decide +kernel
theorem d_L_join_5 : decode b_L_join 5 = .ok (.astore_n 3, 1) := by decide +kernel
theorem d_L_join_6 : decode b_L_join 6 = .ok (.aload_n 0, 1) := by decide +kernel
theorem d_L_join_7 : decode b_L_join 7 = .ok (.iload_n 2, 1) := by decide +kernel
theorem d_L_join_8 : decode b_L_join 8 = .ok (.invokevirtual 69, 3) := by decide +kernel
theorem d_L_join_11 : decode b_L_join 11 = .ok (.astore 4, 2) := by decide +kernel
theorem d_L_join_13 : decode b_L_join 13 = .ok (.aload_n 3, 1) := by decide +kernel
theorem d_L_join_14 : decode b_L_join 14 = .ok (.aload 4, 2) := by decide +kernel
theorem d_L_join_16 : decode b_L_join 16 = .ok (.invokestatic 72, 3) := by decide +kernel
theorem d_L_join_19 : decode b_L_join 19 = .ok (.ifCond .ne 13, 3) := by decide +kernel
theorem d_L_join_22 : decode b_L_join 22 = .ok (.new 20, 3) := by decide +kernel
theorem d_L_join_25 : decode b_L_join 25 = .ok (.dup, 1) := by decide +kernel
theorem d_L_join_26 : decode b_L_join 26 = .ok (.ldc 76, 2) := by decide +kernel
theorem d_L_join_28 : decode b_L_join 28 = .ok (.invokespecial 24, 3) := by decide +kernel
theorem d_L_join_31 : decode b_L_join 31 = .ok (.athrow, 1) := by decide +kernel
theorem d_L_join_32 : decode b_L_join 32 = .ok (.aload_n 0, 1) := by decide +kernel
theorem d_L_join_33 : decode b_L_join 33 = .ok (.aload_n 3, 1) := by decide +kernel
theorem d_L_join_34 : decode b_L_join 34 = .ok (.getfield 44, 3) := by decide +kernel
theorem d_L_join_37 : decode b_L_join 37 = .ok (.arraylength, 1) := by decide +kernel
theorem d_L_join_38 : decode b_L_join 38 = .ok (.aload 4, 2) := by decide +kernel
theorem d_L_join_40 : decode b_L_join 40 = .ok (.getfield 44, 3) := by decide +kernel
theorem d_L_join_43 : decode b_L_join 43 = .ok (.arraylength, 1) := by decide +kernel
theorem d_L_join_44 : decode b_L_join 44 = .ok (.iadd, 1) := by decide +kernel
theorem d_L_join_45 : decode b_L_join 45 = .ok (.invokevirtual 27, 3) := by decide +kernel
theorem d_L_join_48 : decode b_L_join 48 = .ok (.aload_n 3, 1) := by decide +kernel
theorem d_L_join_49 : decode b_L_join 49 = .ok (.getfield 78, 3) := by decide +kernel
theorem d_L_join_52 : decode b_L_join 52 = .ok (.iconst 1, 1) := by decide +kernel
theorem d_L_join_53 : decode b_L_join 53 = .ok (.if_icmp .ne 18, 3) := by decide +kernel
theorem d_L_join_56 : decode b_L_join 56 = .ok (.aload_n 3, 1) := by decide +kernel
theorem d_L_join_57 : decode b_L_join 57 = .ok (.getfield 44, 3) := by decide +kernel
theorem d_L_join_60 : decode b_L_join 60 = .ok (.aload 4, 2) := by decide +kernel
theorem d_L_join_62 : decode b_L_join 62 = .ok (.getfield 44, 3) := by decide +kernel
theorem d_L_join_65 : decode b_L_join 65 = .ok (.invokestatic 82, 3) := by decide +kernel
theorem d_L_join_68 : decode b_L_join 68 = .ok (.goto 15, 3) := by decide +kernel
theorem d_L_join_71 : decode b_L_join 71 = .ok (.aload_n 3, 1) := by decide +kernel
theorem d_L_join_72 : decode b_L_join 72 = .ok (.getfield 44, 3) := by decide +kernel
theorem d_L_join_75 : decode b_L_join 75 = .ok (.aload 4, 2) := by decide +kernel
theorem d_L_join_77 : decode b_L_join 77 = .ok (.getfield 44, 3) := by decide +kernel
theorem d_L_join_80 : decode b_L_join 80 = .ok (.invokestatic 86, 3) := by decide +kernel
theorem d_L_join_83 : decode b_L_join 83 = .ok (.astore 5, 2) := by decide +kernel
theorem d_L_join_85 : decode b_L_join 85 = .ok (.aload_n 0, 1) := by decide +kernel
theorem d_L_join_86 : decode b_L_join 86 = .ok (.aload_n 3, 1) := by decide +kernel
theorem d_L_join_87 : decode b_L_join 87 = .ok (.aload 5, 2) := by decide +kernel
theorem d_L_join_89 : decode b_L_join 89 = .ok (.invokevirtual 56, 3) := by decide +kernel
theorem d_L_join_92 : decode b_L_join 92 = .ok (.invokevirtual 36, 3) := by decide +kernel
theorem d_L_join_95 : decode b_L_join 95 = .ok (.ireturn, 1) := by decide +kernel
theorem d_L_canBeJoined_0 : decode b_L_canBeJoined 0 = .ok (.aload_n 0, 1) := by decide +kernel
theorem d_L_canBeJoined_1 : decode b_L_canBeJoined 1 = .ok (.getfield 78, 3) := by decide +kernel
theorem d_L_canBeJoined_4 : decode b_L_canBeJoined 4 = .ok (.aload_n 1, 1) := by decide +kernel
theorem d_L_canBeJoined_5 : decode b_L_canBeJoined 5 = .ok (.getfield 78, 3) := by decide +kernel
theorem d_L_canBeJoined_8 : decode b_L_canBeJoined 8 = .ok (.if_icmp .ne 34, 3) := by decide +kernel
theorem d_L_canBeJoined_11 : decode b_L_canBeJoined 11 = .ok (.aload_n 0, 1) := by decide +kernel
theorem d_L_canBeJoined_12 : decode b_L_canBeJoined 12 = .ok (.getfield 109, 3) := by decide +kernel
theorem d_L_canBeJoined_15 : decode b_L_canBeJoined 15 = .ok (.aload_n 1, 1) := by decide +kernel
theorem d_L_canBeJoined_16 : decode b_L_canBeJoined 16 = .ok (.getfield 109, 3) := by decide +kernel
theorem d_L_canBeJoined_19 : decode b_L_canBeJoined 19 = .ok (.if_icmp .ne 23, 3) := by decide +kernel
theorem d_L_canBeJoined_22 : decode b_L_canBeJoined 22 = .ok (.aload_n 0, 1) := by decide +kernel
theorem d_L_canBeJoined_23 : decode b_L_canBeJoined 23 = .ok (.getfield 78, 3) := by decide +kernel
theorem d_L_canBeJoined_26 : decode b_L_canBeJoined 26 = .ok (.iconst 1, 1) := by decide +kernel
theorem d_L_canBeJoined_27 : decode b_L_canBeJoined 27 = .ok (.if_icmp .eq 11, 3) := by decide +kernel
theorem d_L_canBeJoined_30 : decode b_L_canBeJoined 30 = .ok (.aload_n 0, 1) := by decide +kernel
theorem d_L_canBeJoined_31 : decode b_L_canBeJoined 31 = .ok (.getfield 78, 3) := by decide +kernel
theorem d_L_canBeJoined_34 : decode b_L_canBeJoined 34 = .ok (.iconst 4, 1) := by decide +kernel
theorem d_L_canBeJoined_35 : decode b_L_canBeJoined 35 = .ok (.if_icmp .ne 7, 3) := by decide +kernel
theorem d_L_canBeJoined_38 : decode b_L_canBeJoined 38 = .ok (.iconst 1, 1) := by decide +kernel
theorem d_L_canBeJoined_39 : decode b_L_canBeJoined 39 = .ok (.goto 4, 3) := by decide +kernel
theorem d_L_canBeJoined_42 : decode b_L_canBeJoined 42 = .ok (.iconst 0, 1) := by decide +kernel
theorem d_L_canBeJoined_43 : decode b_L_canBeJoined 43 = .ok (.ireturn, 1) := by decide +kernel
theorem d_L_merged_0 : decode b_L_merged 0 = .ok (.aload_n 0, 1) := by decide +kernel
theorem d_L_merged_1 : decode b_L_merged 1 = .ok (.arraylength, 1) := by decide +kernel
theorem d_L_merged_2 : decode b_L_merged 2 = .ok (.aload_n 1, 1) := by decide +kernel
theorem d_L_merged_3 : decode b_L_merged 3 = .ok (.arraylength, 1) := by decide +kernel
theorem d_L_merged_4 : decode b_L_merged 4 = .ok (.iadd, 1) := by decide +kernel
theorem d_L_merged_5 : decode b_L_merged 5 = .ok (.newarray .int, 2) := by decide +kernel
theorem d_L_merged_7 : decode b_L_merged 7 = .ok (.astore_n 2, 1) := by decide +kernel
theorem d_L_merged_8 : decode b_L_merged 8 = .ok (.iconst 0, 1) := by decide +kernel
theorem d_L_merged_9 : decode b_L_merged 9 = .ok (.istore_n 3, 1) := by decide +kernel
theorem d_L_merged_10 : decode b_L_merged 10 = .ok (.iconst 0, 1) := by decide +kernel
theorem d_L_merged_11 : decode b_L_merged 11 = .ok (.istore 4, 2) := by decide +kernel
theorem d_L_merged_13 : decode b_L_merged 13 = .ok (.iconst 0, 1) := by decide +kernel
theorem d_L_merged_14 : decode b_L_merged 14 = .ok (.istore 5, 2) := by decide +kernel
theorem d_L_merged_16 : decode b_L_merged 16 = .ok (.iload 5, 2) := by decide +kernel
theorem d_L_merged_18 : decode b_L_merged 18 = .ok (.aload_n 2, 1) := by decide +kernel
theorem d_L_merged_19 : decode b_L_merged 19 = .ok (.arraylength, 1) := by decide +kernel
theorem d_L_merged_20 : decode b_L_merged 20 = .ok (.if_icmp .ge 63, 3) := by decide +kernel
theorem d_L_merged_23 : decode b_L_merged 23 = .ok (.iload_n 3, 1) := by decide +kernel
theorem d_L_merged_24 : decode b_L_merged 24 = .ok (.aload_n 0, 1) := by decide +kernel
theorem d_L_merged_25 : decode b_L_merged 25 = .ok (.arraylength, 1) := by decide +kernel
theorem d_L_merged_26 : decode b_L_merged 26 = .ok (.if_icmp .ge 33, 3) := by decide +kernel
theorem d_L_merged_29 : decode b_L_merged 29 = .ok (.iload 4, 2) := by decide +kernel
theorem d_L_merged_31 : decode b_L_merged 31 = .ok (.aload_n 1, 1) := by decide +kernel
theorem d_L_merged_32 : decode b_L_merged 32 = .ok (.arraylength, 1) := by decide +kernel
theorem d_L_merged_33 : decode b_L_merged 33 = .ok (.if_icmp .ge 13, 3) := by decide +kernel
theorem d_L_merged_36 : decode b_L_merged 36 = .ok (.aload_n 0, 1) := by decide +kernel
theorem d_L_merged_37 : decode b_L_merged 37 = .ok (.iload_n 3, 1) := by decide +kernel
theorem d_L_merged_38 : decode b_L_merged 38 = .ok (.iaload, 1) := by decide +kernel
theorem d_L_merged_39 : decode b_L_merged 39 = .ok (.aload_n 1, 1) := by decide +kernel
theorem d_L_merged_40 : decode b_L_merged 40 = .ok (.iload 4, 2) := by decide +kernel
theorem d_L_merged_42 : decode b_L_merged 42 = .ok (.iaload, 1) := by decide +kernel
theorem d_L_merged_43 : decode b_L_merged 43 = .ok (.if_icmp .gt 16, 3) := by decide +kernel
theorem d_L_merged_46 : decode b_L_merged 46 = .ok (.aload_n 2, 1) := by decide +kernel
theorem d_L_merged_47 : decode b_L_merged 47 = .ok (.iload 5, 2) := by decide +kernel
theorem d_L_merged_49 : decode b_L_merged 49 = .ok (.aload_n 0, 1) := by decide +kernel
theorem d_L_merged_50 : decode b_L_merged 50 = .ok (.iload_n 3, 1) := by decide +kernel
theorem d_L_merged_51 : decode b_L_merged 51 = .ok (.iaload, 1) := by decide +kernel
theorem d_L_merged_52 : decode b_L_merged 52 = .ok (.iastore, 1) := by decide +kernel
theorem d_L_merged_53 : decode b_L_merged 53 = .ok (.iinc 3 1, 3) := by decide +kernel
theorem d_L_merged_56 : decode b_L_merged 56 = .ok (.goto 21, 3) := by decide +kernel
theorem d_L_merged_59 : decode b_L_merged 59 = .ok (.iload 4, 2) := by decide +kernel
theorem d_L_merged_61 : decode b_L_merged 61 = .ok (.aload_n 1, 1) := by decide +kernel
theorem d_L_merged_62 : decode b_L_merged 62 = .ok (.arraylength, 1) := by decide +kernel
theorem d_L_merged_63 : decode b_L_merged 63 = .ok (.if_icmp .ge 14, 3) := by decide +kernel
theorem d_L_merged_66 : decode b_L_merged 66 = .ok (.aload_n 2, 1) := by decide +kernel
theorem d_L_merged_67 : decode b_L_merged 67 = .ok (.iload 5, 2) := by decide +kernel
theorem d_L_merged_69 : decode b_L_merged 69 = .ok (.aload_n 1, 1) := by decide +kernel
theorem d_L_merged_70 : decode b_L_merged 70 = .ok (.iload 4, 2) := by decide +kernel
theorem d_L_merged_72 : decode b_L_merged 72 = .ok (.iaload, 1) := by decide +kernel
theorem d_L_merged_73 : decode b_L_merged 73 = .ok (.iastore, 1) := by decide +kernel
theorem d_L_merged_74 : decode b_L_merged 74 = .ok (.iinc 4 1, 3) := by decide +kernel
theorem d_L_merged_77 : decode b_L_merged 77 = .ok (.iinc 5 1, 3) := by decide +kernel
theorem d_L_merged_80 : decode b_L_merged 80 = .ok (.goto (-64), 3) := by decide +kernel
theorem d_L_merged_83 : decode b_L_merged 83 = .ok (.aload_n 2, 1) := by decide +kernel
theorem d_L_merged_84 : decode b_L_merged 84 = .ok (.areturn, 1) := by decide +kernel
theorem d_L_appended_0 : decode b_L_appended 0 = .ok (.aload_n 0, 1) := by decide +kernel
theorem d_L_appended_1 : decode b_L_appended 1 = .ok (.aload_n 0, 1) := by decide +kernel
theorem d_L_appended_2 : decode b_L_appended 2 = .ok (.arraylength, 1) := by decide +kernel
theorem d_L_appended_3 : decode b_L_appended 3 = .ok (.aload_n 1, 1) := by decide +kernel
theorem d_L_appended_4 : decode b_L_appended 4 = .ok (.arraylength, 1) := by decide +kernel
theorem d_L_appended_5 : decode b_L_appended 5 = .ok (.iadd, 1) := by decide +kernel
theorem d_L_appended_6 : decode b_L_appended 6 = .ok (.invokestatic 182, 3) := by decide +kernel
theorem d_L_appended_9 : decode b_L_appended 9 = .ok (.astore_n 2, 1) := by decide +kernel
theorem d_L_appended_10 : decode b_L_appended 10 = .ok (.aload_n 1, 1) := by decide +kernel
theorem d_L_appended_11 : decode b_L_appended 11 = .ok (.iconst 0, 1) := by decide +kernel
theorem d_L_appended_12 : decode b_L_appended 12 = .ok (.aload_n 2, 1) := by decide +kernel
theorem d_L_appended_13 : decode b_L_appended 13 = .ok (.aload_n 0, 1) := by decide +kernel
theorem d_L_appended_14 : decode b_L_appended 14 = .ok (.arraylength, 1) := by decide +kernel
theorem d_L_appended_15 : decode b_L_appended 15 = .ok (.aload_n 1, 1) := by decide +kernel
theorem d_L_appended_16 : decode b_L_appended 16 = .ok (.arraylength, 1) := by decide +kernel
theorem d_L_appended_17 : decode b_L_appended 17 = .ok (.invokestatic 171, 3) := by decide +kernel
theorem d_L_appended_20 : decode b_L_appended 20 = .ok (.aload_n 2, 1) := by decide +kernel
theorem d_L_appended_21 : decode b_L_appended 21 = .ok (.areturn, 1) := by decide +kernel
theorem d_AR_copyOfI_0 : decode b_AR_copyOfI 0 = .ok (.iload_n 1, 1) := by decide +kernel
theorem d_AR_copyOfI_1 : decode b_AR_copyOfI 1 = .ok (.aload_n 0, 1) := by decide +kernel
theorem d_AR_copyOfI_2 : decode b_AR_copyOfI 2 = .ok (.arraylength, 1) := by decide +kernel
theorem d_AR_copyOfI_3 : decode b_AR_copyOfI 3 = .ok (.if_icmp .ne 11, 3) := by decide +kernel
theorem d_AR_copyOfI_6 : decode b_AR_copyOfI 6 = .ok (.aload_n 0, 1) := by decide +kernel
theorem d_AR_copyOfI_7 : decode b_AR_copyOfI 7 = .ok (.invokevirtual 316, 3) := by decide +kernel
theorem d_AR_copyOfI_10 : decode b_AR_copyOfI 10 = .ok (.checkcast 317, 3) := by decide +kernel
theorem d_AR_copyOfI_13 : decode b_AR_copyOfI 13 = .ok (.areturn, 1) := by decide +kernel
theorem d_AR_copyOfI_14 : decode b_AR_copyOfI 14 = .ok (.iload_n 1, 1) := by decide +kernel
theorem d_AR_copyOfI_15 : decode b_AR_copyOfI 15 = .ok (.newarray .int, 2) := by decide +kernel
theorem d_AR_copyOfI_17 : decode b_AR_copyOfI 17 = .ok (.astore_n 2, 1) := by decide +kernel
theorem d_AR_copyOfI_18 : decode b_AR_copyOfI 18 = .ok (.aload_n 0, 1) := by decide +kernel
theorem d_AR_copyOfI_19 : decode b_AR_copyOfI 19 = .ok (.iconst 0, 1) := by decide +kernel
theorem d_AR_copyOfI_20 : decode b_AR_copyOfI 20 = .ok (.aload_n 2, 1) := by decide +kernel
theorem d_AR_copyOfI_21 : decode b_AR_copyOfI 21 = .ok (.iconst 0, 1) := by decide +kernel
theorem d_AR_copyOfI_22 : decode b_AR_copyOfI 22 = .ok (.aload_n 0, 1) := by decide +kernel
theorem d_AR_copyOfI_23 : decode b_AR_copyOfI 23 = .ok (.arraylength, 1) := by decide +kernel
theorem d_AR_copyOfI_24 : decode b_AR_copyOfI 24 = .ok (.iload_n 1, 1) := by decide +kernel
theorem d_AR_copyOfI_25 : decode b_AR_copyOfI 25 = .ok (.invokestatic 304, 3) := by decide +kernel
theorem d_AR_copyOfI_28 : decode b_AR_copyOfI 28 = .ok (.invokestatic 150, 3) := by decide +kernel
theorem d_AR_copyOfI_31 : decode b_AR_copyOfI 31 = .ok (.aload_n 2, 1) := by decide +kernel
theorem d_AR_copyOfI_32 : decode b_AR_copyOfI 32 = .ok (.areturn, 1) := by decide +kernel
theorem d_W_bind_0 : decode b_W_bind 0 = .ok (.aload 4, 2) := by decide +kernel
theorem d_W_bind_2 : decode b_W_bind 2 = .ok (.iconst 0, 1) := by decide +kernel
theorem d_W_bind_3 : decode b_W_bind 3 = .ok (.aload_n 0, 1) := by decide +kernel
theorem d_W_bind_4 : decode b_W_bind 4 = .ok (.iload_n 1, 1) := by decide +kernel
theorem d_W_bind_5 : decode b_W_bind 5 = .ok (.iload_n 2, 1) := by decide +kernel
theorem d_W_bind_6 : decode b_W_bind 6 = .ok (.iload_n 3, 1) := by decide +kernel
theorem d_W_bind_7 : decode b_W_bind 7 = .ok (.invokevirtual 32, 3) := by decide +kernel
theorem d_W_bind_10 : decode b_W_bind 10 = .ok (.i2l, 1) := by decide +kernel
theorem d_W_bind_11 : decode b_W_bind 11 = .ok (.lastore, 1) := by decide +kernel
theorem d_W_bind_12 : decode b_W_bind 12 = .ok (.goto 11, 3) := by decide +kernel
theorem d_W_bind_15 : decode b_W_bind 15 = .ok (.astore 5, 2) := by decide +kernel
theorem d_W_bind_17 : decode b_W_bind 17 = .ok (.iconst 1, 1) := by decide +kernel
theorem d_W_bind_18 : decode b_W_bind 18 = .ok (.ireturn, 1) := by decide +kernel
theorem d_W_bind_19 : decode b_W_bind 19 = .ok (.astore 5, 2) := by decide +kernel
theorem d_W_bind_21 : decode b_W_bind 21 = .ok (.iconst 2, 1) := by decide +kernel
theorem d_W_bind_22 : decode b_W_bind 22 = .ok (.ireturn, 1) := by decide +kernel
theorem d_W_bind_23 : decode b_W_bind 23 = .ok (.iconst 0, 1) := by decide +kernel
theorem d_W_bind_24 : decode b_W_bind 24 = .ok (.ireturn, 1) := by decide +kernel
theorem d_L_bind_0 : decode b_L_bind 0 = .ok (.aload_n 0, 1) := by decide +kernel
theorem d_L_bind_1 : decode b_L_bind 1 = .ok (.iload_n 1, 1) := by decide +kernel
theorem d_L_bind_2 : decode b_L_bind 2 = .ok (.iconst 3, 1) := by decide +kernel
theorem d_L_bind_3 : decode b_L_bind 3 = .ok (.invokevirtual 89, 3) := by decide +kernel
theorem d_L_bind_6 : decode b_L_bind 6 = .ok (.astore 4, 2) := by decide +kernel
theorem d_L_bind_8 : decode b_L_bind 8 = .ok (.iload_n 2, 1) := by decide +kernel
theorem d_L_bind_9 : decode b_L_bind 9 = .ok (.ifCond .lt 10, 3) := by decide +kernel
theorem d_L_bind_12 : decode b_L_bind 12 = .ok (.iload_n 2, 1) := by decide +kernel
theorem d_L_bind_13 : decode b_L_bind 13 = .ok (.sipush 255, 3) := by decide +kernel
theorem d_L_bind_16 : decode b_L_bind 16 = .ok (.if_icmp .le 13, 3) := by decide +kernel
theorem d_L_bind_19 : decode b_L_bind 19 = .ok (.new 20, 3) := by decide +kernel
theorem d_L_bind_22 : decode b_L_bind 22 = .ok (.dup, 1) := by decide +kernel
theorem d_L_bind_23 : decode b_L_bind 23 = .ok (.ldc 93, 2) := by decide +kernel
theorem d_L_bind_25 : decode b_L_bind 25 = .ok (.invokespecial 24, 3) := by decide +kernel
theorem d_L_bind_28 : decode b_L_bind 28 = .ok (.athrow, 1) := by decide +kernel
theorem d_L_bind_29 : decode b_L_bind 29 = .ok (.aload 4, 2) := by decide +kernel
theorem d_L_bind_31 : decode b_L_bind 31 = .ok (.getfield 95, 3) := by decide +kernel
theorem d_L_bind_34 : decode b_L_bind 34 = .ok (.iload_n 2, 1) := by decide +kernel
theorem d_L_bind_35 : decode b_L_bind 35 = .ok (.invokestatic 98, 3) := by decide +kernel
theorem d_L_bind_38 : decode b_L_bind 38 = .ok (.istore 5, 2) := by decide +kernel
theorem d_L_bind_40 : decode b_L_bind 40 = .ok (.aload 4, 2) := by decide +kernel
theorem d_L_bind_42 : decode b_L_bind 42 = .ok (.getfield 95, 3) := by decide +kernel
theorem d_L_bind_45 : decode b_L_bind 45 = .ok (.iload 5, 2) := by decide +kernel
theorem d_L_bind_47 : decode b_L_bind 47 = .ok (.iload_n 2, 1) := by decide +kernel
theorem d_L_bind_48 : decode b_L_bind 48 = .ok (.invokestatic 102, 3) := by decide +kernel
theorem d_L_bind_51 : decode b_L_bind 51 = .ok (.ifCond .eq 34, 3) := by decide +kernel
theorem d_L_bind_54 : decode b_L_bind 54 = .ok (.aload_n 0, 1) := by decide +kernel
theorem d_L_bind_55 : decode b_L_bind 55 = .ok (.aload 4, 2) := by decide +kernel
theorem d_L_bind_57 : decode b_L_bind 57 = .ok (.getfield 44, 3) := by decide +kernel
theorem d_L_bind_60 : decode b_L_bind 60 = .ok (.arraylength, 1) := by decide +kernel
theorem d_L_bind_61 : decode b_L_bind 61 = .ok (.invokevirtual 27, 3) := by decide +kernel
theorem d_L_bind_64 : decode b_L_bind 64 = .ok (.aload_n 0, 1) := by decide +kernel
theorem d_L_bind_65 : decode b_L_bind 65 = .ok (.aload 4, 2) := by decide +kernel
theorem d_L_bind_67 : decode b_L_bind 67 = .ok (.aload 4, 2) := by decide +kernel
theorem d_L_bind_69 : decode b_L_bind 69 = .ok (.getfield 44, 3) := by decide +kernel
theorem d_L_bind_72 : decode b_L_bind 72 = .ok (.iload 5, 2) := by decide +kernel
theorem d_L_bind_74 : decode b_L_bind 74 = .ok (.iload_n 3, 1) := by decide +kernel
theorem d_L_bind_75 : decode b_L_bind 75 = .ok (.invokestatic 106, 3) := by decide +kernel
theorem d_L_bind_78 : decode b_L_bind 78 = .ok (.invokevirtual 56, 3) := by decide +kernel
theorem d_L_bind_81 : decode b_L_bind 81 = .ok (.invokevirtual 36, 3) := by decide +kernel
theorem d_L_bind_84 : decode b_L_bind 84 = .ok (.ireturn, 1) := by decide +kernel
theorem d_L_bind_85 : decode b_L_bind 85 = .ok (.aload_n 0, 1) := by decide +kernel
theorem d_L_bind_86 : decode b_L_bind 86 = .ok (.aload 4, 2) := by decide +kernel
theorem d_L_bind_88 : decode b_L_bind 88 = .ok (.getfield 44, 3) := by decide +kernel
theorem d_L_bind_91 : decode b_L_bind 91 = .ok (.arraylength, 1) := by decide +kernel
theorem d_L_bind_92 : decode b_L_bind 92 = .ok (.iconst 1, 1) := by decide +kernel
theorem d_L_bind_93 : decode b_L_bind 93 = .ok (.iadd, 1) := by decide +kernel
theorem d_L_bind_94 : decode b_L_bind 94 = .ok (.invokevirtual 27, 3) := by decide +kernel
theorem d_L_bind_97 : decode b_L_bind 97 = .ok (.aload 4, 2) := by decide +kernel
theorem d_L_bind_99 : decode b_L_bind 99 = .ok (.getfield 95, 3) := by decide +kernel
theorem d_L_bind_102 : decode b_L_bind 102 = .ok (.iload 5, 2) := by decide +kernel
theorem d_L_bind_104 : decode b_L_bind 104 = .ok (.iload_n 2, 1) := by decide +kernel
theorem d_L_bind_105 : decode b_L_bind 105 = .ok (.invokestatic 52, 3) := by decide +kernel
theorem d_L_bind_108 : decode b_L_bind 108 = .ok (.astore 6, 2) := by decide +kernel
theorem d_L_bind_110 : decode b_L_bind 110 = .ok (.aload_n 0, 1) := by decide +kernel
theorem d_L_bind_111 : decode b_L_bind 111 = .ok (.new 31, 3) := by decide +kernel
theorem d_L_bind_114 : decode b_L_bind 114 = .ok (.dup, 1) := by decide +kernel
theorem d_L_bind_115 : decode b_L_bind 115 = .ok (.aload 4, 2) := by decide +kernel
theorem d_L_bind_117 : decode b_L_bind 117 = .ok (.getfield 78, 3) := by decide +kernel
theorem d_L_bind_120 : decode b_L_bind 120 = .ok (.aload 4, 2) := by decide +kernel
theorem d_L_bind_122 : decode b_L_bind 122 = .ok (.getfield 109, 3) := by decide +kernel
theorem d_L_bind_125 : decode b_L_bind 125 = .ok (.aload 4, 2) := by decide +kernel
theorem d_L_bind_127 : decode b_L_bind 127 = .ok (.getfield 44, 3) := by decide +kernel
theorem d_L_bind_130 : decode b_L_bind 130 = .ok (.iload 5, 2) := by decide +kernel
theorem d_L_bind_132 : decode b_L_bind 132 = .ok (.iload_n 3, 1) := by decide +kernel
theorem d_L_bind_133 : decode b_L_bind 133 = .ok (.invokestatic 52, 3) := by decide +kernel
theorem d_L_bind_136 : decode b_L_bind 136 = .ok (.aload 6, 2) := by decide +kernel
theorem d_L_bind_138 : decode b_L_bind 138 = .ok (.invokespecial 33, 3) := by decide +kernel
theorem d_L_bind_141 : decode b_L_bind 141 = .ok (.invokevirtual 36, 3) := by decide +kernel
theorem d_L_bind_144 : decode b_L_bind 144 = .ok (.ireturn, 1) := by decide +kernel
theorem d_L_foundOfKind_0 : decode b_L_foundOfKind 0 = .ok (.aload_n 0, 1) := by decide +kernel
theorem d_L_foundOfKind_1 : decode b_L_foundOfKind 1 = .ok (.iload_n 1, 1) := by decide +kernel
theorem d_L_foundOfKind_2 : decode b_L_foundOfKind 2 = .ok (.invokevirtual 69, 3) := by decide +kernel
theorem d_L_foundOfKind_5 : decode b_L_foundOfKind 5 = .ok (.astore_n 3, 1) := by decide +kernel
theorem d_L_foundOfKind_6 : decode b_L_foundOfKind 6 = .ok (.aload_n 3, 1) := by decide +kernel
theorem d_L_foundOfKind_7 : decode b_L_foundOfKind 7 = .ok (.getfield 78, 3) := by decide +kernel
theorem d_L_foundOfKind_10 : decode b_L_foundOfKind 10 = .ok (.iload_n 2, 1) := by decide +kernel
theorem d_L_foundOfKind_11 : decode b_L_foundOfKind 11 = .ok (.if_icmp .eq 13, 3) := by decide +kernel
theorem d_L_foundOfKind_14 : decode b_L_foundOfKind 14 = .ok (.new 20, 3) := by decide +kernel
theorem d_L_foundOfKind_17 : decode b_L_foundOfKind 17 = .ok (.dup, 1) := by decide +kernel
theorem d_L_foundOfKind_18 : decode b_L_foundOfKind 18 = .ok (.ldc 146, 2) := by decide +kernel
theorem d_L_foundOfKind_20 : decode b_L_foundOfKind 20 = .ok (.invokespecial 24, 3) := by decide +kernel
theorem d_L_foundOfKind_23 : decode b_L_foundOfKind 23 = .ok (.athrow, 1) := by decide +kernel
theorem d_L_foundOfKind_24 : decode b_L_foundOfKind 24 = .ok (.aload_n 3, 1) := by decide +kernel
theorem d_L_foundOfKind_25 : decode b_L_foundOfKind 25 = .ok (.areturn, 1) := by decide +kernel
theorem d_L_hasAt_0 : decode b_L_hasAt 0 = .ok (.iload_n 1, 1) := by decide +kernel
theorem d_L_hasAt_1 : decode b_L_hasAt 1 = .ok (.aload_n 0, 1) := by decide +kernel
theorem d_L_hasAt_2 : decode b_L_hasAt 2 = .ok (.arraylength, 1) := by decide +kernel
theorem d_L_hasAt_3 : decode b_L_hasAt 3 = .ok (.if_icmp .ge 14, 3) := by decide +kernel
theorem d_L_hasAt_6 : decode b_L_hasAt 6 = .ok (.aload_n 0, 1) := by decide +kernel
theorem d_L_hasAt_7 : decode b_L_hasAt 7 = .ok (.iload_n 1, 1) := by decide +kernel
theorem d_L_hasAt_8 : decode b_L_hasAt 8 = .ok (.iaload, 1) := by decide +kernel
theorem d_L_hasAt_9 : decode b_L_hasAt 9 = .ok (.iload_n 2, 1) := by decide +kernel
theorem d_L_hasAt_10 : decode b_L_hasAt 10 = .ok (.if_icmp .ne 7, 3) := by decide +kernel
theorem d_L_hasAt_13 : decode b_L_hasAt 13 = .ok (.iconst 1, 1) := by decide +kernel
theorem d_L_hasAt_14 : decode b_L_hasAt 14 = .ok (.goto 4, 3) := by decide +kernel
theorem d_L_hasAt_17 : decode b_L_hasAt 17 = .ok (.iconst 0, 1) := by decide +kernel
theorem d_L_hasAt_18 : decode b_L_hasAt 18 = .ok (.ireturn, 1) := by decide +kernel
theorem d_L_replaced_0 : decode b_L_replaced 0 = .ok (.aload_n 0, 1) := by decide +kernel
theorem d_L_replaced_1 : decode b_L_replaced 1 = .ok (.invokevirtual 177, 3) := by decide +kernel
theorem d_L_replaced_4 : decode b_L_replaced 4 = .ok (.checkcast 178, 3) := by decide +kernel
theorem d_L_replaced_7 : decode b_L_replaced 7 = .ok (.astore_n 3, 1) := by decide +kernel
theorem d_L_replaced_8 : decode b_L_replaced 8 = .ok (.aload_n 3, 1) := by decide +kernel
theorem d_L_replaced_9 : decode b_L_replaced 9 = .ok (.iload_n 1, 1) := by decide +kernel
theorem d_L_replaced_10 : decode b_L_replaced 10 = .ok (.iload_n 2, 1) := by decide +kernel
theorem d_L_replaced_11 : decode b_L_replaced 11 = .ok (.iastore, 1) := by decide +kernel
theorem d_L_replaced_12 : decode b_L_replaced 12 = .ok (.aload_n 3, 1) := by decide +kernel
theorem d_L_replaced_13 : decode b_L_replaced 13 = .ok (.areturn, 1) := by decide +kernel
theorem d_W_value_0 : decode b_W_value 0 = .ok (.aload_n 3, 1) := by decide +kernel
theorem d_W_value_1 : decode b_W_value 1 = .ok (.iconst 0, 1) := by decide +kernel
theorem d_W_value_2 : decode b_W_value 2 = .ok (.aload_n 0, 1) := by decide +kernel
theorem d_W_value_3 : decode b_W_value 3 = .ok (.iload_n 1, 1) := by decide +kernel
theorem d_W_value_4 : decode b_W_value 4 = .ok (.iload_n 2, 1) := by decide +kernel
theorem d_W_value_5 : decode b_W_value 5 = .ok (.invokevirtual 36, 3) := by decide +kernel
theorem d_W_value_8 : decode b_W_value 8 = .ok (.i2l, 1) := by decide +kernel
theorem d_W_value_9 : decode b_W_value 9 = .ok (.lastore, 1) := by decide +kernel
theorem d_W_value_10 : decode b_W_value 10 = .ok (.goto 11, 3) := by decide +kernel
theorem d_W_value_13 : decode b_W_value 13 = .ok (.astore 4, 2) := by decide +kernel
theorem d_W_value_15 : decode b_W_value 15 = .ok (.iconst 1, 1) := by decide +kernel
theorem d_W_value_16 : decode b_W_value 16 = .ok (.ireturn, 1) := by decide +kernel
theorem d_W_value_17 : decode b_W_value 17 = .ok (.astore 4, 2) := by decide +kernel
theorem d_W_value_19 : decode b_W_value 19 = .ok (.iconst 2, 1) := by decide +kernel
theorem d_W_value_20 : decode b_W_value 20 = .ok (.ireturn, 1) := by decide +kernel
theorem d_W_value_21 : decode b_W_value 21 = .ok (.iconst 0, 1) := by decide +kernel
theorem d_W_value_22 : decode b_W_value 22 = .ok (.ireturn, 1) := by decide +kernel
theorem d_L_value_0 : decode b_L_value 0 = .ok (.aload_n 0, 1) := by decide +kernel
theorem d_L_value_1 : decode b_L_value 1 = .ok (.iload_n 1, 1) := by decide +kernel
theorem d_L_value_2 : decode b_L_value 2 = .ok (.iconst 3, 1) := by decide +kernel
theorem d_L_value_3 : decode b_L_value 3 = .ok (.invokevirtual 89, 3) := by decide +kernel
theorem d_L_value_6 : decode b_L_value 6 = .ok (.astore_n 3, 1) := by decide +kernel
theorem d_L_value_7 : decode b_L_value 7 = .ok (.aload_n 3, 1) := by decide +kernel
theorem d_L_value_8 : decode b_L_value 8 = .ok (.getfield 95, 3) := by decide +kernel
theorem d_L_value_11 : decode b_L_value 11 = .ok (.iload_n 2, 1) := by decide +kernel
theorem d_L_value_12 : decode b_L_value 12 = .ok (.invokestatic 98, 3) := by decide +kernel
theorem d_L_value_15 : decode b_L_value 15 = .ok (.istore 4, 2) := by decide +kernel
theorem d_L_value_17 : decode b_L_value 17 = .ok (.aload_n 3, 1) := by decide +kernel
theorem d_L_value_18 : decode b_L_value 18 = .ok (.getfield 95, 3) := by decide +kernel
theorem d_L_value_21 : decode b_L_value 21 = .ok (.iload 4, 2) := by decide +kernel
theorem d_L_value_23 : decode b_L_value 23 = .ok (.iload_n 2, 1) := by decide +kernel
theorem d_L_value_24 : decode b_L_value 24 = .ok (.invokestatic 102, 3) := by decide +kernel
theorem d_L_value_27 : decode b_L_value 27 = .ok (.ifCond .ne 13, 3) := by decide +kernel
theorem d_L_value_30 : decode b_L_value 30 = .ok (.new 112, 3) := by decide +kernel
theorem d_L_value_33 : decode b_L_value 33 = .ok (.dup, 1) := by decide +kernel
theorem d_L_value_34 : decode b_L_value 34 = .ok (.ldc 114, 2) := by decide +kernel
theorem d_L_value_36 : decode b_L_value 36 = .ok (.invokespecial 116, 3) := by decide +kernel
theorem d_L_value_39 : decode b_L_value 39 = .ok (.athrow, 1) := by decide +kernel
theorem d_L_value_40 : decode b_L_value 40 = .ok (.aload_n 3, 1) := by decide +kernel
theorem d_L_value_41 : decode b_L_value 41 = .ok (.getfield 44, 3) := by decide +kernel
theorem d_L_value_44 : decode b_L_value 44 = .ok (.iload 4, 2) := by decide +kernel
theorem d_L_value_46 : decode b_L_value 46 = .ok (.iaload, 1) := by decide +kernel
theorem d_L_value_47 : decode b_L_value 47 = .ok (.ireturn, 1) := by decide +kernel
theorem d_W_update_0 : decode b_W_update 0 = .ok (.aload 4, 2) := by decide +kernel
theorem d_W_update_2 : decode b_W_update 2 = .ok (.iconst 0, 1) := by decide +kernel
theorem d_W_update_3 : decode b_W_update 3 = .ok (.aload_n 0, 1) := by decide +kernel
theorem d_W_update_4 : decode b_W_update 4 = .ok (.iload_n 1, 1) := by decide +kernel
theorem d_W_update_5 : decode b_W_update 5 = .ok (.iload_n 2, 1) := by decide +kernel
theorem d_W_update_6 : decode b_W_update 6 = .ok (.iload_n 3, 1) := by decide +kernel
theorem d_W_update_7 : decode b_W_update 7 = .ok (.invokevirtual 39, 3) := by decide +kernel
theorem d_W_update_10 : decode b_W_update 10 = .ok (.i2l, 1) := by decide +kernel
theorem d_W_update_11 : decode b_W_update 11 = .ok (.lastore, 1) := by decide +kernel
theorem d_W_update_12 : decode b_W_update 12 = .ok (.goto 15, 3) := by decide +kernel
theorem d_W_update_15 : decode b_W_update 15 = .ok (.astore 5, 2) := by decide +kernel
theorem d_W_update_17 : decode b_W_update 17 = .ok (.iconst 1, 1) := by decide +kernel
theorem d_W_update_18 : decode b_W_update 18 = .ok (.ireturn, 1) := by decide +kernel
theorem d_W_update_19 : decode b_W_update 19 = .ok (.astore 5, 2) := by decide +kernel
theorem d_W_update_21 : decode b_W_update 21 = .ok (.iconst 2, 1) := by decide +kernel
theorem d_W_update_22 : decode b_W_update 22 = .ok (.ireturn, 1) := by decide +kernel
theorem d_W_update_23 : decode b_W_update 23 = .ok (.astore 5, 2) := by decide +kernel
theorem d_W_update_25 : decode b_W_update 25 = .ok (.iconst 3, 1) := by decide +kernel
theorem d_W_update_26 : decode b_W_update 26 = .ok (.ireturn, 1) := by decide +kernel
theorem d_W_update_27 : decode b_W_update 27 = .ok (.iconst 0, 1) := by decide +kernel
theorem d_W_update_28 : decode b_W_update 28 = .ok (.ireturn, 1) := by decide +kernel
theorem d_L_update_0 : decode b_L_update 0 = .ok (.aload_n 0, 1) := by decide +kernel
theorem d_L_update_1 : decode b_L_update 1 = .ok (.iload_n 1, 1) := by decide +kernel
theorem d_L_update_2 : decode b_L_update 2 = .ok (.iconst 2, 1) := by decide +kernel
theorem d_L_update_3 : decode b_L_update 3 = .ok (.invokevirtual 89, 3) := by decide +kernel
theorem d_L_update_6 : decode b_L_update 6 = .ok (.astore 4, 2) := by decide +kernel
theorem d_L_update_8 : decode b_L_update 8 = .ok (.aload_n 0, 1) := by decide +kernel
theorem d_L_update_9 : decode b_L_update 9 = .ok (.aload 4, 2) := by decide +kernel
theorem d_L_update_11 : decode b_L_update 11 = .ok (.getfield 44, 3) := by decide +kernel
theorem d_L_update_14 : decode b_L_update 14 = .ok (.arraylength, 1) := by decide +kernel
theorem d_L_update_15 : decode b_L_update 15 = .ok (.invokevirtual 27, 3) := by decide +kernel
theorem d_L_update_18 : decode b_L_update 18 = .ok (.aload 4, 2) := by decide +kernel
theorem d_L_update_20 : decode b_L_update 20 = .ok (.iload_n 2, 1) := by decide +kernel
theorem d_L_update_21 : decode b_L_update 21 = .ok (.invokestatic 117, 3) := by decide +kernel
theorem d_L_update_24 : decode b_L_update 24 = .ok (.aload_n 0, 1) := by decide +kernel
theorem d_L_update_25 : decode b_L_update 25 = .ok (.aload 4, 2) := by decide +kernel
theorem d_L_update_27 : decode b_L_update 27 = .ok (.aload 4, 2) := by decide +kernel
theorem d_L_update_29 : decode b_L_update 29 = .ok (.getfield 44, 3) := by decide +kernel
theorem d_L_update_32 : decode b_L_update 32 = .ok (.iload_n 2, 1) := by decide +kernel
theorem d_L_update_33 : decode b_L_update 33 = .ok (.iload_n 3, 1) := by decide +kernel
theorem d_L_update_34 : decode b_L_update 34 = .ok (.invokestatic 106, 3) := by decide +kernel
theorem d_L_update_37 : decode b_L_update 37 = .ok (.invokevirtual 56, 3) := by decide +kernel
theorem d_L_update_40 : decode b_L_update 40 = .ok (.invokevirtual 36, 3) := by decide +kernel
theorem d_L_update_43 : decode b_L_update 43 = .ok (.ireturn, 1) := by decide +kernel
theorem d_L_refuseOutside_0 : decode b_L_refuseOutside 0 = .ok (.iload_n 1, 1) := by decide +kernel
theorem d_L_refuseOutside_1 : decode b_L_refuseOutside 1 = .ok (.ifCond .lt 12, 3) := by decide +kernel
theorem d_L_refuseOutside_4 : decode b_L_refuseOutside 4 = .ok (.iload_n 1, 1) := by decide +kernel
theorem d_L_refuseOutside_5 : decode b_L_refuseOutside 5 = .ok (.aload_n 0, 1) := by decide +kernel
theorem d_L_refuseOutside_6 : decode b_L_refuseOutside 6 = .ok (.getfield 44, 3) := by decide +kernel
theorem d_L_refuseOutside_9 : decode b_L_refuseOutside 9 = .ok (.arraylength, 1) := by decide +kernel
theorem d_L_refuseOutside_10 : decode b_L_refuseOutside 10 = .ok (.if_icmp .lt 13, 3) := by decide +kernel
theorem d_L_refuseOutside_13 : decode b_L_refuseOutside 13 = .ok (.new 163, 3) := by decide +kernel
theorem d_L_refuseOutside_16 : decode b_L_refuseOutside 16 = .ok (.dup, 1) := by decide +kernel
theorem d_L_refuseOutside_17 : decode b_L_refuseOutside 17 = .ok (.ldc 165, 2) := by decide +kernel
theorem d_L_refuseOutside_19 : decode b_L_refuseOutside 19 = .ok (.invokespecial 167, 3) := by decide +kernel
theorem d_L_refuseOutside_22 : decode b_L_refuseOutside 22 = .ok (.athrow, 1) := by decide +kernel
theorem d_L_refuseOutside_23 : decode b_L_refuseOutside 23 = .ok (.return_, 1) := by decide +kernel
theorem d_W_at_0 : decode b_W_at 0 = .ok (.aload_n 3, 1) := by decide +kernel
theorem d_W_at_1 : decode b_W_at 1 = .ok (.iconst 0, 1) := by decide +kernel
theorem d_W_at_2 : decode b_W_at 2 = .ok (.aload_n 0, 1) := by decide +kernel
theorem d_W_at_3 : decode b_W_at 3 = .ok (.iload_n 1, 1) := by decide +kernel
theorem d_W_at_4 : decode b_W_at 4 = .ok (.iload_n 2, 1) := by decide +kernel
theorem d_W_at_5 : decode b_W_at 5 = .ok (.invokevirtual 44, 3) := by decide +kernel
theorem d_W_at_8 : decode b_W_at 8 = .ok (.i2l, 1) := by decide +kernel
theorem d_W_at_9 : decode b_W_at 9 = .ok (.lastore, 1) := by decide +kernel
theorem d_W_at_10 : decode b_W_at 10 = .ok (.goto 11, 3) := by decide +kernel
theorem d_W_at_13 : decode b_W_at 13 = .ok (.astore 4, 2) := by decide +kernel
theorem d_W_at_15 : decode b_W_at 15 = .ok (.iconst 1, 1) := by decide +kernel
theorem d_W_at_16 : decode b_W_at 16 = .ok (.ireturn, 1) := by decide +kernel
theorem d_W_at_17 : decode b_W_at 17 = .ok (.astore 4, 2) := by decide +kernel
theorem d_W_at_19 : decode b_W_at 19 = .ok (.iconst 2, 1) := by decide +kernel
theorem d_W_at_20 : decode b_W_at 20 = .ok (.ireturn, 1) := by decide +kernel
theorem d_W_at_21 : decode b_W_at 21 = .ok (.iconst 0, 1) := by decide +kernel
theorem d_W_at_22 : decode b_W_at 22 = .ok (.ireturn, 1) := by decide +kernel
theorem d_L_at_0 : decode b_L_at 0 = .ok (.aload_n 0, 1) := by decide +kernel
theorem d_L_at_1 : decode b_L_at 1 = .ok (.iload_n 1, 1) := by decide +kernel
theorem d_L_at_2 : decode b_L_at 2 = .ok (.invokevirtual 69, 3) := by decide +kernel
theorem d_L_at_5 : decode b_L_at 5 = .ok (.astore_n 3, 1) := by decide +kernel
theorem d_L_at_6 : decode b_L_at 6 = .ok (.aload_n 3, 1) := by decide +kernel
theorem d_L_at_7 : decode b_L_at 7 = .ok (.iload_n 2, 1) := by decide +kernel
theorem d_L_at_8 : decode b_L_at 8 = .ok (.invokestatic 117, 3) := by decide +kernel
theorem d_L_at_11 : decode b_L_at 11 = .ok (.aload_n 3, 1) := by decide +kernel
theorem d_L_at_12 : decode b_L_at 12 = .ok (.getfield 44, 3) := by decide +kernel
theorem d_L_at_15 : decode b_L_at 15 = .ok (.iload_n 2, 1) := by decide +kernel
theorem d_L_at_16 : decode b_L_at 16 = .ok (.iaload, 1) := by decide +kernel
theorem d_L_at_17 : decode b_L_at 17 = .ok (.ireturn, 1) := by decide +kernel
theorem d_W_size_0 : decode b_W_size 0 = .ok (.aload_n 2, 1) := by decide +kernel
theorem d_W_size_1 : decode b_W_size 1 = .ok (.iconst 0, 1) := by decide +kernel
theorem d_W_size_2 : decode b_W_size 2 = .ok (.aload_n 0, 1) := by decide +kernel
theorem d_W_size_3 : decode b_W_size 3 = .ok (.iload_n 1, 1) := by decide +kernel
theorem d_W_size_4 : decode b_W_size 4 = .ok (.invokevirtual 47, 3) := by decide +kernel
theorem d_W_size_7 : decode b_W_size 7 = .ok (.i2l, 1) := by decide +kernel
theorem d_W_size_8 : decode b_W_size 8 = .ok (.lastore, 1) := by decide +kernel
theorem d_W_size_9 : decode b_W_size 9 = .ok (.goto 6, 3) := by decide +kernel
theorem d_W_size_12 : decode b_W_size 12 = .ok (.astore_n 3, 1) := by decide +kernel
theorem d_W_size_13 : decode b_W_size 13 = .ok (.iconst 1, 1) := by decide +kernel
theorem d_W_size_14 : decode b_W_size 14 = .ok (.ireturn, 1) := by decide +kernel
theorem d_W_size_15 : decode b_W_size 15 = .ok (.iconst 0, 1) := by decide +kernel
theorem d_W_size_16 : decode b_W_size 16 = .ok (.ireturn, 1) := by decide +kernel
theorem d_L_size_0 : decode b_L_size 0 = .ok (.aload_n 0, 1) := by decide +kernel
theorem d_L_size_1 : decode b_L_size 1 = .ok (.iload_n 1, 1) := by decide +kernel
theorem d_L_size_2 : decode b_L_size 2 = .ok (.invokevirtual 69, 3) := by decide +kernel
theorem d_L_size_5 : decode b_L_size 5 = .ok (.getfield 44, 3) := by decide +kernel
theorem d_L_size_8 : decode b_L_size 8 = .ok (.arraylength, 1) := by decide +kernel
theorem d_L_size_9 : decode b_L_size 9 = .ok (.ireturn, 1) := by decide +kernel
theorem d_W_parts_0 : decode b_W_parts 0 = .ok (.aload_n 2, 1) := by decide +kernel
theorem d_W_parts_1 : decode b_W_parts 1 = .ok (.iconst 0, 1) := by decide +kernel
theorem d_W_parts_2 : decode b_W_parts 2 = .ok (.aload_n 0, 1) := by decide +kernel
theorem d_W_parts_3 : decode b_W_parts 3 = .ok (.iload_n 1, 1) := by decide +kernel
theorem d_W_parts_4 : decode b_W_parts 4 = .ok (.invokevirtual 50, 3) := by decide +kernel
theorem d_W_parts_7 : decode b_W_parts 7 = .ok (.i2l, 1) := by decide +kernel
theorem d_W_parts_8 : decode b_W_parts 8 = .ok (.lastore, 1) := by decide +kernel
theorem d_W_parts_9 : decode b_W_parts 9 = .ok (.goto 6, 3) := by decide +kernel
theorem d_W_parts_12 : decode b_W_parts 12 = .ok (.astore_n 3, 1) := by decide +kernel
theorem d_W_parts_13 : decode b_W_parts 13 = .ok (.iconst 1, 1) := by decide +kernel
theorem d_W_parts_14 : decode b_W_parts 14 = .ok (.ireturn, 1) := by decide +kernel
theorem d_W_parts_15 : decode b_W_parts 15 = .ok (.iconst 0, 1) := by decide +kernel
theorem d_W_parts_16 : decode b_W_parts 16 = .ok (.ireturn, 1) := by decide +kernel
theorem d_L_parts_0 : decode b_L_parts 0 = .ok (.aload_n 0, 1) := by decide +kernel
theorem d_L_parts_1 : decode b_L_parts 1 = .ok (.iload_n 1, 1) := by decide +kernel
theorem d_L_parts_2 : decode b_L_parts 2 = .ok (.invokevirtual 69, 3) := by decide +kernel
theorem d_L_parts_5 : decode b_L_parts 5 = .ok (.astore_n 2, 1) := by decide +kernel
theorem d_L_parts_6 : decode b_L_parts 6 = .ok (.aload_n 2, 1) := by decide +kernel
theorem d_L_parts_7 : decode b_L_parts 7 = .ok (.getfield 44, 3) := by decide +kernel
theorem d_L_parts_10 : decode b_L_parts 10 = .ok (.arraylength, 1) := by decide +kernel
theorem d_L_parts_11 : decode b_L_parts 11 = .ok (.istore_n 3, 1) := by decide +kernel
theorem d_L_parts_12 : decode b_L_parts 12 = .ok (.aload_n 2, 1) := by decide +kernel
theorem d_L_parts_13 : decode b_L_parts 13 = .ok (.getfield 78, 3) := by decide +kernel
theorem d_L_parts_16 : decode b_L_parts 16 = .ok (.iconst 2, 1) := by decide +kernel
theorem d_L_parts_17 : decode b_L_parts 17 = .ok (.if_icmp .ne 15, 3) := by decide +kernel
theorem d_L_parts_20 : decode b_L_parts 20 = .ok (.aload_n 2, 1) := by decide +kernel
theorem d_L_parts_21 : decode b_L_parts 21 = .ok (.getfield 109, 3) := by decide +kernel
theorem d_L_parts_24 : decode b_L_parts 24 = .ok (.ifCond .ne 8, 3) := by decide +kernel
theorem d_L_parts_27 : decode b_L_parts 27 = .ok (.iload_n 3, 1) := by decide +kernel
theorem d_L_parts_28 : decode b_L_parts 28 = .ok (.invokestatic 121, 3) := by decide +kernel
theorem d_L_parts_31 : decode b_L_parts 31 = .ok (.ireturn, 1) := by decide +kernel
theorem d_L_parts_32 : decode b_L_parts 32 = .ok (.aload_n 2, 1) := by decide +kernel
theorem d_L_parts_33 : decode b_L_parts 33 = .ok (.getfield 109, 3) := by decide +kernel
theorem d_L_parts_36 : decode b_L_parts 36 = .ok (.iconst 1, 1) := by decide +kernel
theorem d_L_parts_37 : decode b_L_parts 37 = .ok (.if_icmp .ne 24, 3) := by decide +kernel
theorem d_L_parts_40 : decode b_L_parts 40 = .ok (.aload_n 2, 1) := by decide +kernel
theorem d_L_parts_41 : decode b_L_parts 41 = .ok (.getfield 78, 3) := by decide +kernel
theorem d_L_parts_44 : decode b_L_parts 44 = .ok (.iconst 2, 1) := by decide +kernel
theorem d_L_parts_45 : decode b_L_parts 45 = .ok (.if_icmp .eq 11, 3) := by decide +kernel
theorem d_L_parts_48 : decode b_L_parts 48 = .ok (.aload_n 2, 1) := by decide +kernel
theorem d_L_parts_49 : decode b_L_parts 49 = .ok (.getfield 78, 3) := by decide +kernel
theorem d_L_parts_52 : decode b_L_parts 52 = .ok (.iconst 1, 1) := by decide +kernel
theorem d_L_parts_53 : decode b_L_parts 53 = .ok (.if_icmp .ne 8, 3) := by decide +kernel
theorem d_L_parts_56 : decode b_L_parts 56 = .ok (.iload_n 3, 1) := by decide +kernel
theorem d_L_parts_57 : decode b_L_parts 57 = .ok (.invokestatic 125, 3) := by decide +kernel
theorem d_L_parts_60 : decode b_L_parts 60 = .ok (.ireturn, 1) := by decide +kernel
theorem d_L_parts_61 : decode b_L_parts 61 = .ok (.iload_n 3, 1) := by decide +kernel
theorem d_L_parts_62 : decode b_L_parts 62 = .ok (.iconst 1, 1) := by decide +kernel
theorem d_L_parts_63 : decode b_L_parts 63 = .ok (.invokestatic 130, 3) := by decide +kernel
theorem d_L_parts_66 : decode b_L_parts 66 = .ok (.ireturn, 1) := by decide +kernel
theorem d_L_fewestTrees_0 : decode b_L_fewestTrees 0 = .ok (.iconst 0, 1) := by decide +kernel
theorem d_L_fewestTrees_1 : decode b_L_fewestTrees 1 = .ok (.istore_n 1, 1) := by decide +kernel
theorem d_L_fewestTrees_2 : decode b_L_fewestTrees 2 = .ok (.iload_n 0, 1) := by decide +kernel
theorem d_L_fewestTrees_3 : decode b_L_fewestTrees 3 = .ok (.istore_n 2, 1) := by decide +kernel
theorem d_L_fewestTrees_4 : decode b_L_fewestTrees 4 = .ok (.bipush 63, 2) := by decide +kernel
theorem d_L_fewestTrees_6 : decode b_L_fewestTrees 6 = .ok (.istore_n 3, 1) := by decide +kernel
theorem d_L_fewestTrees_7 : decode b_L_fewestTrees 7 = .ok (.iload_n 3, 1) := by decide +kernel
theorem d_L_fewestTrees_8 : decode b_L_fewestTrees 8 = .ok (.ifCond .le 20, 3) := by decide +kernel
theorem d_L_fewestTrees_11 : decode b_L_fewestTrees 11 = .ok (.iload_n 1, 1) := by decide +kernel
theorem d_L_fewestTrees_12 : decode b_L_fewestTrees 12 = .ok (.iload_n 2, 1) := by decide +kernel
theorem d_L_fewestTrees_13 : decode b_L_fewestTrees 13 = .ok (.iload_n 3, 1) := by decide +kernel
theorem d_L_fewestTrees_14 : decode b_L_fewestTrees 14 = .ok (.idiv, 1) := by decide +kernel
theorem d_L_fewestTrees_15 : decode b_L_fewestTrees 15 = .ok (.iadd, 1) := by decide +kernel
theorem d_L_fewestTrees_16 : decode b_L_fewestTrees 16 = .ok (.istore_n 1, 1) := by decide +kernel
theorem d_L_fewestTrees_17 : decode b_L_fewestTrees 17 = .ok (.iload_n 2, 1) := by decide +kernel
theorem d_L_fewestTrees_18 : decode b_L_fewestTrees 18 = .ok (.iload_n 3, 1) := by decide +kernel
theorem d_L_fewestTrees_19 : decode b_L_fewestTrees 19 = .ok (.irem, 1) := by decide +kernel
theorem d_L_fewestTrees_20 : decode b_L_fewestTrees 20 = .ok (.istore_n 2, 1) := by decide +kernel
end
section
theorem d_L_fewestTrees_21 : decode b_L_fewestTrees 21 = .ok (.iload_n 3, 1) := by decide +kernel
theorem d_L_fewestTrees_22 : decode b_L_fewestTrees 22 = .ok (.iconst 2, 1) := by decide +kernel
theorem d_L_fewestTrees_23 : decode b_L_fewestTrees 23 = .ok (.idiv, 1) := by decide +kernel
theorem d_L_fewestTrees_24 : decode b_L_fewestTrees 24 = .ok (.istore_n 3, 1) := by decide +kernel
theorem d_L_fewestTrees_25 : decode b_L_fewestTrees 25 = .ok (.goto (-18), 3) := by decide +kernel
theorem d_L_fewestTrees_28 : decode b_L_fewestTrees 28 = .ok (.iload_n 1, 1) := by decide +kernel
theorem d_L_fewestTrees_29 : decode b_L_fewestTrees 29 = .ok (.ireturn, 1) := by decide +kernel
theorem d_IN_bitCount_0 : decode b_IN_bitCount 0 = .ok (.iload_n 0, 1) := by decide +kernel
theorem d_IN_bitCount_1 : decode b_IN_bitCount 1 = .ok (.iload_n 0, 1) := by decide +kernel
theorem d_IN_bitCount_2 : decode b_IN_bitCount 2 = .ok (.iconst 1, 1) := by decide +kernel
theorem d_IN_bitCount_3 : decode b_IN_bitCount 3 = .ok (.iushr, 1) := by decide +kernel
theorem d_IN_bitCount_4 : decode b_IN_bitCount 4 = .ok (.ldc_w 265, 3) := by decide +kernel
theorem d_IN_bitCount_7 : decode b_IN_bitCount 7 = .ok (.iand, 1) := by decide +kernel
theorem d_IN_bitCount_8 : decode b_IN_bitCount 8 = .ok (.isub, 1) := by decide +kernel
theorem d_IN_bitCount_9 : decode b_IN_bitCount 9 = .ok (.istore_n 0, 1) := by decide +kernel
theorem d_IN_bitCount_10 : decode b_IN_bitCount 10 = .ok (.iload_n 0, 1) := by decide +kernel
theorem d_IN_bitCount_11 : decode b_IN_bitCount 11 = .ok (.ldc_w 266, 3) := by decide +kernel
theorem d_IN_bitCount_14 : decode b_IN_bitCount 14 = .ok (.iand, 1) := by decide +kernel
theorem d_IN_bitCount_15 : decode b_IN_bitCount 15 = .ok (.iload_n 0, 1) := by decide +kernel
theorem d_IN_bitCount_16 : decode b_IN_bitCount 16 = .ok (.iconst 2, 1) := by decide +kernel
theorem d_IN_bitCount_17 : decode b_IN_bitCount 17 = .ok (.iushr, 1) := by decide +kernel
theorem d_IN_bitCount_18 : decode b_IN_bitCount 18 = .ok (.ldc_w 266, 3) := by decide +kernel
theorem d_IN_bitCount_21 : decode b_IN_bitCount 21 = .ok (.iand, 1) := by decide +kernel
theorem d_IN_bitCount_22 : decode b_IN_bitCount 22 = .ok (.iadd, 1) := by decide +kernel
theorem d_IN_bitCount_23 : decode b_IN_bitCount 23 = .ok (.istore_n 0, 1) := by decide +kernel
theorem d_IN_bitCount_24 : decode b_IN_bitCount 24 = .ok (.iload_n 0, 1) := by decide +kernel
theorem d_IN_bitCount_25 : decode b_IN_bitCount 25 = .ok (.iload_n 0, 1) := by decide +kernel
theorem d_IN_bitCount_26 : decode b_IN_bitCount 26 = .ok (.iconst 4, 1) := by decide +kernel
theorem d_IN_bitCount_27 : decode b_IN_bitCount 27 = .ok (.iushr, 1) := by decide +kernel
theorem d_IN_bitCount_28 : decode b_IN_bitCount 28 = .ok (.iadd, 1) := by decide +kernel
theorem d_IN_bitCount_29 : decode b_IN_bitCount 29 = .ok (.ldc_w 267, 3) := by decide +kernel
theorem d_IN_bitCount_32 : decode b_IN_bitCount 32 = .ok (.iand, 1) := by decide +kernel
theorem d_IN_bitCount_33 : decode b_IN_bitCount 33 = .ok (.istore_n 0, 1) := by decide +kernel
theorem d_IN_bitCount_34 : decode b_IN_bitCount 34 = .ok (.iload_n 0, 1) := by decide +kernel
theorem d_IN_bitCount_35 : decode b_IN_bitCount 35 = .ok (.iload_n 0, 1) := by decide +kernel
theorem d_IN_bitCount_36 : decode b_IN_bitCount 36 = .ok (.bipush 8, 2) := by decide +kernel
theorem d_IN_bitCount_38 : decode b_IN_bitCount 38 = .ok (.iushr, 1) := by decide +kernel
theorem d_IN_bitCount_39 : decode b_IN_bitCount 39 = .ok (.iadd, 1) := by decide +kernel
theorem d_IN_bitCount_40 : decode b_IN_bitCount 40 = .ok (.istore_n 0, 1) := by decide +kernel
theorem d_IN_bitCount_41 : decode b_IN_bitCount 41 = .ok (.iload_n 0, 1) := by decide +kernel
theorem d_IN_bitCount_42 : decode b_IN_bitCount 42 = .ok (.iload_n 0, 1) := by decide +kernel
theorem d_IN_bitCount_43 : decode b_IN_bitCount 43 = .ok (.bipush 16, 2) := by decide +kernel
theorem d_IN_bitCount_45 : decode b_IN_bitCount 45 = .ok (.iushr, 1) := by decide +kernel
theorem d_IN_bitCount_46 : decode b_IN_bitCount 46 = .ok (.iadd, 1) := by decide +kernel
theorem d_IN_bitCount_47 : decode b_IN_bitCount 47 = .ok (.istore_n 0, 1) := by decide +kernel
theorem d_IN_bitCount_48 : decode b_IN_bitCount 48 = .ok (.iload_n 0, 1) := by decide +kernel
theorem d_IN_bitCount_49 : decode b_IN_bitCount 49 = .ok (.bipush 63, 2) := by decide +kernel
theorem d_IN_bitCount_51 : decode b_IN_bitCount 51 = .ok (.iand, 1) := by decide +kernel
theorem d_IN_bitCount_52 : decode b_IN_bitCount 52 = .ok (.ireturn, 1) := by decide +kernel
theorem d_W_kind_0 : decode b_W_kind 0 = .ok (.aload_n 2, 1) := by decide +kernel
theorem d_W_kind_1 : decode b_W_kind 1 = .ok (.iconst 0, 1) := by decide +kernel
theorem d_W_kind_2 : decode b_W_kind 2 = .ok (.aload_n 0, 1) := by decide +kernel
theorem d_W_kind_3 : decode b_W_kind 3 = .ok (.iload_n 1, 1) := by decide +kernel
theorem d_W_kind_4 : decode b_W_kind 4 = .ok (.invokevirtual 53, 3) := by decide +kernel
theorem d_W_kind_7 : decode b_W_kind 7 = .ok (.i2l, 1) := by decide +kernel
theorem d_W_kind_8 : decode b_W_kind 8 = .ok (.lastore, 1) := by decide +kernel
theorem d_W_kind_9 : decode b_W_kind 9 = .ok (.goto 6, 3) := by decide +kernel
theorem d_W_kind_12 : decode b_W_kind 12 = .ok (.astore_n 3, 1) := by decide +kernel
theorem d_W_kind_13 : decode b_W_kind 13 = .ok (.iconst 1, 1) := by decide +kernel
theorem d_W_kind_14 : decode b_W_kind 14 = .ok (.ireturn, 1) := by decide +kernel
theorem d_W_kind_15 : decode b_W_kind 15 = .ok (.iconst 0, 1) := by decide +kernel
theorem d_W_kind_16 : decode b_W_kind 16 = .ok (.ireturn, 1) := by decide +kernel
theorem d_L_kind_0 : decode b_L_kind 0 = .ok (.aload_n 0, 1) := by decide +kernel
theorem d_L_kind_1 : decode b_L_kind 1 = .ok (.iload_n 1, 1) := by decide +kernel
theorem d_L_kind_2 : decode b_L_kind 2 = .ok (.invokevirtual 69, 3) := by decide +kernel
theorem d_L_kind_5 : decode b_L_kind 5 = .ok (.astore_n 2, 1) := by decide +kernel
theorem d_L_kind_6 : decode b_L_kind 6 = .ok (.bipush 10, 2) := by decide +kernel
theorem d_L_kind_8 : decode b_L_kind 8 = .ok (.aload_n 2, 1) := by decide +kernel
theorem d_L_kind_9 : decode b_L_kind 9 = .ok (.getfield 78, 3) := by decide +kernel
theorem d_L_kind_12 : decode b_L_kind 12 = .ok (.imul, 1) := by decide +kernel
theorem d_L_kind_13 : decode b_L_kind 13 = .ok (.aload_n 2, 1) := by decide +kernel
theorem d_L_kind_14 : decode b_L_kind 14 = .ok (.getfield 109, 3) := by decide +kernel
theorem d_L_kind_17 : decode b_L_kind 17 = .ok (.iadd, 1) := by decide +kernel
theorem d_L_kind_18 : decode b_L_kind 18 = .ok (.ireturn, 1) := by decide +kernel
theorem d_M_init_0 : decode b_M_init 0 = .ok (.aload_n 0, 1) := by decide +kernel
theorem d_M_init_1 : decode b_M_init 1 = .ok (.invokespecial 1, 3) := by decide +kernel
theorem d_M_init_4 : decode b_M_init 4 = .ok (.aload_n 0, 1) := by decide +kernel
theorem d_M_init_5 : decode b_M_init 5 = .ok (.bipush 64, 2) := by decide +kernel
theorem d_M_init_7 : decode b_M_init 7 = .ok (.newarray .int, 2) := by decide +kernel
theorem d_M_init_9 : decode b_M_init 9 = .ok (.putfield 7, 3) := by decide +kernel
theorem d_M_init_12 : decode b_M_init 12 = .ok (.aload_n 0, 1) := by decide +kernel
theorem d_M_init_13 : decode b_M_init 13 = .ok (.bipush 64, 2) := by decide +kernel
theorem d_M_init_15 : decode b_M_init 15 = .ok (.newarray .int, 2) := by decide +kernel
theorem d_M_init_17 : decode b_M_init 17 = .ok (.putfield 13, 3) := by decide +kernel
theorem d_M_init_20 : decode b_M_init 20 = .ok (.aload_n 0, 1) := by decide +kernel
theorem d_M_init_21 : decode b_M_init 21 = .ok (.bipush 64, 2) := by decide +kernel
theorem d_M_init_23 : decode b_M_init 23 = .ok (.newarray .int, 2) := by decide +kernel
theorem d_M_init_25 : decode b_M_init 25 = .ok (.putfield 16, 3) := by decide +kernel
theorem d_M_init_28 : decode b_M_init 28 = .ok (.aload_n 0, 1) := by decide +kernel
theorem d_M_init_29 : decode b_M_init 29 = .ok (.sipush 6400, 3) := by decide +kernel
theorem d_M_init_32 : decode b_M_init 32 = .ok (.newarray .int, 2) := by decide +kernel
theorem d_M_init_34 : decode b_M_init 34 = .ok (.putfield 19, 3) := by decide +kernel
theorem d_M_init_37 : decode b_M_init 37 = .ok (.aload_n 0, 1) := by decide +kernel
theorem d_M_init_38 : decode b_M_init 38 = .ok (.sipush 6400, 3) := by decide +kernel
theorem d_M_init_41 : decode b_M_init 41 = .ok (.newarray .int, 2) := by decide +kernel
theorem d_M_init_43 : decode b_M_init 43 = .ok (.putfield 22, 3) := by decide +kernel
theorem d_M_init_46 : decode b_M_init 46 = .ok (.aload_n 0, 1) := by decide +kernel
theorem d_M_init_47 : decode b_M_init 47 = .ok (.bipush 101, 2) := by decide +kernel
theorem d_M_init_49 : decode b_M_init 49 = .ok (.newarray .int, 2) := by decide +kernel
theorem d_M_init_51 : decode b_M_init 51 = .ok (.putfield 25, 3) := by decide +kernel
theorem d_M_init_54 : decode b_M_init 54 = .ok (.iconst 1, 1) := by decide +kernel
theorem d_M_init_55 : decode b_M_init 55 = .ok (.istore_n 1, 1) := by decide +kernel
theorem d_M_init_56 : decode b_M_init 56 = .ok (.iload_n 1, 1) := by decide +kernel
theorem d_M_init_57 : decode b_M_init 57 = .ok (.bipush 100, 2) := by decide +kernel
theorem d_M_init_59 : decode b_M_init 59 = .ok (.if_icmp .gt 69, 3) := by decide +kernel
theorem d_M_init_62 : decode b_M_init 62 = .ok (.aload_n 0, 1) := by decide +kernel
theorem d_M_init_63 : decode b_M_init 63 = .ok (.getfield 25, 3) := by decide +kernel
theorem d_M_init_66 : decode b_M_init 66 = .ok (.iload_n 1, 1) := by decide +kernel
theorem d_M_init_67 : decode b_M_init 67 = .ok (.iload_n 1, 1) := by decide +kernel
theorem d_M_init_68 : decode b_M_init 68 = .ok (.iastore, 1) := by decide +kernel
theorem d_M_init_69 : decode b_M_init 69 = .ok (.iconst 1, 1) := by decide +kernel
theorem d_M_init_70 : decode b_M_init 70 = .ok (.istore_n 2, 1) := by decide +kernel
theorem d_M_init_71 : decode b_M_init 71 = .ok (.iload_n 2, 1) := by decide +kernel
theorem d_M_init_72 : decode b_M_init 72 = .ok (.iload_n 1, 1) := by decide +kernel
theorem d_M_init_73 : decode b_M_init 73 = .ok (.if_icmp .gt 49, 3) := by decide +kernel
theorem d_M_init_76 : decode b_M_init 76 = .ok (.aload_n 0, 1) := by decide +kernel
theorem d_M_init_77 : decode b_M_init 77 = .ok (.getfield 25, 3) := by decide +kernel
theorem d_M_init_80 : decode b_M_init 80 = .ok (.iload_n 1, 1) := by decide +kernel
theorem d_M_init_81 : decode b_M_init 81 = .ok (.iload_n 2, 1) := by decide +kernel
theorem d_M_init_82 : decode b_M_init 82 = .ok (.isub, 1) := by decide +kernel
theorem d_M_init_83 : decode b_M_init 83 = .ok (.iaload, 1) := by decide +kernel
theorem d_M_init_84 : decode b_M_init 84 = .ok (.iconst 1, 1) := by decide +kernel
theorem d_M_init_85 : decode b_M_init 85 = .ok (.iadd, 1) := by decide +kernel
theorem d_M_init_86 : decode b_M_init 86 = .ok (.istore_n 3, 1) := by decide +kernel
theorem d_M_init_87 : decode b_M_init 87 = .ok (.aload_n 0, 1) := by decide +kernel
theorem d_M_init_88 : decode b_M_init 88 = .ok (.getfield 25, 3) := by decide +kernel
theorem d_M_init_91 : decode b_M_init 91 = .ok (.iload_n 1, 1) := by decide +kernel
theorem d_M_init_92 : decode b_M_init 92 = .ok (.iload_n 3, 1) := by decide +kernel
theorem d_M_init_93 : decode b_M_init 93 = .ok (.aload_n 0, 1) := by decide +kernel
theorem d_M_init_94 : decode b_M_init 94 = .ok (.getfield 25, 3) := by decide +kernel
theorem d_M_init_97 : decode b_M_init 97 = .ok (.iload_n 1, 1) := by decide +kernel
theorem d_M_init_98 : decode b_M_init 98 = .ok (.iaload, 1) := by decide +kernel
theorem d_M_init_99 : decode b_M_init 99 = .ok (.if_icmp .ge 7, 3) := by decide +kernel
theorem d_M_init_102 : decode b_M_init 102 = .ok (.iload_n 3, 1) := by decide +kernel
theorem d_M_init_103 : decode b_M_init 103 = .ok (.goto 9, 3) := by decide +kernel
theorem d_M_init_106 : decode b_M_init 106 = .ok (.aload_n 0, 1) := by decide +kernel
theorem d_M_init_107 : decode b_M_init 107 = .ok (.getfield 25, 3) := by decide +kernel
theorem d_M_init_110 : decode b_M_init 110 = .ok (.iload_n 1, 1) := by decide +kernel
theorem d_M_init_111 : decode b_M_init 111 = .ok (.iaload, 1) := by decide +kernel
theorem d_M_init_112 : decode b_M_init 112 = .ok (.iastore, 1) := by decide +kernel
theorem d_M_init_113 : decode b_M_init 113 = .ok (.iconst 2, 1) := by decide +kernel
theorem d_M_init_114 : decode b_M_init 114 = .ok (.iload_n 2, 1) := by decide +kernel
theorem d_M_init_115 : decode b_M_init 115 = .ok (.imul, 1) := by decide +kernel
theorem d_M_init_116 : decode b_M_init 116 = .ok (.iconst 1, 1) := by decide +kernel
theorem d_M_init_117 : decode b_M_init 117 = .ok (.iadd, 1) := by decide +kernel
theorem d_M_init_118 : decode b_M_init 118 = .ok (.istore_n 2, 1) := by decide +kernel
theorem d_M_init_119 : decode b_M_init 119 = .ok (.goto (-48), 3) := by decide +kernel
theorem d_M_init_122 : decode b_M_init 122 = .ok (.iinc 1 1, 3) := by decide +kernel
theorem d_M_init_125 : decode b_M_init 125 = .ok (.goto (-69), 3) := by decide +kernel
theorem d_M_init_128 : decode b_M_init 128 = .ok (.return_, 1) := by decide +kernel
theorem d_M_thrown_0 : decode b_M_thrown 0 = .ok (.aload_n 0, 1) := by decide +kernel
theorem d_M_thrown_1 : decode b_M_thrown 1 = .ok (.getfield 28, 3) := by decide +kernel
theorem d_M_thrown_4 : decode b_M_thrown 4 = .ok (.ireturn, 1) := by decide +kernel
theorem d_M_empty_0 : decode b_M_empty 0 = .ok (.iload_n 1, 1) := by decide +kernel
theorem d_M_empty_1 : decode b_M_empty 1 = .ok (.iconst 2, 1) := by decide +kernel
theorem d_M_empty_2 : decode b_M_empty 2 = .ok (.if_icmp .ge 7, 3) := by decide +kernel
theorem d_M_empty_5 : decode b_M_empty 5 = .ok (.iconst 2, 1) := by decide +kernel
theorem d_M_empty_6 : decode b_M_empty 6 = .ok (.goto 13, 3) := by decide +kernel
theorem d_M_empty_9 : decode b_M_empty 9 = .ok (.iload_n 1, 1) := by decide +kernel
theorem d_M_empty_10 : decode b_M_empty 10 = .ok (.iconst 4, 1) := by decide +kernel
theorem d_M_empty_11 : decode b_M_empty 11 = .ok (.if_icmp .ge 7, 3) := by decide +kernel
theorem d_M_empty_14 : decode b_M_empty 14 = .ok (.iconst 1, 1) := by decide +kernel
theorem d_M_empty_15 : decode b_M_empty 15 = .ok (.goto 4, 3) := by decide +kernel
theorem d_M_empty_18 : decode b_M_empty 18 = .ok (.iconst 0, 1) := by decide +kernel
theorem d_M_empty_19 : decode b_M_empty 19 = .ok (.istore_n 3, 1) := by decide +kernel
theorem d_M_empty_20 : decode b_M_empty 20 = .ok (.iload_n 1, 1) := by decide +kernel
theorem d_M_empty_21 : decode b_M_empty 21 = .ok (.ifCond .lt 21, 3) := by decide +kernel
theorem d_M_empty_24 : decode b_M_empty 24 = .ok (.iload_n 1, 1) := by decide +kernel
theorem d_M_empty_25 : decode b_M_empty 25 = .ok (.iconst 4, 1) := by decide +kernel
theorem d_M_empty_26 : decode b_M_empty 26 = .ok (.if_icmp .gt 16, 3) := by decide +kernel
theorem d_M_empty_29 : decode b_M_empty 29 = .ok (.iload_n 2, 1) := by decide +kernel
theorem d_M_empty_30 : decode b_M_empty 30 = .ok (.ifCond .lt 12, 3) := by decide +kernel
theorem d_M_empty_33 : decode b_M_empty 33 = .ok (.iload_n 2, 1) := by decide +kernel
theorem d_M_empty_34 : decode b_M_empty 34 = .ok (.iload_n 3, 1) := by decide +kernel
theorem d_M_empty_35 : decode b_M_empty 35 = .ok (.if_icmp .gt 7, 3) := by decide +kernel
theorem d_M_empty_38 : decode b_M_empty 38 = .ok (.iconst 1, 1) := by decide +kernel
theorem d_M_empty_39 : decode b_M_empty 39 = .ok (.goto 4, 3) := by decide +kernel
theorem d_M_empty_42 : decode b_M_empty 42 = .ok (.iconst 0, 1) := by decide +kernel
theorem d_M_empty_43 : decode b_M_empty 43 = .ok (.istore 4, 2) := by decide +kernel
theorem d_M_empty_45 : decode b_M_empty 45 = .ok (.aload_n 0, 1) := by decide +kernel
theorem d_M_empty_46 : decode b_M_empty 46 = .ok (.iload 4, 2) := by decide +kernel
theorem d_M_empty_48 : decode b_M_empty 48 = .ok (.ifCond .ne 7, 3) := by decide +kernel
theorem d_M_empty_51 : decode b_M_empty 51 = .ok (.iconst 1, 1) := by decide +kernel
theorem d_M_empty_52 : decode b_M_empty 52 = .ok (.goto 15, 3) := by decide +kernel
theorem d_M_empty_55 : decode b_M_empty 55 = .ok (.aload_n 0, 1) := by decide +kernel
theorem d_M_empty_56 : decode b_M_empty 56 = .ok (.invokevirtual 46, 3) := by decide +kernel
theorem d_M_empty_59 : decode b_M_empty 59 = .ok (.ifCond .eq 7, 3) := by decide +kernel
theorem d_M_empty_62 : decode b_M_empty 62 = .ok (.iconst 2, 1) := by decide +kernel
theorem d_M_empty_63 : decode b_M_empty 63 = .ok (.goto 4, 3) := by decide +kernel
theorem d_M_empty_66 : decode b_M_empty 66 = .ok (.iconst 0, 1) := by decide +kernel
theorem d_M_empty_67 : decode b_M_empty 67 = .ok (.invokevirtual 50, 3) := by decide +kernel
theorem d_M_empty_70 : decode b_M_empty 70 = .ok (.ifCond .eq 5, 3) := by decide +kernel
theorem d_M_empty_73 : decode b_M_empty 73 = .ok (.iconst 0, 1) := by decide +kernel
theorem d_M_empty_74 : decode b_M_empty 74 = .ok (.ireturn, 1) := by decide +kernel
theorem d_M_empty_75 : decode b_M_empty 75 = .ok (.aload_n 0, 1) := by decide +kernel
theorem d_M_empty_76 : decode b_M_empty 76 = .ok (.iload_n 1, 1) := by decide +kernel
theorem d_M_empty_77 : decode b_M_empty 77 = .ok (.iload_n 2, 1) := by decide +kernel
theorem d_M_empty_78 : decode b_M_empty 78 = .ok (.invokevirtual 53, 3) := by decide +kernel
theorem d_M_empty_81 : decode b_M_empty 81 = .ok (.ireturn, 1) := by decide +kernel
theorem d_M_isFull_0 : decode b_M_isFull 0 = .ok (.aload_n 0, 1) := by decide +kernel
theorem d_M_isFull_1 : decode b_M_isFull 1 = .ok (.getfield 32, 3) := by decide +kernel
theorem d_M_isFull_4 : decode b_M_isFull 4 = .ok (.bipush 64, 2) := by decide +kernel
theorem d_M_isFull_6 : decode b_M_isFull 6 = .ok (.if_icmp .lt 7, 3) := by decide +kernel
theorem d_M_isFull_9 : decode b_M_isFull 9 = .ok (.iconst 1, 1) := by decide +kernel
theorem d_M_isFull_10 : decode b_M_isFull 10 = .ok (.goto 4, 3) := by decide +kernel
theorem d_M_isFull_13 : decode b_M_isFull 13 = .ok (.iconst 0, 1) := by decide +kernel
theorem d_M_isFull_14 : decode b_M_isFull 14 = .ok (.ireturn, 1) := by decide +kernel
theorem d_M_throwsBy_0 : decode b_M_throwsBy 0 = .ok (.aload_n 0, 1) := by decide +kernel
theorem d_M_throwsBy_1 : decode b_M_throwsBy 1 = .ok (.iload_n 1, 1) := by decide +kernel
theorem d_M_throwsBy_2 : decode b_M_throwsBy 2 = .ok (.putfield 28, 3) := by decide +kernel
theorem d_M_throwsBy_5 : decode b_M_throwsBy 5 = .ok (.iload_n 1, 1) := by decide +kernel
theorem d_M_throwsBy_6 : decode b_M_throwsBy 6 = .ok (.ifCond .le 7, 3) := by decide +kernel
theorem d_M_throwsBy_9 : decode b_M_throwsBy 9 = .ok (.iconst 1, 1) := by decide +kernel
theorem d_M_throwsBy_10 : decode b_M_throwsBy 10 = .ok (.goto 4, 3) := by decide +kernel
theorem d_M_throwsBy_13 : decode b_M_throwsBy 13 = .ok (.iconst 0, 1) := by decide +kernel
theorem d_M_throwsBy_14 : decode b_M_throwsBy 14 = .ok (.ireturn, 1) := by decide +kernel
theorem d_M_create_0 : decode b_M_create 0 = .ok (.aload_n 0, 1) := by decide +kernel
theorem d_M_create_1 : decode b_M_create 1 = .ok (.getfield 7, 3) := by decide +kernel
theorem d_M_create_4 : decode b_M_create 4 = .ok (.aload_n 0, 1) := by decide +kernel
theorem d_M_create_5 : decode b_M_create 5 = .ok (.getfield 32, 3) := by decide +kernel
theorem d_M_create_8 : decode b_M_create 8 = .ok (.iload_n 1, 1) := by decide +kernel
theorem d_M_create_9 : decode b_M_create 9 = .ok (.iastore, 1) := by decide +kernel
theorem d_M_create_10 : decode b_M_create 10 = .ok (.aload_n 0, 1) := by decide +kernel
theorem d_M_create_11 : decode b_M_create 11 = .ok (.getfield 13, 3) := by decide +kernel
theorem d_M_create_14 : decode b_M_create 14 = .ok (.aload_n 0, 1) := by decide +kernel
theorem d_M_create_15 : decode b_M_create 15 = .ok (.getfield 32, 3) := by decide +kernel
theorem d_M_create_18 : decode b_M_create 18 = .ok (.iload_n 2, 1) := by decide +kernel
theorem d_M_create_19 : decode b_M_create 19 = .ok (.iastore, 1) := by decide +kernel
theorem d_M_create_20 : decode b_M_create 20 = .ok (.aload_n 0, 1) := by decide +kernel
theorem d_M_create_21 : decode b_M_create 21 = .ok (.getfield 16, 3) := by decide +kernel
theorem d_M_create_24 : decode b_M_create 24 = .ok (.aload_n 0, 1) := by decide +kernel
theorem d_M_create_25 : decode b_M_create 25 = .ok (.getfield 32, 3) := by decide +kernel
theorem d_M_create_28 : decode b_M_create 28 = .ok (.iconst 0, 1) := by decide +kernel
theorem d_M_create_29 : decode b_M_create 29 = .ok (.iastore, 1) := by decide +kernel
theorem d_M_create_30 : decode b_M_create 30 = .ok (.aload_n 0, 1) := by decide +kernel
theorem d_M_create_31 : decode b_M_create 31 = .ok (.aload_n 0, 1) := by decide +kernel
theorem d_M_create_32 : decode b_M_create 32 = .ok (.getfield 32, 3) := by decide +kernel
theorem d_M_create_35 : decode b_M_create 35 = .ok (.iconst 1, 1) := by decide +kernel
theorem d_M_create_36 : decode b_M_create 36 = .ok (.iadd, 1) := by decide +kernel
theorem d_M_create_37 : decode b_M_create 37 = .ok (.putfield 32, 3) := by decide +kernel
theorem d_M_create_40 : decode b_M_create 40 = .ok (.aload_n 0, 1) := by decide +kernel
theorem d_M_create_41 : decode b_M_create 41 = .ok (.getfield 32, 3) := by decide +kernel
theorem d_M_create_44 : decode b_M_create 44 = .ok (.iconst 1, 1) := by decide +kernel
theorem d_M_create_45 : decode b_M_create 45 = .ok (.isub, 1) := by decide +kernel
theorem d_M_create_46 : decode b_M_create 46 = .ok (.ireturn, 1) := by decide +kernel
theorem d_M_add_0 : decode b_M_add 0 = .ok (.aload_n 0, 1) := by decide +kernel
theorem d_M_add_1 : decode b_M_add 1 = .ok (.aload_n 0, 1) := by decide +kernel
theorem d_M_add_2 : decode b_M_add 2 = .ok (.iload_n 1, 1) := by decide +kernel
theorem d_M_add_3 : decode b_M_add 3 = .ok (.invokevirtual 57, 3) := by decide +kernel
theorem d_M_add_6 : decode b_M_add 6 = .ok (.ifCond .ne 7, 3) := by decide +kernel
theorem d_M_add_9 : decode b_M_add 9 = .ok (.iconst 1, 1) := by decide +kernel
theorem d_M_add_10 : decode b_M_add 10 = .ok (.goto 26, 3) := by decide +kernel
theorem d_M_add_13 : decode b_M_add 13 = .ok (.aload_n 0, 1) := by decide +kernel
theorem d_M_add_14 : decode b_M_add 14 = .ok (.invokevirtual 46, 3) := by decide +kernel
theorem d_M_add_17 : decode b_M_add 17 = .ok (.ifCond .ne 14, 3) := by decide +kernel
theorem d_M_add_20 : decode b_M_add 20 = .ok (.aload_n 0, 1) := by decide +kernel
theorem d_M_add_21 : decode b_M_add 21 = .ok (.getfield 16, 3) := by decide +kernel
theorem d_M_add_24 : decode b_M_add 24 = .ok (.iload_n 1, 1) := by decide +kernel
theorem d_M_add_25 : decode b_M_add 25 = .ok (.iaload, 1) := by decide +kernel
theorem d_M_add_26 : decode b_M_add 26 = .ok (.bipush 100, 2) := by decide +kernel
theorem d_M_add_28 : decode b_M_add 28 = .ok (.if_icmp .lt 7, 3) := by decide +kernel
theorem d_M_add_31 : decode b_M_add 31 = .ok (.iconst 2, 1) := by decide +kernel
theorem d_M_add_32 : decode b_M_add 32 = .ok (.goto 4, 3) := by decide +kernel
theorem d_M_add_35 : decode b_M_add 35 = .ok (.iconst 0, 1) := by decide +kernel
theorem d_M_add_36 : decode b_M_add 36 = .ok (.invokevirtual 50, 3) := by decide +kernel
theorem d_M_add_39 : decode b_M_add 39 = .ok (.ifCond .eq 5, 3) := by decide +kernel
theorem d_M_add_42 : decode b_M_add 42 = .ok (.iconst 0, 1) := by decide +kernel
theorem d_M_add_43 : decode b_M_add 43 = .ok (.ireturn, 1) := by decide +kernel
theorem d_M_add_44 : decode b_M_add 44 = .ok (.aload_n 0, 1) := by decide +kernel
theorem d_M_add_45 : decode b_M_add 45 = .ok (.aload_n 0, 1) := by decide +kernel
theorem d_M_add_46 : decode b_M_add 46 = .ok (.getfield 7, 3) := by decide +kernel
theorem d_M_add_49 : decode b_M_add 49 = .ok (.iload_n 1, 1) := by decide +kernel
theorem d_M_add_50 : decode b_M_add 50 = .ok (.iaload, 1) := by decide +kernel
theorem d_M_add_51 : decode b_M_add 51 = .ok (.aload_n 0, 1) := by decide +kernel
theorem d_M_add_52 : decode b_M_add 52 = .ok (.getfield 13, 3) := by decide +kernel
theorem d_M_add_55 : decode b_M_add 55 = .ok (.iload_n 1, 1) := by decide +kernel
theorem d_M_add_56 : decode b_M_add 56 = .ok (.iaload, 1) := by decide +kernel
theorem d_M_add_57 : decode b_M_add 57 = .ok (.invokevirtual 53, 3) := by decide +kernel
theorem d_M_add_60 : decode b_M_add 60 = .ok (.istore_n 3, 1) := by decide +kernel
theorem d_M_add_61 : decode b_M_add 61 = .ok (.aload_n 0, 1) := by decide +kernel
theorem d_M_add_62 : decode b_M_add 62 = .ok (.getfield 7, 3) := by decide +kernel
theorem d_M_add_65 : decode b_M_add 65 = .ok (.iload_n 1, 1) := by decide +kernel
theorem d_M_add_66 : decode b_M_add 66 = .ok (.iaload, 1) := by decide +kernel
theorem d_M_add_67 : decode b_M_add 67 = .ok (.iconst 1, 1) := by decide +kernel
theorem d_M_add_68 : decode b_M_add 68 = .ok (.if_icmp .ne 12, 3) := by decide +kernel
theorem d_M_add_71 : decode b_M_add 71 = .ok (.aload_n 0, 1) := by decide +kernel
theorem d_M_add_72 : decode b_M_add 72 = .ok (.iload_n 1, 1) := by decide +kernel
theorem d_M_add_73 : decode b_M_add 73 = .ok (.iload_n 2, 1) := by decide +kernel
theorem d_M_add_74 : decode b_M_add 74 = .ok (.invokevirtual 60, 3) := by decide +kernel
theorem d_M_add_77 : decode b_M_add 77 = .ok (.goto 23, 3) := by decide +kernel
theorem d_M_add_80 : decode b_M_add 80 = .ok (.aload_n 0, 1) := by decide +kernel
theorem d_M_add_81 : decode b_M_add 81 = .ok (.getfield 7, 3) := by decide +kernel
theorem d_M_add_84 : decode b_M_add 84 = .ok (.iload_n 1, 1) := by decide +kernel
theorem d_M_add_85 : decode b_M_add 85 = .ok (.iaload, 1) := by decide +kernel
theorem d_M_add_86 : decode b_M_add 86 = .ok (.iconst 2, 1) := by decide +kernel
theorem d_M_add_87 : decode b_M_add 87 = .ok (.if_icmp .ne 7, 3) := by decide +kernel
theorem d_M_add_90 : decode b_M_add 90 = .ok (.iconst 0, 1) := by decide +kernel
theorem d_M_add_91 : decode b_M_add 91 = .ok (.goto 9, 3) := by decide +kernel
theorem d_M_add_94 : decode b_M_add 94 = .ok (.aload_n 0, 1) := by decide +kernel
theorem d_M_add_95 : decode b_M_add 95 = .ok (.getfield 16, 3) := by decide +kernel
theorem d_M_add_98 : decode b_M_add 98 = .ok (.iload_n 1, 1) := by decide +kernel
theorem d_M_add_99 : decode b_M_add 99 = .ok (.iaload, 1) := by decide +kernel
theorem d_M_add_100 : decode b_M_add 100 = .ok (.istore 4, 2) := by decide +kernel
theorem d_M_add_102 : decode b_M_add 102 = .ok (.aload_n 0, 1) := by decide +kernel
theorem d_M_add_103 : decode b_M_add 103 = .ok (.iload_n 1, 1) := by decide +kernel
theorem d_M_add_104 : decode b_M_add 104 = .ok (.iconst 0, 1) := by decide +kernel
theorem d_M_add_105 : decode b_M_add 105 = .ok (.iload 4, 2) := by decide +kernel
theorem d_M_add_107 : decode b_M_add 107 = .ok (.invokevirtual 63, 3) := by decide +kernel
theorem d_M_add_110 : decode b_M_add 110 = .ok (.aload_n 0, 1) := by decide +kernel
theorem d_M_add_111 : decode b_M_add 111 = .ok (.iconst 0, 1) := by decide +kernel
theorem d_M_add_112 : decode b_M_add 112 = .ok (.iload_n 2, 1) := by decide +kernel
theorem d_M_add_113 : decode b_M_add 113 = .ok (.invokevirtual 42, 3) := by decide +kernel
theorem d_M_add_116 : decode b_M_add 116 = .ok (.aload_n 0, 1) := by decide +kernel
theorem d_M_add_117 : decode b_M_add 117 = .ok (.iload_n 1, 1) := by decide +kernel
theorem d_M_add_118 : decode b_M_add 118 = .ok (.iload 4, 2) := by decide +kernel
theorem d_M_add_120 : decode b_M_add 120 = .ok (.aload_n 0, 1) := by decide +kernel
theorem d_M_add_121 : decode b_M_add 121 = .ok (.getfield 16, 3) := by decide +kernel
theorem d_M_add_124 : decode b_M_add 124 = .ok (.iload_n 1, 1) := by decide +kernel
theorem d_M_add_125 : decode b_M_add 125 = .ok (.iaload, 1) := by decide +kernel
theorem d_M_add_126 : decode b_M_add 126 = .ok (.invokevirtual 63, 3) := by decide +kernel
theorem d_M_add_129 : decode b_M_add 129 = .ok (.iload_n 3, 1) := by decide +kernel
theorem d_M_add_130 : decode b_M_add 130 = .ok (.ireturn, 1) := by decide +kernel
theorem d_M_isRow_0 : decode b_M_isRow 0 = .ok (.aload_n 0, 1) := by decide +kernel
theorem d_M_isRow_1 : decode b_M_isRow 1 = .ok (.iload_n 1, 1) := by decide +kernel
theorem d_M_isRow_2 : decode b_M_isRow 2 = .ok (.invokevirtual 35, 3) := by decide +kernel
theorem d_M_isRow_5 : decode b_M_isRow 5 = .ok (.ifCond .eq 15, 3) := by decide +kernel
theorem d_M_isRow_8 : decode b_M_isRow 8 = .ok (.aload_n 0, 1) := by decide +kernel
theorem d_M_isRow_9 : decode b_M_isRow 9 = .ok (.iload_n 1, 1) := by decide +kernel
theorem d_M_isRow_10 : decode b_M_isRow 10 = .ok (.invokevirtual 39, 3) := by decide +kernel
theorem d_M_isRow_13 : decode b_M_isRow 13 = .ok (.ifCond .ne 7, 3) := by decide +kernel
theorem d_M_isRow_16 : decode b_M_isRow 16 = .ok (.iconst 1, 1) := by decide +kernel
theorem d_M_isRow_17 : decode b_M_isRow 17 = .ok (.goto 4, 3) := by decide +kernel
theorem d_M_isRow_20 : decode b_M_isRow 20 = .ok (.iconst 0, 1) := by decide +kernel
theorem d_M_isRow_21 : decode b_M_isRow 21 = .ok (.ireturn, 1) := by decide +kernel
theorem d_M_is_0 : decode b_M_is 0 = .ok (.iload_n 1, 1) := by decide +kernel
theorem d_M_is_1 : decode b_M_is 1 = .ok (.ifCond .lt 15, 3) := by decide +kernel
theorem d_M_is_4 : decode b_M_is 4 = .ok (.iload_n 1, 1) := by decide +kernel
theorem d_M_is_5 : decode b_M_is 5 = .ok (.aload_n 0, 1) := by decide +kernel
theorem d_M_is_6 : decode b_M_is 6 = .ok (.getfield 32, 3) := by decide +kernel
theorem d_M_is_9 : decode b_M_is 9 = .ok (.if_icmp .ge 7, 3) := by decide +kernel
theorem d_M_is_12 : decode b_M_is 12 = .ok (.iconst 1, 1) := by decide +kernel
theorem d_M_is_13 : decode b_M_is 13 = .ok (.goto 4, 3) := by decide +kernel
theorem d_M_is_16 : decode b_M_is 16 = .ok (.iconst 0, 1) := by decide +kernel
theorem d_M_is_17 : decode b_M_is 17 = .ok (.ireturn, 1) := by decide +kernel
theorem d_M_isMap_0 : decode b_M_isMap 0 = .ok (.aload_n 0, 1) := by decide +kernel
theorem d_M_isMap_1 : decode b_M_isMap 1 = .ok (.getfield 7, 3) := by decide +kernel
theorem d_M_isMap_4 : decode b_M_isMap 4 = .ok (.iload_n 1, 1) := by decide +kernel
theorem d_M_isMap_5 : decode b_M_isMap 5 = .ok (.iaload, 1) := by decide +kernel
theorem d_M_isMap_6 : decode b_M_isMap 6 = .ok (.iconst 3, 1) := by decide +kernel
theorem d_M_isMap_7 : decode b_M_isMap 7 = .ok (.if_icmp .ne 7, 3) := by decide +kernel
theorem d_M_isMap_10 : decode b_M_isMap 10 = .ok (.iconst 1, 1) := by decide +kernel
theorem d_M_isMap_11 : decode b_M_isMap 11 = .ok (.goto 4, 3) := by decide +kernel
theorem d_M_isMap_14 : decode b_M_isMap 14 = .ok (.iconst 0, 1) := by decide +kernel
theorem d_M_isMap_15 : decode b_M_isMap 15 = .ok (.ireturn, 1) := by decide +kernel
theorem d_M_below_0 : decode b_M_below 0 = .ok (.iconst 0, 1) := by decide +kernel
theorem d_M_below_1 : decode b_M_below 1 = .ok (.istore_n 3, 1) := by decide +kernel
theorem d_M_below_2 : decode b_M_below 2 = .ok (.iload_n 3, 1) := by decide +kernel
theorem d_M_below_3 : decode b_M_below 3 = .ok (.aload_n 0, 1) := by decide +kernel
theorem d_M_below_4 : decode b_M_below 4 = .ok (.getfield 16, 3) := by decide +kernel
theorem d_M_below_7 : decode b_M_below 7 = .ok (.iload_n 1, 1) := by decide +kernel
theorem d_M_below_8 : decode b_M_below 8 = .ok (.iaload, 1) := by decide +kernel
theorem d_M_below_9 : decode b_M_below 9 = .ok (.if_icmp .ge 25, 3) := by decide +kernel
theorem d_M_below_12 : decode b_M_below 12 = .ok (.aload_n 0, 1) := by decide +kernel
theorem d_M_below_13 : decode b_M_below 13 = .ok (.getfield 19, 3) := by decide +kernel
theorem d_M_below_16 : decode b_M_below 16 = .ok (.bipush 100, 2) := by decide +kernel
theorem d_M_below_18 : decode b_M_below 18 = .ok (.iload_n 1, 1) := by decide +kernel
theorem d_M_below_19 : decode b_M_below 19 = .ok (.imul, 1) := by decide +kernel
theorem d_M_below_20 : decode b_M_below 20 = .ok (.iload_n 3, 1) := by decide +kernel
theorem d_M_below_21 : decode b_M_below 21 = .ok (.iadd, 1) := by decide +kernel
theorem d_M_below_22 : decode b_M_below 22 = .ok (.iaload, 1) := by decide +kernel
theorem d_M_below_23 : decode b_M_below 23 = .ok (.iload_n 2, 1) := by decide +kernel
theorem d_M_below_24 : decode b_M_below 24 = .ok (.if_icmp .ge 10, 3) := by decide +kernel
theorem d_M_below_27 : decode b_M_below 27 = .ok (.iload_n 3, 1) := by decide +kernel
theorem d_M_below_28 : decode b_M_below 28 = .ok (.iconst 1, 1) := by decide +kernel
theorem d_M_below_29 : decode b_M_below 29 = .ok (.iadd, 1) := by decide +kernel
theorem d_M_below_30 : decode b_M_below 30 = .ok (.istore_n 3, 1) := by decide +kernel
theorem d_M_below_31 : decode b_M_below 31 = .ok (.goto (-29), 3) := by decide +kernel
theorem d_M_below_34 : decode b_M_below 34 = .ok (.iload_n 3, 1) := by decide +kernel
theorem d_M_below_35 : decode b_M_below 35 = .ok (.ireturn, 1) := by decide +kernel
theorem d_M_putAll_0 : decode b_M_putAll 0 = .ok (.iload_n 2, 1) := by decide +kernel
theorem d_M_putAll_1 : decode b_M_putAll 1 = .ok (.istore 4, 2) := by decide +kernel
theorem d_M_putAll_3 : decode b_M_putAll 3 = .ok (.iload 4, 2) := by decide +kernel
theorem d_M_putAll_5 : decode b_M_putAll 5 = .ok (.iload_n 3, 1) := by decide +kernel
theorem d_M_putAll_6 : decode b_M_putAll 6 = .ok (.if_icmp .ge 37, 3) := by decide +kernel
theorem d_M_putAll_9 : decode b_M_putAll 9 = .ok (.aload_n 0, 1) := by decide +kernel
theorem d_M_putAll_10 : decode b_M_putAll 10 = .ok (.aload_n 0, 1) := by decide +kernel
theorem d_M_putAll_11 : decode b_M_putAll 11 = .ok (.getfield 22, 3) := by decide +kernel
theorem d_M_putAll_14 : decode b_M_putAll 14 = .ok (.bipush 100, 2) := by decide +kernel
theorem d_M_putAll_16 : decode b_M_putAll 16 = .ok (.iload_n 1, 1) := by decide +kernel
theorem d_M_putAll_17 : decode b_M_putAll 17 = .ok (.imul, 1) := by decide +kernel
theorem d_M_putAll_18 : decode b_M_putAll 18 = .ok (.iload 4, 2) := by decide +kernel
theorem d_M_putAll_20 : decode b_M_putAll 20 = .ok (.iadd, 1) := by decide +kernel
theorem d_M_putAll_21 : decode b_M_putAll 21 = .ok (.iaload, 1) := by decide +kernel
theorem d_M_putAll_22 : decode b_M_putAll 22 = .ok (.aload_n 0, 1) := by decide +kernel
theorem d_M_putAll_23 : decode b_M_putAll 23 = .ok (.getfield 19, 3) := by decide +kernel
theorem d_M_putAll_26 : decode b_M_putAll 26 = .ok (.bipush 100, 2) := by decide +kernel
theorem d_M_putAll_28 : decode b_M_putAll 28 = .ok (.iload_n 1, 1) := by decide +kernel
theorem d_M_putAll_29 : decode b_M_putAll 29 = .ok (.imul, 1) := by decide +kernel
theorem d_M_putAll_30 : decode b_M_putAll 30 = .ok (.iload 4, 2) := by decide +kernel
theorem d_M_putAll_32 : decode b_M_putAll 32 = .ok (.iadd, 1) := by decide +kernel
theorem d_M_putAll_33 : decode b_M_putAll 33 = .ok (.iaload, 1) := by decide +kernel
theorem d_M_putAll_34 : decode b_M_putAll 34 = .ok (.invokevirtual 42, 3) := by decide +kernel
theorem d_M_putAll_37 : decode b_M_putAll 37 = .ok (.iinc 4 1, 3) := by decide +kernel
theorem d_M_putAll_40 : decode b_M_putAll 40 = .ok (.goto (-37), 3) := by decide +kernel
theorem d_M_putAll_43 : decode b_M_putAll 43 = .ok (.return_, 1) := by decide +kernel
theorem d_M_put_0 : decode b_M_put 0 = .ok (.aload_n 0, 1) := by decide +kernel
theorem d_M_put_1 : decode b_M_put 1 = .ok (.getfield 32, 3) := by decide +kernel
theorem d_M_put_4 : decode b_M_put 4 = .ok (.iconst 1, 1) := by decide +kernel
theorem d_M_put_5 : decode b_M_put 5 = .ok (.isub, 1) := by decide +kernel
theorem d_M_put_6 : decode b_M_put 6 = .ok (.istore_n 3, 1) := by decide +kernel
theorem d_M_put_7 : decode b_M_put 7 = .ok (.aload_n 0, 1) := by decide +kernel
theorem d_M_put_8 : decode b_M_put 8 = .ok (.getfield 19, 3) := by decide +kernel
theorem d_M_put_11 : decode b_M_put 11 = .ok (.bipush 100, 2) := by decide +kernel
theorem d_M_put_13 : decode b_M_put 13 = .ok (.iload_n 3, 1) := by decide +kernel
theorem d_M_put_14 : decode b_M_put 14 = .ok (.imul, 1) := by decide +kernel
theorem d_M_put_15 : decode b_M_put 15 = .ok (.aload_n 0, 1) := by decide +kernel
theorem d_M_put_16 : decode b_M_put 16 = .ok (.getfield 16, 3) := by decide +kernel
theorem d_M_put_19 : decode b_M_put 19 = .ok (.iload_n 3, 1) := by decide +kernel
theorem d_M_put_20 : decode b_M_put 20 = .ok (.iaload, 1) := by decide +kernel
theorem d_M_put_21 : decode b_M_put 21 = .ok (.iadd, 1) := by decide +kernel
theorem d_M_put_22 : decode b_M_put 22 = .ok (.iload_n 2, 1) := by decide +kernel
theorem d_M_put_23 : decode b_M_put 23 = .ok (.iastore, 1) := by decide +kernel
theorem d_M_put_24 : decode b_M_put 24 = .ok (.aload_n 0, 1) := by decide +kernel
theorem d_M_put_25 : decode b_M_put 25 = .ok (.getfield 22, 3) := by decide +kernel
theorem d_M_put_28 : decode b_M_put 28 = .ok (.bipush 100, 2) := by decide +kernel
theorem d_M_put_30 : decode b_M_put 30 = .ok (.iload_n 3, 1) := by decide +kernel
theorem d_M_put_31 : decode b_M_put 31 = .ok (.imul, 1) := by decide +kernel
theorem d_M_put_32 : decode b_M_put 32 = .ok (.aload_n 0, 1) := by decide +kernel
theorem d_M_put_33 : decode b_M_put 33 = .ok (.getfield 16, 3) := by decide +kernel
theorem d_M_put_36 : decode b_M_put 36 = .ok (.iload_n 3, 1) := by decide +kernel
theorem d_M_put_37 : decode b_M_put 37 = .ok (.iaload, 1) := by decide +kernel
theorem d_M_put_38 : decode b_M_put 38 = .ok (.iadd, 1) := by decide +kernel
theorem d_M_put_39 : decode b_M_put 39 = .ok (.iload_n 1, 1) := by decide +kernel
theorem d_M_put_40 : decode b_M_put 40 = .ok (.iastore, 1) := by decide +kernel
theorem d_M_put_41 : decode b_M_put 41 = .ok (.aload_n 0, 1) := by decide +kernel
theorem d_M_put_42 : decode b_M_put 42 = .ok (.getfield 16, 3) := by decide +kernel
theorem d_M_put_45 : decode b_M_put 45 = .ok (.iload_n 3, 1) := by decide +kernel
theorem d_M_put_46 : decode b_M_put 46 = .ok (.aload_n 0, 1) := by decide +kernel
theorem d_M_put_47 : decode b_M_put 47 = .ok (.getfield 16, 3) := by decide +kernel
theorem d_M_put_50 : decode b_M_put 50 = .ok (.iload_n 3, 1) := by decide +kernel
theorem d_M_put_51 : decode b_M_put 51 = .ok (.iaload, 1) := by decide +kernel
theorem d_M_put_52 : decode b_M_put 52 = .ok (.iconst 1, 1) := by decide +kernel
theorem d_M_put_53 : decode b_M_put 53 = .ok (.iadd, 1) := by decide +kernel
theorem d_M_put_54 : decode b_M_put 54 = .ok (.iastore, 1) := by decide +kernel
theorem d_M_put_55 : decode b_M_put 55 = .ok (.return_, 1) := by decide +kernel
theorem d_M_first_0 : decode b_M_first 0 = .ok (.aload_n 0, 1) := by decide +kernel
theorem d_M_first_1 : decode b_M_first 1 = .ok (.aload_n 0, 1) := by decide +kernel
theorem d_M_first_2 : decode b_M_first 2 = .ok (.iload_n 1, 1) := by decide +kernel
theorem d_M_first_3 : decode b_M_first 3 = .ok (.invokevirtual 57, 3) := by decide +kernel
theorem d_M_first_6 : decode b_M_first 6 = .ok (.ifCond .ne 7, 3) := by decide +kernel
theorem d_M_first_9 : decode b_M_first 9 = .ok (.iconst 1, 1) := by decide +kernel
theorem d_M_first_10 : decode b_M_first 10 = .ok (.goto 17, 3) := by decide +kernel
theorem d_M_first_13 : decode b_M_first 13 = .ok (.aload_n 0, 1) := by decide +kernel
theorem d_M_first_14 : decode b_M_first 14 = .ok (.getfield 16, 3) := by decide +kernel
theorem d_M_first_17 : decode b_M_first 17 = .ok (.iload_n 1, 1) := by decide +kernel
theorem d_M_first_18 : decode b_M_first 18 = .ok (.iaload, 1) := by decide +kernel
theorem d_M_first_19 : decode b_M_first 19 = .ok (.ifCond .ne 7, 3) := by decide +kernel
theorem d_M_first_22 : decode b_M_first 22 = .ok (.iconst 2, 1) := by decide +kernel
theorem d_M_first_23 : decode b_M_first 23 = .ok (.goto 4, 3) := by decide +kernel
theorem d_M_first_26 : decode b_M_first 26 = .ok (.iconst 0, 1) := by decide +kernel
theorem d_M_first_27 : decode b_M_first 27 = .ok (.invokevirtual 50, 3) := by decide +kernel
theorem d_M_first_30 : decode b_M_first 30 = .ok (.ifCond .eq 5, 3) := by decide +kernel
theorem d_M_first_33 : decode b_M_first 33 = .ok (.iconst 0, 1) := by decide +kernel
theorem d_M_first_34 : decode b_M_first 34 = .ok (.ireturn, 1) := by decide +kernel
theorem d_M_first_35 : decode b_M_first 35 = .ok (.aload_n 0, 1) := by decide +kernel
theorem d_M_first_36 : decode b_M_first 36 = .ok (.getfield 19, 3) := by decide +kernel
theorem d_M_first_39 : decode b_M_first 39 = .ok (.bipush 100, 2) := by decide +kernel
theorem d_M_first_41 : decode b_M_first 41 = .ok (.iload_n 1, 1) := by decide +kernel
theorem d_M_first_42 : decode b_M_first 42 = .ok (.imul, 1) := by decide +kernel
theorem d_M_first_43 : decode b_M_first 43 = .ok (.iaload, 1) := by decide +kernel
theorem d_M_first_44 : decode b_M_first 44 = .ok (.ireturn, 1) := by decide +kernel
theorem d_M_rest_0 : decode b_M_rest 0 = .ok (.aload_n 0, 1) := by decide +kernel
theorem d_M_rest_1 : decode b_M_rest 1 = .ok (.aload_n 0, 1) := by decide +kernel
theorem d_M_rest_2 : decode b_M_rest 2 = .ok (.iload_n 1, 1) := by decide +kernel
theorem d_M_rest_3 : decode b_M_rest 3 = .ok (.invokevirtual 57, 3) := by decide +kernel
theorem d_M_rest_6 : decode b_M_rest 6 = .ok (.ifCond .ne 7, 3) := by decide +kernel
theorem d_M_rest_9 : decode b_M_rest 9 = .ok (.iconst 1, 1) := by decide +kernel
theorem d_M_rest_10 : decode b_M_rest 10 = .ok (.goto 28, 3) := by decide +kernel
theorem d_M_rest_13 : decode b_M_rest 13 = .ok (.aload_n 0, 1) := by decide +kernel
theorem d_M_rest_14 : decode b_M_rest 14 = .ok (.invokevirtual 46, 3) := by decide +kernel
theorem d_M_rest_17 : decode b_M_rest 17 = .ok (.ifCond .eq 7, 3) := by decide +kernel
theorem d_M_rest_20 : decode b_M_rest 20 = .ok (.iconst 2, 1) := by decide +kernel
theorem d_M_rest_21 : decode b_M_rest 21 = .ok (.goto 17, 3) := by decide +kernel
theorem d_M_rest_24 : decode b_M_rest 24 = .ok (.aload_n 0, 1) := by decide +kernel
theorem d_M_rest_25 : decode b_M_rest 25 = .ok (.getfield 16, 3) := by decide +kernel
theorem d_M_rest_28 : decode b_M_rest 28 = .ok (.iload_n 1, 1) := by decide +kernel
theorem d_M_rest_29 : decode b_M_rest 29 = .ok (.iaload, 1) := by decide +kernel
theorem d_M_rest_30 : decode b_M_rest 30 = .ok (.ifCond .ne 7, 3) := by decide +kernel
theorem d_M_rest_33 : decode b_M_rest 33 = .ok (.iconst 3, 1) := by decide +kernel
theorem d_M_rest_34 : decode b_M_rest 34 = .ok (.goto 4, 3) := by decide +kernel
theorem d_M_rest_37 : decode b_M_rest 37 = .ok (.iconst 0, 1) := by decide +kernel
theorem d_M_rest_38 : decode b_M_rest 38 = .ok (.invokevirtual 50, 3) := by decide +kernel
theorem d_M_rest_41 : decode b_M_rest 41 = .ok (.ifCond .eq 5, 3) := by decide +kernel
theorem d_M_rest_44 : decode b_M_rest 44 = .ok (.iconst 0, 1) := by decide +kernel
theorem d_M_rest_45 : decode b_M_rest 45 = .ok (.ireturn, 1) := by decide +kernel
theorem d_M_rest_46 : decode b_M_rest 46 = .ok (.aload_n 0, 1) := by decide +kernel
theorem d_M_rest_47 : decode b_M_rest 47 = .ok (.aload_n 0, 1) := by decide +kernel
theorem d_M_rest_48 : decode b_M_rest 48 = .ok (.getfield 7, 3) := by decide +kernel
theorem d_M_rest_51 : decode b_M_rest 51 = .ok (.iload_n 1, 1) := by decide +kernel
theorem d_M_rest_52 : decode b_M_rest 52 = .ok (.iaload, 1) := by decide +kernel
theorem d_M_rest_53 : decode b_M_rest 53 = .ok (.aload_n 0, 1) := by decide +kernel
theorem d_M_rest_54 : decode b_M_rest 54 = .ok (.getfield 13, 3) := by decide +kernel
theorem d_M_rest_57 : decode b_M_rest 57 = .ok (.iload_n 1, 1) := by decide +kernel
theorem d_M_rest_58 : decode b_M_rest 58 = .ok (.iaload, 1) := by decide +kernel
theorem d_M_rest_59 : decode b_M_rest 59 = .ok (.invokevirtual 53, 3) := by decide +kernel
theorem d_M_rest_62 : decode b_M_rest 62 = .ok (.istore_n 2, 1) := by decide +kernel
theorem d_M_rest_63 : decode b_M_rest 63 = .ok (.aload_n 0, 1) := by decide +kernel
theorem d_M_rest_64 : decode b_M_rest 64 = .ok (.iload_n 1, 1) := by decide +kernel
theorem d_M_rest_65 : decode b_M_rest 65 = .ok (.iconst 1, 1) := by decide +kernel
theorem d_M_rest_66 : decode b_M_rest 66 = .ok (.aload_n 0, 1) := by decide +kernel
theorem d_M_rest_67 : decode b_M_rest 67 = .ok (.getfield 16, 3) := by decide +kernel
theorem d_M_rest_70 : decode b_M_rest 70 = .ok (.iload_n 1, 1) := by decide +kernel
theorem d_M_rest_71 : decode b_M_rest 71 = .ok (.iaload, 1) := by decide +kernel
theorem d_M_rest_72 : decode b_M_rest 72 = .ok (.invokevirtual 63, 3) := by decide +kernel
theorem d_M_rest_75 : decode b_M_rest 75 = .ok (.iload_n 2, 1) := by decide +kernel
theorem d_M_rest_76 : decode b_M_rest 76 = .ok (.ireturn, 1) := by decide +kernel
theorem d_M_join_0 : decode b_M_join 0 = .ok (.aload_n 0, 1) := by decide +kernel
theorem d_M_join_1 : decode b_M_join 1 = .ok (.iload_n 1, 1) := by decide +kernel
theorem d_M_join_2 : decode b_M_join 2 = .ok (.invokevirtual 35, 3) := by decide +kernel
theorem d_M_join_5 : decode b_M_join 5 = .ok (.ifCond .eq 65, 3) := by decide +kernel
theorem d_M_join_8 : decode b_M_join 8 = .ok (.aload_n 0, 1) := by decide +kernel
theorem d_M_join_9 : decode b_M_join 9 = .ok (.iload_n 2, 1) := by decide +kernel
theorem d_M_join_10 : decode b_M_join 10 = .ok (.invokevirtual 35, 3) := by decide +kernel
theorem d_M_join_13 : decode b_M_join 13 = .ok (.ifCond .eq 57, 3) := by decide +kernel
theorem d_M_join_16 : decode b_M_join 16 = .ok (.aload_n 0, 1) := by decide +kernel
theorem d_M_join_17 : decode b_M_join 17 = .ok (.getfield 7, 3) := by decide +kernel
theorem d_M_join_20 : decode b_M_join 20 = .ok (.iload_n 1, 1) := by decide +kernel
theorem d_M_join_21 : decode b_M_join 21 = .ok (.iaload, 1) := by decide +kernel
theorem d_M_join_22 : decode b_M_join 22 = .ok (.iconst 1, 1) := by decide +kernel
theorem d_M_join_23 : decode b_M_join 23 = .ok (.if_icmp .eq 13, 3) := by decide +kernel
theorem d_M_join_26 : decode b_M_join 26 = .ok (.aload_n 0, 1) := by decide +kernel
theorem d_M_join_27 : decode b_M_join 27 = .ok (.getfield 7, 3) := by decide +kernel
theorem d_M_join_30 : decode b_M_join 30 = .ok (.iload_n 1, 1) := by decide +kernel
theorem d_M_join_31 : decode b_M_join 31 = .ok (.iaload, 1) := by decide +kernel
theorem d_M_join_32 : decode b_M_join 32 = .ok (.iconst 4, 1) := by decide +kernel
theorem d_M_join_33 : decode b_M_join 33 = .ok (.if_icmp .ne 37, 3) := by decide +kernel
theorem d_M_join_36 : decode b_M_join 36 = .ok (.aload_n 0, 1) := by decide +kernel
theorem d_M_join_37 : decode b_M_join 37 = .ok (.getfield 7, 3) := by decide +kernel
theorem d_M_join_40 : decode b_M_join 40 = .ok (.iload_n 1, 1) := by decide +kernel
theorem d_M_join_41 : decode b_M_join 41 = .ok (.iaload, 1) := by decide +kernel
theorem d_M_join_42 : decode b_M_join 42 = .ok (.aload_n 0, 1) := by decide +kernel
theorem d_M_join_43 : decode b_M_join 43 = .ok (.getfield 7, 3) := by decide +kernel
theorem d_M_join_46 : decode b_M_join 46 = .ok (.iload_n 2, 1) := by decide +kernel
theorem d_M_join_47 : decode b_M_join 47 = .ok (.iaload, 1) := by decide +kernel
theorem d_M_join_48 : decode b_M_join 48 = .ok (.if_icmp .ne 22, 3) := by decide +kernel
theorem d_M_join_51 : decode b_M_join 51 = .ok (.aload_n 0, 1) := by decide +kernel
theorem d_M_join_52 : decode b_M_join 52 = .ok (.getfield 13, 3) := by decide +kernel
theorem d_M_join_55 : decode b_M_join 55 = .ok (.iload_n 1, 1) := by decide +kernel
theorem d_M_join_56 : decode b_M_join 56 = .ok (.iaload, 1) := by decide +kernel
theorem d_M_join_57 : decode b_M_join 57 = .ok (.aload_n 0, 1) := by decide +kernel
theorem d_M_join_58 : decode b_M_join 58 = .ok (.getfield 13, 3) := by decide +kernel
theorem d_M_join_61 : decode b_M_join 61 = .ok (.iload_n 2, 1) := by decide +kernel
theorem d_M_join_62 : decode b_M_join 62 = .ok (.iaload, 1) := by decide +kernel
theorem d_M_join_63 : decode b_M_join 63 = .ok (.if_icmp .ne 7, 3) := by decide +kernel
theorem d_M_join_66 : decode b_M_join 66 = .ok (.iconst 1, 1) := by decide +kernel
theorem d_M_join_67 : decode b_M_join 67 = .ok (.goto 4, 3) := by decide +kernel
theorem d_M_join_70 : decode b_M_join 70 = .ok (.iconst 0, 1) := by decide +kernel
theorem d_M_join_71 : decode b_M_join 71 = .ok (.istore_n 3, 1) := by decide +kernel
theorem d_M_join_72 : decode b_M_join 72 = .ok (.aload_n 0, 1) := by decide +kernel
theorem d_M_join_73 : decode b_M_join 73 = .ok (.iload_n 3, 1) := by decide +kernel
theorem d_M_join_74 : decode b_M_join 74 = .ok (.ifCond .ne 7, 3) := by decide +kernel
theorem d_M_join_77 : decode b_M_join 77 = .ok (.iconst 1, 1) := by decide +kernel
theorem d_M_join_78 : decode b_M_join 78 = .ok (.goto 33, 3) := by decide +kernel
theorem d_M_join_81 : decode b_M_join 81 = .ok (.aload_n 0, 1) := by decide +kernel
theorem d_M_join_82 : decode b_M_join 82 = .ok (.invokevirtual 46, 3) := by decide +kernel
theorem d_M_join_85 : decode b_M_join 85 = .ok (.ifCond .ne 21, 3) := by decide +kernel
theorem d_M_join_88 : decode b_M_join 88 = .ok (.aload_n 0, 1) := by decide +kernel
end
section
theorem d_M_join_89 : decode b_M_join 89 = .ok (.getfield 16, 3) := by decide +kernel
theorem d_M_join_92 : decode b_M_join 92 = .ok (.iload_n 1, 1) := by decide +kernel
theorem d_M_join_93 : decode b_M_join 93 = .ok (.iaload, 1) := by decide +kernel
theorem d_M_join_94 : decode b_M_join 94 = .ok (.aload_n 0, 1) := by decide +kernel
theorem d_M_join_95 : decode b_M_join 95 = .ok (.getfield 16, 3) := by decide +kernel
theorem d_M_join_98 : decode b_M_join 98 = .ok (.iload_n 2, 1) := by decide +kernel
theorem d_M_join_99 : decode b_M_join 99 = .ok (.iaload, 1) := by decide +kernel
theorem d_M_join_100 : decode b_M_join 100 = .ok (.iadd, 1) := by decide +kernel
theorem d_M_join_101 : decode b_M_join 101 = .ok (.bipush 100, 2) := by decide +kernel
theorem d_M_join_103 : decode b_M_join 103 = .ok (.if_icmp .le 7, 3) := by decide +kernel
theorem d_M_join_106 : decode b_M_join 106 = .ok (.iconst 2, 1) := by decide +kernel
theorem d_M_join_107 : decode b_M_join 107 = .ok (.goto 4, 3) := by decide +kernel
theorem d_M_join_110 : decode b_M_join 110 = .ok (.iconst 0, 1) := by decide +kernel
theorem d_M_join_111 : decode b_M_join 111 = .ok (.invokevirtual 50, 3) := by decide +kernel
theorem d_M_join_114 : decode b_M_join 114 = .ok (.ifCond .eq 5, 3) := by decide +kernel
theorem d_M_join_117 : decode b_M_join 117 = .ok (.iconst 0, 1) := by decide +kernel
theorem d_M_join_118 : decode b_M_join 118 = .ok (.ireturn, 1) := by decide +kernel
theorem d_M_join_119 : decode b_M_join 119 = .ok (.aload_n 0, 1) := by decide +kernel
theorem d_M_join_120 : decode b_M_join 120 = .ok (.aload_n 0, 1) := by decide +kernel
theorem d_M_join_121 : decode b_M_join 121 = .ok (.getfield 7, 3) := by decide +kernel
theorem d_M_join_124 : decode b_M_join 124 = .ok (.iload_n 1, 1) := by decide +kernel
theorem d_M_join_125 : decode b_M_join 125 = .ok (.iaload, 1) := by decide +kernel
theorem d_M_join_126 : decode b_M_join 126 = .ok (.aload_n 0, 1) := by decide +kernel
theorem d_M_join_127 : decode b_M_join 127 = .ok (.getfield 13, 3) := by decide +kernel
theorem d_M_join_130 : decode b_M_join 130 = .ok (.iload_n 1, 1) := by decide +kernel
theorem d_M_join_131 : decode b_M_join 131 = .ok (.iaload, 1) := by decide +kernel
theorem d_M_join_132 : decode b_M_join 132 = .ok (.invokevirtual 53, 3) := by decide +kernel
theorem d_M_join_135 : decode b_M_join 135 = .ok (.istore 4, 2) := by decide +kernel
theorem d_M_join_137 : decode b_M_join 137 = .ok (.aload_n 0, 1) := by decide +kernel
theorem d_M_join_138 : decode b_M_join 138 = .ok (.getfield 7, 3) := by decide +kernel
theorem d_M_join_141 : decode b_M_join 141 = .ok (.iload_n 1, 1) := by decide +kernel
theorem d_M_join_142 : decode b_M_join 142 = .ok (.iaload, 1) := by decide +kernel
theorem d_M_join_143 : decode b_M_join 143 = .ok (.iconst 4, 1) := by decide +kernel
theorem d_M_join_144 : decode b_M_join 144 = .ok (.if_icmp .ne 30, 3) := by decide +kernel
theorem d_M_join_147 : decode b_M_join 147 = .ok (.aload_n 0, 1) := by decide +kernel
theorem d_M_join_148 : decode b_M_join 148 = .ok (.iload_n 1, 1) := by decide +kernel
theorem d_M_join_149 : decode b_M_join 149 = .ok (.iconst 0, 1) := by decide +kernel
theorem d_M_join_150 : decode b_M_join 150 = .ok (.aload_n 0, 1) := by decide +kernel
theorem d_M_join_151 : decode b_M_join 151 = .ok (.getfield 16, 3) := by decide +kernel
theorem d_M_join_154 : decode b_M_join 154 = .ok (.iload_n 1, 1) := by decide +kernel
theorem d_M_join_155 : decode b_M_join 155 = .ok (.iaload, 1) := by decide +kernel
theorem d_M_join_156 : decode b_M_join 156 = .ok (.invokevirtual 63, 3) := by decide +kernel
theorem d_M_join_159 : decode b_M_join 159 = .ok (.aload_n 0, 1) := by decide +kernel
theorem d_M_join_160 : decode b_M_join 160 = .ok (.iload_n 2, 1) := by decide +kernel
theorem d_M_join_161 : decode b_M_join 161 = .ok (.iconst 0, 1) := by decide +kernel
theorem d_M_join_162 : decode b_M_join 162 = .ok (.aload_n 0, 1) := by decide +kernel
theorem d_M_join_163 : decode b_M_join 163 = .ok (.getfield 16, 3) := by decide +kernel
theorem d_M_join_166 : decode b_M_join 166 = .ok (.iload_n 2, 1) := by decide +kernel
theorem d_M_join_167 : decode b_M_join 167 = .ok (.iaload, 1) := by decide +kernel
theorem d_M_join_168 : decode b_M_join 168 = .ok (.invokevirtual 63, 3) := by decide +kernel
theorem d_M_join_171 : decode b_M_join 171 = .ok (.iload 4, 2) := by decide +kernel
theorem d_M_join_173 : decode b_M_join 173 = .ok (.ireturn, 1) := by decide +kernel
theorem d_M_join_174 : decode b_M_join 174 = .ok (.iconst 0, 1) := by decide +kernel
theorem d_M_join_175 : decode b_M_join 175 = .ok (.istore 5, 2) := by decide +kernel
theorem d_M_join_177 : decode b_M_join 177 = .ok (.iconst 0, 1) := by decide +kernel
theorem d_M_join_178 : decode b_M_join 178 = .ok (.istore 6, 2) := by decide +kernel
theorem d_M_join_180 : decode b_M_join 180 = .ok (.iload 5, 2) := by decide +kernel
theorem d_M_join_182 : decode b_M_join 182 = .ok (.aload_n 0, 1) := by decide +kernel
theorem d_M_join_183 : decode b_M_join 183 = .ok (.getfield 16, 3) := by decide +kernel
theorem d_M_join_186 : decode b_M_join 186 = .ok (.iload_n 1, 1) := by decide +kernel
theorem d_M_join_187 : decode b_M_join 187 = .ok (.iaload, 1) := by decide +kernel
theorem d_M_join_188 : decode b_M_join 188 = .ok (.if_icmp .lt 14, 3) := by decide +kernel
theorem d_M_join_191 : decode b_M_join 191 = .ok (.iload 6, 2) := by decide +kernel
theorem d_M_join_193 : decode b_M_join 193 = .ok (.aload_n 0, 1) := by decide +kernel
theorem d_M_join_194 : decode b_M_join 194 = .ok (.getfield 16, 3) := by decide +kernel
theorem d_M_join_197 : decode b_M_join 197 = .ok (.iload_n 2, 1) := by decide +kernel
theorem d_M_join_198 : decode b_M_join 198 = .ok (.iaload, 1) := by decide +kernel
theorem d_M_join_199 : decode b_M_join 199 = .ok (.if_icmp .ge 131, 3) := by decide +kernel
theorem d_M_join_202 : decode b_M_join 202 = .ok (.iload 6, 2) := by decide +kernel
theorem d_M_join_204 : decode b_M_join 204 = .ok (.aload_n 0, 1) := by decide +kernel
theorem d_M_join_205 : decode b_M_join 205 = .ok (.getfield 16, 3) := by decide +kernel
theorem d_M_join_208 : decode b_M_join 208 = .ok (.iload_n 2, 1) := by decide +kernel
theorem d_M_join_209 : decode b_M_join 209 = .ok (.iaload, 1) := by decide +kernel
theorem d_M_join_210 : decode b_M_join 210 = .ok (.if_icmp .eq 41, 3) := by decide +kernel
theorem d_M_join_213 : decode b_M_join 213 = .ok (.iload 5, 2) := by decide +kernel
theorem d_M_join_215 : decode b_M_join 215 = .ok (.aload_n 0, 1) := by decide +kernel
theorem d_M_join_216 : decode b_M_join 216 = .ok (.getfield 16, 3) := by decide +kernel
theorem d_M_join_219 : decode b_M_join 219 = .ok (.iload_n 1, 1) := by decide +kernel
theorem d_M_join_220 : decode b_M_join 220 = .ok (.iaload, 1) := by decide +kernel
theorem d_M_join_221 : decode b_M_join 221 = .ok (.if_icmp .ge 34, 3) := by decide +kernel
theorem d_M_join_224 : decode b_M_join 224 = .ok (.aload_n 0, 1) := by decide +kernel
theorem d_M_join_225 : decode b_M_join 225 = .ok (.getfield 19, 3) := by decide +kernel
theorem d_M_join_228 : decode b_M_join 228 = .ok (.bipush 100, 2) := by decide +kernel
theorem d_M_join_230 : decode b_M_join 230 = .ok (.iload_n 1, 1) := by decide +kernel
theorem d_M_join_231 : decode b_M_join 231 = .ok (.imul, 1) := by decide +kernel
theorem d_M_join_232 : decode b_M_join 232 = .ok (.iload 5, 2) := by decide +kernel
theorem d_M_join_234 : decode b_M_join 234 = .ok (.iadd, 1) := by decide +kernel
theorem d_M_join_235 : decode b_M_join 235 = .ok (.iaload, 1) := by decide +kernel
theorem d_M_join_236 : decode b_M_join 236 = .ok (.aload_n 0, 1) := by decide +kernel
theorem d_M_join_237 : decode b_M_join 237 = .ok (.getfield 19, 3) := by decide +kernel
theorem d_M_join_240 : decode b_M_join 240 = .ok (.bipush 100, 2) := by decide +kernel
theorem d_M_join_242 : decode b_M_join 242 = .ok (.iload_n 2, 1) := by decide +kernel
theorem d_M_join_243 : decode b_M_join 243 = .ok (.imul, 1) := by decide +kernel
theorem d_M_join_244 : decode b_M_join 244 = .ok (.iload 6, 2) := by decide +kernel
theorem d_M_join_246 : decode b_M_join 246 = .ok (.iadd, 1) := by decide +kernel
theorem d_M_join_247 : decode b_M_join 247 = .ok (.iaload, 1) := by decide +kernel
theorem d_M_join_248 : decode b_M_join 248 = .ok (.if_icmp .gt 7, 3) := by decide +kernel
theorem d_M_join_251 : decode b_M_join 251 = .ok (.iconst 1, 1) := by decide +kernel
theorem d_M_join_252 : decode b_M_join 252 = .ok (.goto 4, 3) := by decide +kernel
theorem d_M_join_255 : decode b_M_join 255 = .ok (.iconst 0, 1) := by decide +kernel
theorem d_M_join_256 : decode b_M_join 256 = .ok (.istore 7, 2) := by decide +kernel
theorem d_M_join_258 : decode b_M_join 258 = .ok (.aload_n 0, 1) := by decide +kernel
theorem d_M_join_259 : decode b_M_join 259 = .ok (.iconst 0, 1) := by decide +kernel
theorem d_M_join_260 : decode b_M_join 260 = .ok (.iload 7, 2) := by decide +kernel
theorem d_M_join_262 : decode b_M_join 262 = .ok (.ifCond .eq 18, 3) := by decide +kernel
theorem d_M_join_265 : decode b_M_join 265 = .ok (.aload_n 0, 1) := by decide +kernel
theorem d_M_join_266 : decode b_M_join 266 = .ok (.getfield 19, 3) := by decide +kernel
theorem d_M_join_269 : decode b_M_join 269 = .ok (.bipush 100, 2) := by decide +kernel
theorem d_M_join_271 : decode b_M_join 271 = .ok (.iload_n 1, 1) := by decide +kernel
theorem d_M_join_272 : decode b_M_join 272 = .ok (.imul, 1) := by decide +kernel
theorem d_M_join_273 : decode b_M_join 273 = .ok (.iload 5, 2) := by decide +kernel
theorem d_M_join_275 : decode b_M_join 275 = .ok (.iadd, 1) := by decide +kernel
theorem d_M_join_276 : decode b_M_join 276 = .ok (.iaload, 1) := by decide +kernel
theorem d_M_join_277 : decode b_M_join 277 = .ok (.goto 15, 3) := by decide +kernel
theorem d_M_join_280 : decode b_M_join 280 = .ok (.aload_n 0, 1) := by decide +kernel
theorem d_M_join_281 : decode b_M_join 281 = .ok (.getfield 19, 3) := by decide +kernel
theorem d_M_join_284 : decode b_M_join 284 = .ok (.bipush 100, 2) := by decide +kernel
theorem d_M_join_286 : decode b_M_join 286 = .ok (.iload_n 2, 1) := by decide +kernel
theorem d_M_join_287 : decode b_M_join 287 = .ok (.imul, 1) := by decide +kernel
theorem d_M_join_288 : decode b_M_join 288 = .ok (.iload 6, 2) := by decide +kernel
theorem d_M_join_290 : decode b_M_join 290 = .ok (.iadd, 1) := by decide +kernel
theorem d_M_join_291 : decode b_M_join 291 = .ok (.iaload, 1) := by decide +kernel
theorem d_M_join_292 : decode b_M_join 292 = .ok (.invokevirtual 42, 3) := by decide +kernel
theorem d_M_join_295 : decode b_M_join 295 = .ok (.iload 7, 2) := by decide +kernel
theorem d_M_join_297 : decode b_M_join 297 = .ok (.ifCond .eq 10, 3) := by decide +kernel
theorem d_M_join_300 : decode b_M_join 300 = .ok (.iload 5, 2) := by decide +kernel
theorem d_M_join_302 : decode b_M_join 302 = .ok (.iconst 1, 1) := by decide +kernel
theorem d_M_join_303 : decode b_M_join 303 = .ok (.iadd, 1) := by decide +kernel
theorem d_M_join_304 : decode b_M_join 304 = .ok (.goto 5, 3) := by decide +kernel
theorem d_M_join_307 : decode b_M_join 307 = .ok (.iload 5, 2) := by decide +kernel
theorem d_M_join_309 : decode b_M_join 309 = .ok (.istore 5, 2) := by decide +kernel
theorem d_M_join_311 : decode b_M_join 311 = .ok (.iload 7, 2) := by decide +kernel
theorem d_M_join_313 : decode b_M_join 313 = .ok (.ifCond .eq 8, 3) := by decide +kernel
theorem d_M_join_316 : decode b_M_join 316 = .ok (.iload 6, 2) := by decide +kernel
theorem d_M_join_318 : decode b_M_join 318 = .ok (.goto 7, 3) := by decide +kernel
theorem d_M_join_321 : decode b_M_join 321 = .ok (.iload 6, 2) := by decide +kernel
theorem d_M_join_323 : decode b_M_join 323 = .ok (.iconst 1, 1) := by decide +kernel
theorem d_M_join_324 : decode b_M_join 324 = .ok (.iadd, 1) := by decide +kernel
theorem d_M_join_325 : decode b_M_join 325 = .ok (.istore 6, 2) := by decide +kernel
theorem d_M_join_327 : decode b_M_join 327 = .ok (.goto (-147), 3) := by decide +kernel
theorem d_M_join_330 : decode b_M_join 330 = .ok (.iload 4, 2) := by decide +kernel
theorem d_M_join_332 : decode b_M_join 332 = .ok (.ireturn, 1) := by decide +kernel
theorem d_M_bind_0 : decode b_M_bind 0 = .ok (.aload_n 0, 1) := by decide +kernel
theorem d_M_bind_1 : decode b_M_bind 1 = .ok (.iload_n 1, 1) := by decide +kernel
theorem d_M_bind_2 : decode b_M_bind 2 = .ok (.invokevirtual 35, 3) := by decide +kernel
theorem d_M_bind_5 : decode b_M_bind 5 = .ok (.ifCond .eq 26, 3) := by decide +kernel
theorem d_M_bind_8 : decode b_M_bind 8 = .ok (.aload_n 0, 1) := by decide +kernel
theorem d_M_bind_9 : decode b_M_bind 9 = .ok (.iload_n 1, 1) := by decide +kernel
theorem d_M_bind_10 : decode b_M_bind 10 = .ok (.invokevirtual 39, 3) := by decide +kernel
theorem d_M_bind_13 : decode b_M_bind 13 = .ok (.ifCond .eq 18, 3) := by decide +kernel
theorem d_M_bind_16 : decode b_M_bind 16 = .ok (.iload_n 2, 1) := by decide +kernel
theorem d_M_bind_17 : decode b_M_bind 17 = .ok (.ifCond .lt 14, 3) := by decide +kernel
theorem d_M_bind_20 : decode b_M_bind 20 = .ok (.iload_n 2, 1) := by decide +kernel
theorem d_M_bind_21 : decode b_M_bind 21 = .ok (.sipush 255, 3) := by decide +kernel
theorem d_M_bind_24 : decode b_M_bind 24 = .ok (.if_icmp .gt 7, 3) := by decide +kernel
theorem d_M_bind_27 : decode b_M_bind 27 = .ok (.iconst 1, 1) := by decide +kernel
theorem d_M_bind_28 : decode b_M_bind 28 = .ok (.goto 4, 3) := by decide +kernel
theorem d_M_bind_31 : decode b_M_bind 31 = .ok (.iconst 0, 1) := by decide +kernel
theorem d_M_bind_32 : decode b_M_bind 32 = .ok (.istore 4, 2) := by decide +kernel
theorem d_M_bind_34 : decode b_M_bind 34 = .ok (.iload 4, 2) := by decide +kernel
theorem d_M_bind_36 : decode b_M_bind 36 = .ok (.ifCond .eq 12, 3) := by decide +kernel
theorem d_M_bind_39 : decode b_M_bind 39 = .ok (.aload_n 0, 1) := by decide +kernel
theorem d_M_bind_40 : decode b_M_bind 40 = .ok (.iload_n 1, 1) := by decide +kernel
theorem d_M_bind_41 : decode b_M_bind 41 = .ok (.iload_n 2, 1) := by decide +kernel
theorem d_M_bind_42 : decode b_M_bind 42 = .ok (.invokevirtual 67, 3) := by decide +kernel
theorem d_M_bind_45 : decode b_M_bind 45 = .ok (.goto 4, 3) := by decide +kernel
theorem d_M_bind_48 : decode b_M_bind 48 = .ok (.iconst 0, 1) := by decide +kernel
theorem d_M_bind_49 : decode b_M_bind 49 = .ok (.istore 5, 2) := by decide +kernel
theorem d_M_bind_51 : decode b_M_bind 51 = .ok (.iload 4, 2) := by decide +kernel
theorem d_M_bind_53 : decode b_M_bind 53 = .ok (.ifCond .eq 18, 3) := by decide +kernel
theorem d_M_bind_56 : decode b_M_bind 56 = .ok (.aload_n 0, 1) := by decide +kernel
theorem d_M_bind_57 : decode b_M_bind 57 = .ok (.iload_n 1, 1) := by decide +kernel
theorem d_M_bind_58 : decode b_M_bind 58 = .ok (.iload 5, 2) := by decide +kernel
theorem d_M_bind_60 : decode b_M_bind 60 = .ok (.iload_n 2, 1) := by decide +kernel
theorem d_M_bind_61 : decode b_M_bind 61 = .ok (.invokevirtual 70, 3) := by decide +kernel
theorem d_M_bind_64 : decode b_M_bind 64 = .ok (.ifCond .eq 7, 3) := by decide +kernel
theorem d_M_bind_67 : decode b_M_bind 67 = .ok (.iconst 1, 1) := by decide +kernel
theorem d_M_bind_68 : decode b_M_bind 68 = .ok (.goto 4, 3) := by decide +kernel
theorem d_M_bind_71 : decode b_M_bind 71 = .ok (.iconst 0, 1) := by decide +kernel
theorem d_M_bind_72 : decode b_M_bind 72 = .ok (.istore 6, 2) := by decide +kernel
theorem d_M_bind_74 : decode b_M_bind 74 = .ok (.aload_n 0, 1) := by decide +kernel
theorem d_M_bind_75 : decode b_M_bind 75 = .ok (.iload 4, 2) := by decide +kernel
theorem d_M_bind_77 : decode b_M_bind 77 = .ok (.ifCond .ne 7, 3) := by decide +kernel
theorem d_M_bind_80 : decode b_M_bind 80 = .ok (.iconst 1, 1) := by decide +kernel
theorem d_M_bind_81 : decode b_M_bind 81 = .ok (.goto 31, 3) := by decide +kernel
theorem d_M_bind_84 : decode b_M_bind 84 = .ok (.aload_n 0, 1) := by decide +kernel
theorem d_M_bind_85 : decode b_M_bind 85 = .ok (.invokevirtual 46, 3) := by decide +kernel
theorem d_M_bind_88 : decode b_M_bind 88 = .ok (.ifCond .ne 19, 3) := by decide +kernel
theorem d_M_bind_91 : decode b_M_bind 91 = .ok (.iload 6, 2) := by decide +kernel
theorem d_M_bind_93 : decode b_M_bind 93 = .ok (.ifCond .ne 18, 3) := by decide +kernel
theorem d_M_bind_96 : decode b_M_bind 96 = .ok (.aload_n 0, 1) := by decide +kernel
theorem d_M_bind_97 : decode b_M_bind 97 = .ok (.getfield 16, 3) := by decide +kernel
theorem d_M_bind_100 : decode b_M_bind 100 = .ok (.iload_n 1, 1) := by decide +kernel
theorem d_M_bind_101 : decode b_M_bind 101 = .ok (.iaload, 1) := by decide +kernel
theorem d_M_bind_102 : decode b_M_bind 102 = .ok (.bipush 100, 2) := by decide +kernel
theorem d_M_bind_104 : decode b_M_bind 104 = .ok (.if_icmp .lt 7, 3) := by decide +kernel
theorem d_M_bind_107 : decode b_M_bind 107 = .ok (.iconst 2, 1) := by decide +kernel
theorem d_M_bind_108 : decode b_M_bind 108 = .ok (.goto 4, 3) := by decide +kernel
theorem d_M_bind_111 : decode b_M_bind 111 = .ok (.iconst 0, 1) := by decide +kernel
theorem d_M_bind_112 : decode b_M_bind 112 = .ok (.invokevirtual 50, 3) := by decide +kernel
theorem d_M_bind_115 : decode b_M_bind 115 = .ok (.ifCond .eq 5, 3) := by decide +kernel
theorem d_M_bind_118 : decode b_M_bind 118 = .ok (.iconst 0, 1) := by decide +kernel
theorem d_M_bind_119 : decode b_M_bind 119 = .ok (.ireturn, 1) := by decide +kernel
theorem d_M_bind_120 : decode b_M_bind 120 = .ok (.aload_n 0, 1) := by decide +kernel
theorem d_M_bind_121 : decode b_M_bind 121 = .ok (.iconst 3, 1) := by decide +kernel
theorem d_M_bind_122 : decode b_M_bind 122 = .ok (.aload_n 0, 1) := by decide +kernel
theorem d_M_bind_123 : decode b_M_bind 123 = .ok (.getfield 13, 3) := by decide +kernel
theorem d_M_bind_126 : decode b_M_bind 126 = .ok (.iload_n 1, 1) := by decide +kernel
theorem d_M_bind_127 : decode b_M_bind 127 = .ok (.iaload, 1) := by decide +kernel
theorem d_M_bind_128 : decode b_M_bind 128 = .ok (.invokevirtual 53, 3) := by decide +kernel
theorem d_M_bind_131 : decode b_M_bind 131 = .ok (.istore 7, 2) := by decide +kernel
theorem d_M_bind_133 : decode b_M_bind 133 = .ok (.aload_n 0, 1) := by decide +kernel
theorem d_M_bind_134 : decode b_M_bind 134 = .ok (.iload_n 1, 1) := by decide +kernel
theorem d_M_bind_135 : decode b_M_bind 135 = .ok (.iconst 0, 1) := by decide +kernel
theorem d_M_bind_136 : decode b_M_bind 136 = .ok (.iload 5, 2) := by decide +kernel
theorem d_M_bind_138 : decode b_M_bind 138 = .ok (.invokevirtual 63, 3) := by decide +kernel
theorem d_M_bind_141 : decode b_M_bind 141 = .ok (.aload_n 0, 1) := by decide +kernel
theorem d_M_bind_142 : decode b_M_bind 142 = .ok (.iload_n 2, 1) := by decide +kernel
theorem d_M_bind_143 : decode b_M_bind 143 = .ok (.iload_n 3, 1) := by decide +kernel
theorem d_M_bind_144 : decode b_M_bind 144 = .ok (.invokevirtual 42, 3) := by decide +kernel
theorem d_M_bind_147 : decode b_M_bind 147 = .ok (.aload_n 0, 1) := by decide +kernel
theorem d_M_bind_148 : decode b_M_bind 148 = .ok (.iload_n 1, 1) := by decide +kernel
theorem d_M_bind_149 : decode b_M_bind 149 = .ok (.iload 6, 2) := by decide +kernel
theorem d_M_bind_151 : decode b_M_bind 151 = .ok (.ifCond .eq 10, 3) := by decide +kernel
theorem d_M_bind_154 : decode b_M_bind 154 = .ok (.iload 5, 2) := by decide +kernel
theorem d_M_bind_156 : decode b_M_bind 156 = .ok (.iconst 1, 1) := by decide +kernel
theorem d_M_bind_157 : decode b_M_bind 157 = .ok (.iadd, 1) := by decide +kernel
theorem d_M_bind_158 : decode b_M_bind 158 = .ok (.goto 5, 3) := by decide +kernel
theorem d_M_bind_161 : decode b_M_bind 161 = .ok (.iload 5, 2) := by decide +kernel
theorem d_M_bind_163 : decode b_M_bind 163 = .ok (.aload_n 0, 1) := by decide +kernel
theorem d_M_bind_164 : decode b_M_bind 164 = .ok (.getfield 16, 3) := by decide +kernel
theorem d_M_bind_167 : decode b_M_bind 167 = .ok (.iload_n 1, 1) := by decide +kernel
theorem d_M_bind_168 : decode b_M_bind 168 = .ok (.iaload, 1) := by decide +kernel
theorem d_M_bind_169 : decode b_M_bind 169 = .ok (.invokevirtual 63, 3) := by decide +kernel
theorem d_M_bind_172 : decode b_M_bind 172 = .ok (.iload 7, 2) := by decide +kernel
theorem d_M_bind_174 : decode b_M_bind 174 = .ok (.ireturn, 1) := by decide +kernel
theorem d_M_placeOf_0 : decode b_M_placeOf 0 = .ok (.iconst 0, 1) := by decide +kernel
theorem d_M_placeOf_1 : decode b_M_placeOf 1 = .ok (.istore_n 3, 1) := by decide +kernel
theorem d_M_placeOf_2 : decode b_M_placeOf 2 = .ok (.iload_n 3, 1) := by decide +kernel
theorem d_M_placeOf_3 : decode b_M_placeOf 3 = .ok (.aload_n 0, 1) := by decide +kernel
theorem d_M_placeOf_4 : decode b_M_placeOf 4 = .ok (.getfield 16, 3) := by decide +kernel
theorem d_M_placeOf_7 : decode b_M_placeOf 7 = .ok (.iload_n 1, 1) := by decide +kernel
theorem d_M_placeOf_8 : decode b_M_placeOf 8 = .ok (.iaload, 1) := by decide +kernel
theorem d_M_placeOf_9 : decode b_M_placeOf 9 = .ok (.if_icmp .ge 25, 3) := by decide +kernel
theorem d_M_placeOf_12 : decode b_M_placeOf 12 = .ok (.aload_n 0, 1) := by decide +kernel
theorem d_M_placeOf_13 : decode b_M_placeOf 13 = .ok (.getfield 22, 3) := by decide +kernel
theorem d_M_placeOf_16 : decode b_M_placeOf 16 = .ok (.bipush 100, 2) := by decide +kernel
theorem d_M_placeOf_18 : decode b_M_placeOf 18 = .ok (.iload_n 1, 1) := by decide +kernel
theorem d_M_placeOf_19 : decode b_M_placeOf 19 = .ok (.imul, 1) := by decide +kernel
theorem d_M_placeOf_20 : decode b_M_placeOf 20 = .ok (.iload_n 3, 1) := by decide +kernel
theorem d_M_placeOf_21 : decode b_M_placeOf 21 = .ok (.iadd, 1) := by decide +kernel
theorem d_M_placeOf_22 : decode b_M_placeOf 22 = .ok (.iaload, 1) := by decide +kernel
theorem d_M_placeOf_23 : decode b_M_placeOf 23 = .ok (.iload_n 2, 1) := by decide +kernel
theorem d_M_placeOf_24 : decode b_M_placeOf 24 = .ok (.if_icmp .ge 10, 3) := by decide +kernel
theorem d_M_placeOf_27 : decode b_M_placeOf 27 = .ok (.iload_n 3, 1) := by decide +kernel
theorem d_M_placeOf_28 : decode b_M_placeOf 28 = .ok (.iconst 1, 1) := by decide +kernel
theorem d_M_placeOf_29 : decode b_M_placeOf 29 = .ok (.iadd, 1) := by decide +kernel
theorem d_M_placeOf_30 : decode b_M_placeOf 30 = .ok (.istore_n 3, 1) := by decide +kernel
theorem d_M_placeOf_31 : decode b_M_placeOf 31 = .ok (.goto (-29), 3) := by decide +kernel
theorem d_M_placeOf_34 : decode b_M_placeOf 34 = .ok (.iload_n 3, 1) := by decide +kernel
theorem d_M_placeOf_35 : decode b_M_placeOf 35 = .ok (.ireturn, 1) := by decide +kernel
theorem d_M_hasAt_0 : decode b_M_hasAt 0 = .ok (.iload_n 2, 1) := by decide +kernel
theorem d_M_hasAt_1 : decode b_M_hasAt 1 = .ok (.aload_n 0, 1) := by decide +kernel
theorem d_M_hasAt_2 : decode b_M_hasAt 2 = .ok (.getfield 16, 3) := by decide +kernel
theorem d_M_hasAt_5 : decode b_M_hasAt 5 = .ok (.iload_n 1, 1) := by decide +kernel
theorem d_M_hasAt_6 : decode b_M_hasAt 6 = .ok (.iaload, 1) := by decide +kernel
theorem d_M_hasAt_7 : decode b_M_hasAt 7 = .ok (.if_icmp .ge 22, 3) := by decide +kernel
theorem d_M_hasAt_10 : decode b_M_hasAt 10 = .ok (.aload_n 0, 1) := by decide +kernel
theorem d_M_hasAt_11 : decode b_M_hasAt 11 = .ok (.getfield 22, 3) := by decide +kernel
theorem d_M_hasAt_14 : decode b_M_hasAt 14 = .ok (.bipush 100, 2) := by decide +kernel
theorem d_M_hasAt_16 : decode b_M_hasAt 16 = .ok (.iload_n 1, 1) := by decide +kernel
theorem d_M_hasAt_17 : decode b_M_hasAt 17 = .ok (.imul, 1) := by decide +kernel
theorem d_M_hasAt_18 : decode b_M_hasAt 18 = .ok (.iload_n 2, 1) := by decide +kernel
theorem d_M_hasAt_19 : decode b_M_hasAt 19 = .ok (.iadd, 1) := by decide +kernel
theorem d_M_hasAt_20 : decode b_M_hasAt 20 = .ok (.iaload, 1) := by decide +kernel
theorem d_M_hasAt_21 : decode b_M_hasAt 21 = .ok (.iload_n 3, 1) := by decide +kernel
theorem d_M_hasAt_22 : decode b_M_hasAt 22 = .ok (.if_icmp .ne 7, 3) := by decide +kernel
theorem d_M_hasAt_25 : decode b_M_hasAt 25 = .ok (.iconst 1, 1) := by decide +kernel
theorem d_M_hasAt_26 : decode b_M_hasAt 26 = .ok (.goto 4, 3) := by decide +kernel
theorem d_M_hasAt_29 : decode b_M_hasAt 29 = .ok (.iconst 0, 1) := by decide +kernel
theorem d_M_hasAt_30 : decode b_M_hasAt 30 = .ok (.ireturn, 1) := by decide +kernel
theorem d_M_value_0 : decode b_M_value 0 = .ok (.aload_n 0, 1) := by decide +kernel
theorem d_M_value_1 : decode b_M_value 1 = .ok (.iload_n 1, 1) := by decide +kernel
theorem d_M_value_2 : decode b_M_value 2 = .ok (.invokevirtual 35, 3) := by decide +kernel
theorem d_M_value_5 : decode b_M_value 5 = .ok (.ifCond .eq 15, 3) := by decide +kernel
theorem d_M_value_8 : decode b_M_value 8 = .ok (.aload_n 0, 1) := by decide +kernel
theorem d_M_value_9 : decode b_M_value 9 = .ok (.iload_n 1, 1) := by decide +kernel
theorem d_M_value_10 : decode b_M_value 10 = .ok (.invokevirtual 39, 3) := by decide +kernel
theorem d_M_value_13 : decode b_M_value 13 = .ok (.ifCond .eq 7, 3) := by decide +kernel
theorem d_M_value_16 : decode b_M_value 16 = .ok (.iconst 1, 1) := by decide +kernel
theorem d_M_value_17 : decode b_M_value 17 = .ok (.goto 4, 3) := by decide +kernel
theorem d_M_value_20 : decode b_M_value 20 = .ok (.iconst 0, 1) := by decide +kernel
theorem d_M_value_21 : decode b_M_value 21 = .ok (.istore_n 3, 1) := by decide +kernel
theorem d_M_value_22 : decode b_M_value 22 = .ok (.iload_n 3, 1) := by decide +kernel
theorem d_M_value_23 : decode b_M_value 23 = .ok (.ifCond .eq 12, 3) := by decide +kernel
theorem d_M_value_26 : decode b_M_value 26 = .ok (.aload_n 0, 1) := by decide +kernel
theorem d_M_value_27 : decode b_M_value 27 = .ok (.iload_n 1, 1) := by decide +kernel
theorem d_M_value_28 : decode b_M_value 28 = .ok (.iload_n 2, 1) := by decide +kernel
theorem d_M_value_29 : decode b_M_value 29 = .ok (.invokevirtual 67, 3) := by decide +kernel
theorem d_M_value_32 : decode b_M_value 32 = .ok (.goto 4, 3) := by decide +kernel
theorem d_M_value_35 : decode b_M_value 35 = .ok (.iconst 0, 1) := by decide +kernel
theorem d_M_value_36 : decode b_M_value 36 = .ok (.istore 4, 2) := by decide +kernel
theorem d_M_value_38 : decode b_M_value 38 = .ok (.aload_n 0, 1) := by decide +kernel
theorem d_M_value_39 : decode b_M_value 39 = .ok (.iload_n 3, 1) := by decide +kernel
theorem d_M_value_40 : decode b_M_value 40 = .ok (.ifCond .ne 7, 3) := by decide +kernel
theorem d_M_value_43 : decode b_M_value 43 = .ok (.iconst 1, 1) := by decide +kernel
theorem d_M_value_44 : decode b_M_value 44 = .ok (.goto 19, 3) := by decide +kernel
theorem d_M_value_47 : decode b_M_value 47 = .ok (.aload_n 0, 1) := by decide +kernel
theorem d_M_value_48 : decode b_M_value 48 = .ok (.iload_n 1, 1) := by decide +kernel
theorem d_M_value_49 : decode b_M_value 49 = .ok (.iload 4, 2) := by decide +kernel
theorem d_M_value_51 : decode b_M_value 51 = .ok (.iload_n 2, 1) := by decide +kernel
theorem d_M_value_52 : decode b_M_value 52 = .ok (.invokevirtual 70, 3) := by decide +kernel
theorem d_M_value_55 : decode b_M_value 55 = .ok (.ifCond .ne 7, 3) := by decide +kernel
theorem d_M_value_58 : decode b_M_value 58 = .ok (.iconst 2, 1) := by decide +kernel
theorem d_M_value_59 : decode b_M_value 59 = .ok (.goto 4, 3) := by decide +kernel
theorem d_M_value_62 : decode b_M_value 62 = .ok (.iconst 0, 1) := by decide +kernel
theorem d_M_value_63 : decode b_M_value 63 = .ok (.invokevirtual 50, 3) := by decide +kernel
theorem d_M_value_66 : decode b_M_value 66 = .ok (.ifCond .eq 5, 3) := by decide +kernel
theorem d_M_value_69 : decode b_M_value 69 = .ok (.iconst 0, 1) := by decide +kernel
theorem d_M_value_70 : decode b_M_value 70 = .ok (.ireturn, 1) := by decide +kernel
theorem d_M_value_71 : decode b_M_value 71 = .ok (.aload_n 0, 1) := by decide +kernel
theorem d_M_value_72 : decode b_M_value 72 = .ok (.getfield 19, 3) := by decide +kernel
theorem d_M_value_75 : decode b_M_value 75 = .ok (.bipush 100, 2) := by decide +kernel
theorem d_M_value_77 : decode b_M_value 77 = .ok (.iload_n 1, 1) := by decide +kernel
theorem d_M_value_78 : decode b_M_value 78 = .ok (.imul, 1) := by decide +kernel
theorem d_M_value_79 : decode b_M_value 79 = .ok (.iload 4, 2) := by decide +kernel
theorem d_M_value_81 : decode b_M_value 81 = .ok (.iadd, 1) := by decide +kernel
theorem d_M_value_82 : decode b_M_value 82 = .ok (.iaload, 1) := by decide +kernel
theorem d_M_value_83 : decode b_M_value 83 = .ok (.ireturn, 1) := by decide +kernel
theorem d_M_update_0 : decode b_M_update 0 = .ok (.aload_n 0, 1) := by decide +kernel
theorem d_M_update_1 : decode b_M_update 1 = .ok (.iload_n 1, 1) := by decide +kernel
theorem d_M_update_2 : decode b_M_update 2 = .ok (.invokevirtual 35, 3) := by decide +kernel
theorem d_M_update_5 : decode b_M_update 5 = .ok (.ifCond .eq 17, 3) := by decide +kernel
theorem d_M_update_8 : decode b_M_update 8 = .ok (.aload_n 0, 1) := by decide +kernel
theorem d_M_update_9 : decode b_M_update 9 = .ok (.getfield 7, 3) := by decide +kernel
theorem d_M_update_12 : decode b_M_update 12 = .ok (.iload_n 1, 1) := by decide +kernel
theorem d_M_update_13 : decode b_M_update 13 = .ok (.iaload, 1) := by decide +kernel
theorem d_M_update_14 : decode b_M_update 14 = .ok (.iconst 2, 1) := by decide +kernel
theorem d_M_update_15 : decode b_M_update 15 = .ok (.if_icmp .ne 7, 3) := by decide +kernel
theorem d_M_update_18 : decode b_M_update 18 = .ok (.iconst 1, 1) := by decide +kernel
theorem d_M_update_19 : decode b_M_update 19 = .ok (.goto 4, 3) := by decide +kernel
theorem d_M_update_22 : decode b_M_update 22 = .ok (.iconst 0, 1) := by decide +kernel
theorem d_M_update_23 : decode b_M_update 23 = .ok (.istore 4, 2) := by decide +kernel
theorem d_M_update_25 : decode b_M_update 25 = .ok (.aload_n 0, 1) := by decide +kernel
theorem d_M_update_26 : decode b_M_update 26 = .ok (.iload 4, 2) := by decide +kernel
theorem d_M_update_28 : decode b_M_update 28 = .ok (.ifCond .ne 7, 3) := by decide +kernel
theorem d_M_update_31 : decode b_M_update 31 = .ok (.iconst 1, 1) := by decide +kernel
theorem d_M_update_32 : decode b_M_update 32 = .ok (.goto 33, 3) := by decide +kernel
theorem d_M_update_35 : decode b_M_update 35 = .ok (.aload_n 0, 1) := by decide +kernel
theorem d_M_update_36 : decode b_M_update 36 = .ok (.invokevirtual 46, 3) := by decide +kernel
theorem d_M_update_39 : decode b_M_update 39 = .ok (.ifCond .eq 7, 3) := by decide +kernel
theorem d_M_update_42 : decode b_M_update 42 = .ok (.iconst 2, 1) := by decide +kernel
theorem d_M_update_43 : decode b_M_update 43 = .ok (.goto 22, 3) := by decide +kernel
theorem d_M_update_46 : decode b_M_update 46 = .ok (.iload_n 2, 1) := by decide +kernel
theorem d_M_update_47 : decode b_M_update 47 = .ok (.ifCond .lt 13, 3) := by decide +kernel
theorem d_M_update_50 : decode b_M_update 50 = .ok (.iload_n 2, 1) := by decide +kernel
theorem d_M_update_51 : decode b_M_update 51 = .ok (.aload_n 0, 1) := by decide +kernel
theorem d_M_update_52 : decode b_M_update 52 = .ok (.getfield 16, 3) := by decide +kernel
theorem d_M_update_55 : decode b_M_update 55 = .ok (.iload_n 1, 1) := by decide +kernel
theorem d_M_update_56 : decode b_M_update 56 = .ok (.iaload, 1) := by decide +kernel
theorem d_M_update_57 : decode b_M_update 57 = .ok (.if_icmp .lt 7, 3) := by decide +kernel
theorem d_M_update_60 : decode b_M_update 60 = .ok (.iconst 3, 1) := by decide +kernel
theorem d_M_update_61 : decode b_M_update 61 = .ok (.goto 4, 3) := by decide +kernel
theorem d_M_update_64 : decode b_M_update 64 = .ok (.iconst 0, 1) := by decide +kernel
theorem d_M_update_65 : decode b_M_update 65 = .ok (.invokevirtual 50, 3) := by decide +kernel
theorem d_M_update_68 : decode b_M_update 68 = .ok (.ifCond .eq 5, 3) := by decide +kernel
theorem d_M_update_71 : decode b_M_update 71 = .ok (.iconst 0, 1) := by decide +kernel
theorem d_M_update_72 : decode b_M_update 72 = .ok (.ireturn, 1) := by decide +kernel
theorem d_M_update_73 : decode b_M_update 73 = .ok (.aload_n 0, 1) := by decide +kernel
theorem d_M_update_74 : decode b_M_update 74 = .ok (.iconst 2, 1) := by decide +kernel
theorem d_M_update_75 : decode b_M_update 75 = .ok (.aload_n 0, 1) := by decide +kernel
theorem d_M_update_76 : decode b_M_update 76 = .ok (.getfield 13, 3) := by decide +kernel
theorem d_M_update_79 : decode b_M_update 79 = .ok (.iload_n 1, 1) := by decide +kernel
theorem d_M_update_80 : decode b_M_update 80 = .ok (.iaload, 1) := by decide +kernel
theorem d_M_update_81 : decode b_M_update 81 = .ok (.invokevirtual 53, 3) := by decide +kernel
theorem d_M_update_84 : decode b_M_update 84 = .ok (.istore 5, 2) := by decide +kernel
theorem d_M_update_86 : decode b_M_update 86 = .ok (.aload_n 0, 1) := by decide +kernel
theorem d_M_update_87 : decode b_M_update 87 = .ok (.iload_n 1, 1) := by decide +kernel
theorem d_M_update_88 : decode b_M_update 88 = .ok (.iconst 0, 1) := by decide +kernel
theorem d_M_update_89 : decode b_M_update 89 = .ok (.iload_n 2, 1) := by decide +kernel
theorem d_M_update_90 : decode b_M_update 90 = .ok (.invokevirtual 63, 3) := by decide +kernel
theorem d_M_update_93 : decode b_M_update 93 = .ok (.aload_n 0, 1) := by decide +kernel
theorem d_M_update_94 : decode b_M_update 94 = .ok (.iconst 0, 1) := by decide +kernel
theorem d_M_update_95 : decode b_M_update 95 = .ok (.iload_n 3, 1) := by decide +kernel
theorem d_M_update_96 : decode b_M_update 96 = .ok (.invokevirtual 42, 3) := by decide +kernel
theorem d_M_update_99 : decode b_M_update 99 = .ok (.aload_n 0, 1) := by decide +kernel
theorem d_M_update_100 : decode b_M_update 100 = .ok (.iload_n 1, 1) := by decide +kernel
theorem d_M_update_101 : decode b_M_update 101 = .ok (.iload_n 2, 1) := by decide +kernel
theorem d_M_update_102 : decode b_M_update 102 = .ok (.iconst 1, 1) := by decide +kernel
theorem d_M_update_103 : decode b_M_update 103 = .ok (.iadd, 1) := by decide +kernel
theorem d_M_update_104 : decode b_M_update 104 = .ok (.aload_n 0, 1) := by decide +kernel
theorem d_M_update_105 : decode b_M_update 105 = .ok (.getfield 16, 3) := by decide +kernel
theorem d_M_update_108 : decode b_M_update 108 = .ok (.iload_n 1, 1) := by decide +kernel
theorem d_M_update_109 : decode b_M_update 109 = .ok (.iaload, 1) := by decide +kernel
theorem d_M_update_110 : decode b_M_update 110 = .ok (.invokevirtual 63, 3) := by decide +kernel
theorem d_M_update_113 : decode b_M_update 113 = .ok (.iload 5, 2) := by decide +kernel
theorem d_M_update_115 : decode b_M_update 115 = .ok (.ireturn, 1) := by decide +kernel
theorem d_M_at_0 : decode b_M_at 0 = .ok (.aload_n 0, 1) := by decide +kernel
theorem d_M_at_1 : decode b_M_at 1 = .ok (.aload_n 0, 1) := by decide +kernel
theorem d_M_at_2 : decode b_M_at 2 = .ok (.iload_n 1, 1) := by decide +kernel
theorem d_M_at_3 : decode b_M_at 3 = .ok (.invokevirtual 35, 3) := by decide +kernel
theorem d_M_at_6 : decode b_M_at 6 = .ok (.ifCond .ne 7, 3) := by decide +kernel
theorem d_M_at_9 : decode b_M_at 9 = .ok (.iconst 1, 1) := by decide +kernel
theorem d_M_at_10 : decode b_M_at 10 = .ok (.goto 22, 3) := by decide +kernel
theorem d_M_at_13 : decode b_M_at 13 = .ok (.iload_n 2, 1) := by decide +kernel
theorem d_M_at_14 : decode b_M_at 14 = .ok (.ifCond .lt 13, 3) := by decide +kernel
theorem d_M_at_17 : decode b_M_at 17 = .ok (.iload_n 2, 1) := by decide +kernel
theorem d_M_at_18 : decode b_M_at 18 = .ok (.aload_n 0, 1) := by decide +kernel
theorem d_M_at_19 : decode b_M_at 19 = .ok (.getfield 16, 3) := by decide +kernel
theorem d_M_at_22 : decode b_M_at 22 = .ok (.iload_n 1, 1) := by decide +kernel
theorem d_M_at_23 : decode b_M_at 23 = .ok (.iaload, 1) := by decide +kernel
theorem d_M_at_24 : decode b_M_at 24 = .ok (.if_icmp .lt 7, 3) := by decide +kernel
theorem d_M_at_27 : decode b_M_at 27 = .ok (.iconst 2, 1) := by decide +kernel
theorem d_M_at_28 : decode b_M_at 28 = .ok (.goto 4, 3) := by decide +kernel
theorem d_M_at_31 : decode b_M_at 31 = .ok (.iconst 0, 1) := by decide +kernel
theorem d_M_at_32 : decode b_M_at 32 = .ok (.invokevirtual 50, 3) := by decide +kernel
theorem d_M_at_35 : decode b_M_at 35 = .ok (.ifCond .eq 5, 3) := by decide +kernel
theorem d_M_at_38 : decode b_M_at 38 = .ok (.iconst 0, 1) := by decide +kernel
theorem d_M_at_39 : decode b_M_at 39 = .ok (.ireturn, 1) := by decide +kernel
theorem d_M_at_40 : decode b_M_at 40 = .ok (.aload_n 0, 1) := by decide +kernel
theorem d_M_at_41 : decode b_M_at 41 = .ok (.getfield 19, 3) := by decide +kernel
theorem d_M_at_44 : decode b_M_at 44 = .ok (.bipush 100, 2) := by decide +kernel
theorem d_M_at_46 : decode b_M_at 46 = .ok (.iload_n 1, 1) := by decide +kernel
theorem d_M_at_47 : decode b_M_at 47 = .ok (.imul, 1) := by decide +kernel
theorem d_M_at_48 : decode b_M_at 48 = .ok (.iload_n 2, 1) := by decide +kernel
theorem d_M_at_49 : decode b_M_at 49 = .ok (.iadd, 1) := by decide +kernel
theorem d_M_at_50 : decode b_M_at 50 = .ok (.iaload, 1) := by decide +kernel
theorem d_M_at_51 : decode b_M_at 51 = .ok (.ireturn, 1) := by decide +kernel
theorem d_M_size_0 : decode b_M_size 0 = .ok (.aload_n 0, 1) := by decide +kernel
theorem d_M_size_1 : decode b_M_size 1 = .ok (.aload_n 0, 1) := by decide +kernel
theorem d_M_size_2 : decode b_M_size 2 = .ok (.iload_n 1, 1) := by decide +kernel
theorem d_M_size_3 : decode b_M_size 3 = .ok (.invokevirtual 35, 3) := by decide +kernel
theorem d_M_size_6 : decode b_M_size 6 = .ok (.ifCond .eq 7, 3) := by decide +kernel
theorem d_M_size_9 : decode b_M_size 9 = .ok (.iconst 0, 1) := by decide +kernel
theorem d_M_size_10 : decode b_M_size 10 = .ok (.goto 4, 3) := by decide +kernel
theorem d_M_size_13 : decode b_M_size 13 = .ok (.iconst 1, 1) := by decide +kernel
theorem d_M_size_14 : decode b_M_size 14 = .ok (.invokevirtual 50, 3) := by decide +kernel
theorem d_M_size_17 : decode b_M_size 17 = .ok (.ifCond .eq 7, 3) := by decide +kernel
theorem d_M_size_20 : decode b_M_size 20 = .ok (.iconst 0, 1) := by decide +kernel
theorem d_M_size_21 : decode b_M_size 21 = .ok (.goto 9, 3) := by decide +kernel
theorem d_M_size_24 : decode b_M_size 24 = .ok (.aload_n 0, 1) := by decide +kernel
theorem d_M_size_25 : decode b_M_size 25 = .ok (.getfield 16, 3) := by decide +kernel
theorem d_M_size_28 : decode b_M_size 28 = .ok (.iload_n 1, 1) := by decide +kernel
theorem d_M_size_29 : decode b_M_size 29 = .ok (.iaload, 1) := by decide +kernel
theorem d_M_size_30 : decode b_M_size 30 = .ok (.ireturn, 1) := by decide +kernel
theorem d_M_parts_0 : decode b_M_parts 0 = .ok (.aload_n 0, 1) := by decide +kernel
theorem d_M_parts_1 : decode b_M_parts 1 = .ok (.aload_n 0, 1) := by decide +kernel
theorem d_M_parts_2 : decode b_M_parts 2 = .ok (.iload_n 1, 1) := by decide +kernel
theorem d_M_parts_3 : decode b_M_parts 3 = .ok (.invokevirtual 35, 3) := by decide +kernel
theorem d_M_parts_6 : decode b_M_parts 6 = .ok (.ifCond .eq 7, 3) := by decide +kernel
theorem d_M_parts_9 : decode b_M_parts 9 = .ok (.iconst 0, 1) := by decide +kernel
theorem d_M_parts_10 : decode b_M_parts 10 = .ok (.goto 4, 3) := by decide +kernel
theorem d_M_parts_13 : decode b_M_parts 13 = .ok (.iconst 1, 1) := by decide +kernel
theorem d_M_parts_14 : decode b_M_parts 14 = .ok (.invokevirtual 50, 3) := by decide +kernel
theorem d_M_parts_17 : decode b_M_parts 17 = .ok (.ifCond .eq 5, 3) := by decide +kernel
theorem d_M_parts_20 : decode b_M_parts 20 = .ok (.iconst 0, 1) := by decide +kernel
theorem d_M_parts_21 : decode b_M_parts 21 = .ok (.ireturn, 1) := by decide +kernel
theorem d_M_parts_22 : decode b_M_parts 22 = .ok (.aload_n 0, 1) := by decide +kernel
theorem d_M_parts_23 : decode b_M_parts 23 = .ok (.getfield 7, 3) := by decide +kernel
theorem d_M_parts_26 : decode b_M_parts 26 = .ok (.iload_n 1, 1) := by decide +kernel
theorem d_M_parts_27 : decode b_M_parts 27 = .ok (.iaload, 1) := by decide +kernel
theorem d_M_parts_28 : decode b_M_parts 28 = .ok (.iconst 2, 1) := by decide +kernel
theorem d_M_parts_29 : decode b_M_parts 29 = .ok (.if_icmp .ne 24, 3) := by decide +kernel
theorem d_M_parts_32 : decode b_M_parts 32 = .ok (.aload_n 0, 1) := by decide +kernel
theorem d_M_parts_33 : decode b_M_parts 33 = .ok (.getfield 13, 3) := by decide +kernel
theorem d_M_parts_36 : decode b_M_parts 36 = .ok (.iload_n 1, 1) := by decide +kernel
theorem d_M_parts_37 : decode b_M_parts 37 = .ok (.iaload, 1) := by decide +kernel
theorem d_M_parts_38 : decode b_M_parts 38 = .ok (.ifCond .ne 15, 3) := by decide +kernel
theorem d_M_parts_41 : decode b_M_parts 41 = .ok (.aload_n 0, 1) := by decide +kernel
theorem d_M_parts_42 : decode b_M_parts 42 = .ok (.getfield 25, 3) := by decide +kernel
theorem d_M_parts_45 : decode b_M_parts 45 = .ok (.aload_n 0, 1) := by decide +kernel
theorem d_M_parts_46 : decode b_M_parts 46 = .ok (.getfield 16, 3) := by decide +kernel
theorem d_M_parts_49 : decode b_M_parts 49 = .ok (.iload_n 1, 1) := by decide +kernel
theorem d_M_parts_50 : decode b_M_parts 50 = .ok (.iaload, 1) := by decide +kernel
theorem d_M_parts_51 : decode b_M_parts 51 = .ok (.iaload, 1) := by decide +kernel
theorem d_M_parts_52 : decode b_M_parts 52 = .ok (.ireturn, 1) := by decide +kernel
theorem d_M_parts_53 : decode b_M_parts 53 = .ok (.aload_n 0, 1) := by decide +kernel
theorem d_M_parts_54 : decode b_M_parts 54 = .ok (.getfield 7, 3) := by decide +kernel
theorem d_M_parts_57 : decode b_M_parts 57 = .ok (.iload_n 1, 1) := by decide +kernel
theorem d_M_parts_58 : decode b_M_parts 58 = .ok (.iaload, 1) := by decide +kernel
theorem d_M_parts_59 : decode b_M_parts 59 = .ok (.iconst 1, 1) := by decide +kernel
theorem d_M_parts_60 : decode b_M_parts 60 = .ok (.if_icmp .eq 13, 3) := by decide +kernel
theorem d_M_parts_63 : decode b_M_parts 63 = .ok (.aload_n 0, 1) := by decide +kernel
theorem d_M_parts_64 : decode b_M_parts 64 = .ok (.getfield 7, 3) := by decide +kernel
theorem d_M_parts_67 : decode b_M_parts 67 = .ok (.iload_n 1, 1) := by decide +kernel
theorem d_M_parts_68 : decode b_M_parts 68 = .ok (.iaload, 1) := by decide +kernel
theorem d_M_parts_69 : decode b_M_parts 69 = .ok (.iconst 2, 1) := by decide +kernel
theorem d_M_parts_70 : decode b_M_parts 70 = .ok (.if_icmp .ne 17, 3) := by decide +kernel
theorem d_M_parts_73 : decode b_M_parts 73 = .ok (.aload_n 0, 1) := by decide +kernel
theorem d_M_parts_74 : decode b_M_parts 74 = .ok (.getfield 13, 3) := by decide +kernel
theorem d_M_parts_77 : decode b_M_parts 77 = .ok (.iload_n 1, 1) := by decide +kernel
theorem d_M_parts_78 : decode b_M_parts 78 = .ok (.iaload, 1) := by decide +kernel
theorem d_M_parts_79 : decode b_M_parts 79 = .ok (.iconst 1, 1) := by decide +kernel
theorem d_M_parts_80 : decode b_M_parts 80 = .ok (.if_icmp .ne 7, 3) := by decide +kernel
theorem d_M_parts_83 : decode b_M_parts 83 = .ok (.iconst 1, 1) := by decide +kernel
theorem d_M_parts_84 : decode b_M_parts 84 = .ok (.goto 4, 3) := by decide +kernel
theorem d_M_parts_87 : decode b_M_parts 87 = .ok (.iconst 0, 1) := by decide +kernel
theorem d_M_parts_88 : decode b_M_parts 88 = .ok (.istore_n 2, 1) := by decide +kernel
theorem d_M_parts_89 : decode b_M_parts 89 = .ok (.iload_n 2, 1) := by decide +kernel
theorem d_M_parts_90 : decode b_M_parts 90 = .ok (.ifCond .eq 15, 3) := by decide +kernel
theorem d_M_parts_93 : decode b_M_parts 93 = .ok (.aload_n 0, 1) := by decide +kernel
theorem d_M_parts_94 : decode b_M_parts 94 = .ok (.getfield 16, 3) := by decide +kernel
theorem d_M_parts_97 : decode b_M_parts 97 = .ok (.iload_n 1, 1) := by decide +kernel
theorem d_M_parts_98 : decode b_M_parts 98 = .ok (.iaload, 1) := by decide +kernel
theorem d_M_parts_99 : decode b_M_parts 99 = .ok (.invokestatic 74, 3) := by decide +kernel
theorem d_M_parts_102 : decode b_M_parts 102 = .ok (.goto 17, 3) := by decide +kernel
theorem d_M_parts_105 : decode b_M_parts 105 = .ok (.aload_n 0, 1) := by decide +kernel
theorem d_M_parts_106 : decode b_M_parts 106 = .ok (.getfield 16, 3) := by decide +kernel
theorem d_M_parts_109 : decode b_M_parts 109 = .ok (.iload_n 1, 1) := by decide +kernel
theorem d_M_parts_110 : decode b_M_parts 110 = .ok (.iaload, 1) := by decide +kernel
theorem d_M_parts_111 : decode b_M_parts 111 = .ok (.ifCond .le 7, 3) := by decide +kernel
theorem d_M_parts_114 : decode b_M_parts 114 = .ok (.iconst 1, 1) := by decide +kernel
theorem d_M_parts_115 : decode b_M_parts 115 = .ok (.goto 4, 3) := by decide +kernel
theorem d_M_parts_118 : decode b_M_parts 118 = .ok (.iconst 0, 1) := by decide +kernel
theorem d_M_parts_119 : decode b_M_parts 119 = .ok (.ireturn, 1) := by decide +kernel
theorem d_M_bits_0 : decode b_M_bits 0 = .ok (.iconst 0, 1) := by decide +kernel
theorem d_M_bits_1 : decode b_M_bits 1 = .ok (.istore_n 1, 1) := by decide +kernel
theorem d_M_bits_2 : decode b_M_bits 2 = .ok (.iload_n 0, 1) := by decide +kernel
theorem d_M_bits_3 : decode b_M_bits 3 = .ok (.istore_n 2, 1) := by decide +kernel
theorem d_M_bits_4 : decode b_M_bits 4 = .ok (.iload_n 2, 1) := by decide +kernel
theorem d_M_bits_5 : decode b_M_bits 5 = .ok (.ifCond .le 16, 3) := by decide +kernel
theorem d_M_bits_8 : decode b_M_bits 8 = .ok (.iload_n 1, 1) := by decide +kernel
theorem d_M_bits_9 : decode b_M_bits 9 = .ok (.iload_n 2, 1) := by decide +kernel
theorem d_M_bits_10 : decode b_M_bits 10 = .ok (.iconst 2, 1) := by decide +kernel
theorem d_M_bits_11 : decode b_M_bits 11 = .ok (.irem, 1) := by decide +kernel
theorem d_M_bits_12 : decode b_M_bits 12 = .ok (.iadd, 1) := by decide +kernel
theorem d_M_bits_13 : decode b_M_bits 13 = .ok (.istore_n 1, 1) := by decide +kernel
theorem d_M_bits_14 : decode b_M_bits 14 = .ok (.iload_n 2, 1) := by decide +kernel
theorem d_M_bits_15 : decode b_M_bits 15 = .ok (.iconst 2, 1) := by decide +kernel
theorem d_M_bits_16 : decode b_M_bits 16 = .ok (.idiv, 1) := by decide +kernel
theorem d_M_bits_17 : decode b_M_bits 17 = .ok (.istore_n 2, 1) := by decide +kernel
theorem d_M_bits_18 : decode b_M_bits 18 = .ok (.goto (-14), 3) := by decide +kernel
theorem d_M_bits_21 : decode b_M_bits 21 = .ok (.iload_n 1, 1) := by decide +kernel
theorem d_M_bits_22 : decode b_M_bits 22 = .ok (.ireturn, 1) := by decide +kernel
theorem d_M_kind_0 : decode b_M_kind 0 = .ok (.aload_n 0, 1) := by decide +kernel
theorem d_M_kind_1 : decode b_M_kind 1 = .ok (.aload_n 0, 1) := by decide +kernel
theorem d_M_kind_2 : decode b_M_kind 2 = .ok (.iload_n 1, 1) := by decide +kernel
theorem d_M_kind_3 : decode b_M_kind 3 = .ok (.invokevirtual 35, 3) := by decide +kernel
theorem d_M_kind_6 : decode b_M_kind 6 = .ok (.ifCond .eq 7, 3) := by decide +kernel
theorem d_M_kind_9 : decode b_M_kind 9 = .ok (.iconst 0, 1) := by decide +kernel
theorem d_M_kind_10 : decode b_M_kind 10 = .ok (.goto 4, 3) := by decide +kernel
theorem d_M_kind_13 : decode b_M_kind 13 = .ok (.iconst 1, 1) := by decide +kernel
theorem d_M_kind_14 : decode b_M_kind 14 = .ok (.invokevirtual 50, 3) := by decide +kernel
theorem d_M_kind_17 : decode b_M_kind 17 = .ok (.ifCond .eq 7, 3) := by decide +kernel
theorem d_M_kind_20 : decode b_M_kind 20 = .ok (.iconst 0, 1) := by decide +kernel
theorem d_M_kind_21 : decode b_M_kind 21 = .ok (.goto 19, 3) := by decide +kernel
theorem d_M_kind_24 : decode b_M_kind 24 = .ok (.bipush 10, 2) := by decide +kernel
theorem d_M_kind_26 : decode b_M_kind 26 = .ok (.aload_n 0, 1) := by decide +kernel
theorem d_M_kind_27 : decode b_M_kind 27 = .ok (.getfield 7, 3) := by decide +kernel
theorem d_M_kind_30 : decode b_M_kind 30 = .ok (.iload_n 1, 1) := by decide +kernel
theorem d_M_kind_31 : decode b_M_kind 31 = .ok (.iaload, 1) := by decide +kernel
theorem d_M_kind_32 : decode b_M_kind 32 = .ok (.imul, 1) := by decide +kernel
theorem d_M_kind_33 : decode b_M_kind 33 = .ok (.aload_n 0, 1) := by decide +kernel
theorem d_M_kind_34 : decode b_M_kind 34 = .ok (.getfield 13, 3) := by decide +kernel
theorem d_M_kind_37 : decode b_M_kind 37 = .ok (.iload_n 1, 1) := by decide +kernel
theorem d_M_kind_38 : decode b_M_kind 38 = .ok (.iaload, 1) := by decide +kernel
theorem d_M_kind_39 : decode b_M_kind 39 = .ok (.iadd, 1) := by decide +kernel
theorem d_M_kind_40 : decode b_M_kind 40 = .ok (.ireturn, 1) := by decide +kernel
theorem d_M_versions_0 : decode b_M_versions 0 = .ok (.aload_n 0, 1) := by decide +kernel
theorem d_M_versions_1 : decode b_M_versions 1 = .ok (.iconst 0, 1) := by decide +kernel
theorem d_M_versions_2 : decode b_M_versions 2 = .ok (.putfield 28, 3) := by decide +kernel
theorem d_M_versions_5 : decode b_M_versions 5 = .ok (.aload_n 0, 1) := by decide +kernel
theorem d_M_versions_6 : decode b_M_versions 6 = .ok (.getfield 32, 3) := by decide +kernel
theorem d_M_versions_9 : decode b_M_versions 9 = .ok (.ireturn, 1) := by decide +kernel
end
section
theorem d_law_0 : decode code 0 = .ok (.new 8, 3) := by decide +kernel
theorem d_law_3 : decode code 3 = .ok (.dup, 1) := by decide +kernel
theorem d_law_4 : decode code 4 = .ok (.invokespecial 56, 3) := by decide +kernel
theorem d_law_7 : decode code 7 = .ok (.astore_n 1, 1) := by decide +kernel
theorem d_law_8 : decode code 8 = .ok (.new 57, 3) := by decide +kernel
theorem d_law_11 : decode code 11 = .ok (.dup, 1) := by decide +kernel
theorem d_law_12 : decode code 12 = .ok (.invokespecial 59, 3) := by decide +kernel
theorem d_law_15 : decode code 15 = .ok (.astore_n 2, 1) := by decide +kernel
theorem d_law_16 : decode code 16 = .ok (.iconst 1, 1) := by decide +kernel
theorem d_law_17 : decode code 17 = .ok (.newarray .long, 2) := by decide +kernel
theorem d_law_19 : decode code 19 = .ok (.astore_n 3, 1) := by decide +kernel
theorem d_law_20 : decode code 20 = .ok (.iconst 0, 1) := by decide +kernel
theorem d_law_21 : decode code 21 = .ok (.istore 4, 2) := by decide +kernel
theorem d_law_23 : decode code 23 = .ok (.iload 4, 2) := by decide +kernel
theorem d_law_25 : decode code 25 = .ok (.aload_n 0, 1) := by decide +kernel
theorem d_law_26 : decode code 26 = .ok (.arraylength, 1) := by decide +kernel
theorem d_law_27 : decode code 27 = .ok (.iconst 4, 1) := by decide +kernel
theorem d_law_28 : decode code 28 = .ok (.isub, 1) := by decide +kernel
theorem d_law_29 : decode code 29 = .ok (.if_icmp .gt 874, 3) := by decide +kernel
theorem d_law_32 : decode code 32 = .ok (.aload_n 0, 1) := by decide +kernel
theorem d_law_33 : decode code 33 = .ok (.iload 4, 2) := by decide +kernel
theorem d_law_35 : decode code 35 = .ok (.iaload, 1) := by decide +kernel
theorem d_law_36 : decode code 36 = .ok (.bipush 15, 2) := by decide +kernel
theorem d_law_38 : decode code 38 = .ok (.iand, 1) := by decide +kernel
theorem d_law_39 : decode code 39 = .ok (.tableswitch 858 0 12 #[65, 133, 201, 257, 313, 381, 461, 529, 609, 677, 733, 789, 845], 65) := by decide +kernel
theorem d_law_104 : decode code 104 = .ok (.aload_n 1, 1) := by decide +kernel
theorem d_law_105 : decode code 105 = .ok (.aload_n 0, 1) := by decide +kernel
theorem d_law_106 : decode code 106 = .ok (.iload 4, 2) := by decide +kernel
theorem d_law_108 : decode code 108 = .ok (.iconst 1, 1) := by decide +kernel
theorem d_law_109 : decode code 109 = .ok (.iadd, 1) := by decide +kernel
theorem d_law_110 : decode code 110 = .ok (.iaload, 1) := by decide +kernel
theorem d_law_111 : decode code 111 = .ok (.aload_n 0, 1) := by decide +kernel
theorem d_law_112 : decode code 112 = .ok (.iload 4, 2) := by decide +kernel
theorem d_law_114 : decode code 114 = .ok (.iconst 2, 1) := by decide +kernel
theorem d_law_115 : decode code 115 = .ok (.iadd, 1) := by decide +kernel
theorem d_law_116 : decode code 116 = .ok (.iaload, 1) := by decide +kernel
theorem d_law_117 : decode code 117 = .ok (.aload_n 3, 1) := by decide +kernel
theorem d_law_118 : decode code 118 = .ok (.invokestatic 60, 3) := by decide +kernel
theorem d_law_121 : decode code 121 = .ok (.istore 5, 2) := by decide +kernel
theorem d_law_123 : decode code 123 = .ok (.aload_n 2, 1) := by decide +kernel
theorem d_law_124 : decode code 124 = .ok (.aload_n 0, 1) := by decide +kernel
theorem d_law_125 : decode code 125 = .ok (.iload 4, 2) := by decide +kernel
theorem d_law_127 : decode code 127 = .ok (.iconst 1, 1) := by decide +kernel
theorem d_law_128 : decode code 128 = .ok (.iadd, 1) := by decide +kernel
theorem d_law_129 : decode code 129 = .ok (.iaload, 1) := by decide +kernel
theorem d_law_130 : decode code 130 = .ok (.aload_n 0, 1) := by decide +kernel
theorem d_law_131 : decode code 131 = .ok (.iload 4, 2) := by decide +kernel
theorem d_law_133 : decode code 133 = .ok (.iconst 2, 1) := by decide +kernel
theorem d_law_134 : decode code 134 = .ok (.iadd, 1) := by decide +kernel
theorem d_law_135 : decode code 135 = .ok (.iaload, 1) := by decide +kernel
theorem d_law_136 : decode code 136 = .ok (.invokevirtual 65, 3) := by decide +kernel
theorem d_law_139 : decode code 139 = .ok (.istore 6, 2) := by decide +kernel
theorem d_law_141 : decode code 141 = .ok (.aload_n 2, 1) := by decide +kernel
theorem d_law_142 : decode code 142 = .ok (.invokevirtual 66, 3) := by decide +kernel
theorem d_law_145 : decode code 145 = .ok (.iload 5, 2) := by decide +kernel
theorem d_law_147 : decode code 147 = .ok (.if_icmp .eq 5, 3) := by decide +kernel
theorem d_law_150 : decode code 150 = .ok (.iconst 0, 1) := by decide +kernel
theorem d_law_151 : decode code 151 = .ok (.ireturn, 1) := by decide +kernel
theorem d_law_152 : decode code 152 = .ok (.iload 5, 2) := by decide +kernel
theorem d_law_154 : decode code 154 = .ok (.ifCond .ne 15, 3) := by decide +kernel
theorem d_law_157 : decode code 157 = .ok (.aload_n 3, 1) := by decide +kernel
theorem d_law_158 : decode code 158 = .ok (.iconst 0, 1) := by decide +kernel
theorem d_law_159 : decode code 159 = .ok (.laload, 1) := by decide +kernel
theorem d_law_160 : decode code 160 = .ok (.iload 6, 2) := by decide +kernel
theorem d_law_162 : decode code 162 = .ok (.i2l, 1) := by decide +kernel
theorem d_law_163 : decode code 163 = .ok (.lcmp, 1) := by decide +kernel
theorem d_law_164 : decode code 164 = .ok (.ifCond .eq 5, 3) := by decide +kernel
theorem d_law_167 : decode code 167 = .ok (.iconst 0, 1) := by decide +kernel
theorem d_law_168 : decode code 168 = .ok (.ireturn, 1) := by decide +kernel
theorem d_law_169 : decode code 169 = .ok (.goto 728, 3) := by decide +kernel
theorem d_law_172 : decode code 172 = .ok (.aload_n 1, 1) := by decide +kernel
theorem d_law_173 : decode code 173 = .ok (.aload_n 0, 1) := by decide +kernel
theorem d_law_174 : decode code 174 = .ok (.iload 4, 2) := by decide +kernel
theorem d_law_176 : decode code 176 = .ok (.iconst 1, 1) := by decide +kernel
theorem d_law_177 : decode code 177 = .ok (.iadd, 1) := by decide +kernel
theorem d_law_178 : decode code 178 = .ok (.iaload, 1) := by decide +kernel
theorem d_law_179 : decode code 179 = .ok (.aload_n 0, 1) := by decide +kernel
theorem d_law_180 : decode code 180 = .ok (.iload 4, 2) := by decide +kernel
theorem d_law_182 : decode code 182 = .ok (.iconst 2, 1) := by decide +kernel
theorem d_law_183 : decode code 183 = .ok (.iadd, 1) := by decide +kernel
theorem d_law_184 : decode code 184 = .ok (.iaload, 1) := by decide +kernel
theorem d_law_185 : decode code 185 = .ok (.aload_n 3, 1) := by decide +kernel
theorem d_law_186 : decode code 186 = .ok (.invokestatic 70, 3) := by decide +kernel
theorem d_law_189 : decode code 189 = .ok (.istore 5, 2) := by decide +kernel
theorem d_law_191 : decode code 191 = .ok (.aload_n 2, 1) := by decide +kernel
theorem d_law_192 : decode code 192 = .ok (.aload_n 0, 1) := by decide +kernel
theorem d_law_193 : decode code 193 = .ok (.iload 4, 2) := by decide +kernel
theorem d_law_195 : decode code 195 = .ok (.iconst 1, 1) := by decide +kernel
theorem d_law_196 : decode code 196 = .ok (.iadd, 1) := by decide +kernel
theorem d_law_197 : decode code 197 = .ok (.iaload, 1) := by decide +kernel
theorem d_law_198 : decode code 198 = .ok (.aload_n 0, 1) := by decide +kernel
theorem d_law_199 : decode code 199 = .ok (.iload 4, 2) := by decide +kernel
theorem d_law_201 : decode code 201 = .ok (.iconst 2, 1) := by decide +kernel
theorem d_law_202 : decode code 202 = .ok (.iadd, 1) := by decide +kernel
theorem d_law_203 : decode code 203 = .ok (.iaload, 1) := by decide +kernel
theorem d_law_204 : decode code 204 = .ok (.invokevirtual 72, 3) := by decide +kernel
theorem d_law_207 : decode code 207 = .ok (.istore 6, 2) := by decide +kernel
theorem d_law_209 : decode code 209 = .ok (.aload_n 2, 1) := by decide +kernel
theorem d_law_210 : decode code 210 = .ok (.invokevirtual 66, 3) := by decide +kernel
theorem d_law_213 : decode code 213 = .ok (.iload 5, 2) := by decide +kernel
theorem d_law_215 : decode code 215 = .ok (.if_icmp .eq 5, 3) := by decide +kernel
theorem d_law_218 : decode code 218 = .ok (.iconst 0, 1) := by decide +kernel
theorem d_law_219 : decode code 219 = .ok (.ireturn, 1) := by decide +kernel
theorem d_law_220 : decode code 220 = .ok (.iload 5, 2) := by decide +kernel
theorem d_law_222 : decode code 222 = .ok (.ifCond .ne 15, 3) := by decide +kernel
theorem d_law_225 : decode code 225 = .ok (.aload_n 3, 1) := by decide +kernel
theorem d_law_226 : decode code 226 = .ok (.iconst 0, 1) := by decide +kernel
theorem d_law_227 : decode code 227 = .ok (.laload, 1) := by decide +kernel
theorem d_law_228 : decode code 228 = .ok (.iload 6, 2) := by decide +kernel
theorem d_law_230 : decode code 230 = .ok (.i2l, 1) := by decide +kernel
theorem d_law_231 : decode code 231 = .ok (.lcmp, 1) := by decide +kernel
theorem d_law_232 : decode code 232 = .ok (.ifCond .eq 5, 3) := by decide +kernel
theorem d_law_235 : decode code 235 = .ok (.iconst 0, 1) := by decide +kernel
theorem d_law_236 : decode code 236 = .ok (.ireturn, 1) := by decide +kernel
theorem d_law_237 : decode code 237 = .ok (.goto 660, 3) := by decide +kernel
theorem d_law_240 : decode code 240 = .ok (.aload_n 1, 1) := by decide +kernel
theorem d_law_241 : decode code 241 = .ok (.aload_n 0, 1) := by decide +kernel
theorem d_law_242 : decode code 242 = .ok (.iload 4, 2) := by decide +kernel
theorem d_law_244 : decode code 244 = .ok (.iconst 1, 1) := by decide +kernel
theorem d_law_245 : decode code 245 = .ok (.iadd, 1) := by decide +kernel
theorem d_law_246 : decode code 246 = .ok (.iaload, 1) := by decide +kernel
theorem d_law_247 : decode code 247 = .ok (.aload_n 3, 1) := by decide +kernel
theorem d_law_248 : decode code 248 = .ok (.invokestatic 73, 3) := by decide +kernel
theorem d_law_251 : decode code 251 = .ok (.istore 5, 2) := by decide +kernel
theorem d_law_253 : decode code 253 = .ok (.aload_n 2, 1) := by decide +kernel
theorem d_law_254 : decode code 254 = .ok (.aload_n 0, 1) := by decide +kernel
theorem d_law_255 : decode code 255 = .ok (.iload 4, 2) := by decide +kernel
theorem d_law_257 : decode code 257 = .ok (.iconst 1, 1) := by decide +kernel
theorem d_law_258 : decode code 258 = .ok (.iadd, 1) := by decide +kernel
theorem d_law_259 : decode code 259 = .ok (.iaload, 1) := by decide +kernel
theorem d_law_260 : decode code 260 = .ok (.invokevirtual 76, 3) := by decide +kernel
theorem d_law_263 : decode code 263 = .ok (.istore 6, 2) := by decide +kernel
theorem d_law_265 : decode code 265 = .ok (.aload_n 2, 1) := by decide +kernel
theorem d_law_266 : decode code 266 = .ok (.invokevirtual 66, 3) := by decide +kernel
theorem d_law_269 : decode code 269 = .ok (.iload 5, 2) := by decide +kernel
theorem d_law_271 : decode code 271 = .ok (.if_icmp .eq 5, 3) := by decide +kernel
theorem d_law_274 : decode code 274 = .ok (.iconst 0, 1) := by decide +kernel
theorem d_law_275 : decode code 275 = .ok (.ireturn, 1) := by decide +kernel
theorem d_law_276 : decode code 276 = .ok (.iload 5, 2) := by decide +kernel
theorem d_law_278 : decode code 278 = .ok (.ifCond .ne 15, 3) := by decide +kernel
theorem d_law_281 : decode code 281 = .ok (.aload_n 3, 1) := by decide +kernel
theorem d_law_282 : decode code 282 = .ok (.iconst 0, 1) := by decide +kernel
theorem d_law_283 : decode code 283 = .ok (.laload, 1) := by decide +kernel
theorem d_law_284 : decode code 284 = .ok (.iload 6, 2) := by decide +kernel
theorem d_law_286 : decode code 286 = .ok (.i2l, 1) := by decide +kernel
theorem d_law_287 : decode code 287 = .ok (.lcmp, 1) := by decide +kernel
theorem d_law_288 : decode code 288 = .ok (.ifCond .eq 5, 3) := by decide +kernel
theorem d_law_291 : decode code 291 = .ok (.iconst 0, 1) := by decide +kernel
theorem d_law_292 : decode code 292 = .ok (.ireturn, 1) := by decide +kernel
theorem d_law_293 : decode code 293 = .ok (.goto 604, 3) := by decide +kernel
end
section
theorem d_law_296 : decode code 296 = .ok (.aload_n 1, 1) := by decide +kernel
theorem d_law_297 : decode code 297 = .ok (.aload_n 0, 1) := by decide +kernel
theorem d_law_298 : decode code 298 = .ok (.iload 4, 2) := by decide +kernel
theorem d_law_300 : decode code 300 = .ok (.iconst 1, 1) := by decide +kernel
theorem d_law_301 : decode code 301 = .ok (.iadd, 1) := by decide +kernel
theorem d_law_302 : decode code 302 = .ok (.iaload, 1) := by decide +kernel
theorem d_law_303 : decode code 303 = .ok (.aload_n 3, 1) := by decide +kernel
theorem d_law_304 : decode code 304 = .ok (.invokestatic 77, 3) := by decide +kernel
theorem d_law_307 : decode code 307 = .ok (.istore 5, 2) := by decide +kernel
theorem d_law_309 : decode code 309 = .ok (.aload_n 2, 1) := by decide +kernel
theorem d_law_310 : decode code 310 = .ok (.aload_n 0, 1) := by decide +kernel
theorem d_law_311 : decode code 311 = .ok (.iload 4, 2) := by decide +kernel
theorem d_law_313 : decode code 313 = .ok (.iconst 1, 1) := by decide +kernel
theorem d_law_314 : decode code 314 = .ok (.iadd, 1) := by decide +kernel
theorem d_law_315 : decode code 315 = .ok (.iaload, 1) := by decide +kernel
theorem d_law_316 : decode code 316 = .ok (.invokevirtual 79, 3) := by decide +kernel
theorem d_law_319 : decode code 319 = .ok (.istore 6, 2) := by decide +kernel
theorem d_law_321 : decode code 321 = .ok (.aload_n 2, 1) := by decide +kernel
theorem d_law_322 : decode code 322 = .ok (.invokevirtual 66, 3) := by decide +kernel
theorem d_law_325 : decode code 325 = .ok (.iload 5, 2) := by decide +kernel
theorem d_law_327 : decode code 327 = .ok (.if_icmp .eq 5, 3) := by decide +kernel
theorem d_law_330 : decode code 330 = .ok (.iconst 0, 1) := by decide +kernel
theorem d_law_331 : decode code 331 = .ok (.ireturn, 1) := by decide +kernel
theorem d_law_332 : decode code 332 = .ok (.iload 5, 2) := by decide +kernel
theorem d_law_334 : decode code 334 = .ok (.ifCond .ne 15, 3) := by decide +kernel
theorem d_law_337 : decode code 337 = .ok (.aload_n 3, 1) := by decide +kernel
theorem d_law_338 : decode code 338 = .ok (.iconst 0, 1) := by decide +kernel
theorem d_law_339 : decode code 339 = .ok (.laload, 1) := by decide +kernel
theorem d_law_340 : decode code 340 = .ok (.iload 6, 2) := by decide +kernel
theorem d_law_342 : decode code 342 = .ok (.i2l, 1) := by decide +kernel
theorem d_law_343 : decode code 343 = .ok (.lcmp, 1) := by decide +kernel
theorem d_law_344 : decode code 344 = .ok (.ifCond .eq 5, 3) := by decide +kernel
theorem d_law_347 : decode code 347 = .ok (.iconst 0, 1) := by decide +kernel
theorem d_law_348 : decode code 348 = .ok (.ireturn, 1) := by decide +kernel
theorem d_law_349 : decode code 349 = .ok (.goto 548, 3) := by decide +kernel
theorem d_law_352 : decode code 352 = .ok (.aload_n 1, 1) := by decide +kernel
theorem d_law_353 : decode code 353 = .ok (.aload_n 0, 1) := by decide +kernel
theorem d_law_354 : decode code 354 = .ok (.iload 4, 2) := by decide +kernel
theorem d_law_356 : decode code 356 = .ok (.iconst 1, 1) := by decide +kernel
theorem d_law_357 : decode code 357 = .ok (.iadd, 1) := by decide +kernel
theorem d_law_358 : decode code 358 = .ok (.iaload, 1) := by decide +kernel
theorem d_law_359 : decode code 359 = .ok (.aload_n 0, 1) := by decide +kernel
theorem d_law_360 : decode code 360 = .ok (.iload 4, 2) := by decide +kernel
theorem d_law_362 : decode code 362 = .ok (.iconst 2, 1) := by decide +kernel
theorem d_law_363 : decode code 363 = .ok (.iadd, 1) := by decide +kernel
theorem d_law_364 : decode code 364 = .ok (.iaload, 1) := by decide +kernel
theorem d_law_365 : decode code 365 = .ok (.aload_n 3, 1) := by decide +kernel
theorem d_law_366 : decode code 366 = .ok (.invokestatic 80, 3) := by decide +kernel
theorem d_law_369 : decode code 369 = .ok (.istore 5, 2) := by decide +kernel
theorem d_law_371 : decode code 371 = .ok (.aload_n 2, 1) := by decide +kernel
theorem d_law_372 : decode code 372 = .ok (.aload_n 0, 1) := by decide +kernel
theorem d_law_373 : decode code 373 = .ok (.iload 4, 2) := by decide +kernel
theorem d_law_375 : decode code 375 = .ok (.iconst 1, 1) := by decide +kernel
theorem d_law_376 : decode code 376 = .ok (.iadd, 1) := by decide +kernel
theorem d_law_377 : decode code 377 = .ok (.iaload, 1) := by decide +kernel
theorem d_law_378 : decode code 378 = .ok (.aload_n 0, 1) := by decide +kernel
theorem d_law_379 : decode code 379 = .ok (.iload 4, 2) := by decide +kernel
theorem d_law_381 : decode code 381 = .ok (.iconst 2, 1) := by decide +kernel
theorem d_law_382 : decode code 382 = .ok (.iadd, 1) := by decide +kernel
theorem d_law_383 : decode code 383 = .ok (.iaload, 1) := by decide +kernel
theorem d_law_384 : decode code 384 = .ok (.invokevirtual 82, 3) := by decide +kernel
theorem d_law_387 : decode code 387 = .ok (.istore 6, 2) := by decide +kernel
theorem d_law_389 : decode code 389 = .ok (.aload_n 2, 1) := by decide +kernel
theorem d_law_390 : decode code 390 = .ok (.invokevirtual 66, 3) := by decide +kernel
theorem d_law_393 : decode code 393 = .ok (.iload 5, 2) := by decide +kernel
theorem d_law_395 : decode code 395 = .ok (.if_icmp .eq 5, 3) := by decide +kernel
theorem d_law_398 : decode code 398 = .ok (.iconst 0, 1) := by decide +kernel
theorem d_law_399 : decode code 399 = .ok (.ireturn, 1) := by decide +kernel
theorem d_law_400 : decode code 400 = .ok (.iload 5, 2) := by decide +kernel
theorem d_law_402 : decode code 402 = .ok (.ifCond .ne 15, 3) := by decide +kernel
theorem d_law_405 : decode code 405 = .ok (.aload_n 3, 1) := by decide +kernel
theorem d_law_406 : decode code 406 = .ok (.iconst 0, 1) := by decide +kernel
theorem d_law_407 : decode code 407 = .ok (.laload, 1) := by decide +kernel
theorem d_law_408 : decode code 408 = .ok (.iload 6, 2) := by decide +kernel
theorem d_law_410 : decode code 410 = .ok (.i2l, 1) := by decide +kernel
theorem d_law_411 : decode code 411 = .ok (.lcmp, 1) := by decide +kernel
theorem d_law_412 : decode code 412 = .ok (.ifCond .eq 5, 3) := by decide +kernel
theorem d_law_415 : decode code 415 = .ok (.iconst 0, 1) := by decide +kernel
theorem d_law_416 : decode code 416 = .ok (.ireturn, 1) := by decide +kernel
theorem d_law_417 : decode code 417 = .ok (.goto 480, 3) := by decide +kernel
theorem d_law_420 : decode code 420 = .ok (.aload_n 1, 1) := by decide +kernel
theorem d_law_421 : decode code 421 = .ok (.aload_n 0, 1) := by decide +kernel
theorem d_law_422 : decode code 422 = .ok (.iload 4, 2) := by decide +kernel
theorem d_law_424 : decode code 424 = .ok (.iconst 1, 1) := by decide +kernel
theorem d_law_425 : decode code 425 = .ok (.iadd, 1) := by decide +kernel
theorem d_law_426 : decode code 426 = .ok (.iaload, 1) := by decide +kernel
theorem d_law_427 : decode code 427 = .ok (.aload_n 0, 1) := by decide +kernel
theorem d_law_428 : decode code 428 = .ok (.iload 4, 2) := by decide +kernel
theorem d_law_430 : decode code 430 = .ok (.iconst 2, 1) := by decide +kernel
theorem d_law_431 : decode code 431 = .ok (.iadd, 1) := by decide +kernel
theorem d_law_432 : decode code 432 = .ok (.iaload, 1) := by decide +kernel
theorem d_law_433 : decode code 433 = .ok (.aload_n 0, 1) := by decide +kernel
theorem d_law_434 : decode code 434 = .ok (.iload 4, 2) := by decide +kernel
theorem d_law_436 : decode code 436 = .ok (.iconst 3, 1) := by decide +kernel
theorem d_law_437 : decode code 437 = .ok (.iadd, 1) := by decide +kernel
theorem d_law_438 : decode code 438 = .ok (.iaload, 1) := by decide +kernel
theorem d_law_439 : decode code 439 = .ok (.aload_n 3, 1) := by decide +kernel
theorem d_law_440 : decode code 440 = .ok (.invokestatic 83, 3) := by decide +kernel
theorem d_law_443 : decode code 443 = .ok (.istore 5, 2) := by decide +kernel
theorem d_law_445 : decode code 445 = .ok (.aload_n 2, 1) := by decide +kernel
theorem d_law_446 : decode code 446 = .ok (.aload_n 0, 1) := by decide +kernel
theorem d_law_447 : decode code 447 = .ok (.iload 4, 2) := by decide +kernel
theorem d_law_449 : decode code 449 = .ok (.iconst 1, 1) := by decide +kernel
theorem d_law_450 : decode code 450 = .ok (.iadd, 1) := by decide +kernel
theorem d_law_451 : decode code 451 = .ok (.iaload, 1) := by decide +kernel
theorem d_law_452 : decode code 452 = .ok (.aload_n 0, 1) := by decide +kernel
theorem d_law_453 : decode code 453 = .ok (.iload 4, 2) := by decide +kernel
theorem d_law_455 : decode code 455 = .ok (.iconst 2, 1) := by decide +kernel
theorem d_law_456 : decode code 456 = .ok (.iadd, 1) := by decide +kernel
theorem d_law_457 : decode code 457 = .ok (.iaload, 1) := by decide +kernel
theorem d_law_458 : decode code 458 = .ok (.aload_n 0, 1) := by decide +kernel
theorem d_law_459 : decode code 459 = .ok (.iload 4, 2) := by decide +kernel
theorem d_law_461 : decode code 461 = .ok (.iconst 3, 1) := by decide +kernel
theorem d_law_462 : decode code 462 = .ok (.iadd, 1) := by decide +kernel
theorem d_law_463 : decode code 463 = .ok (.iaload, 1) := by decide +kernel
theorem d_law_464 : decode code 464 = .ok (.invokevirtual 86, 3) := by decide +kernel
theorem d_law_467 : decode code 467 = .ok (.istore 6, 2) := by decide +kernel
theorem d_law_469 : decode code 469 = .ok (.aload_n 2, 1) := by decide +kernel
theorem d_law_470 : decode code 470 = .ok (.invokevirtual 66, 3) := by decide +kernel
theorem d_law_473 : decode code 473 = .ok (.iload 5, 2) := by decide +kernel
theorem d_law_475 : decode code 475 = .ok (.if_icmp .eq 5, 3) := by decide +kernel
theorem d_law_478 : decode code 478 = .ok (.iconst 0, 1) := by decide +kernel
theorem d_law_479 : decode code 479 = .ok (.ireturn, 1) := by decide +kernel
theorem d_law_480 : decode code 480 = .ok (.iload 5, 2) := by decide +kernel
theorem d_law_482 : decode code 482 = .ok (.ifCond .ne 15, 3) := by decide +kernel
theorem d_law_485 : decode code 485 = .ok (.aload_n 3, 1) := by decide +kernel
theorem d_law_486 : decode code 486 = .ok (.iconst 0, 1) := by decide +kernel
theorem d_law_487 : decode code 487 = .ok (.laload, 1) := by decide +kernel
theorem d_law_488 : decode code 488 = .ok (.iload 6, 2) := by decide +kernel
theorem d_law_490 : decode code 490 = .ok (.i2l, 1) := by decide +kernel
theorem d_law_491 : decode code 491 = .ok (.lcmp, 1) := by decide +kernel
theorem d_law_492 : decode code 492 = .ok (.ifCond .eq 5, 3) := by decide +kernel
theorem d_law_495 : decode code 495 = .ok (.iconst 0, 1) := by decide +kernel
theorem d_law_496 : decode code 496 = .ok (.ireturn, 1) := by decide +kernel
theorem d_law_497 : decode code 497 = .ok (.goto 400, 3) := by decide +kernel
theorem d_law_500 : decode code 500 = .ok (.aload_n 1, 1) := by decide +kernel
theorem d_law_501 : decode code 501 = .ok (.aload_n 0, 1) := by decide +kernel
theorem d_law_502 : decode code 502 = .ok (.iload 4, 2) := by decide +kernel
theorem d_law_504 : decode code 504 = .ok (.iconst 1, 1) := by decide +kernel
theorem d_law_505 : decode code 505 = .ok (.iadd, 1) := by decide +kernel
theorem d_law_506 : decode code 506 = .ok (.iaload, 1) := by decide +kernel
theorem d_law_507 : decode code 507 = .ok (.aload_n 0, 1) := by decide +kernel
theorem d_law_508 : decode code 508 = .ok (.iload 4, 2) := by decide +kernel
theorem d_law_510 : decode code 510 = .ok (.iconst 2, 1) := by decide +kernel
theorem d_law_511 : decode code 511 = .ok (.iadd, 1) := by decide +kernel
theorem d_law_512 : decode code 512 = .ok (.iaload, 1) := by decide +kernel
theorem d_law_513 : decode code 513 = .ok (.aload_n 3, 1) := by decide +kernel
theorem d_law_514 : decode code 514 = .ok (.invokestatic 87, 3) := by decide +kernel
theorem d_law_517 : decode code 517 = .ok (.istore 5, 2) := by decide +kernel
theorem d_law_519 : decode code 519 = .ok (.aload_n 2, 1) := by decide +kernel
end
section
theorem d_law_520 : decode code 520 = .ok (.aload_n 0, 1) := by decide +kernel
theorem d_law_521 : decode code 521 = .ok (.iload 4, 2) := by decide +kernel
theorem d_law_523 : decode code 523 = .ok (.iconst 1, 1) := by decide +kernel
theorem d_law_524 : decode code 524 = .ok (.iadd, 1) := by decide +kernel
theorem d_law_525 : decode code 525 = .ok (.iaload, 1) := by decide +kernel
theorem d_law_526 : decode code 526 = .ok (.aload_n 0, 1) := by decide +kernel
theorem d_law_527 : decode code 527 = .ok (.iload 4, 2) := by decide +kernel
theorem d_law_529 : decode code 529 = .ok (.iconst 2, 1) := by decide +kernel
theorem d_law_530 : decode code 530 = .ok (.iadd, 1) := by decide +kernel
theorem d_law_531 : decode code 531 = .ok (.iaload, 1) := by decide +kernel
theorem d_law_532 : decode code 532 = .ok (.invokevirtual 89, 3) := by decide +kernel
theorem d_law_535 : decode code 535 = .ok (.istore 6, 2) := by decide +kernel
theorem d_law_537 : decode code 537 = .ok (.aload_n 2, 1) := by decide +kernel
theorem d_law_538 : decode code 538 = .ok (.invokevirtual 66, 3) := by decide +kernel
theorem d_law_541 : decode code 541 = .ok (.iload 5, 2) := by decide +kernel
theorem d_law_543 : decode code 543 = .ok (.if_icmp .eq 5, 3) := by decide +kernel
theorem d_law_546 : decode code 546 = .ok (.iconst 0, 1) := by decide +kernel
theorem d_law_547 : decode code 547 = .ok (.ireturn, 1) := by decide +kernel
theorem d_law_548 : decode code 548 = .ok (.iload 5, 2) := by decide +kernel
theorem d_law_550 : decode code 550 = .ok (.ifCond .ne 15, 3) := by decide +kernel
theorem d_law_553 : decode code 553 = .ok (.aload_n 3, 1) := by decide +kernel
theorem d_law_554 : decode code 554 = .ok (.iconst 0, 1) := by decide +kernel
theorem d_law_555 : decode code 555 = .ok (.laload, 1) := by decide +kernel
theorem d_law_556 : decode code 556 = .ok (.iload 6, 2) := by decide +kernel
theorem d_law_558 : decode code 558 = .ok (.i2l, 1) := by decide +kernel
theorem d_law_559 : decode code 559 = .ok (.lcmp, 1) := by decide +kernel
theorem d_law_560 : decode code 560 = .ok (.ifCond .eq 5, 3) := by decide +kernel
theorem d_law_563 : decode code 563 = .ok (.iconst 0, 1) := by decide +kernel
theorem d_law_564 : decode code 564 = .ok (.ireturn, 1) := by decide +kernel
theorem d_law_565 : decode code 565 = .ok (.goto 332, 3) := by decide +kernel
theorem d_law_568 : decode code 568 = .ok (.aload_n 1, 1) := by decide +kernel
theorem d_law_569 : decode code 569 = .ok (.aload_n 0, 1) := by decide +kernel
theorem d_law_570 : decode code 570 = .ok (.iload 4, 2) := by decide +kernel
theorem d_law_572 : decode code 572 = .ok (.iconst 1, 1) := by decide +kernel
theorem d_law_573 : decode code 573 = .ok (.iadd, 1) := by decide +kernel
theorem d_law_574 : decode code 574 = .ok (.iaload, 1) := by decide +kernel
theorem d_law_575 : decode code 575 = .ok (.aload_n 0, 1) := by decide +kernel
theorem d_law_576 : decode code 576 = .ok (.iload 4, 2) := by decide +kernel
theorem d_law_578 : decode code 578 = .ok (.iconst 2, 1) := by decide +kernel
theorem d_law_579 : decode code 579 = .ok (.iadd, 1) := by decide +kernel
theorem d_law_580 : decode code 580 = .ok (.iaload, 1) := by decide +kernel
theorem d_law_581 : decode code 581 = .ok (.aload_n 0, 1) := by decide +kernel
theorem d_law_582 : decode code 582 = .ok (.iload 4, 2) := by decide +kernel
theorem d_law_584 : decode code 584 = .ok (.iconst 3, 1) := by decide +kernel
theorem d_law_585 : decode code 585 = .ok (.iadd, 1) := by decide +kernel
theorem d_law_586 : decode code 586 = .ok (.iaload, 1) := by decide +kernel
theorem d_law_587 : decode code 587 = .ok (.aload_n 3, 1) := by decide +kernel
theorem d_law_588 : decode code 588 = .ok (.invokestatic 90, 3) := by decide +kernel
theorem d_law_591 : decode code 591 = .ok (.istore 5, 2) := by decide +kernel
theorem d_law_593 : decode code 593 = .ok (.aload_n 2, 1) := by decide +kernel
theorem d_law_594 : decode code 594 = .ok (.aload_n 0, 1) := by decide +kernel
theorem d_law_595 : decode code 595 = .ok (.iload 4, 2) := by decide +kernel
theorem d_law_597 : decode code 597 = .ok (.iconst 1, 1) := by decide +kernel
theorem d_law_598 : decode code 598 = .ok (.iadd, 1) := by decide +kernel
theorem d_law_599 : decode code 599 = .ok (.iaload, 1) := by decide +kernel
theorem d_law_600 : decode code 600 = .ok (.aload_n 0, 1) := by decide +kernel
theorem d_law_601 : decode code 601 = .ok (.iload 4, 2) := by decide +kernel
theorem d_law_603 : decode code 603 = .ok (.iconst 2, 1) := by decide +kernel
theorem d_law_604 : decode code 604 = .ok (.iadd, 1) := by decide +kernel
theorem d_law_605 : decode code 605 = .ok (.iaload, 1) := by decide +kernel
theorem d_law_606 : decode code 606 = .ok (.aload_n 0, 1) := by decide +kernel
theorem d_law_607 : decode code 607 = .ok (.iload 4, 2) := by decide +kernel
theorem d_law_609 : decode code 609 = .ok (.iconst 3, 1) := by decide +kernel
theorem d_law_610 : decode code 610 = .ok (.iadd, 1) := by decide +kernel
theorem d_law_611 : decode code 611 = .ok (.iaload, 1) := by decide +kernel
theorem d_law_612 : decode code 612 = .ok (.invokevirtual 92, 3) := by decide +kernel
theorem d_law_615 : decode code 615 = .ok (.istore 6, 2) := by decide +kernel
theorem d_law_617 : decode code 617 = .ok (.aload_n 2, 1) := by decide +kernel
theorem d_law_618 : decode code 618 = .ok (.invokevirtual 66, 3) := by decide +kernel
theorem d_law_621 : decode code 621 = .ok (.iload 5, 2) := by decide +kernel
theorem d_law_623 : decode code 623 = .ok (.if_icmp .eq 5, 3) := by decide +kernel
theorem d_law_626 : decode code 626 = .ok (.iconst 0, 1) := by decide +kernel
theorem d_law_627 : decode code 627 = .ok (.ireturn, 1) := by decide +kernel
theorem d_law_628 : decode code 628 = .ok (.iload 5, 2) := by decide +kernel
theorem d_law_630 : decode code 630 = .ok (.ifCond .ne 15, 3) := by decide +kernel
theorem d_law_633 : decode code 633 = .ok (.aload_n 3, 1) := by decide +kernel
theorem d_law_634 : decode code 634 = .ok (.iconst 0, 1) := by decide +kernel
theorem d_law_635 : decode code 635 = .ok (.laload, 1) := by decide +kernel
theorem d_law_636 : decode code 636 = .ok (.iload 6, 2) := by decide +kernel
theorem d_law_638 : decode code 638 = .ok (.i2l, 1) := by decide +kernel
theorem d_law_639 : decode code 639 = .ok (.lcmp, 1) := by decide +kernel
theorem d_law_640 : decode code 640 = .ok (.ifCond .eq 5, 3) := by decide +kernel
theorem d_law_643 : decode code 643 = .ok (.iconst 0, 1) := by decide +kernel
theorem d_law_644 : decode code 644 = .ok (.ireturn, 1) := by decide +kernel
theorem d_law_645 : decode code 645 = .ok (.goto 252, 3) := by decide +kernel
theorem d_law_648 : decode code 648 = .ok (.aload_n 1, 1) := by decide +kernel
theorem d_law_649 : decode code 649 = .ok (.aload_n 0, 1) := by decide +kernel
theorem d_law_650 : decode code 650 = .ok (.iload 4, 2) := by decide +kernel
theorem d_law_652 : decode code 652 = .ok (.iconst 1, 1) := by decide +kernel
theorem d_law_653 : decode code 653 = .ok (.iadd, 1) := by decide +kernel
theorem d_law_654 : decode code 654 = .ok (.iaload, 1) := by decide +kernel
theorem d_law_655 : decode code 655 = .ok (.aload_n 0, 1) := by decide +kernel
theorem d_law_656 : decode code 656 = .ok (.iload 4, 2) := by decide +kernel
theorem d_law_658 : decode code 658 = .ok (.iconst 2, 1) := by decide +kernel
theorem d_law_659 : decode code 659 = .ok (.iadd, 1) := by decide +kernel
theorem d_law_660 : decode code 660 = .ok (.iaload, 1) := by decide +kernel
theorem d_law_661 : decode code 661 = .ok (.aload_n 3, 1) := by decide +kernel
theorem d_law_662 : decode code 662 = .ok (.invokestatic 93, 3) := by decide +kernel
theorem d_law_665 : decode code 665 = .ok (.istore 5, 2) := by decide +kernel
theorem d_law_667 : decode code 667 = .ok (.aload_n 2, 1) := by decide +kernel
theorem d_law_668 : decode code 668 = .ok (.aload_n 0, 1) := by decide +kernel
theorem d_law_669 : decode code 669 = .ok (.iload 4, 2) := by decide +kernel
theorem d_law_671 : decode code 671 = .ok (.iconst 1, 1) := by decide +kernel
theorem d_law_672 : decode code 672 = .ok (.iadd, 1) := by decide +kernel
theorem d_law_673 : decode code 673 = .ok (.iaload, 1) := by decide +kernel
theorem d_law_674 : decode code 674 = .ok (.aload_n 0, 1) := by decide +kernel
theorem d_law_675 : decode code 675 = .ok (.iload 4, 2) := by decide +kernel
theorem d_law_677 : decode code 677 = .ok (.iconst 2, 1) := by decide +kernel
theorem d_law_678 : decode code 678 = .ok (.iadd, 1) := by decide +kernel
theorem d_law_679 : decode code 679 = .ok (.iaload, 1) := by decide +kernel
theorem d_law_680 : decode code 680 = .ok (.invokevirtual 95, 3) := by decide +kernel
theorem d_law_683 : decode code 683 = .ok (.istore 6, 2) := by decide +kernel
theorem d_law_685 : decode code 685 = .ok (.aload_n 2, 1) := by decide +kernel
theorem d_law_686 : decode code 686 = .ok (.invokevirtual 66, 3) := by decide +kernel
theorem d_law_689 : decode code 689 = .ok (.iload 5, 2) := by decide +kernel
theorem d_law_691 : decode code 691 = .ok (.if_icmp .eq 5, 3) := by decide +kernel
theorem d_law_694 : decode code 694 = .ok (.iconst 0, 1) := by decide +kernel
theorem d_law_695 : decode code 695 = .ok (.ireturn, 1) := by decide +kernel
theorem d_law_696 : decode code 696 = .ok (.iload 5, 2) := by decide +kernel
theorem d_law_698 : decode code 698 = .ok (.ifCond .ne 15, 3) := by decide +kernel
theorem d_law_701 : decode code 701 = .ok (.aload_n 3, 1) := by decide +kernel
theorem d_law_702 : decode code 702 = .ok (.iconst 0, 1) := by decide +kernel
theorem d_law_703 : decode code 703 = .ok (.laload, 1) := by decide +kernel
theorem d_law_704 : decode code 704 = .ok (.iload 6, 2) := by decide +kernel
theorem d_law_706 : decode code 706 = .ok (.i2l, 1) := by decide +kernel
theorem d_law_707 : decode code 707 = .ok (.lcmp, 1) := by decide +kernel
theorem d_law_708 : decode code 708 = .ok (.ifCond .eq 5, 3) := by decide +kernel
theorem d_law_711 : decode code 711 = .ok (.iconst 0, 1) := by decide +kernel
theorem d_law_712 : decode code 712 = .ok (.ireturn, 1) := by decide +kernel
theorem d_law_713 : decode code 713 = .ok (.goto 184, 3) := by decide +kernel
theorem d_law_716 : decode code 716 = .ok (.aload_n 1, 1) := by decide +kernel
theorem d_law_717 : decode code 717 = .ok (.aload_n 0, 1) := by decide +kernel
theorem d_law_718 : decode code 718 = .ok (.iload 4, 2) := by decide +kernel
theorem d_law_720 : decode code 720 = .ok (.iconst 1, 1) := by decide +kernel
theorem d_law_721 : decode code 721 = .ok (.iadd, 1) := by decide +kernel
theorem d_law_722 : decode code 722 = .ok (.iaload, 1) := by decide +kernel
theorem d_law_723 : decode code 723 = .ok (.aload_n 3, 1) := by decide +kernel
theorem d_law_724 : decode code 724 = .ok (.invokestatic 96, 3) := by decide +kernel
theorem d_law_727 : decode code 727 = .ok (.istore 5, 2) := by decide +kernel
theorem d_law_729 : decode code 729 = .ok (.aload_n 2, 1) := by decide +kernel
theorem d_law_730 : decode code 730 = .ok (.aload_n 0, 1) := by decide +kernel
theorem d_law_731 : decode code 731 = .ok (.iload 4, 2) := by decide +kernel
theorem d_law_733 : decode code 733 = .ok (.iconst 1, 1) := by decide +kernel
theorem d_law_734 : decode code 734 = .ok (.iadd, 1) := by decide +kernel
theorem d_law_735 : decode code 735 = .ok (.iaload, 1) := by decide +kernel
theorem d_law_736 : decode code 736 = .ok (.invokevirtual 98, 3) := by decide +kernel
theorem d_law_739 : decode code 739 = .ok (.istore 6, 2) := by decide +kernel
theorem d_law_741 : decode code 741 = .ok (.aload_n 2, 1) := by decide +kernel
theorem d_law_742 : decode code 742 = .ok (.invokevirtual 66, 3) := by decide +kernel
theorem d_law_745 : decode code 745 = .ok (.iload 5, 2) := by decide +kernel
end
section
theorem d_law_747 : decode code 747 = .ok (.if_icmp .eq 5, 3) := by decide +kernel
theorem d_law_750 : decode code 750 = .ok (.iconst 0, 1) := by decide +kernel
theorem d_law_751 : decode code 751 = .ok (.ireturn, 1) := by decide +kernel
theorem d_law_752 : decode code 752 = .ok (.iload 5, 2) := by decide +kernel
theorem d_law_754 : decode code 754 = .ok (.ifCond .ne 15, 3) := by decide +kernel
theorem d_law_757 : decode code 757 = .ok (.aload_n 3, 1) := by decide +kernel
theorem d_law_758 : decode code 758 = .ok (.iconst 0, 1) := by decide +kernel
theorem d_law_759 : decode code 759 = .ok (.laload, 1) := by decide +kernel
theorem d_law_760 : decode code 760 = .ok (.iload 6, 2) := by decide +kernel
theorem d_law_762 : decode code 762 = .ok (.i2l, 1) := by decide +kernel
theorem d_law_763 : decode code 763 = .ok (.lcmp, 1) := by decide +kernel
theorem d_law_764 : decode code 764 = .ok (.ifCond .eq 5, 3) := by decide +kernel
theorem d_law_767 : decode code 767 = .ok (.iconst 0, 1) := by decide +kernel
theorem d_law_768 : decode code 768 = .ok (.ireturn, 1) := by decide +kernel
theorem d_law_769 : decode code 769 = .ok (.goto 128, 3) := by decide +kernel
theorem d_law_772 : decode code 772 = .ok (.aload_n 1, 1) := by decide +kernel
theorem d_law_773 : decode code 773 = .ok (.aload_n 0, 1) := by decide +kernel
theorem d_law_774 : decode code 774 = .ok (.iload 4, 2) := by decide +kernel
theorem d_law_776 : decode code 776 = .ok (.iconst 1, 1) := by decide +kernel
theorem d_law_777 : decode code 777 = .ok (.iadd, 1) := by decide +kernel
theorem d_law_778 : decode code 778 = .ok (.iaload, 1) := by decide +kernel
theorem d_law_779 : decode code 779 = .ok (.aload_n 3, 1) := by decide +kernel
theorem d_law_780 : decode code 780 = .ok (.invokestatic 99, 3) := by decide +kernel
theorem d_law_783 : decode code 783 = .ok (.istore 5, 2) := by decide +kernel
theorem d_law_785 : decode code 785 = .ok (.aload_n 2, 1) := by decide +kernel
theorem d_law_786 : decode code 786 = .ok (.aload_n 0, 1) := by decide +kernel
theorem d_law_787 : decode code 787 = .ok (.iload 4, 2) := by decide +kernel
theorem d_law_789 : decode code 789 = .ok (.iconst 1, 1) := by decide +kernel
theorem d_law_790 : decode code 790 = .ok (.iadd, 1) := by decide +kernel
theorem d_law_791 : decode code 791 = .ok (.iaload, 1) := by decide +kernel
theorem d_law_792 : decode code 792 = .ok (.invokevirtual 101, 3) := by decide +kernel
theorem d_law_795 : decode code 795 = .ok (.istore 6, 2) := by decide +kernel
theorem d_law_797 : decode code 797 = .ok (.aload_n 2, 1) := by decide +kernel
theorem d_law_798 : decode code 798 = .ok (.invokevirtual 66, 3) := by decide +kernel
theorem d_law_801 : decode code 801 = .ok (.iload 5, 2) := by decide +kernel
theorem d_law_803 : decode code 803 = .ok (.if_icmp .eq 5, 3) := by decide +kernel
theorem d_law_806 : decode code 806 = .ok (.iconst 0, 1) := by decide +kernel
theorem d_law_807 : decode code 807 = .ok (.ireturn, 1) := by decide +kernel
theorem d_law_808 : decode code 808 = .ok (.iload 5, 2) := by decide +kernel
theorem d_law_810 : decode code 810 = .ok (.ifCond .ne 15, 3) := by decide +kernel
theorem d_law_813 : decode code 813 = .ok (.aload_n 3, 1) := by decide +kernel
theorem d_law_814 : decode code 814 = .ok (.iconst 0, 1) := by decide +kernel
theorem d_law_815 : decode code 815 = .ok (.laload, 1) := by decide +kernel
theorem d_law_816 : decode code 816 = .ok (.iload 6, 2) := by decide +kernel
theorem d_law_818 : decode code 818 = .ok (.i2l, 1) := by decide +kernel
theorem d_law_819 : decode code 819 = .ok (.lcmp, 1) := by decide +kernel
theorem d_law_820 : decode code 820 = .ok (.ifCond .eq 5, 3) := by decide +kernel
theorem d_law_823 : decode code 823 = .ok (.iconst 0, 1) := by decide +kernel
theorem d_law_824 : decode code 824 = .ok (.ireturn, 1) := by decide +kernel
theorem d_law_825 : decode code 825 = .ok (.goto 72, 3) := by decide +kernel
theorem d_law_828 : decode code 828 = .ok (.aload_n 1, 1) := by decide +kernel
theorem d_law_829 : decode code 829 = .ok (.aload_n 0, 1) := by decide +kernel
theorem d_law_830 : decode code 830 = .ok (.iload 4, 2) := by decide +kernel
theorem d_law_832 : decode code 832 = .ok (.iconst 1, 1) := by decide +kernel
theorem d_law_833 : decode code 833 = .ok (.iadd, 1) := by decide +kernel
theorem d_law_834 : decode code 834 = .ok (.iaload, 1) := by decide +kernel
theorem d_law_835 : decode code 835 = .ok (.aload_n 3, 1) := by decide +kernel
theorem d_law_836 : decode code 836 = .ok (.invokestatic 102, 3) := by decide +kernel
theorem d_law_839 : decode code 839 = .ok (.istore 5, 2) := by decide +kernel
theorem d_law_841 : decode code 841 = .ok (.aload_n 2, 1) := by decide +kernel
theorem d_law_842 : decode code 842 = .ok (.aload_n 0, 1) := by decide +kernel
theorem d_law_843 : decode code 843 = .ok (.iload 4, 2) := by decide +kernel
theorem d_law_845 : decode code 845 = .ok (.iconst 1, 1) := by decide +kernel
theorem d_law_846 : decode code 846 = .ok (.iadd, 1) := by decide +kernel
theorem d_law_847 : decode code 847 = .ok (.iaload, 1) := by decide +kernel
theorem d_law_848 : decode code 848 = .ok (.invokevirtual 104, 3) := by decide +kernel
theorem d_law_851 : decode code 851 = .ok (.istore 6, 2) := by decide +kernel
theorem d_law_853 : decode code 853 = .ok (.aload_n 2, 1) := by decide +kernel
theorem d_law_854 : decode code 854 = .ok (.invokevirtual 66, 3) := by decide +kernel
theorem d_law_857 : decode code 857 = .ok (.iload 5, 2) := by decide +kernel
theorem d_law_859 : decode code 859 = .ok (.if_icmp .eq 5, 3) := by decide +kernel
theorem d_law_862 : decode code 862 = .ok (.iconst 0, 1) := by decide +kernel
theorem d_law_863 : decode code 863 = .ok (.ireturn, 1) := by decide +kernel
theorem d_law_864 : decode code 864 = .ok (.iload 5, 2) := by decide +kernel
theorem d_law_866 : decode code 866 = .ok (.ifCond .ne 15, 3) := by decide +kernel
theorem d_law_869 : decode code 869 = .ok (.aload_n 3, 1) := by decide +kernel
theorem d_law_870 : decode code 870 = .ok (.iconst 0, 1) := by decide +kernel
theorem d_law_871 : decode code 871 = .ok (.laload, 1) := by decide +kernel
theorem d_law_872 : decode code 872 = .ok (.iload 6, 2) := by decide +kernel
theorem d_law_874 : decode code 874 = .ok (.i2l, 1) := by decide +kernel
theorem d_law_875 : decode code 875 = .ok (.lcmp, 1) := by decide +kernel
theorem d_law_876 : decode code 876 = .ok (.ifCond .eq 5, 3) := by decide +kernel
theorem d_law_879 : decode code 879 = .ok (.iconst 0, 1) := by decide +kernel
theorem d_law_880 : decode code 880 = .ok (.ireturn, 1) := by decide +kernel
theorem d_law_881 : decode code 881 = .ok (.goto 16, 3) := by decide +kernel
theorem d_law_884 : decode code 884 = .ok (.aload_n 1, 1) := by decide +kernel
theorem d_law_885 : decode code 885 = .ok (.invokevirtual 105, 3) := by decide +kernel
theorem d_law_888 : decode code 888 = .ok (.aload_n 2, 1) := by decide +kernel
theorem d_law_889 : decode code 889 = .ok (.invokevirtual 108, 3) := by decide +kernel
theorem d_law_892 : decode code 892 = .ok (.if_icmp .eq 5, 3) := by decide +kernel
theorem d_law_895 : decode code 895 = .ok (.iconst 0, 1) := by decide +kernel
theorem d_law_896 : decode code 896 = .ok (.ireturn, 1) := by decide +kernel
theorem d_law_897 : decode code 897 = .ok (.iinc 4 4, 3) := by decide +kernel
theorem d_law_900 : decode code 900 = .ok (.goto (-877), 3) := by decide +kernel
theorem d_law_903 : decode code 903 = .ok (.iconst 1, 1) := by decide +kernel
theorem d_law_904 : decode code 904 = .ok (.ireturn, 1) := by decide +kernel
end
section
/-! The frame of a walk: contracts that may return or throw, over the machine itself; rows that end a walk; rows that call. -/
section FX
variable {p : Program} {l : Launch} {e : Env} {R : Room} {s : State} {m : MethodId} {args : Array Value} {below : List Frame} {meth : Method} {c : Code} {H : Heap} {locs : List Loc} {cells slots : Nat} {Q : State → Prop}
/-- the end of a walk: it returned or threw; the heap as Post says; the tables warmer; at most mc cells of ms slots are new; what was written lies in A -/
def fx_E (below : List Frame) (s : State) (Post : Outcome → Heap → Prop) (mc ms : Nat) (A : Nat → Prop) : State → Prop := fun t =>
  ∃ o, t.status = .running ∧ Ended t below o ∧ Post o t.heap ∧ s.WarmedH t.vm ∧ ∃ L, s.sameButNew ({ t with vm := s.vm } : State) L mc ms ∧ ∀ q ∈ L, A q.base
/-- a contract: from every state whose tables say K, with the arguments av and a heap as Pre says, the method comes to an end as Post says -/
def fx_C (K : State → Prop) (y : MethodName) (nL : Nat) (rm : Room) (av : List Value) (Pre : Heap → Prop) (Post : Heap → Outcome → Heap → Prop) (A : Heap → Nat → Prop) : Prop :=
  ∀ (p : Program) (l : Launch) (e : Env) (s : State) (m : MethodId) (below : List Frame) (meth : Method) (c : Code),
    p.tables.exec = Jvm.exec → l.flags = flags0 → K s → s.methodNamed? y = some m → s.vm.method? m = some meth → meth.code = some c → Pre s.heap →
    W p l e rm s m av.toArray below meth c s.heap [] 0 0 (fx_E below s (Post s.heap) rm.cells rm.slots (A s.heap)) (entryFrame m av.toArray nL)
/-- throwing x over the frame g -/
def fx_T (p : Program) (l : Launch) (e : Env) (R : Room) (s : State) (m : MethodId) (args : Array Value) (below : List Frame) (meth : Method) (c : Code) (H : Heap) (locs : List Loc) (cells slots : Nat) (Q : State → Prop) (g : JFrame) (x : Nat) : Prop :=
  ∀ T : State, T.heap = H → Stand p l e R s m args below meth c T locs cells slots → ∃ t, Steps p.tables e below ((T.setTop g).pushFrame (.throwing x)) t ∧ Q t
/-- old cells outside A stay; at most mc cells are new -/
def fx_F (A : Nat → Prop) (mc : Nat) (H H' : Heap) : Prop := H.size ≤ H'.size ∧ H'.size ≤ H.size + mc ∧ ∀ q : Nat, q < H.size → ¬ A q → H'[q]? = H[q]?
theorem fx_mono {Q' : State → Prop} {g : JFrame} (h : ∀ t, Q t → Q' t) (k : W p l e R s m args below meth c H locs cells slots Q g) : W p l e R s m args below meth c H locs cells slots Q' g := by
  intro T hT X
  obtain ⟨t, a, b⟩ := k T hT X
  exact ⟨t, a, h t b⟩
theorem fx_ofMQ {Post : Outcome → Heap → Prop} {A : Nat → Prop} {k n mc ms : Nat} (hk : k ≤ mc) (hn : n ≤ ms) {t : State} (h : MQ below (fun _ _ o t => Post o t.heap) args s k n A t) : fx_E below s Post mc ms A t := by
  obtain ⟨o, h1, h2, h3, L, ⟨-, h4, h5⟩, h6⟩ := h
  exact ⟨o, h1, h2, h3, h4, L, h5.mono hk hn, h6⟩
variable {cc : ByteArray} {pc : Nat} {ls : Array Slot} {rest : List Value} {Post : Outcome → Heap → Prop} {A : Nat → Prop} {mc ms : Nat}
theorem fx_iret {v : Int32} (hexec : p.tables.exec = Jvm.exec) (hb : c.code = cc) (hr : meth.sig.returnType = some .int) (hlk : meth.locks = false) (hA : ∀ q ∈ locs, A q.base) (hc : cells ≤ mc) (hs : slots ≤ ms) (hdg : decode cc pc = .ok (.ireturn, 1)) (hq : Post (.returned (some (.int v))) H) :
    W p l e R s m args below meth c H locs cells slots (fx_E below s Post mc ms A) (F0 m pc ls [.int v]) :=
  fx_mono (fun _ h => fx_ofMQ hc hs h) (W.iret (Qc := fun _ _ o t => Post o t.heap) hexec hb hr (fun t ht _ => by show Post _ t.heap; rw [ht]; exact hq) hA hdg hlk)
theorem fx_zret {v : Int32} {ty : FieldType} (hexec : p.tables.exec = Jvm.exec) (hb : c.code = cc) (hr : meth.sig.returnType = some ty) (hn : narrow ty (.int v) = .int v) (hlk : meth.locks = false) (hA : ∀ q ∈ locs, A q.base) (hc : cells ≤ mc) (hs : slots ≤ ms) (hdg : decode cc pc = .ok (.ireturn, 1)) (hq : Post (.returned (some (.int v))) H) :
    W p l e R s m args below meth c H locs cells slots (fx_E below s Post mc ms A) (F0 m pc ls [.int v]) :=
  fx_mono (fun _ h => fx_ofMQ hc hs h) (W.zret (Qc := fun _ _ o t => Post o t.heap) hexec hb hr hn (fun t ht _ => by show Post _ t.heap; rw [ht]; exact hq) hA hdg hlk)
theorem fx_vret (hexec : p.tables.exec = Jvm.exec) (hb : c.code = cc) (hr : meth.sig.returnType = none) (hlk : meth.locks = false) (hA : ∀ q ∈ locs, A q.base) (hc : cells ≤ mc) (hs : slots ≤ ms) (hdg : decode cc pc = .ok (.return_, 1)) (hq : Post (.returned none) H) :
    W p l e R s m args below meth c H locs cells slots (fx_E below s Post mc ms A) (F0 m pc ls []) :=
  fx_mono (fun _ h => fx_ofMQ hc hs h) (W.vret (Qc := fun _ _ o t => Post o t.heap) hexec hb hr (fun t ht _ => by show Post _ t.heap; rw [ht]; exact hq) hA hdg hlk)
theorem fx_aret {v : Value} {rt : FieldType} (hexec : p.tables.exec = Jvm.exec) (hb : c.code = cc) (hr : meth.sig.returnType = some rt) (hrt : (∃ n, rt = .object n) ∨ ∃ t, rt = .array t) (hv : v = .null ∨ ∃ a, v = .ref a) (hlk : meth.locks = false) (hA : ∀ q ∈ locs, A q.base) (hc : cells ≤ mc) (hs : slots ≤ ms) (hdg : decode cc pc = .ok (.areturn, 1)) (hq : Post (.returned (some v)) H) :
    W p l e R s m args below meth c H locs cells slots (fx_E below s Post mc ms A) (F0 m pc ls [v]) :=
  fx_mono (fun _ h => fx_ofMQ hc hs h) (W.aret (Qc := fun _ _ o t => Post o t.heap) hexec hb hr hrt hv (fun t ht _ => by show Post _ t.heap; rw [ht]; exact hq) hA hdg hlk)
/-- nothing here catches: the method throws too -/
theorem fx_out {g : JFrame} {x : Nat} (hg : g.method = m) (h1 : g.locked = none) (h2 : g.entered = []) (hnt : c.exceptionTable.isEmpty = true) (hlk : meth.locks = false) (hA : ∀ q ∈ locs, A q.base) (hc : cells ≤ mc) (hs : slots ≤ ms) (hq : Post (.threw x) H) :
    fx_T p l e R s m args below meth c H locs cells slots (fx_E below s Post mc ms A) g x := by
  intro T hT X
  obtain ⟨st, hrun, hend, hW, hsame⟩ := X.leaveThrown x hg h1 h2 (covers_of_empty hnt _) hlk
  refine ⟨_, st, .threw x, hrun, hend, ?_, hW, locs, hsame.mono hc hs, hA⟩
  show Post _ T.heap
  rw [hT]
  exact hq
/-- caught: the walk goes on at the handler, the exception alone on the stack -/
theorem fx_catch {x pc' : Nat} {st : List Value} (hf : ∀ T : State, T.heap = H → Stand p l e R s m args below meth c T locs cells slots → Finds e ((T.setTop (F0 m pc ls st)).pushFrame (.throwing x)) (F0 m pc ls st) x (.found pc'))
    (k : W p l e R s m args below meth c H locs cells slots Q (F0 m pc' ls [.ref x])) : fx_T p l e R s m args below meth c H locs cells slots Q (F0 m pc ls st) x := by
  intro T hT X
  obtain ⟨t, a, b⟩ := k T hT X
  exact ⟨t, X.catchAt x rfl (hf T hT X) a, b⟩
/-- what a callee left: cells outside what it may write are as they were -/
theorem fx_frame {T T' : State} {L : List Loc} {k n : Nat} {B : Nat → Prop} (h : T.sameButNew (T'.setVm T.vm) L k n) (hB : ∀ q ∈ L, B q.base) : fx_F B k T.heap T'.heap := by
  obtain ⟨-, h1, h2, -, -, h3⟩ := h
  refine ⟨h1, h2, fun q hq hn => ?_⟩
  obtain ⟨cell, hcell⟩ : ∃ cell, T.heap[q]? = some cell := ⟨_, Array.getElem?_eq_getElem hq⟩
  obtain ⟨c', e1, e2, e3, e4⟩ := h3 q cell hcell
  have e5 : c'.slots = cell.slots := by
    apply Array.ext_getElem?
    intro i
    exact e4 i (fun hm => hn (hB _ hm))
  have e6 : c' = cell := by rw [e2, e5]
  have e7 : T'.heap[q]? = some c' := e1
  rw [e7, hcell, e6]
theorem fx_core {K : State → Prop} (hKm : ∀ s U : State, s.WarmedH U.vm → K s → K U) {T : State} {y : MethodName} {nL : Nat} {rm : Room} {av : List Value} {Pre : Heap → Prop} {PostC : Heap → Outcome → Heap → Prop} {AC : Heap → Nat → Prop}
    (hC : fx_C K y nL rm av Pre PostC AC) (hexec : p.tables.exec = Jvm.exec) (hfl : l.flags = flags0) (X : Stand p l e R s m args below meth c T locs cells slots) (hk : K s)
    {g : JFrame} (hg : g.method = m) (hsize : g.locals.size = c.maxLocals) {ig : Instr} {len : Nat} (hdg : decode c.code g.pc = .ok (ig, len))
    {mk : MethodId} {methk : Method} {ck : Code} (hn : s.methodNamed? y = some mk) (hmk : s.vm.method? mk = some methk) (hck : methk.code = some ck) (hlk : methk.locks = false) (hnl : ck.maxLocals = nL) (hpl : plainFor y = true)
    (hpre : Pre T.heap) (hframes : rm.frames + 1 ≤ R.frames) (hlocals : 2 * g.monitorRoom + (g.stack.map fun v => v.category).sum + (nL + 11) + rm.locals ≤ R.locals) (hcells : cells + rm.cells ≤ R.cells) (hslots : slots + rm.slots ≤ R.slots) :
    ∃ (o : Outcome) (T' : State) (L : List Loc), Stand p l e R s m args below meth c T' (locs ++ L) (cells + rm.cells) (slots + rm.slots) ∧ (∀ q ∈ L, AC T.heap q.base) ∧ PostC T.heap o T'.heap ∧ fx_F (AC T.heap) rm.cells T.heap T'.heap ∧
      ∀ acts, Steps p.tables e below (doInvoke e (T.setTop g) acts mk av.toArray).1 (match o with | .returned v => T'.setTop { g with pc := g.pc + len, stack := v.toList ++ g.stack } | .threw x => (T'.setTop g).pushFrame (.throwing x)) := by
  have hmk' : T.vm.method? mk = some methk := by rw [X.warmed.alike.method?]; exact hmk
  have hnT : T.methodNamed? y = some mk := X.named hn
  have hpk : T.plainMethod mk := State.plainMethod.of_named hpl hnT hmk'
  obtain ⟨Y, hin⟩ := X.into hg hsize hdg av.toArray (R' := rm) hmk' hck hlk hpk hframes (by rw [hnl]; exact hlocals) hcells hslots
  have hKc : K (T.calling g mk av.toArray) := hKm s (T.calling g mk av.toArray) X.warmed hk
  have hnc : (T.calling g mk av.toArray).methodNamed? y = some mk := hnT
  have hw := hC p l e (T.calling g mk av.toArray) mk (.java g :: below) methk ck hexec hfl hKc hnc hmk' hck hpre
  obtain ⟨t, st, o, hrun, hend, hpost, hW, L, hsame, hL⟩ := hw ((T.setTop g).pushFrame (.java (entryFrame mk av.toArray ck.maxLocals))) rfl Y
  rw [← hnl] at st
  cases o with
  | returned v =>
    obtain ⟨T', X', hW', hB', ht⟩ := X.outOf hg hdg hend hW hsame
    have hth : T'.heap = t.heap := by rw [ht]; rfl
    refine ⟨.returned v, T', L, X', hL, by rw [hth]; exact hpost, fx_frame hB' hL, fun acts => ?_⟩
    rw [hin acts]
    show Steps p.tables e below _ (T'.setTop { g with pc := g.pc + len, stack := v.toList ++ g.stack })
    rw [← ht]
    exact Steps.weaken (mid := [.java g]) st
  | threw x =>
    obtain ⟨T', X', hW', hB', ht⟩ := X.outOfThrown hg hend hW hsame
    have hth : T'.heap = t.heap := by rw [ht]; exact (Stand.throwing_heap T' g x).symm
    refine ⟨.threw x, T', L, X', hL, by rw [hth]; exact hpost, fx_frame hB' hL, fun acts => ?_⟩
    rw [hin acts]
    show Steps p.tables e below _ ((T'.setTop g).pushFrame (.throwing x))
    rw [← ht]
    exact Steps.weaken (mid := [.java g]) st
end FX
end
section
/-! Rows that call: static, virtual, constructor; the same to a nest mate. Two roads behind each: it returned, it threw. -/
section FXC
variable {p : Program} {l : Launch} {e : Env} {R : Room} {s : State} {m : MethodId} {args : Array Value} {below : List Frame} {meth : Method} {c : Code} {H : Heap} {locs : List Loc} {cells slots : Nat} {Q : State → Prop}
variable {cc : ByteArray} {pc : Nat} {ls : Array Slot} {rest st av : List Value} {K : State → Prop} {y : MethodName} {nL : Nat} {rm : Room} {Pre : Heap → Prop} {PostC : Heap → Outcome → Heap → Prop} {AC : Heap → Nat → Prop} {B : Nat → Prop}
/-- the callee is there -/
def fx_Y (s : State) (y : MethodName) (nL : Nat) : Prop := ∃ (mk : MethodId) (methk : Method) (ck : Code), s.methodNamed? y = some mk ∧ s.vm.method? mk = some methk ∧ methk.code = some ck ∧ ck.maxLocals = nL ∧ methk.locks = false ∧ parseMethodDescriptor y.desc = some methk.sig
theorem fx_Y.code {bytes : ByteArray} {ret : Option FieldType} (h : (Cond.code y bytes nL ret).before args s = true) : fx_Y s y nL := by
  obtain ⟨mk, hn⟩ := Cond.code_named h
  obtain ⟨methk, ck, h1, h2, -, h4, -, h6, -, h8⟩ := Cond.code_spec hn h
  exact ⟨mk, methk, ck, hn, h1, h2, h4, h6, h8⟩
theorem fx_Y.codeWith {bytes : ByteArray} {ret : Option FieldType} {hh : List (Nat × Nat × Nat × Nat)} (h : (Cond.codeWith y bytes nL ret hh).before args s = true) : fx_Y s y nL := by
  obtain ⟨mk, methk, ck, hn, h1, h2, -, h4, -, -, h6, h8⟩ := Cond.codeWith_spec h
  exact ⟨mk, methk, ck, hn, h1, h2, h4, h6, h8⟩
/-- what every call row asks of y's name and of the room -/
abbrev fx_N (y : MethodName) (n : Nat) : Prop := (y.cls ≠ "java/lang/invoke/MethodHandle" ∧ y.cls ≠ "java/lang/invoke/VarHandle") ∧ plainFor y = true ∧ (parseMethodDescriptor y.desc).map (fun d => d.parameters.length) = some n
abbrev fx_R (R rm : Room) (nL cells slots : Nat) (rest : List Value) : Prop := rm.frames + 1 ≤ R.frames ∧ (rest.map fun v => v.category).sum + (nL + 11) + rm.locals ≤ R.locals ∧ cells + rm.cells ≤ R.cells ∧ slots + rm.slots ≤ R.slots
theorem fx_fin {T : State} {vm₁ : Vm} {mk : MethodId} {a : Array Value} (hT : T.heap = H)
    (hcore : ∃ (o : Outcome) (T' : State) (L : List Loc), Stand p l e R s m args below meth c T' (locs ++ L) (cells + rm.cells) (slots + rm.slots) ∧ (∀ q ∈ L, AC (T.setVm vm₁).heap q.base) ∧ PostC (T.setVm vm₁).heap o T'.heap ∧ fx_F (AC (T.setVm vm₁).heap) rm.cells (T.setVm vm₁).heap T'.heap ∧
      ∀ acts, Steps p.tables e below (doInvoke e ((T.setVm vm₁).setTop (F0 m pc ls rest)) acts mk a).1 (match o with | .returned v => T'.setTop { F0 m pc ls rest with pc := (F0 m pc ls rest).pc + 3, stack := v.toList ++ (F0 m pc ls rest).stack } | .threw x => (T'.setTop (F0 m pc ls rest)).pushFrame (.throwing x)))
    (hstep : ∀ target, (∀ acts, Steps p.tables e below (doInvoke e ((T.setVm vm₁).setTop (F0 m pc ls rest)) acts mk a).1 target) → Steps p.tables e below (T.setTop (F0 m pc ls st)) target)
    (hL : ∀ q ∈ locs, B q.base) (hAB : ∀ q, AC H q → B q)
    (kr : ∀ (v : Option Value) (H' : Heap) (locs' : List Loc), PostC H (.returned v) H' → fx_F (AC H) rm.cells H H' → (∀ q ∈ locs', B q.base) → W p l e R s m args below meth c H' locs' (cells + rm.cells) (slots + rm.slots) Q (F0 m (pc + 3) ls (v.toList ++ rest)))
    (kt : ∀ (x : Nat) (H' : Heap) (locs' : List Loc), PostC H (.threw x) H' → fx_F (AC H) rm.cells H H' → (∀ q ∈ locs', B q.base) → fx_T p l e R s m args below meth c H' locs' (cells + rm.cells) (slots + rm.slots) Q (F0 m pc ls rest) x) :
    ∃ t, Steps p.tables e below (T.setTop (F0 m pc ls st)) t ∧ Q t := by
  obtain ⟨o, T', L, X', hL', hpost, hF, hs⟩ := hcore
  have hH : (T.setVm vm₁).heap = H := hT
  rw [hH] at hL' hpost hF
  have hl2 : ∀ q ∈ locs ++ L, B q.base := fun q hq => by
    rcases List.mem_append.mp hq with h | h
    · exact hL q h
    · exact hAB _ (hL' q h)
  cases o with
  | returned v =>
    obtain ⟨t, a1, b1⟩ := kr v T'.heap (locs ++ L) hpost hF hl2 T' rfl X'
    exact ⟨t, hstep t (fun acts => (hs acts).trans a1), b1⟩
  | threw x =>
    obtain ⟨t, a1, b1⟩ := kt x T'.heap (locs ++ L) hpost hF hl2 T' rfl X'
    exact ⟨t, hstep t (fun acts => (hs acts).trans a1), b1⟩
theorem fx_cS (hKm : ∀ s U : State, s.WarmedH U.vm → K s → K U) (hC : fx_C K y nL rm av Pre PostC AC) (hexec : p.tables.exec = Jvm.exec) (hfl : l.flags = flags0) (hk : K s) (hb : c.code = cc) (hsz : ls.size = c.maxLocals) {own : String} {index : Nat} (hown : s.vm.findClass own = some m.cls)
    (hlink : (Cond.methodLink own index y).before args s = true) (hY : fx_Y s y nL) (hstat : (Cond.static y).before args s = true) (hini : (Cond.initialized y.cls).before args s = true) (hN : fx_N y av.length) (hst : st = av.reverse ++ rest) (hR : fx_R R rm nL cells slots rest) (hpre : Pre H)
    (hdg : decode cc pc = .ok (.invokestatic index, 3)) (hL : ∀ q ∈ locs, B q.base) (hAB : ∀ q, AC H q → B q)
    (kr : ∀ (v : Option Value) (H' : Heap) (locs' : List Loc), PostC H (.returned v) H' → fx_F (AC H) rm.cells H H' → (∀ q ∈ locs', B q.base) → W p l e R s m args below meth c H' locs' (cells + rm.cells) (slots + rm.slots) Q (F0 m (pc + 3) ls (v.toList ++ rest)))
    (kt : ∀ (x : Nat) (H' : Heap) (locs' : List Loc), PostC H (.threw x) H' → fx_F (AC H) rm.cells H H' → (∀ q ∈ locs', B q.base) → fx_T p l e R s m args below meth c H' locs' (cells + rm.cells) (slots + rm.slots) Q (F0 m pc ls rest) x) :
    W p l e R s m args below meth c H locs cells slots Q (F0 m pc ls st) := by
  intro T hT X
  obtain ⟨mk, methk, ck, hn, hmk, hck, hnl, hlk, hsig⟩ := hY
  obtain ⟨hy, hpl, hd⟩ := hN
  rw [hsig] at hd
  have hlen : av.length = methk.sig.parameters.length := (Option.some.inj hd).symm
  have hstatic : methk.isStatic = true := Cond.static_spec hn hmk hstat
  obtain ⟨kP, hkP, -⟩ := className_of_methodNamed hn
  have hinitP : kP.init = .initialized := Cond.initialized_spec (findClass_of_methodNamed hn) hkP hini
  obtain ⟨vm₁, X₁, hstep⟩ := X.invokestatic hexec hown hlink hn hmk hstatic hkP hinitP hy (g := F0 m pc ls st) rfl (argsL := av) (rest := rest) hlen hst (by rw [hb]; exact hdg)
  refine fx_fin hT (fx_core hKm hC hexec hfl X₁ hk (g := F0 m pc ls rest) rfl hsz (by rw [hb]; exact hdg) hn hmk hck hlk hnl hpl (by show Pre T.heap; rw [hT]; exact hpre) hR.1 ?_ hR.2.2.1 hR.2.2.2) hstep hL hAB kr kt
  have := hR.2.1
  show 2 * 0 + (rest.map fun v => v.category).sum + (nL + 11) + rm.locals ≤ R.locals
  omega
theorem fx_cV (hKm : ∀ s U : State, s.WarmedH U.vm → K s → K U) {b : Nat} (hC : fx_C K y nL rm (.ref b :: av) Pre PostC AC) (hexec : p.tables.exec = Jvm.exec) (hfl : l.flags = flags0) (hk : K s) (hb : c.code = cc) (hsz : ls.size = c.maxLocals) {own C : String} {index : Nat} (hown : s.vm.findClass own = some m.cls)
    (hlink : (Cond.methodLink own index y).before args s = true) (hY : fx_Y s y nL) (hinst : (Cond.instanceMethod y).before args s = true) (hsel : (Cond.selects C y y).before args s = true) (hN : fx_N y av.length) (hrc : ∃ cell : Cell, H[b]? = some cell ∧ cell.vm.isStatics = false ∧ s.vm.findClass C = some cell.cls) (hst : st = av.reverse ++ .ref b :: rest) (hR : fx_R R rm nL cells slots rest) (hpre : Pre H)
    (hdg : decode cc pc = .ok (.invokevirtual index, 3)) (hL : ∀ q ∈ locs, B q.base) (hAB : ∀ q, AC H q → B q)
    (kr : ∀ (v : Option Value) (H' : Heap) (locs' : List Loc), PostC H (.returned v) H' → fx_F (AC H) rm.cells H H' → (∀ q ∈ locs', B q.base) → W p l e R s m args below meth c H' locs' (cells + rm.cells) (slots + rm.slots) Q (F0 m (pc + 3) ls (v.toList ++ rest)))
    (kt : ∀ (x : Nat) (H' : Heap) (locs' : List Loc), PostC H (.threw x) H' → fx_F (AC H) rm.cells H H' → (∀ q ∈ locs', B q.base) → fx_T p l e R s m args below meth c H' locs' (cells + rm.cells) (slots + rm.slots) Q (F0 m pc ls rest) x) :
    W p l e R s m args below meth c H locs cells slots Q (F0 m pc ls st) := by
  intro T hT X
  obtain ⟨mk, methk, ck, hn, hmk, hck, hnl, hlk, hsig⟩ := hY
  obtain ⟨hy, hpl, hd⟩ := hN
  rw [hsig] at hd
  have hlen : av.length = methk.sig.parameters.length := (Option.some.inj hd).symm
  obtain ⟨mk', methM, hn', hmethM, hstM, habM⟩ := Cond.instanceMethod_spec hinst
  cases Option.some.inj (hn.symm.trans hn')
  cases Option.some.inj (hmk.symm.trans hmethM)
  obtain ⟨cellB, hcB, hoB, hclB⟩ := hrc
  obtain ⟨c2, r2, m2, q1, q2, q3, q4, kP, hkP, hkPi⟩ := Cond.selects_spec hsel
  cases Option.some.inj (hclB.symm.trans q1)
  cases Option.some.inj ((State.methodFound?_of_named hn hy).symm.trans q2)
  cases Option.some.inj (hn.symm.trans q3)
  have hselP : selectMethod e.platform s.vm cellB.cls mk = .method mk := by rw [Launch.admits_selectMethod X.admits]; exact q4
  obtain ⟨vm₁, X₁, hstep⟩ := X.invokevirtual hexec hown hlink hn hmk hstM hkP hkPi hy (a := b) (cell := cellB) (by rw [hT]; exact hcB) (fun z h => by rw [h] at hoB; cases hoB) hselP hmk habM hkP hkPi (g := F0 m pc ls st) rfl (argsL := av) (rest := rest) hlen hst (by rw [hb]; exact hdg)
  refine fx_fin hT (fx_core hKm hC hexec hfl X₁ hk (g := F0 m pc ls rest) rfl hsz (by rw [hb]; exact hdg) hn hmk hck hlk hnl hpl (by show Pre T.heap; rw [hT]; exact hpre) hR.1 ?_ hR.2.2.1 hR.2.2.2) hstep hL hAB kr kt
  have := hR.2.1
  show 2 * 0 + (rest.map fun v => v.category).sum + (nL + 11) + rm.locals ≤ R.locals
  omega
theorem fx_cVN (hKm : ∀ s U : State, s.WarmedH U.vm → K s → K U) {b : Nat} (hC : fx_C K y nL rm (.ref b :: av) Pre PostC AC) (hexec : p.tables.exec = Jvm.exec) (hfl : l.flags = flags0) (hk : K s) (hb : c.code = cc) (hsz : ls.size = c.maxLocals) {own C host : String} {index : Nat} (hown : s.vm.findClass own = some m.cls)
    (hlink : (Cond.methodLinkNest own index y host).before args s = true) (hY : fx_Y s y nL) (hinst : (Cond.instanceMethod y).before args s = true) (hsel : (Cond.selects C y y).before args s = true) (hN : fx_N y av.length) (hrc : ∃ cell : Cell, H[b]? = some cell ∧ cell.vm.isStatics = false ∧ s.vm.findClass C = some cell.cls) (hst : st = av.reverse ++ .ref b :: rest) (hR : fx_R R rm nL cells slots rest) (hpre : Pre H)
    (hdg : decode cc pc = .ok (.invokevirtual index, 3)) (hL : ∀ q ∈ locs, B q.base) (hAB : ∀ q, AC H q → B q)
    (kr : ∀ (v : Option Value) (H' : Heap) (locs' : List Loc), PostC H (.returned v) H' → fx_F (AC H) rm.cells H H' → (∀ q ∈ locs', B q.base) → W p l e R s m args below meth c H' locs' (cells + rm.cells) (slots + rm.slots) Q (F0 m (pc + 3) ls (v.toList ++ rest)))
    (kt : ∀ (x : Nat) (H' : Heap) (locs' : List Loc), PostC H (.threw x) H' → fx_F (AC H) rm.cells H H' → (∀ q ∈ locs', B q.base) → fx_T p l e R s m args below meth c H' locs' (cells + rm.cells) (slots + rm.slots) Q (F0 m pc ls rest) x) :
    W p l e R s m args below meth c H locs cells slots Q (F0 m pc ls st) := by
  intro T hT X
  obtain ⟨mk, methk, ck, hn, hmk, hck, hnl, hlk, hsig⟩ := hY
  obtain ⟨hy, hpl, hd⟩ := hN
  rw [hsig] at hd
  have hlen : av.length = methk.sig.parameters.length := (Option.some.inj hd).symm
  obtain ⟨mk', methM, hn', hmethM, hstM, habM⟩ := Cond.instanceMethod_spec hinst
  cases Option.some.inj (hn.symm.trans hn')
  cases Option.some.inj (hmk.symm.trans hmethM)
  obtain ⟨cellB, hcB, hoB, hclB⟩ := hrc
  obtain ⟨c2, r2, m2, q1, q2, q3, q4, kP, hkP, hkPi⟩ := Cond.selects_spec hsel
  cases Option.some.inj (hclB.symm.trans q1)
  cases Option.some.inj ((State.methodFound?_of_named hn hy).symm.trans q2)
  cases Option.some.inj (hn.symm.trans q3)
  have hselP : selectMethod e.platform s.vm cellB.cls mk = .method mk := by rw [Launch.admits_selectMethod X.admits]; exact q4
  obtain ⟨vm₁, X₁, hstep⟩ := X.invokevirtualNest hexec hown hlink hn hmk hstM hkP hkPi hy (a := b) (cell := cellB) (by rw [hT]; exact hcB) (fun z h => by rw [h] at hoB; cases hoB) hselP hmk habM hkP hkPi (g := F0 m pc ls st) rfl (argsL := av) (rest := rest) hlen hst (by rw [hb]; exact hdg)
  refine fx_fin hT (fx_core hKm hC hexec hfl X₁ hk (g := F0 m pc ls rest) rfl hsz (by rw [hb]; exact hdg) hn hmk hck hlk hnl hpl (by show Pre T.heap; rw [hT]; exact hpre) hR.1 ?_ hR.2.2.1 hR.2.2.2) hstep hL hAB kr kt
  have := hR.2.1
  show 2 * 0 + (rest.map fun v => v.category).sum + (nL + 11) + rm.locals ≤ R.locals
  omega
theorem fx_cI (hKm : ∀ s U : State, s.WarmedH U.vm → K s → K U) {b : Nat} (hC : fx_C K y nL rm (.ref b :: av) Pre PostC AC) (hexec : p.tables.exec = Jvm.exec) (hfl : l.flags = flags0) (hk : K s) (hb : c.code = cc) (hsz : ls.size = c.maxLocals) {own : String} {index : Nat} {bytes : ByteArray} (hown : s.vm.findClass own = some m.cls)
    (hlink : (Cond.methodLink own index y).before args s = true) (hcode : (Cond.code y bytes nL none).before args s = true) (hinst : (Cond.instanceMethod y).before args s = true) (hy1 : y.name = "<init>") (hN : fx_N y av.length) (hst : st = av.reverse ++ .ref b :: rest) (hR : fx_R R rm nL cells slots rest) (hpre : Pre H)
    (hdg : decode cc pc = .ok (.invokespecial index, 3)) (hL : ∀ q ∈ locs, B q.base) (hAB : ∀ q, AC H q → B q)
    (kr : ∀ (v : Option Value) (H' : Heap) (locs' : List Loc), PostC H (.returned v) H' → fx_F (AC H) rm.cells H H' → (∀ q ∈ locs', B q.base) → W p l e R s m args below meth c H' locs' (cells + rm.cells) (slots + rm.slots) Q (F0 m (pc + 3) ls (v.toList ++ rest)))
    (kt : ∀ (x : Nat) (H' : Heap) (locs' : List Loc), PostC H (.threw x) H' → fx_F (AC H) rm.cells H H' → (∀ q ∈ locs', B q.base) → fx_T p l e R s m args below meth c H' locs' (cells + rm.cells) (slots + rm.slots) Q (F0 m pc ls rest) x) :
    W p l e R s m args below meth c H locs cells slots Q (F0 m pc ls st) := by
  intro T hT X
  obtain ⟨mk, methk, ck, hn, hmk, hck, hnl, hlk, hsig⟩ := fx_Y.code hcode
  obtain ⟨hy, hpl, hd⟩ := hN
  have hd2 : ∀ sig, parseMethodDescriptor y.desc = some sig → av.length = sig.parameters.length := fun sig h => by rw [h] at hd; exact (Option.some.inj hd).symm
  have hplat : e.platform.magicAccessors = ({} : Platform).magicAccessors := by rw [X.admits.platform]
  obtain ⟨mk', methM, cM, kP, vm₁, hn', -, -, -, -, -, hkP, -, hW₁, hstep⟩ := Steps.initColdArgs (e := e) X.here hexec X.warmed hplat hown hy1 hy hlink hinst hcode (f := F0 m pc ls st) rfl hd2 hst (by rw [hb]; exact hdg)
  cases Option.some.inj (hn.symm.trans hn')
  have X₁ := X.noted hW₁
  refine fx_fin hT (fx_core hKm hC hexec hfl X₁ hk (g := F0 m pc ls rest) rfl hsz (by rw [hb]; exact hdg) hn hmk hck hlk hnl hpl (by show Pre T.heap; rw [hT]; exact hpre) hR.1 ?_ hR.2.2.1 hR.2.2.2) hstep hL hAB kr kt
  have := hR.2.1
  show 2 * 0 + (rest.map fun v => v.category).sum + (nL + 11) + rm.locals ≤ R.locals
  omega
theorem fx_cIN (hKm : ∀ s U : State, s.WarmedH U.vm → K s → K U) {b : Nat} (hC : fx_C K y nL rm (.ref b :: av) Pre PostC AC) (hexec : p.tables.exec = Jvm.exec) (hfl : l.flags = flags0) (hk : K s) (hb : c.code = cc) (hsz : ls.size = c.maxLocals) {own host : String} {index : Nat} {bytes : ByteArray} (hown : s.vm.findClass own = some m.cls)
    (hlink : (Cond.methodLinkNest own index y host).before args s = true) (hcode : (Cond.code y bytes nL none).before args s = true) (hinst : (Cond.instanceMethod y).before args s = true) (hy1 : y.name = "<init>") (hN : fx_N y av.length) (hst : st = av.reverse ++ .ref b :: rest) (hR : fx_R R rm nL cells slots rest) (hpre : Pre H)
    (hdg : decode cc pc = .ok (.invokespecial index, 3)) (hL : ∀ q ∈ locs, B q.base) (hAB : ∀ q, AC H q → B q)
    (kr : ∀ (v : Option Value) (H' : Heap) (locs' : List Loc), PostC H (.returned v) H' → fx_F (AC H) rm.cells H H' → (∀ q ∈ locs', B q.base) → W p l e R s m args below meth c H' locs' (cells + rm.cells) (slots + rm.slots) Q (F0 m (pc + 3) ls (v.toList ++ rest)))
    (kt : ∀ (x : Nat) (H' : Heap) (locs' : List Loc), PostC H (.threw x) H' → fx_F (AC H) rm.cells H H' → (∀ q ∈ locs', B q.base) → fx_T p l e R s m args below meth c H' locs' (cells + rm.cells) (slots + rm.slots) Q (F0 m pc ls rest) x) :
    W p l e R s m args below meth c H locs cells slots Q (F0 m pc ls st) := by
  intro T hT X
  obtain ⟨mk, methk, ck, hn, hmk, hck, hnl, hlk, hsig⟩ := fx_Y.code hcode
  obtain ⟨hy, hpl, hd⟩ := hN
  have hd2 : ∀ sig, parseMethodDescriptor y.desc = some sig → av.length = sig.parameters.length := fun sig h => by rw [h] at hd; exact (Option.some.inj hd).symm
  have hplat : e.platform.magicAccessors = ({} : Platform).magicAccessors := by rw [X.admits.platform]
  obtain ⟨mk', methM, cM, kP, vm₁, hn', -, -, -, -, -, hkP, -, hW₁, hstep⟩ := Steps.initColdArgsNest (e := e) X.here hexec X.warmed hplat hown hy1 hy hlink hinst hcode (f := F0 m pc ls st) rfl hd2 hst (by rw [hb]; exact hdg)
  cases Option.some.inj (hn.symm.trans hn')
  have X₁ := X.noted hW₁
  refine fx_fin hT (fx_core hKm hC hexec hfl X₁ hk (g := F0 m pc ls rest) rfl hsz (by rw [hb]; exact hdg) hn hmk hck hlk hnl hpl (by show Pre T.heap; rw [hT]; exact hpre) hR.1 ?_ hR.2.2.1 hR.2.2.2) hstep hL hAB kr kt
  have := hR.2.1
  show 2 * 0 + (rest.map fun v => v.category).sum + (nL + 11) + rm.locals ≤ R.locals
  omega
/-- how a contract of a method without handlers is begun -/
theorem fx_of {Pre : Heap → Prop} {PostC : Heap → Outcome → Heap → Prop} {AC : Heap → Nat → Prop} {ret : Option FieldType} (hcode : ∀ s, K s → (Cond.code y cc nL ret).before #[] s = true) (hsl : (lg_sl av).length ≤ nL)
    (body : ∀ (p : Program) (l : Launch) (e : Env) (s : State) (m : MethodId) (below : List Frame) (meth : Method) (c : Code), p.tables.exec = Jvm.exec → l.flags = flags0 → K s → c.code = cc → c.maxLocals = nL → meth.sig.returnType = ret → meth.locks = false → c.exceptionTable.isEmpty = true → s.vm.findClass y.cls = some m.cls → meth.name = y.name → Pre s.heap →
      ∀ ls : Array Slot, lv_has ls nL (lv_args 0 av) → W p l e rm s m av.toArray below meth c s.heap [] 0 0 (fx_E below s (PostC s.heap) rm.cells rm.slots (AC s.heap)) (F0 m 0 ls [])) : fx_C K y nL rm av Pre PostC AC := by
  intro p l e s m below meth c hx hfl hK hn hm hc hpre
  obtain ⟨meth', c', h1, h2, h3, h4, h5, h6, h7, -⟩ := Cond.code_spec hn (hcode s hK)
  cases Option.some.inj (hm.symm.trans h1)
  cases Option.some.inj (hc.symm.trans h2)
  rw [lg_entry_eq]
  exact body p l e s m below meth c hx hfl hK h3 h4 h5 h6 h7 (findClass_of_methodNamed hn) (name_of_methodNamed hn hm).1 hpre _ (lv_entry av hsl)
/-- how a contract of a method with handlers is begun -/
theorem fx_ofW {Pre : Heap → Prop} {PostC : Heap → Outcome → Heap → Prop} {AC : Heap → Nat → Prop} {ret : Option FieldType} {hh : List (Nat × Nat × Nat × Nat)} (hcode : ∀ s, K s → (Cond.codeWith y cc nL ret hh).before #[] s = true) (hsl : (lg_sl av).length ≤ nL)
    (body : ∀ (p : Program) (l : Launch) (e : Env) (s : State) (m : MethodId) (below : List Frame) (meth : Method) (c : Code), p.tables.exec = Jvm.exec → l.flags = flags0 → K s → c.code = cc → c.maxLocals = nL → meth.sig.returnType = ret → meth.locks = false → c.exceptionTable.toList.map (fun h => (h.startPc, h.endPc, h.handlerPc, h.catchType)) = hh → s.vm.findClass y.cls = some m.cls → meth.name = y.name → Pre s.heap →
      ∀ ls : Array Slot, lv_has ls nL (lv_args 0 av) → W p l e rm s m av.toArray below meth c s.heap [] 0 0 (fx_E below s (PostC s.heap) rm.cells rm.slots (AC s.heap)) (F0 m 0 ls [])) : fx_C K y nL rm av Pre PostC AC := by
  intro p l e s m below meth c hx hfl hK hn hm hc hpre
  obtain ⟨m', meth', c', h0, h1, h2, h3, h4, h7, h5, h6, -⟩ := Cond.codeWith_spec (hcode s hK)
  cases Option.some.inj (hn.symm.trans h0)
  cases Option.some.inj (hm.symm.trans h1)
  cases Option.some.inj (hc.symm.trans h2)
  rw [lg_entry_eq]
  exact body p l e s m below meth c hx hfl hK h3 h4 h5 h6 h7 (findClass_of_methodNamed hn) (name_of_methodNamed hn hm).1 hpre _ (lv_entry av hsl)
end FXC
end
section
def fx_Ex (H H' : Heap) : Prop := H.size ≤ H'.size ∧ ∀ q : Nat, q < H.size → H'[q]? = H[q]?
theorem fx_Ex.rf {H : Heap} : fx_Ex H H := ⟨Nat.le_refl _, fun _ _ => rfl⟩
theorem fx_Ex.tr {H H1 H2 : Heap} (h : fx_Ex H H1) (k : fx_Ex H1 H2) : fx_Ex H H2 := ⟨Nat.le_trans h.1 k.1, fun q hq => (k.2 q (Nat.lt_of_lt_of_le hq h.1)).trans (h.2 q hq)⟩
theorem fx_Ex.at {H H' : Heap} (h : fx_Ex H H') {q : Nat} {x : Cell} (hx : H[q]? = some x) : H'[q]? = some x := (h.2 q (Array.getElem?_eq_some_iff.mp hx).1).trans hx
theorem fx_Ex.kept {D : va_G} {cl : List vw_C} {H H' : Heap} (h : fx_Ex H H') {q : Nat × va_E} (hq : va_at D cl q H) : va_at D cl q H' := hq.kept (h.2 _ hq.lt)
theorem fx_F.ex {A : Nat → Prop} {mc : Nat} {H H' : Heap} (h : fx_F A mc H H') (hA : ∀ q, q < H.size → ¬ A q) : fx_Ex H H' := ⟨h.1, fun q hq => h.2.2 q hq (hA q hq)⟩
theorem fx_F.same {A : Nat → Prop} {H H' : Heap} (h : fx_F A 0 H H') (hA : ∀ q, q < H.size → ¬ A q) : H' = H := by
  have hz : H'.size = H.size := Nat.le_antisymm h.2.1 h.1
  apply Array.ext_getElem?
  intro q
  by_cases hq : q < H.size
  · exact h.2.2 q hq (hA q hq)
  · rw [Array.getElem?_eq_none (by omega), Array.getElem?_eq_none (by omega)]
theorem fx_one {D : va_G} {cl : List vw_C} {H : Heap} {q : Nat × va_E} (h : va_at D cl q H) : va_P D cl [q] H := by
  intro k q' hk
  cases k with
  | zero => cases hk; exact h
  | succ j => cases hk
end
section
/-! Words of a throw (out of the printed names of this claim). -/
/-- the words of a throw but the four that speak of the heap -/
def vx_no (w : Cond) : Bool := decide (w ≠ .isRef (.static Bundle.tN "UNASSIGNED_STACK" Bundle.steD)) && decide (w ≠ .isRef (.static Bundle.tN "SUPPRESSED_SENTINEL" Bundle.listD)) && decide (w ≠ .laysStatic Bundle.tN "UNASSIGNED_STACK" Bundle.steD) && decide (w ≠ .laysStatic Bundle.tN "SUPPRESSED_SENTINEL" Bundle.listD)
def vx_at0 (own : String) (ic : Nat) (X : String) (names : List String) : List Cond := (Bundle.ownAtoms0 own ic X names).filter vx_no
def vx_atS (own : String) (ic : Nat) (X : String) (names : List String) : List Cond := (Bundle.ownAtoms own ic X names).filter vx_no
/-- a word that the tables alone decide, or a good one -/
def vx_ot (w : Cond) : Bool := w.onTables || goodWord w
theorem vx_ot_at {args a' : Array Value} {s U : State} {w : Cond} (hW : s.WarmedH U.vm) (hvm : s.vm = U.vm) (hg : vx_ot w = true) (h : w.before args s = true) : w.before a' U = true := by
  simp only [vx_ot, Bool.or_eq_true] at hg
  rcases hg with hg | hg
  · exact va_tabs hg hvm h
  · exact word_at hW (good_of_word hg) h
/-- a list's words: the good ones out of the method's own list, the others by premises of their own -/
theorem vx_hat {args : Array Value} {s : State} {L B : List Cond} (h1 : ∀ w ∈ L.filter goodWord, w.before args s = true) (h2 : ∀ w ∈ L.filter (fun w => !goodWord w), w ∈ B) (h3 : ∀ w ∈ B, w.before args s = true) : ∀ w ∈ L, w.before args s = true := by
  intro w hw
  by_cases g : goodWord w = true
  · exact h1 w (List.mem_filter.mpr ⟨hw, g⟩)
  · refine h3 w (h2 w (List.mem_filter.mpr ⟨hw, ?_⟩))
    show (!goodWord w) = true
    cases hgw : goodWord w
    · rfl
    · exact absurd hgw g
theorem vx_c {args : Array Value} {s : State} {w : Cond} {B : List Cond} (h : w.before args s = true) (t : ∀ w ∈ B, w.before args s = true) : ∀ w' ∈ w :: B, w'.before args s = true := fun w' h' => (List.mem_cons.mp h').elim (fun e => by rw [e]; exact h) (t w')
theorem vx_n {args : Array Value} {s : State} : ∀ w ∈ ([] : List Cond), w.before args s = true := fun _ h => nomatch h
theorem vx_own {args : Array Value} {s : State} {L : List Cond} (h1 : ∀ w ∈ L.filter vx_no, w.before args s = true)
    (hU : (Cond.isRef (.static Bundle.tN "UNASSIGNED_STACK" Bundle.steD)).before args s = true) (hN : (Cond.isRef (.static Bundle.tN "SUPPRESSED_SENTINEL" Bundle.listD)).before args s = true)
    (lU : (Cond.laysStatic Bundle.tN "UNASSIGNED_STACK" Bundle.steD).before args s = true) (lN : (Cond.laysStatic Bundle.tN "SUPPRESSED_SENTINEL" Bundle.listD).before args s = true) : ∀ w ∈ L, w.before args s = true := by
  intro w hw
  by_cases e1 : w = .isRef (.static Bundle.tN "UNASSIGNED_STACK" Bundle.steD)
  · rw [e1]; exact hU
  · by_cases e2 : w = .isRef (.static Bundle.tN "SUPPRESSED_SENTINEL" Bundle.listD)
    · rw [e2]; exact hN
    · by_cases e3 : w = .laysStatic Bundle.tN "UNASSIGNED_STACK" Bundle.steD
      · rw [e3]; exact lU
      · by_cases e4 : w = .laysStatic Bundle.tN "SUPPRESSED_SENTINEL" Bundle.listD
        · rw [e4]; exact lN
        · exact h1 w (List.mem_filter.mpr ⟨hw, by unfold vx_no; rw [decide_eq_true e1, decide_eq_true e2, decide_eq_true e3, decide_eq_true e4]; rfl⟩)
/-- where a static field lies, its class's statics cell in H -/
def vx_L (C n d : String) (A : Nat → Prop) (U : State) (H : Heap) : Prop := ∃ (c : ClassId) (k : Class) (i : Nat) (f : Field) (a : Nat) (cell : Cell), U.vm.findClass C = some c ∧ U.fieldFound? C n d = some (c, k, i, f) ∧ f.isStatic = true ∧ k.statics = some a ∧ H[a]? = some cell ∧ cell.vm.isStatics = true ∧ cell.cls = c ∧ f.slot < cell.slots.size ∧ k.staticTypes[f.slot]? = some f.type ∧ ¬ A a
theorem vx_L.moved {C n d : String} {A : Nat → Prop} {u U : State} {H : Heap} (hvm : u.vm.Alike U.vm) (h : vx_L C n d A u H) : vx_L C n d A U H := by
  obtain ⟨c, k, i, f, a, cell, h1, h2, h3, h4, h5, h6, h7, h8, h9, h10⟩ := h
  obtain ⟨k', hi', he⟩ := State.fieldFound?_setVm hvm h2
  exact ⟨c, k', i, f, a, cell, by rw [hvm.findClass]; exact h1, hi', h3, by rw [he]; exact h4, h5, h6, h7, h8, by rw [he]; exact h9, h10⟩
theorem vx_L.kept {C n d : String} {A : Nat → Prop} {U : State} {H H1 : Heap} (h : vx_L C n d A U H) (hq : ∀ a : Nat, a < H.size → ¬ A a → H1[a]? = H[a]?) : vx_L C n d A U H1 := by
  obtain ⟨c, k, i, f, a, cell, h1, h2, h3, h4, h5, h6, h7, h8, h9, h10⟩ := h
  exact ⟨c, k, i, f, a, cell, h1, h2, h3, h4, by rw [hq a (Array.getElem?_eq_some_iff.mp h5).1 h10]; exact h5, h6, h7, h8, h9, h10⟩
theorem vx_L.narrow {C n d : String} {A B : Nat → Prop} {U : State} {H : Heap} (h : vx_L C n d A U H) (hAB : ∀ q, B q → A q) : vx_L C n d B U H := by
  obtain ⟨c, k, i, f, a, cell, h1, h2, h3, h4, h5, h6, h7, h8, h9, h10⟩ := h
  exact ⟨c, k, i, f, a, cell, h1, h2, h3, h4, h5, h6, h7, h8, h9, fun z => h10 (hAB _ z)⟩
theorem vx_L.word {C n d : String} {A : Nat → Prop} {s : State} {args : Array Value} (h : vx_L C n d A s s.heap) : (Cond.laysStatic C n d).before args s = true := by
  obtain ⟨c, k, i, f, a, cell, h1, h2, h3, h4, h5, h6, h7, h8, h9, -⟩ := h
  show (Cond.laysStatic C n d).holds args s none s [] = true
  exact Cond.laysStatic_of h1 h2 h3 h4 h5 h6 h7 h8 h9
/-- .. and what it holds: null or some reference -/
def vx_Zq (C n d : String) (A : Nat → Prop) (U : State) (H : Heap) : Prop := va_Zq C n d A U H ∧ vx_L C n d A U H
theorem vx_Zq.moved {C n d : String} {A : Nat → Prop} {u U : State} {H : Heap} (hvm : u.vm.Alike U.vm) (h : vx_Zq C n d A u H) : vx_Zq C n d A U H := ⟨va_Zq.moved hvm h.1, vx_L.moved hvm h.2⟩
theorem vx_Zq.kept {C n d : String} {A : Nat → Prop} {U : State} {H H1 : Heap} (h : vx_Zq C n d A U H) (hq : ∀ a : Nat, a < H.size → ¬ A a → H1[a]? = H[a]?) : vx_Zq C n d A U H1 := ⟨va_Zq.kept h.1 hq, vx_L.kept h.2 hq⟩
theorem vx_Zq.narrow {C n d : String} {A B : Nat → Prop} {U : State} {H : Heap} (h : vx_Zq C n d A U H) (hAB : ∀ q, B q → A q) : vx_Zq C n d B U H := ⟨va_Zq.narrow h.1 hAB, vx_L.narrow h.2 hAB⟩
theorem vx_Zqof {args : Array Value} {s : State} {C n d : String} {A : Nat → Prop} (hl : (Cond.laysStatic C n d).before args s = true) (hini : (Cond.initialized C).before args s = true) (h : (Cond.isRef (.static C n d)).before args s = true) (hA : ∀ a : Nat, a < s.heap.size → ¬ A a) : vx_Zq C n d A s s.heap := by
  refine ⟨va_Zqof hl hini h hA, ?_⟩
  obtain ⟨c, k, i, f, a, cell, h1, h2, h3, h4, h5, h6, h7, h8, h9⟩ := Cond.laysStatic_spec hl
  exact ⟨c, k, i, f, a, cell, h1, h2, h3, h4, h5, h6, h7, h8, h9, hA a (Array.getElem?_eq_some_iff.mp h5).1⟩
theorem vx_isRef {C n d : String} {v : Value} {A : Nat → Prop} {s : State} {args : Array Value} (h : va_Z C n d v A s s.heap) (hv : v.isRef = true) : (Cond.isRef (.static C n d)).before args s = true := by
  obtain ⟨cf, kf, fi, f, a, cell, h1, h2, h3, h4, h5, h6, h7, -⟩ := h
  have he : (Term.static C n d).eval args s none [] s = some v := by
    simp [Term.eval, State.fieldNamed?, h1, h2, h4, h5, h6, h7]
  simp only [Cond.before, Cond.holds, Cond.value, he]
  cases v <;> simp_all [Value.isRef]
theorem vx_isRefq {C n d : String} {A : Nat → Prop} {s : State} {args : Array Value} (h : va_Zq C n d A s s.heap) : (Cond.isRef (.static C n d)).before args s = true := by
  rcases h with h | ⟨t, h⟩
  · exact vx_isRef h rfl
  · exact vx_isRef h rfl
end
section
/-! Rows on the heap with exact frames: what is written is one cell; what is made is the next cell. -/
/-- but for the cell a all is as it was -/
def fx_U (a : Nat) (H H' : Heap) : Prop := H'.size = H.size ∧ ∀ q : Nat, q ≠ a → H'[q]? = H[q]?
/-- one cell more -/
def fx_G (H H' : Heap) : Prop := H'.size = H.size + 1 ∧ ∀ q : Nat, q < H.size → H'[q]? = H[q]?
theorem fx_G.ex {H H' : Heap} (h : fx_G H H') : fx_Ex H H' := ⟨by rw [h.1]; exact Nat.le_succ _, h.2⟩
theorem fx_U.kept {D : va_G} {cl : List vw_C} {a : Nat} {H H' : Heap} (h : fx_U a H H') {q : Nat × va_E} (hq : va_at D cl q H) (hne : q.1 ≠ a) : va_at D cl q H' := hq.kept (h.2 _ hne)
/-- what the tables say of a class of the list: its place there, its fields' words, types, names apart -/
def fx_K (s : State) (args : Array Value) (cl : List vw_C) (ci : Nat) (C : String) (T : u_T) (N : Nat) (ty : Nat → FieldType) : Prop :=
  cl[ci]? = some (C, T, N) ∧ (∀ w ∈ u_ws C T N, w.before args s = true) ∧ (∀ k, k < N → parseFieldDescriptor (T k).2.2.1 = some (ty k)) ∧ ∀ a, a < N → ∀ b, b < N → a ≠ b → (T a).2.1 ≠ (T b).2.1
section FXH
variable {p : Program} {l : Launch} {e : Env} {R : Room} {s : State} {m : MethodId} {args : Array Value} {below : List Frame} {meth : Method} {c : Code} {H : Heap} {locs : List Loc} {cells slots : Nat} {Q : State → Prop}
variable {cc : ByteArray} {pc : Nat} {ls : Array Slot} {rest : List Value} {D : va_G} {cl : List vw_C} {a : Nat} {tys : List (ClassId × FieldType)} {B : Nat → Prop} {own ref C : String} {T : u_T} {N ci index : Nat} {ty : Nat → FieldType}
theorem fx_ti {x y : Int32} (h : x = y) (k : W p l e R s m args below meth c H locs cells slots Q (F0 m pc ls (.int y :: rest))) : W p l e R s m args below meth c H locs cells slots Q (F0 m pc ls (.int x :: rest)) := by
  rw [h]; exact k
theorem fx_tl {x y : Int64} (h : x = y) (k : W p l e R s m args below meth c H locs cells slots Q (F0 m pc ls (.long y :: rest))) : W p l e R s m args below meth c H locs cells slots Q (F0 m pc ls (.long x :: rest)) := by
  rw [h]; exact k
theorem fx_tv {x y : Value} (h : x = y) (k : W p l e R s m args below meth c H locs cells slots Q (F0 m pc ls (y :: rest))) : W p l e R s m args below meth c H locs cells slots Q (F0 m pc ls (x :: rest)) := by
  rw [h]; exact k
theorem fx_get (hexec : p.tables.exec = Jvm.exec) (hb : c.code = cc) (hown : s.vm.findClass own = some m.cls) (hc : fx_K s args cl ci C T N ty) (hK : va_K D cl tys s) (k : Nat) (hk : k < N) (hlink : (Cond.fieldLink own index ref (T k).2.1 (T k).2.2.1).before args s = true)
    (hsame : ∀ x, s.fieldFound? (T k).1 (T k).2.1 (T k).2.2.1 = some x → s.fieldFound? ref (T k).2.1 (T k).2.2.1 = some x) {fs : List Value} {v : Value} (hO : va_at D cl (a, .inr (ci, fs)) H) (hv : fs[k]? = some v) (hdg : decode cc pc = .ok (.getfield index, 3))
    (kk : W p l e R s m args below meth c H locs cells slots Q (F0 m (pc + 3) ls (v :: rest))) : W p l e R s m args below meth c H locs cells slots Q (F0 m pc ls (.ref a :: rest)) :=
  va_get (Ts := u_ws C T N) hexec hb hc.2.1 (fun _ h => h) hown hK (fx_one hO) 0 rfl hc.1 k hk hlink hsame hv hdg kk
theorem fx_getN {host : String} (hexec : p.tables.exec = Jvm.exec) (hb : c.code = cc) (hown : s.vm.findClass own = some m.cls) (hc : fx_K s args cl ci C T N ty) (hK : va_K D cl tys s) (k : Nat) (hk : k < N) (hlink : (Cond.fieldLinkNest own index ref (T k).2.1 (T k).2.2.1 host).before args s = true)
    (hsame : ∀ x, s.fieldFound? (T k).1 (T k).2.1 (T k).2.2.1 = some x → s.fieldFound? ref (T k).2.1 (T k).2.2.1 = some x) {fs : List Value} {v : Value} (hO : va_at D cl (a, .inr (ci, fs)) H) (hv : fs[k]? = some v) (hdg : decode cc pc = .ok (.getfield index, 3))
    (kk : W p l e R s m args below meth c H locs cells slots Q (F0 m (pc + 3) ls (v :: rest))) : W p l e R s m args below meth c H locs cells slots Q (F0 m pc ls (.ref a :: rest)) :=
  va_getN (Ts := u_ws C T N) hexec hb hc.2.1 (fun _ h => h) hown hK (fx_one hO) 0 rfl hc.1 k hk hlink hsame hv hdg kk
theorem fx_app1 {i : Nat} (hL : ∀ q ∈ locs, B q.base) (ha : B a) : ∀ q ∈ locs ++ [(⟨a, i⟩ : Loc)], B q.base := fun q hq => by
  rcases List.mem_append.mp hq with h | h
  · exact hL q h
  · rw [List.mem_singleton.mp h]; exact ha
theorem fx_put (hexec : p.tables.exec = Jvm.exec) (hb : c.code = cc) (hown : s.vm.findClass own = some m.cls) (hc : fx_K s args cl ci C T N ty) (hK : va_K D cl tys s) (k : Nat) (hk : k < N) (hlink : (Cond.fieldLink own index ref (T k).2.1 (T k).2.2.1).before args s = true)
    (hsame : ∀ x, s.fieldFound? (T k).1 (T k).2.1 (T k).2.2.1 = some x → s.fieldFound? ref (T k).2.1 (T k).2.2.1 = some x) (hfin : (T k).2.2.2 = false) {fs : List Value} {v : Value} (hO : va_at D cl (a, .inr (ci, fs)) H) (hl : k < fs.length) (hn : narrow (ty k) v = v) (hfit : fits (ty k) v = true)
    (hL : ∀ q ∈ locs, B q.base) (ha : B a) (hdg : decode cc pc = .ok (.putfield index, 3))
    (kk : ∀ (H1 : Heap) (locs1 : List Loc), va_at D cl (a, .inr (ci, fs.set k v)) H1 → fx_U a H H1 → (∀ q ∈ locs1, B q.base) → W p l e R s m args below meth c H1 locs1 cells slots Q (F0 m (pc + 3) ls rest)) : W p l e R s m args below meth c H locs cells slots Q (F0 m pc ls (v :: .ref a :: rest)) := by
  obtain ⟨hc1, hts, hty, hnm⟩ := hc
  have hin : ∀ w ∈ u_ws C T N, w ∈ u_ws C T N := fun _ h => h
  have hap := va_apart (own := own) hts hin ty hty hnm hK hc1
  obtain ⟨r, h1, cell, q1, q2, q3, q4⟩ := hO
  have hr : r = (C, T, N) := Option.some.inj (h1.symm.trans hc1)
  subst hr
  obtain ⟨hS, hfc, kC, hkC, hkind⟩ := hK.1 ci _ hc1
  obtain ⟨cf, kf, fi, f, hi, hsl⟩ := hS k hk
  have hlay := hts _ (hin _ (u_in_lay hk))
  unfold u_lay at hlay
  rw [if_neg (by rw [hfin]; decide)] at hlay
  have hst := (u_facts hfc hkC (u_lays hts hin hk) hi).1
  have h6 := u_store hfc hkC hkind hlay hi (hty k hk) hn hfit
  refine W.putK hexec hb (f := f) ⟨hown, hlink, ⟨_, _, _, hsame _ hi⟩, hst⟩ (by rw [q2]; exact h6) q1 q3 (by rw [hsl]; exact k2_hasslot (q4 k hk)) rfl rfl hdg fun H' e1 e2 e3 => ?_
  rw [hsl] at e1 ⊢
  exact kk H' _ ⟨_, hc1, t_OB.to (V := updV (vp_V fs) k v) ⟨_, e1, q2, q3, t_set q4 hap hk v⟩ (fun j _ => vp_updV_set hl v j)⟩ ⟨e2, e3⟩ (fx_app1 hL ha)
theorem fx_putF (hexec : p.tables.exec = Jvm.exec) (hb : c.code = cc) (hown : s.vm.findClass own = some m.cls) (hc : fx_K s args cl ci C T N ty) (hK : va_K D cl tys s) (k : Nat) (hk : k < N) (hlink : (Cond.fieldLink own index ref (T k).2.1 (T k).2.2.1).before args s = true)
    (hsame : ∀ x, s.fieldFound? (T k).1 (T k).2.1 (T k).2.2.1 = some x → s.fieldFound? ref (T k).2.1 (T k).2.2.1 = some x) (hfin : (T k).2.2.2 = true) (hin2 : meth.name = "<init>") (hdecl : (T k).1 = own) {fs : List Value} {v : Value} (hO : va_at D cl (a, .inr (ci, fs)) H) (hl : k < fs.length) (hn : narrow (ty k) v = v) (hfit : fits (ty k) v = true)
    (hL : ∀ q ∈ locs, B q.base) (ha : B a) (hdg : decode cc pc = .ok (.putfield index, 3))
    (kk : ∀ (H1 : Heap) (locs1 : List Loc), va_at D cl (a, .inr (ci, fs.set k v)) H1 → fx_U a H H1 → (∀ q ∈ locs1, B q.base) → W p l e R s m args below meth c H1 locs1 cells slots Q (F0 m (pc + 3) ls rest)) : W p l e R s m args below meth c H locs cells slots Q (F0 m pc ls (v :: .ref a :: rest)) := by
  obtain ⟨hc1, hts, hty, hnm⟩ := hc
  have hin : ∀ w ∈ u_ws C T N, w ∈ u_ws C T N := fun _ h => h
  have hap := va_apart (own := own) hts hin ty hty hnm hK hc1
  obtain ⟨r, h1, cell, q1, q2, q3, q4⟩ := hO
  have hr : r = (C, T, N) := Option.some.inj (h1.symm.trans hc1)
  subst hr
  obtain ⟨hS, hfc, kC, hkC, hkind⟩ := hK.1 ci _ hc1
  obtain ⟨cf, kf, fi, f, hi, hsl⟩ := hS k hk
  have hlay := hts _ (hin _ (u_in_lay hk))
  unfold u_lay at hlay
  rw [if_pos hfin] at hlay
  have hst := (u_facts hfc hkC (u_lays hts hin hk) hi).1
  have hcf : m.cls = cf := by
    obtain ⟨_, _, c', _, _, _, -, -, hf', -, -, -, hown2, -⟩ := Cond.laysFinal_spec hlay
    have e1 : c' = cf := by have := hi.symm.trans hf'; simp at this; exact this.1.symm
    rw [hdecl] at hown2
    rw [← e1]; exact Option.some.inj (hown.symm.trans hown2)
  have h6 := u_fits hfc hkC hkind (Or.inr hlay) hi (hty k hk) hn hfit
  refine W.putFinK hexec hb hown hlink (hsame _ hi) hst hcf hin2 (by rw [q2]; exact h6) q1 q3 (by rw [hsl]; exact k2_hasslot (q4 k hk)) rfl rfl hdg fun H' e1 e2 e3 => ?_
  rw [hsl] at e1 ⊢
  exact kk H' _ ⟨_, hc1, t_OB.to (V := updV (vp_V fs) k v) ⟨_, e1, q2, q3, t_set q4 hap hk v⟩ (fun j _ => vp_updV_set hl v j)⟩ ⟨e2, e3⟩ (fx_app1 hL ha)
theorem fx_new (hexec : p.tables.exec = Jvm.exec) (hb : c.code = cc) (hown : s.vm.findClass own = some m.cls) (hc : fx_K s args cl ci C T N ty) (hK : va_K D cl tys s) {n : Nat} (hcl : (Cond.classLink own index C).before args s = true) (hinst : (Cond.instantiable C n).before args s = true) (hini : (Cond.initialized C).before args s = true)
    {fs : List Value} (hfs : ∀ j, j < N → defaultValue (ty j) = vp_V fs j) (hcells : cells + 1 ≤ R.cells) (hslots : slots + n ≤ R.slots) (hdg : decode cc pc = .ok (.new index, 3))
    (kk : ∀ (q : Nat) (H1 : Heap), q = H.size → va_at D cl (q, .inr (ci, fs)) H1 → fx_G H H1 → W p l e R s m args below meth c H1 locs (cells + 1) (slots + n) Q (F0 m (pc + 3) ls (.ref q :: rest))) : W p l e R s m args below meth c H locs cells slots Q (F0 m pc ls rest) := by
  have hKn := hK.1 ci _ hc.1
  refine W.newcK hexec hb hown hcl hinst hini rfl hdg hcells hslots hKn.2.1 rfl fun H1 kC hkC e1 z1 o1 => ?_
  exact kk H.size H1 rfl ⟨_, hc.1, (u_born ty hc.2.1 (fun _ h => h) hKn hkC e1 hc.2.2.1).to hfs⟩ ⟨z1, o1⟩
theorem fx_iald (hexec : p.tables.exec = Jvm.exec) (hb : c.code = cc) (hK : va_K D cl tys s) (t0 : Nat) {cA : ClassId} {n : Nat} {f : Nat → Int32} (hO : va_at D cl (a, .inl (cA, n, .inl f)) H) (ht : tys[t0]? = some (cA, .int)) {i : Int32} {j : Nat} (hi : i = nI j) (hj : j < n) (hn : n < 2 ^ 31) (hdg : decode cc pc = .ok (.iaload, 1))
    (kk : W p l e R s m args below meth c H locs cells slots Q (F0 m (pc + 1) ls (.int (f j) :: rest))) : W p l e R s m args below meth c H locs cells slots Q (F0 m pc ls (.int i :: .ref a :: rest)) := by
  subst hi
  refine va_iald hexec hb hK (fx_one hO) 0 t0 rfl ht (vp_in_nI hj hn) hdg ?_
  rw [nI_clamp (by omega)]
  exact kk
theorem fx_lald (hexec : p.tables.exec = Jvm.exec) (hb : c.code = cc) (hK : va_K D cl tys s) (t0 : Nat) {cA : ClassId} {n : Nat} {f : Nat → Int64} (hO : va_at D cl (a, .inl (cA, n, .inr (.inl f))) H) (ht : tys[t0]? = some (cA, .long)) {i : Int32} {j : Nat} (hi : i = nI j) (hj : j < n) (hn : n < 2 ^ 31) (hdg : decode cc pc = .ok (.laload, 1))
    (kk : W p l e R s m args below meth c H locs cells slots Q (F0 m (pc + 1) ls (.long (f j) :: rest))) : W p l e R s m args below meth c H locs cells slots Q (F0 m pc ls (.int i :: .ref a :: rest)) := by
  subst hi
  refine va_lald hexec hb hK (fx_one hO) 0 t0 rfl ht (vp_in_nI hj hn) hdg ?_
  rw [nI_clamp (by omega)]
  exact kk
theorem fx_aald (hexec : p.tables.exec = Jvm.exec) (hb : c.code = cc) (hK : va_K D cl tys s) (t0 : Nat) {cA : ClassId} {E : String} {n : Nat} {f : Nat → Option Nat} (hO : va_at D cl (a, .inl (cA, n, .inr (.inr (.inr (.inr f))))) H) (ht : tys[t0]? = some (cA, .object E)) {i : Int32} {j : Nat} (hi : i = nI j) (hj : j < n) (hn : n < 2 ^ 31) (hdg : decode cc pc = .ok (.aaload, 1))
    (kk : W p l e R s m args below meth c H locs cells slots Q (F0 m (pc + 1) ls (va_rf (f j) :: rest))) : W p l e R s m args below meth c H locs cells slots Q (F0 m pc ls (.int i :: .ref a :: rest)) := by
  subst hi
  refine va_aldq hexec hb hK (fx_one hO) 0 t0 rfl ht (vp_in_nI hj hn) hdg ?_
  rw [nI_clamp (by omega)]
  exact kk
theorem fx_alen (hexec : p.tables.exec = Jvm.exec) (hb : c.code = cc) (hK : va_K D cl tys s) (t0 : Nat) {cA : ClassId} {x : vp_A} {t : FieldType} (hO : va_at D cl (a, .inl (cA, x)) H) (ht : tys[t0]? = some (cA, t)) (hdg : decode cc pc = .ok (.arraylength, 1))
    (kk : W p l e R s m args below meth c H locs cells slots Q (F0 m (pc + 1) ls (.int (nI x.1) :: rest))) : W p l e R s m args below meth c H locs cells slots Q (F0 m pc ls (.ref a :: rest)) :=
  va_alen hexec hb hK (fx_one hO) 0 t0 rfl ht rfl hdg kk
theorem fx_iast (hexec : p.tables.exec = Jvm.exec) (hb : c.code = cc) (hK : va_K D cl tys s) (t0 : Nat) {cA : ClassId} {n : Nat} {f : Nat → Int32} (hO : va_at D cl (a, .inl (cA, n, .inl f)) H) (ht : tys[t0]? = some (cA, .int)) {i x : Int32} {j : Nat} (hi : i = nI j) (hj : j < n) (hn : n < 2 ^ 31) (hL : ∀ q ∈ locs, B q.base) (ha : B a) (hdg : decode cc pc = .ok (.iastore, 1))
    (kk : ∀ (H1 : Heap) (locs1 : List Loc), va_at D cl (a, .inl (cA, n, .inl (upd f j x))) H1 → fx_U a H H1 → (∀ q ∈ locs1, B q.base) → W p l e R s m args below meth c H1 locs1 cells slots Q (F0 m (pc + 1) ls rest)) : W p l e R s m args below meth c H locs cells slots Q (F0 m pc ls (.int x :: .int i :: .ref a :: rest)) := by
  subst hi
  refine W.iast hexec hb hO ((hK.2 t0 _ ht).1 n (fun j => .int (f j))) (fun q => by cases q) (by show ¬ (nI j < 0 ∨ (arrV _ _ _).slots.size ≤ _); rw [arrV_size]; exact vp_in_nI hj hn) rfl rfl hdg fun H1 e z oq => ?_
  refine kk H1 _ ?_ ⟨z, oq⟩ (fx_app1 hL ha)
  show H1[a]? = some (vp_cell _ _)
  rw [e, nI_clamp (by omega)]
  show some ((vp_cell cA (n, .inl f)).setSlot j (.int x)) = _
  rw [vp_cell_i, vp_cell_i, arrV_store]
  congr 2
  funext q
  by_cases hq : q = j
  · subst hq
    simp [updV, upd]
  · simp [updV, upd, hq]
theorem fx_last (hexec : p.tables.exec = Jvm.exec) (hb : c.code = cc) (hK : va_K D cl tys s) (t0 : Nat) {cA : ClassId} {n : Nat} {f : Nat → Int64} (hO : va_at D cl (a, .inl (cA, n, .inr (.inl f))) H) (ht : tys[t0]? = some (cA, .long)) {i : Int32} {x : Int64} {j : Nat} (hi : i = nI j) (hj : j < n) (hn : n < 2 ^ 31) (hL : ∀ q ∈ locs, B q.base) (ha : B a) (hdg : decode cc pc = .ok (.lastore, 1))
    (kk : ∀ (H1 : Heap) (locs1 : List Loc), va_at D cl (a, .inl (cA, n, .inr (.inl (vp_updL f j x)))) H1 → fx_U a H H1 → (∀ q ∈ locs1, B q.base) → W p l e R s m args below meth c H1 locs1 cells slots Q (F0 m (pc + 1) ls rest)) : W p l e R s m args below meth c H locs cells slots Q (F0 m pc ls (.long x :: .int i :: .ref a :: rest)) := by
  subst hi
  refine W.last hexec hb hO ((hK.2 t0 _ ht).1 n (fun j => .long (f j))) (fun q => by cases q) (by show ¬ (nI j < 0 ∨ (arrV _ _ _).slots.size ≤ _); rw [arrV_size]; exact vp_in_nI hj hn) rfl rfl hdg fun H1 e z oq => ?_
  refine kk H1 _ ?_ ⟨z, oq⟩ (fx_app1 hL ha)
  show H1[a]? = some (vp_cell _ _)
  rw [e, nI_clamp (by omega)]
  show some ((vp_cell cA (n, .inr (.inl f))).setSlot j (.long x)) = _
  rw [vp_cell_l, vp_cell_l, arrV_store]
  congr 2
  funext q
  by_cases hq : q = j
  · subst hq
    simp [updV, vp_updL]
  · simp [updV, vp_updL, hq]
/-- a new array of ints: its class is the one known -/
theorem fx_newI (hexec : p.tables.exec = Jvm.exec) (hb : c.code = cc) (hK : va_K D cl tys s) (t0 : Nat) {cA : ClassId} (ht : tys[t0]? = some (cA, .int)) (harr : (Cond.arrayClass .int).before args s = true) {n : Int32} {N : Nat} (hn : n = nI N) (hN : N ≤ 100000) (hcells : cells + 1 ≤ R.cells) (hslots : slots + N ≤ R.slots) (hdg : decode cc pc = .ok (.newarray .int, 2))
    (kk : ∀ (q : Nat) (H1 : Heap), q = H.size → va_at D cl (q, .inl (cA, N, .inl (fun _ => 0))) H1 → fx_G H H1 → W p l e R s m args below meth c H1 locs (cells + 1) (slots + N) Q (F0 m (pc + 2) ls (.ref q :: rest))) : W p l e R s m args below meth c H locs cells slots Q (F0 m pc ls (.int n :: rest)) := by
  subst hn
  refine va_newaK (atype := .int) hexec hb harr rfl hdg rfl (nI_pos (by omega)) (nI_clamp (by omega)) (by show N * 4 ≤ 536870912; omega) hcells hslots rfl fun H1 cB e1 z1 o1 hAr hNm => ?_
  have h2 : s.vm.findClass ("[" ++ FieldType.int.toString) = some cA := (hK.2 t0 _ ht).2
  have h3 : s.vm.findClass ("[" ++ FieldType.int.toString) = some cB := hNm
  cases Option.some.inj (h2.symm.trans h3)
  exact kk H.size H1 rfl e1 ⟨z1, o1⟩
theorem fx_newL (hexec : p.tables.exec = Jvm.exec) (hb : c.code = cc) (hK : va_K D cl tys s) (t0 : Nat) {cA : ClassId} (ht : tys[t0]? = some (cA, .long)) (harr : (Cond.arrayClass .long).before args s = true) {n : Int32} {N : Nat} (hn : n = nI N) (hN : N ≤ 100000) (hcells : cells + 1 ≤ R.cells) (hslots : slots + N ≤ R.slots) (hdg : decode cc pc = .ok (.newarray .long, 2))
    (kk : ∀ (q : Nat) (H1 : Heap), q = H.size → va_at D cl (q, .inl (cA, N, .inr (.inl (fun _ => 0)))) H1 → fx_G H H1 → W p l e R s m args below meth c H1 locs (cells + 1) (slots + N) Q (F0 m (pc + 2) ls (.ref q :: rest))) : W p l e R s m args below meth c H locs cells slots Q (F0 m pc ls (.int n :: rest)) := by
  subst hn
  refine va_newaK (atype := .long) hexec hb harr rfl hdg rfl (nI_pos (by omega)) (nI_clamp (by omega)) (by show N * 8 ≤ 536870912; omega) hcells hslots rfl fun H1 cB e1 z1 o1 hAr hNm => ?_
  have h2 : s.vm.findClass ("[" ++ FieldType.long.toString) = some cA := (hK.2 t0 _ ht).2
  have h3 : s.vm.findClass ("[" ++ FieldType.long.toString) = some cB := hNm
  cases Option.some.inj (h2.symm.trans h3)
  exact kk H.size H1 rfl e1 ⟨z1, o1⟩
end FXH
/-- an array of ints that holds a list -/
def fx_A (D : va_G) (cl : List vw_C) (cI : ClassId) (a : Nat) (xs : List Int32) (H : Heap) : Prop := va_at D cl (a, .inl (cI, xs.length, .inl (fun j => xs.getD j 0))) H
theorem fx_cell_eq {cI : ClassId} {n : Nat} {f g : Nat → Int32} (h : ∀ j, j < n → f j = g j) : vp_cell cI (n, .inl f) = vp_cell cI (n, .inl g) := by
  rw [vp_cell_i, vp_cell_i]
  unfold arrV
  congr 1
  apply Array.ext_getElem?
  intro i
  by_cases hi : i < n
  · simp [Array.getElem?_ofFn, hi, h i hi]
  · simp [Array.getElem?_ofFn, hi]
theorem fx_A.of {D : va_G} {cl : List vw_C} {cI : ClassId} {a n : Nat} {f : Nat → Int32} {xs : List Int32} {H : Heap} (h : va_at D cl (a, .inl (cI, n, .inl f)) H) (hn : n = xs.length) (hf : ∀ j, j < n → f j = xs.getD j 0) : fx_A D cl cI a xs H := by
  subst hn
  have h1 : H[a]? = some (vp_cell cI (xs.length, .inl f)) := h
  show H[a]? = some (vp_cell cI (xs.length, .inl (fun j => xs.getD j 0)))
  rw [h1, fx_cell_eq hf]
theorem fx_A.ex {D : va_G} {cl : List vw_C} {cI : ClassId} {a : Nat} {xs : List Int32} {H H' : Heap} (h : fx_A D cl cI a xs H) (hx : fx_Ex H H') : fx_A D cl cI a xs H' := hx.kept h
theorem fx_gen {p : Program} {l : Launch} {e : Env} {R : Room} {s : State} {m : MethodId} {args : Array Value} {below : List Frame} {meth : Method} {c : Code} {H : Heap} {locs : List Loc} {cells slots : Nat} {Q : State → Prop} {g : JFrame} (h : ∀ Q', Q' = Q → W p l e R s m args below meth c H locs cells slots Q' g) : W p l e R s m args below meth c H locs cells slots Q g := h Q rfl
end
section
/-! System.arraycopy between two arrays of ints, and an array's clone, with exact frames. -/
section FXCP
variable {p : Program} {l : Launch} {e : Env} {R : Room} {s : State} {m : MethodId} {args : Array Value} {below : List Frame} {meth : Method} {c : Code} {H : Heap} {locs : List Loc} {cells slots : Nat} {Q : State → Prop}
variable {cc : ByteArray} {pc : Nat} {ls : Array Slot} {rest : List Value} {D : va_G} {cl : List vw_C} {a : Nat} {tys : List (ClassId × FieldType)} {B : Nat → Prop}
theorem fx_copyI (hexec : p.tables.exec = Jvm.exec) (hb : c.code = cc) (hml : ls.size = c.maxLocals) {own : String} {index : Nat} (hown : s.vm.findClass own = some m.cls) (hlink : (Cond.methodLink own index arraycopyName).before args s = true) (hnat : (Cond.native arraycopyName).before args s = true) (hstat : (Cond.static arraycopyName).before args s = true) (hini : (Cond.initialized "java/lang/System").before args s = true)
    (hK : va_K D cl tys s) (t0 : Nat) {a0 : Nat} {cI : ClassId} {n0 n1 : Nat} {f g : Nat → Int32} (ht : tys[t0]? = some (cI, .int)) (ha0 : va_at D cl (a0, .inl (cI, n0, .inl f)) H) (ha1 : va_at D cl (a, .inl (cI, n1, .inl g)) H)
    {sp dp n : Int32} {i j k : Nat} (hi : sp = nI i) (hj : dp = nI j) (hk : n = nI k) (h4 : i + k ≤ n0) (h5 : j + k ≤ n1) (hz : n0 < 2 ^ 31 ∧ n1 < 2 ^ 31)
    (hframes : 1 ≤ R.frames) (hlocals : (rest.map fun v => v.category).sum + (nativeFrameWords "java/lang/System" "arraycopy" 5 + 11) ≤ R.locals) (hL : ∀ q ∈ locs, B q.base) (hB : B a) (hdg : decode cc pc = .ok (.invokestatic index, 3))
    (kk : ∀ (H1 : Heap) (locs1 : List Loc), va_at D cl (a, .inl (cI, n1, .inl (va_cpy f g i j k))) H1 → fx_U a H H1 → (∀ q ∈ locs1, B q.base) → W p l e R s m args below meth c H1 locs1 cells slots Q (F0 m (pc + 3) ls rest)) : W p l e R s m args below meth c H locs cells slots Q (F0 m pc ls (.int n :: .int dp :: .ref a :: .int sp :: .ref a0 :: rest)) := by
  subst hi; subst hj; subst hk
  have ei : (nI i).toNatClampNeg = i := nI_clamp (by omega)
  have ej : (nI j).toNatClampNeg = j := nI_clamp (by omega)
  have ek : (nI k).toNatClampNeg = k := nI_clamp (by omega)
  intro T hT X
  have hc0 : H[a0]? = some (vp_cell cI (n0, .inl f)) := ha0
  have hc1 : H[a]? = some (vp_cell cI (n1, .inl g)) := ha1
  obtain ⟨-, k0, hk0, cm0, hkk0⟩ := (hK.2 t0 _ ht).1 n0 (fun j => .int (f j))
  obtain ⟨-, k1, hk1, cm1, hkk1⟩ := (hK.2 t0 _ ht).1 n1 (fun j => .int (g j))
  obtain ⟨vm', X', step⟩ := X.arraycopy hexec hown hlink hnat hstat hini (src := a0) (dst := a) (cs := vp_cell cI (n0, .inl f)) (cd := vp_cell cI (n1, .inl g)) (srcPos := nI i) (destPos := nI j) (n := nI k) (by rw [hT]; exact hc0) (by rw [hT]; exact hc1)
    (fun _ h => by cases h) (fun _ h => by cases h) (fun h => by cases h) (fun h => by cases h) hk0 hk1 hkk0 hkk1 (show (refKind FieldType.int != refKind FieldType.int || !refKind FieldType.int && FieldType.int != FieldType.int) = false by decide) (nI_pos (by omega)) (nI_pos (by omega)) (nI_pos (by omega))
    (by rw [nI_toInt (by omega), nI_toInt (by omega)]; show ¬ _ > ((arrV cI n0 (fun j => .int (f j))).slots.size : Int); rw [arrV_size]; omega)
    (by rw [nI_toInt (by omega), nI_toInt (by omega)]; show ¬ _ > ((arrV cI n1 (fun j => .int (g j))).slots.size : Int); rw [arrV_size]; omega)
    (fun vm₁ _ z hz => by
      rw [ek] at hz
      have e : (vp_cell cI (n0, .inl f)).slots.getD ((nI i).toNatClampNeg + z) .null = .int (f ((nI i).toNatClampNeg + z)) := by
        show (arrV cI n0 (fun j => .int (f j))).slots.getD _ _ = _
        rw [Array.getD_eq_getD_getElem?, arrV_read _ _ (by omega)]
        rfl
      refine ⟨?_, ?_⟩
      · rw [e]
        rfl
      · rw [e]
        exact trivial)
    (g := F0 m pc ls (.int (nI k) :: .int (nI j) :: .ref a :: .int (nI i) :: .ref a0 :: rest)) rfl (by rw [← hml]) (rest := rest) rfl (by rw [hb]; exact hdg) hframes (by show 2 * 0 + _ + _ ≤ _; omega)
  have e1 : copied (vp_cell cI (n0, .inl f)) (vp_cell cI (n1, .inl g)) (nI i) (nI j) (nI k) = vp_cell cI (n1, .inl (va_cpy f g i j k)) := by
    have := va_copied (fun z => .int z) cI cI (n0 := n0) (n1 := n1) (sp := (nI i).toNatClampNeg) (dp := (nI j).toNatClampNeg) (n := (nI k).toNatClampNeg) f g (by rw [ei, ek]; exact h4)
    rw [ei, ej, ek] at this
    exact Eq.trans (by unfold copied; rw [ei, ej, ek]; rfl) this
  rw [e1] at X' step
  have hl : a < H.size := (Array.getElem?_eq_some_iff.mp hc1).1
  have hheap : ((T.setVm vm').setCell a (vp_cell cI (n1, .inl (va_cpy f g i j k)))).heap = H.setIfInBounds a (vp_cell cI (n1, .inl (va_cpy f g i j k))) := by rw [← hT]; rfl
  obtain ⟨t, a1, b1⟩ := kk (H.setIfInBounds a (vp_cell cI (n1, .inl (va_cpy f g i j k)))) _ (show (H.setIfInBounds a _)[a]? = some _ by simp [Array.getElem?_setIfInBounds, hl]) ⟨by simp, fun q hq => by simp [Array.getElem?_setIfInBounds, Ne.symm hq]⟩
    (fun q hq => by
      rcases List.mem_append.mp hq with h | h
      · exact hL q h
      · obtain ⟨z, -, hz⟩ := List.mem_map.mp h
        rw [← hz]
        exact hB) _ hheap X'
  exact ⟨t, step t a1, b1⟩
end FXCP
end
section
/-! The document's state and calls as mathematics: a list of versions (kind, form, elements, keys); a call answers (code, value, the new list): code 0: it returned; 1, 2, 3: the first, second, third of its exceptions. -/
abbrev sV : Type := Int32 × Int32 × List Int32 × List Int32
abbrev sV.es (o : sV) : List Int32 := o.2.2.1
abbrev sV.ks (o : sV) : List Int32 := o.2.2.2
def sv_ok (o : sV) : Prop := o.2.2.1.length ≤ 100 ∧ (o.1 = 3 → o.2.2.2.length = o.2.2.1.length) ∧ o.2.2.2.length ≤ 100
def sv_cb (xs : List Int32) (x : Int32) : Nat := (xs.takeWhile (fun y => decide (y < x))).length
def sv_ins (xs : List Int32) (p : Nat) (x : Int32) : List Int32 := xs.take p ++ x :: xs.drop p
def sv_plc (o : sV) (x : Int32) : Nat := if o.1 = 2 then 0 else if o.1 = 1 then sv_cb o.2.2.1 x else o.2.2.1.length
def sv_mg : Nat → List Int32 → List Int32 → List Int32
  | 0, _, _ => []
  | n + 1, xs, ys => match xs, ys with
    | [], [] => []
    | x :: xs', [] => x :: sv_mg n xs' []
    | [], y :: ys' => y :: sv_mg n [] ys'
    | x :: xs', y :: ys' => if x ≤ y then x :: sv_mg n xs' (y :: ys') else y :: sv_mg n (x :: xs') ys'
def sv_mrg (xs ys : List Int32) : List Int32 := sv_mg (xs.length + ys.length) xs ys
def sv_at (Vs : List sV) (v : Int32) : Option sV := if v < 0 then none else Vs[v.toNatClampNeg]?
/-- the fewest trees of 1, 3, 7, 15, .. that have n elements together, taken greedily -/
def sv_few (n : Nat) : Nat := n / 63 + n % 63 / 31 + n % 63 % 31 / 15 + n % 63 % 31 % 15 / 7 + n % 63 % 31 % 15 % 7 / 3 + n % 63 % 31 % 15 % 7 % 3
def sv_bit (n : Nat) : Nat := n % 2 + n / 2 % 2 + n / 4 % 2 + n / 8 % 2 + n / 16 % 2 + n / 32 % 2 + n / 64 % 2
def sv_prt (o : sV) : Nat := if o.1 = 2 ∧ o.2.1 = 0 then sv_few o.2.2.1.length else if (o.1 = 1 ∨ o.1 = 2) ∧ o.2.1 = 1 then sv_bit o.2.2.1.length else if 0 < o.2.2.1.length then 1 else 0
abbrev sR : Type := Nat × Int32 × List sV
def sv_new (Vs : List sV) (o : sV) : sR := (0, nI Vs.length, Vs ++ [o])
def so_empty (Vs : List sV) (k f : Int32) : sR :=
  if 0 ≤ k ∧ k ≤ 4 ∧ 0 ≤ f ∧ f ≤ (if k < 2 then 2 else if k < 4 then 1 else 0) then (if 64 ≤ Vs.length then (2, 0, Vs) else sv_new Vs (k, f, [], [])) else (1, 0, Vs)
def so_add (Vs : List sV) (v x : Int32) : sR := match sv_at Vs v with
  | none => (1, 0, Vs)
  | some o => if o.1 = 3 then (1, 0, Vs) else if 64 ≤ Vs.length ∨ 100 ≤ o.2.2.1.length then (2, 0, Vs) else sv_new Vs (o.1, o.2.1, sv_ins o.2.2.1 (sv_plc o x) x, o.2.2.2)
def so_first (Vs : List sV) (v : Int32) : sR := match sv_at Vs v with
  | none => (1, 0, Vs)
  | some o => if o.1 = 3 then (1, 0, Vs) else if o.2.2.1.length = 0 then (2, 0, Vs) else (0, o.2.2.1.getD 0 0, Vs)
def so_rest (Vs : List sV) (v : Int32) : sR := match sv_at Vs v with
  | none => (1, 0, Vs)
  | some o => if o.1 = 3 then (1, 0, Vs) else if 64 ≤ Vs.length then (2, 0, Vs) else if o.2.2.1.length = 0 then (3, 0, Vs) else sv_new Vs (o.1, o.2.1, o.2.2.1.drop 1, o.2.2.2)
def so_join (Vs : List sV) (v w : Int32) : sR := match sv_at Vs v, sv_at Vs w with
  | some a, some b => if (a.1 = 1 ∨ a.1 = 4) ∧ a.1 = b.1 ∧ a.2.1 = b.2.1 then (if 64 ≤ Vs.length ∨ 100 < a.2.2.1.length + b.2.2.1.length then (2, 0, Vs) else sv_new Vs (a.1, a.2.1, (if a.1 = 4 then a.2.2.1 ++ b.2.2.1 else sv_mrg a.2.2.1 b.2.2.1), a.2.2.2)) else (1, 0, Vs)
  | _, _ => (1, 0, Vs)
def so_bind (Vs : List sV) (v key x : Int32) : sR := match sv_at Vs v with
  | none => (1, 0, Vs)
  | some o => if o.1 = 3 ∧ 0 ≤ key ∧ key ≤ 255 then
      (if o.2.2.2[sv_cb o.2.2.2 key]? = some key then (if 64 ≤ Vs.length then (2, 0, Vs) else sv_new Vs (o.1, o.2.1, o.2.2.1.set (sv_cb o.2.2.2 key) x, o.2.2.2))
       else (if 64 ≤ Vs.length ∨ 100 ≤ o.2.2.1.length then (2, 0, Vs) else sv_new Vs (o.1, o.2.1, sv_ins o.2.2.1 (sv_cb o.2.2.2 key) x, sv_ins o.2.2.2 (sv_cb o.2.2.2 key) key)))
      else (1, 0, Vs)
def so_value (Vs : List sV) (v key : Int32) : sR := match sv_at Vs v with
  | none => (1, 0, Vs)
  | some o => if o.1 = 3 then (if o.2.2.2[sv_cb o.2.2.2 key]? = some key then (0, o.2.2.1.getD (sv_cb o.2.2.2 key) 0, Vs) else (2, 0, Vs)) else (1, 0, Vs)
def so_update (Vs : List sV) (v i x : Int32) : sR := match sv_at Vs v with
  | none => (1, 0, Vs)
  | some o => if o.1 = 2 then (if 64 ≤ Vs.length then (2, 0, Vs) else if i < 0 ∨ nI o.2.2.1.length ≤ i then (3, 0, Vs) else sv_new Vs (o.1, o.2.1, o.2.2.1.set i.toNatClampNeg x, o.2.2.2)) else (1, 0, Vs)
def so_at (Vs : List sV) (v i : Int32) : sR := match sv_at Vs v with
  | none => (1, 0, Vs)
  | some o => if i < 0 ∨ nI o.2.2.1.length ≤ i then (2, 0, Vs) else (0, o.2.2.1.getD i.toNatClampNeg 0, Vs)
def so_size (Vs : List sV) (v : Int32) : sR := match sv_at Vs v with
  | none => (1, 0, Vs)
  | some o => (0, nI o.2.2.1.length, Vs)
def so_parts (Vs : List sV) (v : Int32) : sR := match sv_at Vs v with
  | none => (1, 0, Vs)
  | some o => (0, nI (sv_prt o), Vs)
def so_kind (Vs : List sV) (v : Int32) : sR := match sv_at Vs v with
  | none => (1, 0, Vs)
  | some o => (0, 10 * o.1 + o.2.1, Vs)
-- pure rows
theorem sv_cb_le (xs : List Int32) (x : Int32) : sv_cb xs x ≤ xs.length := by
  unfold sv_cb
  exact List.IsPrefix.length_le (List.takeWhile_prefix _)
theorem sv_cb_cons (y : Int32) (ys : List Int32) (x : Int32) : sv_cb (y :: ys) x = if y < x then sv_cb ys x + 1 else 0 := by
  unfold sv_cb
  by_cases h : y < x
  · simp [h]
  · simp [h]
/-- the loop's end: all before k are below x, and k is the end or the element at k isn't below -/
theorem sv_cb_of : ∀ (xs : List Int32) (x : Int32) (k : Nat), k ≤ xs.length → (∀ j, j < k → xs.getD j 0 < x) → (k = xs.length ∨ ¬ xs.getD k 0 < x) → sv_cb xs x = k
  | [], x, k, h1, _, _ => by
    have : k = 0 := by simpa using h1
    subst this
    rfl
  | y :: ys, x, k, h1, h2, h3 => by
    rw [sv_cb_cons]
    cases k with
    | zero =>
      rcases h3 with h3 | h3
      · simp at h3
      · rw [if_neg (by simpa using h3)]
    | succ k =>
      have h0 : y < x := by simpa using h2 0 (by omega)
      rw [if_pos h0]
      congr 1
      refine sv_cb_of ys x k (by simpa using h1) (fun j hj => by simpa using h2 (j + 1) (by omega)) ?_
      rcases h3 with h3 | h3
      · left; simpa using h3
      · right; simpa using h3
theorem sv_ins_length {xs : List Int32} {p : Nat} {x : Int32} (h : p ≤ xs.length) : (sv_ins xs p x).length = xs.length + 1 := by
  unfold sv_ins
  simp only [List.length_append, List.length_take, List.length_cons, List.length_drop]
  omega
theorem sv_ins_get {xs : List Int32} {p : Nat} {x : Int32} (h : p ≤ xs.length) (j : Nat) : (sv_ins xs p x).getD j 0 = if j < p then xs.getD j 0 else if j = p then x else xs.getD (j - 1) 0 := by
  unfold sv_ins
  simp only [List.getD_eq_getElem?_getD]
  by_cases h1 : j < p
  · rw [if_pos h1, List.getElem?_append_left (by simp only [List.length_take]; omega), List.getElem?_take, if_pos h1]
  · rw [if_neg h1, List.getElem?_append_right (by simp only [List.length_take]; omega)]
    have e : j - (xs.take p).length = j - p := by simp only [List.length_take]; omega
    rw [e]
    by_cases h2 : j = p
    · subst h2
      simp
    · rw [if_neg h2]
      have e2 : j - p = (j - p - 1) + 1 := by omega
      rw [e2, List.getElem?_cons_succ, List.getElem?_drop]
      congr 2
      omega
theorem sv_mg_left {n : Nat} {x : Int32} {xs ys : List Int32} (h : ys = [] ∨ x ≤ ys.getD 0 0) : sv_mg (n + 1) (x :: xs) ys = x :: sv_mg n xs ys := by
  cases ys with
  | nil => rfl
  | cons y ys =>
    have h' : x ≤ y := by
      rcases h with h | h
      · cases h
      · simpa using h
    show (if x ≤ y then x :: sv_mg n xs (y :: ys) else y :: sv_mg n (x :: xs) ys) = _
    rw [if_pos h']
theorem sv_mg_right {n : Nat} {y : Int32} {xs ys : List Int32} (h : xs = [] ∨ ¬ xs.getD 0 0 ≤ y) : sv_mg (n + 1) xs (y :: ys) = y :: sv_mg n xs ys := by
  cases xs with
  | nil => rfl
  | cons x xs =>
    have h' : ¬ x ≤ y := by
      rcases h with h | h
      · cases h
      · simpa using h
    show (if x ≤ y then x :: sv_mg n xs (y :: ys) else y :: sv_mg n (x :: xs) ys) = _
    rw [if_neg h']
theorem sv_mg_len : ∀ (n : Nat) (xs ys : List Int32), n = xs.length + ys.length → (sv_mg n xs ys).length = n
  | 0, _, _, _ => rfl
  | n + 1, [], [], h => by simp at h
  | n + 1, x :: xs, [], h => by
    show (x :: sv_mg n xs []).length = _
    rw [List.length_cons, sv_mg_len n xs [] (by simpa using h)]
  | n + 1, [], y :: ys, h => by
    show (y :: sv_mg n [] ys).length = _
    rw [List.length_cons, sv_mg_len n [] ys (by simpa using h)]
  | n + 1, x :: xs, y :: ys, h => by
    show (if x ≤ y then x :: sv_mg n xs (y :: ys) else y :: sv_mg n (x :: xs) ys).length = _
    simp only [List.length_cons] at h
    by_cases hc : x ≤ y
    · rw [if_pos hc, List.length_cons, sv_mg_len n xs (y :: ys) (by simp only [List.length_cons]; omega)]
    · rw [if_neg hc, List.length_cons, sv_mg_len n (x :: xs) ys (by simp only [List.length_cons]; omega)]
theorem sv_mrg_length (xs ys : List Int32) : (sv_mrg xs ys).length = xs.length + ys.length := sv_mg_len _ _ _ rfl
end
section
/-! The world's constants, and what the tables say of them wherever the walk stands. -/
abbrev Wd : Type := va_G × (ClassId × ClassId × ClassId) × Heap × (Nat × Nat × Nat) × (Nat → Nat)
abbrev Wd.D (w : Wd) : va_G := w.1
abbrev Wd.I (w : Wd) : ClassId := w.2.1.1
abbrev Wd.J (w : Wd) : ClassId := w.2.1.2.1
abbrev Wd.O (w : Wd) : ClassId := w.2.1.2.2
abbrev Wd.H0 (w : Wd) : Heap := w.2.2.1
abbrev Wd.FA (w : Wd) : Nat := w.2.2.2.1.1
abbrev Wd.E0 (w : Wd) : Nat := w.2.2.2.1.2.1
abbrev Wd.mi (w : Wd) : Nat := w.2.2.2.1.2.2
abbrev Wd.sa (w : Wd) : Nat → Nat := w.2.2.2.2
abbrev ktys (w : Wd) : List (ClassId × FieldType) := [(w.I, .int), (w.J, .long), (w.O, .object "java/lang/Object")]
/-- the cells that came behind the law's entry -/
def kold (w : Wd) : Nat → Prop := fun q => w.H0.size ≤ q
/-- the old cells are as they were -/
def Low (w : Wd) (H : Heap) : Prop := fx_Ex w.H0 H
abbrev kIAE : String := "java/lang/IllegalArgumentException"
abbrev kISE : String := "java/lang/IllegalStateException"
abbrev kNSE : String := "java/util/NoSuchElementException"
abbrev kIOB : String := "java/lang/IndexOutOfBoundsException"
def kstr : List (Nat × String) := [(22, "no such kind or form"), (152, "no room for a version more"), (155, "too many elements"), (140, "no such version"), (148, "the version is a map"), (161, "no element"), (76, "not two heaps or two chains of one form"), (146, "the version is of another kind"), (93, "no key that a map may have"), (114, "no such key"), (165, "no such place")]
def kcst : List (String × String) := [(kIAE, kIAE), (kISE, kISE), (kNSE, kNSE), (kIOB, kIOB), ("[I", "java/lang/Cloneable"), (R_V, R_V), (R_V, "java/lang/Object")]
def knot : List (String × String) := [(kISE, kIAE), (kNSE, kIAE), (kNSE, kISE), (kIOB, kIAE), (kIOB, kISE)]
def kdec : List MethodName := [⟨"java/lang/RuntimeException", "<init>", "(Ljava/lang/String;)V"⟩, ⟨"java/lang/Exception", "<init>", "(Ljava/lang/String;)V"⟩, ⟨"java/lang/Throwable", "<init>", "(Ljava/lang/String;)V"⟩]
def kforms : Nat → Int32 := fun k => match k with
  | 0 => 3
  | 1 => 3
  | 2 => 2
  | 3 => 2
  | _ => 1
def KX1 (U : State) : Prop := va_Nw (.methodLinkNest R_L 33 y_V_init "LastingShapes") U ∧ va_Nw (.methodLinkNest R_L 56 y_V_with "LastingShapes") U ∧ va_Nw (.fieldLinkNest R_L 78 R_V "kind" "I" "LastingShapes") U ∧ va_Nw (.fieldLinkNest R_L 109 R_V "form" "I" "LastingShapes") U ∧ va_Nw (.fieldLinkNest R_L 44 R_V "elements" "[I" "LastingShapes") U ∧ va_Nw (.fieldLinkNest R_L 95 R_V "keys" "[I" "LastingShapes") U
def KX2 (w : Wd) (U : State) : Prop := ∀ q ∈ kstr, vk_R R_L q.1 q.2 (w.sa q.1) U
def KX3 (U : State) : Prop := (∀ q ∈ kcst, va_Nw (.castable q.1 q.2) U) ∧ (∀ q ∈ knot, va_Nc q.1 q.2 U) ∧ (∀ q ∈ kdec, va_Nw (.declares q) U) ∧ va_Dc U ∧ va_AO "java/lang/Object" U
def kex : Nat → String := fun k => match k with
  | 0 => kIAE
  | 1 => kISE
  | 2 => kNSE
  | _ => kIOB
def KX5 (w : Wd) (U : State) : Prop := ∀ i, i < 4 → U.vm.findClass (kex i) = some (w.D.1 (10 + i))
def KX4 (w : Wd) (U : State) : Prop := vx_Zq Bundle.tN "UNASSIGNED_STACK" Bundle.steD (kold w) U w.H0 ∧ vx_Zq Bundle.tN "SUPPRESSED_SENTINEL" Bundle.listD (kold w) U w.H0 ∧ va_Z R_L "FORMS" "[I" (.ref w.FA) (kold w) U w.H0 ∧ va_T .int w.FA 5 (fun j => .int (kforms j)) (kold w) U w.H0 ∧
  va_Z R_AL "DEFAULTCAPACITY_EMPTY_ELEMENTDATA" "[Ljava/lang/Object;" (.ref w.E0) (kold w) U w.H0 ∧ va_T (.object "java/lang/Object") w.E0 0 (fun _ => .null) (kold w) U w.H0 ∧ va_Mi "[Ljava/lang/Object;" w.mi U ∧ KX5 w U
def KX (w : Wd) (U : State) : Prop := KX1 U ∧ KX2 w U ∧ KX3 U ∧ KX4 w U
def KT (w : Wd) (U : State) : Prop := (∀ x ∈ gw, ∀ a : Array Value, x.before a U = true) ∧ va_K w.D cls (ktys w) U ∧ KX w U
theorem KX1_moved {s U : State} (hW : s.WarmedH U.vm) (h : KX1 s) : KX1 U := by
  obtain ⟨h1, h2, h3, h4, h5, h6⟩ := h
  exact ⟨h1.warmM hW, h2.warmM hW, h3.warmF hW, h4.warmF hW, h5.warmF hW, h6.warmF hW⟩
theorem KX2_moved {w : Wd} {s U : State} (hW : s.WarmedH U.vm) (h : KX2 w s) : KX2 w U := fun q hq => (h q hq).warm hW
theorem KX3_moved {s U : State} (hW : s.WarmedH U.vm) (h : KX3 s) : KX3 U := by
  obtain ⟨h1, h2, h3, h4, h5⟩ := h
  exact ⟨fun q hq => (h1 q hq).warmC hW, fun q hq => (h2 q hq).moved hW.alike, fun q hq => (h3 q hq).warmD hW, h4.moved hW.alike, h5.moved hW.alike⟩
theorem KX4_moved {w : Wd} {s U : State} (hW : s.WarmedH U.vm) (h : KX4 w s) : KX4 w U := by
  obtain ⟨h1, h2, h3, h4, h5, h6, h7, h8⟩ := h
  exact ⟨h1.moved hW.alike, h2.moved hW.alike, h3.moved hW.alike, h4.moved hW.alike, h5.moved hW.alike, h6.moved hW.alike, h7.moved hW.alike, fun i hi => by rw [hW.alike.findClass]; exact h8 i hi⟩
theorem gw_good {x : Cond} (h : x ∈ gw) : goodWord x = true := (List.mem_filter.mp h).2
theorem KT_moved {w : Wd} (s U : State) (hW : s.WarmedH U.vm) (h : KT w s) : KT w U :=
  ⟨fun x hx a => word_at hW (good_of_word (gw_good hx)) (h.1 x hx #[]), va_K.moved hW.alike h.2.1, KX1_moved hW h.2.2.1, KX2_moved hW h.2.2.2.1, KX3_moved hW h.2.2.2.2.1, KX4_moved hW h.2.2.2.2.2⟩
theorem kc_L {w : Wd} {s : State} (hK : KT w s) (args : Array Value) : fx_K s args cls 0 R_L T_L 1 ty_L := ⟨rfl, fun x hx => hK.1 x (wl_L x hx) args, tyok_L, nm_L⟩
theorem kc_V {w : Wd} {s : State} (hK : KT w s) (args : Array Value) : fx_K s args cls 1 R_V T_V 4 ty_V := ⟨rfl, fun x hx => hK.1 x (wl_V x hx) args, tyok_V, nm_V⟩
theorem kc_M {w : Wd} {s : State} (hK : KT w s) (args : Array Value) : fx_K s args cls 2 R_M T_M 8 ty_M := ⟨rfl, fun x hx => hK.1 x (wl_M x hx) args, tyok_M, nm_M⟩
theorem kc_AL {w : Wd} {s : State} (hK : KT w s) (args : Array Value) : fx_K s args cls 3 R_AL T_AL 3 ty_AL := ⟨rfl, fun x hx => hK.1 x (wl_AL x hx) args, tyok_AL, nm_AL⟩
theorem nl_L_78 {w : Wd} {s : State} (hK : KT w s) (args : Array Value) : (Cond.fieldLinkNest R_L 78 R_V "kind" "I" "LastingShapes").before args s = true := va_Nw.use rfl hK.2.2.1.2.2.1
theorem nl_L_109 {w : Wd} {s : State} (hK : KT w s) (args : Array Value) : (Cond.fieldLinkNest R_L 109 R_V "form" "I" "LastingShapes").before args s = true := va_Nw.use rfl hK.2.2.1.2.2.2.1
theorem nl_L_44 {w : Wd} {s : State} (hK : KT w s) (args : Array Value) : (Cond.fieldLinkNest R_L 44 R_V "elements" "[I" "LastingShapes").before args s = true := va_Nw.use rfl hK.2.2.1.2.2.2.2.1
theorem nl_L_95 {w : Wd} {s : State} (hK : KT w s) (args : Array Value) : (Cond.fieldLinkNest R_L 95 R_V "keys" "[I" "LastingShapes").before args s = true := va_Nw.use rfl hK.2.2.1.2.2.2.2.2
theorem nl_L_33 {w : Wd} {s : State} (hK : KT w s) (args : Array Value) : (Cond.methodLinkNest R_L 33 y_V_init "LastingShapes").before args s = true := va_Nw.use rfl hK.2.2.1.1
theorem nl_L_56 {w : Wd} {s : State} (hK : KT w s) (args : Array Value) : (Cond.methodLinkNest R_L 56 y_V_with "LastingShapes").before args s = true := va_Nw.use rfl hK.2.2.1.2.1
/-- x is an exception of the i-th class -/
def xcp (w : Wd) (i x : Nat) (H : Heap) : Prop := ∃ ce : Cell, H[x]? = some ce ∧ ce.cls = w.D.1 (10 + i) ∧ ce.vm = .none
theorem xcp.ex {w : Wd} {i x : Nat} {H H' : Heap} (h : xcp w i x H) (he : fx_Ex H H') : xcp w i x H' := by
  obtain ⟨ce, h1, h2⟩ := h
  exact ⟨ce, he.at h1, h2⟩
end
section
/-! A new exception is made with a text and thrown (the library's law for it, with the first constructor's code left open: that of NoSuchElementException has another index). -/
def fx_oa (own : String) (ic : Nat) (X : String) : List Cond :=
  Bundle.throwableAtoms ++ Bundle.throwableSAtoms ++
  [.methodLink own ic (Bundle.initS X), .instantiable X 6, .castable X X, .selects X Bundle.tFill0 Bundle.tFill0, .selects X Bundle.tFill Bundle.tFill,
   .lays X Bundle.tN "cause" "Ljava/lang/Throwable;", .lays X Bundle.tN "stackTrace" Bundle.steD, .lays X Bundle.tN "suppressedExceptions" Bundle.listD, .lays X Bundle.tN "detailMessage" "Ljava/lang/String;",
   .isRef (.static Bundle.tN "UNASSIGNED_STACK" Bundle.steD), .isRef (.static Bundle.tN "SUPPRESSED_SENTINEL" Bundle.listD),
   .fieldLink Bundle.tN 198 Bundle.tN "backtrace" "Ljava/lang/Object;", .lays Bundle.tN Bundle.tN "backtrace" "Ljava/lang/Object;", .lays X Bundle.tN "backtrace" "Ljava/lang/Object;"]
section FXTH
variable {p : Program} {l : Launch} {e : Env} {R : Room} {s : State} {m₀ : MethodId} {args : Array Value} {below : List Frame} {meth : Method} {c : Code} {W : State} {locs : List Loc} {cells slots : Nat}
set_option maxHeartbeats 1000000 in
theorem fx_ctorThrow (X : Stand p l e R s m₀ args below meth c W locs cells slots) (hexec : p.tables.exec = Jvm.exec) (htr : e.platform.stackTraces = false) {own cls : String} {nk ic : Nat} {bytes : ByteArray}
    (hown : s.vm.findClass own = some m₀.cls) (hcls : Bundle.fit cls = true)
    (h : ∀ a ∈ fx_oa own ic cls, a.before args s = true) (hcodeX : (Cond.code (Bundle.initS cls) bytes 2 none).before args s = true) (hinstX : (Cond.instanceMethod (Bundle.initS cls)).before args s = true)
    (hchain : ∀ top, s.methodNamed? (Bundle.initS Bundle.tN) = some top → ∃ (P1 : PassC) (Ps : List PassC), Ps.length = nk ∧ P1.LinksS e.platform s ∧ (∀ P, P ∈ Ps → P.LinksS e.platform s) ∧ s.methodNamed? (Bundle.initS cls) = some P1.m ∧ P1.sup = firstOf top (Ps.map (·.toPassT)) ∧ PassesOn top (Ps.map (·.toPassT)))
    (hlocs : ∀ x ∈ locs, ∀ cell, s.heap[x.base]? = some cell → cell.vm.isStatics = false)
    {a : Addr} {cX : ClassId} {kX : Class} (hfoundX : s.vm.findClass cls = some cX) (hkX : s.vm.classes[cX]? = some kX) (hcell : W.heap[a]? = some (freshCell cX kX)) (hnew : s.heap.size ≤ a)
    {msg : Value} (hmsg : msg.isRef = true)
    {g : JFrame} (hg : g.method = m₀) (hsize : g.locals.size = c.maxLocals) (hlocked : g.locked = none) (hentered : g.entered = []) {rest : List Value} (hstack : g.stack = msg :: .ref a :: .ref a :: rest)
    (hd6 : decode c.code g.pc = .ok (.invokespecial ic, 3)) (hd9 : decode c.code (g.pc + 3) = .ok (.athrow, 1)) (hout : ∀ x ∈ c.exceptionTable.toList, covers x (g.pc + 3) = false)
    (hRframes : nk + 3 < R.frames) (hRlocals : 2 * g.monitorRoom + ((Value.ref a :: rest).map fun v => v.category).sum + (13 * (nk + 1) + 42) ≤ R.locals) (hlocks : meth.locks = false := by first | assumption | exact BodyLoose.notSynchronized (by assumption) | exact Body.notSynchronized (by assumption)) :
    ∃ U : State, Steps p.tables e below (W.setTop g) U ∧ U.status = .running ∧ Ended U below (.threw a) ∧ s.WarmedH U.vm ∧ s.sameButNew ({ U with vm := s.vm } : State) locs cells slots ∧
      ∃ ce, U.heap[a]? = some ce ∧ s.vm.findClass cls = some ce.cls ∧ ce.vm = .none := by
  have howns : e.platform.frameOwnsMonitors = true := by rw [X.admits.platform]
  have hfin : e.platform.finalization = false := by rw [X.admits.platform]
  have hpl : e.platform.magicAccessors = ({} : Platform).magicAccessors := by rw [X.admits.platform]
  have a' : ∀ x, x ∈ fx_oa own ic cls → x.holds args s none s [] = true := fun x hx => h x hx
  obtain ⟨T, Z0, L, -, Y⟩ := ThrowableC.of_atoms (args := args) howns hfin hpl (fun x hx => h x (by simp [fx_oa, hx]))
  obtain ⟨Z, M, LZ, LM, hnZ⟩ := Init0T.ofS_atoms (args := args) hpl L Y (fun x hx => h x (by simp [fx_oa, hx]))
  obtain ⟨P1, Ps, hlen, L1, hL, hP1m, hlink1, hlink⟩ := hchain _ hnZ
              
  have hfound : s.vm.findClass cls = some P1.m.cls := findClass_of_methodNamed hP1m
  cases Option.some.inj (hfoundX.symm.trans hfound)
  obtain ⟨c1, kX', hc1, hk, hord, -, -, hn6⟩ := Cond.instantiable_spec (a' (.instantiable cls 6) (by simp [fx_oa]))
  cases Option.some.inj (hc1.symm.trans hfound)
  cases Option.some.inj (hkX.symm.trans hk)
  have hsel0 : selectMethod e.platform s.vm P1.m.cls T.fill0 = .method T.fill0 := by
    obtain ⟨c2, r2, m2, q1, q2, q3, q4, -⟩ := Cond.selects_spec (a' (.selects cls Bundle.tFill0 Bundle.tFill0) (by simp [fx_oa]))
    cases Option.some.inj (q1.symm.trans hfound)
    cases Option.some.inj (q2.symm.trans (State.methodFound?_of_named Y.fill0 (by decide)))
    cases Option.some.inj (q3.symm.trans Y.fill0)
    rw [Launch.admits_selectMethod X.admits]; exact q4
  have hselF : selectMethod e.platform s.vm P1.m.cls T.fill = .method T.fill := by
    obtain ⟨c2, r2, m2, q1, q2, q3, q4, -⟩ := Cond.selects_spec (a' (.selects cls Bundle.tFill Bundle.tFill) (by simp [fx_oa]))
    cases Option.some.inj (q1.symm.trans hfound)
    cases Option.some.inj (q2.symm.trans (State.methodFound?_of_named Y.fill (by decide)))
    cases Option.some.inj (q3.symm.trans Y.fill)
    rw [Launch.admits_selectMethod X.admits]; exact q4
  obtain ⟨cellS0, hcS0, hiss⟩ := Y.statics
  obtain ⟨u0, hu0⟩ := Cond.staticRefV Y.unassigned L.unassignedStatic L.statics hcS0 hiss (a' (.isRef (.static Bundle.tN "UNASSIGNED_STACK" Bundle.steD)) (by simp [fx_oa]))
  obtain ⟨sen, hsen⟩ := Cond.staticRefV Y.sentinel L.sentinelStatic L.statics hcS0 hiss (a' (.isRef (.static Bundle.tN "SUPPRESSED_SENTINEL" Bundle.listD)) (by simp [fx_oa]))
  obtain ⟨ci198, i198, fB, hk198, hg198, ha198, hsB, -, hnB, htB, hffB⟩ := Cond.ownField (t := .object "java/lang/Object") Y.found L.cls (by decide +kernel) (a' (.fieldLink Bundle.tN 198 Bundle.tN "backtrace" "Ljava/lang/Object;") (by simp [fx_oa])) (a' (.lays Bundle.tN Bundle.tN "backtrace" "Ljava/lang/Object;") (by simp [fx_oa])) e.platform hpl
  obtain ⟨cellS, hcS', heS, -, hkeep⟩ := X.same.2.2.2.2.2 T.aS cellS0 hcS0
  have hcellS : W.heap[T.aS]? = some cellS := hcS'
  have hout' : ∀ i, (⟨T.aS, i⟩ : Loc) ∉ locs := fun i hmem => by
    have := hlocs _ hmem cellS0 hcS0
    rw [hiss] at this; cases this
  have hknownS : cellS.vm ≠ .unknown := by
    rw [heS]; intro hu
    rw [show cellS0.vm = .unknown from hu] at hiss
    cases hiss
  have hneS : T.aS ≠ a := Nat.ne_of_lt (Nat.lt_of_lt_of_le (Array.getElem?_eq_some_iff.mp hcS0).1 hnew)
  obtain ⟨iM, hffM⟩ := Y.msg
  obtain ⟨tyC, dC, hdC, hdnC⟩ := Cond.laysAt hfound hk Y.cause (a' (.lays cls Bundle.tN "cause" "Ljava/lang/Throwable;") (by simp [fx_oa]))
  obtain ⟨tyS, dS, hdS, hdnS⟩ := Cond.laysAt hfound hk Y.stack (a' (.lays cls Bundle.tN "stackTrace" Bundle.steD) (by simp [fx_oa]))
  obtain ⟨tyP, dP, hdP, hdnP⟩ := Cond.laysAt hfound hk Y.supp (a' (.lays cls Bundle.tN "suppressedExceptions" Bundle.listD) (by simp [fx_oa]))
  obtain ⟨tyM, dM, hdM, hdnM⟩ := Cond.laysAt hfound hk hffM (a' (.lays cls Bundle.tN "detailMessage" "Ljava/lang/String;") (by simp [fx_oa]))
  obtain ⟨tyB, dB, hdB, hdnB⟩ := Cond.laysAt hfound hk hffB (a' (.lays cls Bundle.tN "backtrace" "Ljava/lang/Object;") (by simp [fx_oa]))
  have bC := Cond.laysApart hdB hdC hdnB hdnC (by rw [hnB, Y.causeName]; decide)
  have bS := Cond.laysApart hdB hdS hdnB hdnS (by rw [hnB, Y.stackName]; decide)
  have bP := Cond.laysApart hdB hdP hdnB hdnP (by rw [hnB, Y.suppName]; decide)
  have hskip : SkipFacts T e.platform s (fun u => u) u0 ((preparedCellV T.toThrowableT (freshCell P1.m.cls kX) a u0 sen).withEntry W.cur) :=
    ⟨{ ci198 := ci198, i198 := i198, fBack := fB }, ⟨hk198, hg198, ha198, hsB⟩, by
      have := fresh_default (c := P1.m.cls) tyB
      rw [htB] at this
      simpa [preparedCellV, Cell.setSlot, Cell.withEntry, Array.getElem?_setIfInBounds, bC, bS, bP, bC.symm, bS.symm, bP.symm, defaultValue] using this, fun _ _ => rfl⟩
                                     
  obtain ⟨tm, methC, cdC, kC, vm₁, hnC, -, -, -, -, -, -, -, hW₁, st1⟩ := Steps.initColdS (tb := p.tables) (e := e) (below := below) (s := s) (U := W) X.here hexec X.warmed hpl hown (t := Bundle.initS cls) rfl rfl (Bundle.fit_spec hcls).2
    (a' (.methodLink own ic (Bundle.initS cls)) (by simp [fx_oa])) hinstX (bytes := bytes) (maxL := 2) hcodeX
    (f := g) hg (a := a) (msg := msg) (rest := .ref a :: rest) hstack hd6
  cases Option.some.inj (hnC.symm.trans hP1m)
  have X₁ := X.noted hW₁
                                 
  obtain ⟨vm₂, X₂, st2⟩ := X₁.ctorMessageOffV hexec (g := { g with stack := .ref a :: rest }) hg hsize T L Z LZ M LM (P1 :: Ps)
    (fun P hP => by rcases List.mem_cons.mp hP with rfl | hP; exact L1; exact hL P hP) ⟨hlink1, hlink⟩ (u0 := u0) (sen := sen) (self := a) hmsg (cell := freshCell P1.m.cls kX) (cellS := cellS)
    hcell (fun _ => by simp) (by simp) rfl rfl hsel0 hselF hcellS hneS hknownS (by rw [hkeep _ (hout' _)]; exact hu0) (by rw [hkeep _ (hout' _)]; exact hsen)
    (Takes.of_laid hk hord tyC (by rw [Y.causeType]; rfl)) (Takes.of_laid hk hord tyS (by rw [Y.stackType]; exact fits_refV_array _ u0)) (Takes.of_laid hk hord tyP (by rw [Y.suppType]; exact fits_refV_object _ sen))
    (Takes.of_laid hk hord tyM (by rw [Y.msgType]; exact fits_refV_object _ ⟨msg, hmsg⟩)) Y.objLocals hskip htr [] hd6
    (by simp only [List.length_cons, hlen]; omega) (by simp only [List.length_cons, hlen]; exact hRlocals)
                                    
  obtain ⟨hwalk, hrun, hended, hWU, hsame⟩ := X₂.athrowLeaves hexec (g := { g with stack := .ref a :: rest, pc := g.pc + 3 }) hg hlocked hentered hout (a := a) (rest := rest) rfl hd9
  have hlt : a < ((W.setVm vm₁).setVm vm₂).heap.size := (Array.getElem?_eq_some_iff.mp hcell).1
  have hU := heapAt_setCell_self (s := (W.setVm vm₁).setVm vm₂) (plainBareV T.toThrowableT (freshCell P1.m.cls kX) a u0 sen msg) hlt
  refine ⟨_, st1 _ (fun acts => ?_), hrun, hended, hWU, hsame.weaken (fun y hy hlt' => ?_) (Nat.le_refl _) (Nat.le_refl _), _, hU, ?_⟩
  · rw [doInvoke_state]
    exact st2 _ hwalk
  · rcases List.mem_append.mp hy with h1 | h1
    · exact h1
    · exfalso
      have hb : y.base = a := by
        simp only [List.mem_cons, List.not_mem_nil, or_false] at h1
        rcases h1 with rfl | rfl | rfl | rfl | rfl <;> rfl
      rw [hb] at hlt'
      exact Nat.not_lt.mpr hnew hlt'
  · exact ⟨hfound, rfl⟩
end FXTH
end
section
/-! The four exceptions of the class: their words, and the row that throws one. -/
theorem kT_in {L : List Cond} (h : (L.filter goodWord).all (fun x => decide (x ∈ tables_1)) = true) : ∀ x ∈ L.filter goodWord, x ∈ gw := fun x hx =>
  gw_in (List.mem_append_right _ (of_decide_eq_true (List.all_eq_true.mp h x hx))) (List.mem_filter.mp hx).2
theorem kZU {w : Wd} {s : State} (hK : KT w s) (hLow : Low w s.heap) : vx_Zq Bundle.tN "UNASSIGNED_STACK" Bundle.steD (kold w) s s.heap := hK.2.2.2.2.2.1.kept (fun a ha _ => hLow.2 a ha)
theorem kZN {w : Wd} {s : State} (hK : KT w s) (hLow : Low w s.heap) : vx_Zq Bundle.tN "SUPPRESSED_SENTINEL" Bundle.listD (kold w) s s.heap := hK.2.2.2.2.2.2.1.kept (fun a ha _ => hLow.2 a ha)
theorem kDec {w : Wd} {s : State} (hK : KT w s) {args : Array Value} {y : MethodName} (h : y ∈ kdec) : (Cond.declares y).before args s = true := va_Nw.use rfl (hK.2.2.2.2.1.2.2.1 y h)
theorem kCst {w : Wd} {s : State} (hK : KT w s) {args : Array Value} {a b : String} (h : (a, b) ∈ kcst) : (Cond.castable a b).before args s = true := va_Nw.use rfl (hK.2.2.2.2.1.1 (a, b) h)
theorem kStr {w : Wd} {s : State} (hK : KT w s) {i : Nat} {tx : String} (h : (i, tx) ∈ kstr) : vk_R R_L i tx (w.sa i) s := hK.2.2.2.1 (i, tx) h
def kdecs : List Cond := kdec.map Cond.declares
theorem kdecs_ok {w : Wd} {s : State} (hK : KT w s) {args : Array Value} : ∀ x ∈ kdecs, x.before args s = true := fun x hx => by
  obtain ⟨y, hy, rfl⟩ := List.mem_map.mp hx
  exact kDec hK hy
theorem ow_IAE : ∀ x ∈ ((fx_oa R_L 24 kIAE).filter vx_no).filter goodWord, x ∈ gw := kT_in (by decide +kernel)
theorem on_IAE : ∀ x ∈ ((fx_oa R_L 24 kIAE).filter vx_no).filter (fun x => !goodWord x), x ∈ [Cond.castable kIAE kIAE] := by
  have h : (((fx_oa R_L 24 kIAE).filter vx_no).filter (fun x => !goodWord x)).all (fun x => decide (x ∈ [Cond.castable kIAE kIAE])) = true := by decide +kernel
  exact fun x hx => of_decide_eq_true (List.all_eq_true.mp h x hx)
theorem ox_IAE {w : Wd} {s : State} (hK : KT w s) (hLow : Low w s.heap) (args : Array Value) : ∀ x ∈ fx_oa R_L 24 kIAE, x.before args s = true :=
  vx_own (vx_hat (fun x hx => hK.1 x (ow_IAE x hx) args) on_IAE (vx_c (kCst hK (by decide)) vx_n)) (vx_isRefq (kZU hK hLow).1) (vx_isRefq (kZN hK hLow).1) (kZU hK hLow).2.word (kZN hK hLow).2.word
theorem ow_ISE : ∀ x ∈ ((fx_oa R_L 154 kISE).filter vx_no).filter goodWord, x ∈ gw := kT_in (by decide +kernel)
theorem on_ISE : ∀ x ∈ ((fx_oa R_L 154 kISE).filter vx_no).filter (fun x => !goodWord x), x ∈ [Cond.castable kISE kISE] := by
  have h : (((fx_oa R_L 154 kISE).filter vx_no).filter (fun x => !goodWord x)).all (fun x => decide (x ∈ [Cond.castable kISE kISE])) = true := by decide +kernel
  exact fun x hx => of_decide_eq_true (List.all_eq_true.mp h x hx)
theorem ox_ISE {w : Wd} {s : State} (hK : KT w s) (hLow : Low w s.heap) (args : Array Value) : ∀ x ∈ fx_oa R_L 154 kISE, x.before args s = true :=
  vx_own (vx_hat (fun x hx => hK.1 x (ow_ISE x hx) args) on_ISE (vx_c (kCst hK (by decide)) vx_n)) (vx_isRefq (kZU hK hLow).1) (vx_isRefq (kZN hK hLow).1) (kZU hK hLow).2.word (kZN hK hLow).2.word
theorem ow_NSE : ∀ x ∈ ((fx_oa R_L 116 kNSE).filter vx_no).filter goodWord, x ∈ gw := kT_in (by decide +kernel)
theorem on_NSE : ∀ x ∈ ((fx_oa R_L 116 kNSE).filter vx_no).filter (fun x => !goodWord x), x ∈ [Cond.castable kNSE kNSE] := by
  have h : (((fx_oa R_L 116 kNSE).filter vx_no).filter (fun x => !goodWord x)).all (fun x => decide (x ∈ [Cond.castable kNSE kNSE])) = true := by decide +kernel
  exact fun x hx => of_decide_eq_true (List.all_eq_true.mp h x hx)
theorem ox_NSE {w : Wd} {s : State} (hK : KT w s) (hLow : Low w s.heap) (args : Array Value) : ∀ x ∈ fx_oa R_L 116 kNSE, x.before args s = true :=
  vx_own (vx_hat (fun x hx => hK.1 x (ow_NSE x hx) args) on_NSE (vx_c (kCst hK (by decide)) vx_n)) (vx_isRefq (kZU hK hLow).1) (vx_isRefq (kZN hK hLow).1) (kZU hK hLow).2.word (kZN hK hLow).2.word
theorem ow_IOB : ∀ x ∈ ((fx_oa R_L 167 kIOB).filter vx_no).filter goodWord, x ∈ gw := kT_in (by decide +kernel)
theorem on_IOB : ∀ x ∈ ((fx_oa R_L 167 kIOB).filter vx_no).filter (fun x => !goodWord x), x ∈ [Cond.castable kIOB kIOB] := by
  have h : (((fx_oa R_L 167 kIOB).filter vx_no).filter (fun x => !goodWord x)).all (fun x => decide (x ∈ [Cond.castable kIOB kIOB])) = true := by decide +kernel
  exact fun x hx => of_decide_eq_true (List.all_eq_true.mp h x hx)
theorem ox_IOB {w : Wd} {s : State} (hK : KT w s) (hLow : Low w s.heap) (args : Array Value) : ∀ x ∈ fx_oa R_L 167 kIOB, x.before args s = true :=
  vx_own (vx_hat (fun x hx => hK.1 x (ow_IOB x hx) args) on_IOB (vx_c (kCst hK (by decide)) vx_n)) (vx_isRefq (kZU hK hLow).1) (vx_isRefq (kZN hK hLow).1) (kZU hK hLow).2.word (kZN hK hLow).2.word
theorem cw_IAE : ∀ x ∈ (Bundle.chainSAtoms kIAE ["java/lang/RuntimeException", "java/lang/Exception"]).filter goodWord, x ∈ gw := kT_in (by decide +kernel)
theorem cn_IAE : ∀ x ∈ (Bundle.chainSAtoms kIAE ["java/lang/RuntimeException", "java/lang/Exception"]).filter (fun x => !goodWord x), x ∈ kdecs := by
  have h : ((Bundle.chainSAtoms kIAE ["java/lang/RuntimeException", "java/lang/Exception"]).filter (fun x => !goodWord x)).all (fun x => decide (x ∈ kdecs)) = true := by decide +kernel
  exact fun x hx => of_decide_eq_true (List.all_eq_true.mp h x hx)
theorem cx_IAE {w : Wd} {s : State} (hK : KT w s) (args : Array Value) : ∀ x ∈ (Bundle.chainSAtoms kIAE ["java/lang/RuntimeException", "java/lang/Exception"]), x.before args s = true := vx_hat (fun x hx => hK.1 x (cw_IAE x hx) args) cn_IAE (kdecs_ok hK)
theorem cw_ISE : ∀ x ∈ (Bundle.chainSAtoms kISE ["java/lang/RuntimeException", "java/lang/Exception"]).filter goodWord, x ∈ gw := kT_in (by decide +kernel)
theorem cn_ISE : ∀ x ∈ (Bundle.chainSAtoms kISE ["java/lang/RuntimeException", "java/lang/Exception"]).filter (fun x => !goodWord x), x ∈ kdecs := by
  have h : ((Bundle.chainSAtoms kISE ["java/lang/RuntimeException", "java/lang/Exception"]).filter (fun x => !goodWord x)).all (fun x => decide (x ∈ kdecs)) = true := by decide +kernel
  exact fun x hx => of_decide_eq_true (List.all_eq_true.mp h x hx)
theorem cx_ISE {w : Wd} {s : State} (hK : KT w s) (args : Array Value) : ∀ x ∈ (Bundle.chainSAtoms kISE ["java/lang/RuntimeException", "java/lang/Exception"]), x.before args s = true := vx_hat (fun x hx => hK.1 x (cw_ISE x hx) args) cn_ISE (kdecs_ok hK)
theorem cw_IOB : ∀ x ∈ (Bundle.chainSAtoms kIOB ["java/lang/RuntimeException", "java/lang/Exception"]).filter goodWord, x ∈ gw := kT_in (by decide +kernel)
theorem cn_IOB : ∀ x ∈ (Bundle.chainSAtoms kIOB ["java/lang/RuntimeException", "java/lang/Exception"]).filter (fun x => !goodWord x), x ∈ kdecs := by
  have h : ((Bundle.chainSAtoms kIOB ["java/lang/RuntimeException", "java/lang/Exception"]).filter (fun x => !goodWord x)).all (fun x => decide (x ∈ kdecs)) = true := by decide +kernel
  exact fun x hx => of_decide_eq_true (List.all_eq_true.mp h x hx)
theorem cx_IOB {w : Wd} {s : State} (hK : KT w s) (args : Array Value) : ∀ x ∈ (Bundle.chainSAtoms kIOB ["java/lang/RuntimeException", "java/lang/Exception"]), x.before args s = true := vx_hat (fun x hx => hK.1 x (cw_IOB x hx) args) cn_IOB (kdecs_ok hK)
theorem cw_RTE : ∀ x ∈ (Bundle.chainSAtoms "java/lang/RuntimeException" ["java/lang/Exception"]).filter goodWord, x ∈ gw := kT_in (by decide +kernel)
theorem cn_RTE : ∀ x ∈ (Bundle.chainSAtoms "java/lang/RuntimeException" ["java/lang/Exception"]).filter (fun x => !goodWord x), x ∈ kdecs := by
  have h : ((Bundle.chainSAtoms "java/lang/RuntimeException" ["java/lang/Exception"]).filter (fun x => !goodWord x)).all (fun x => decide (x ∈ kdecs)) = true := by decide +kernel
  exact fun x hx => of_decide_eq_true (List.all_eq_true.mp h x hx)
theorem cx_RTE {w : Wd} {s : State} (hK : KT w s) (args : Array Value) : ∀ x ∈ (Bundle.chainSAtoms "java/lang/RuntimeException" ["java/lang/Exception"]), x.before args s = true := vx_hat (fun x hx => hK.1 x (cw_RTE x hx) args) cn_RTE (kdecs_ok hK)
abbrev b_NSE : ByteArray := prog_24_method_4_code
theorem dN_0 : decode b_NSE 0 = .ok (.aload_n 0, 1) := by decide +kernel
theorem dN_1 : decode b_NSE 1 = .ok (.aload_n 1, 1) := by decide +kernel
theorem dN_2 : decode b_NSE 2 = .ok (.invokespecial 13, 3) := by decide +kernel
theorem dN_5 : decode b_NSE 5 = .ok (.return_, 1) := by decide +kernel
theorem pw_NSE : ∀ x ∈ (Bundle.passSAtoms kNSE "java/lang/RuntimeException" 13 b_NSE).filter goodWord, x ∈ gw := kT_in (by decide +kernel)
theorem pn_NSE : ∀ x ∈ (Bundle.passSAtoms kNSE "java/lang/RuntimeException" 13 b_NSE).filter (fun x => !goodWord x), x ∈ kdecs := by
  have h : ((Bundle.passSAtoms kNSE "java/lang/RuntimeException" 13 b_NSE).filter (fun x => !goodWord x)).all (fun x => decide (x ∈ kdecs)) = true := by decide +kernel
  exact fun x hx => of_decide_eq_true (List.all_eq_true.mp h x hx)
theorem px_NSE {w : Wd} {s : State} (hK : KT w s) (args : Array Value) : ∀ x ∈ Bundle.passSAtoms kNSE "java/lang/RuntimeException" 13 b_NSE, x.before args s = true := vx_hat (fun x hx => hK.1 x (pw_NSE x hx) args) pn_NSE (kdecs_ok hK)
/-- what is asked of an exception's class: its own words, its constructors' chain -/
def fx_XC (w : Wd) (ic : Nat) (X : String) : Prop := Bundle.fit X = true ∧ ∀ (s : State) (args : Array Value), KT w s → Low w s.heap → (∀ a ∈ fx_oa R_L ic X, a.before args s = true) ∧ ∃ bytes : ByteArray, (Cond.code (Bundle.initS X) bytes 2 none).before args s = true ∧ (Cond.instanceMethod (Bundle.initS X)).before args s = true ∧
  ∀ pl : Platform, pl.magicAccessors = ({} : Platform).magicAccessors → ∀ top, s.methodNamed? (Bundle.initS Bundle.tN) = some top → ∃ (P1 : PassC) (Ps : List PassC), Ps.length = 2 ∧ P1.LinksS pl s ∧ (∀ P, P ∈ Ps → P.LinksS pl s) ∧ s.methodNamed? (Bundle.initS X) = some P1.m ∧ P1.sup = firstOf top (Ps.map (·.toPassT)) ∧ PassesOn top (Ps.map (·.toPassT))
theorem xc_IAE (w : Wd) : fx_XC w 24 kIAE := by
  refine ⟨by decide +kernel, fun s args hK hLow => ⟨ox_IAE hK hLow args, Bundle.six, cx_IAE hK args _ (by simp [Bundle.chainSAtoms, Bundle.passSAtoms]), cx_IAE hK args _ (by simp [Bundle.chainSAtoms, Bundle.passSAtoms]), fun pl hpl top htop => ?_⟩⟩
  exact Bundle.chainS (args := args) hpl htop ["java/lang/RuntimeException", "java/lang/Exception"] kIAE (by decide +kernel) (by decide +kernel) (cx_IAE hK args)
theorem xc_ISE (w : Wd) : fx_XC w 154 kISE := by
  refine ⟨by decide +kernel, fun s args hK hLow => ⟨ox_ISE hK hLow args, Bundle.six, cx_ISE hK args _ (by simp [Bundle.chainSAtoms, Bundle.passSAtoms]), cx_ISE hK args _ (by simp [Bundle.chainSAtoms, Bundle.passSAtoms]), fun pl hpl top htop => ?_⟩⟩
  exact Bundle.chainS (args := args) hpl htop ["java/lang/RuntimeException", "java/lang/Exception"] kISE (by decide +kernel) (by decide +kernel) (cx_ISE hK args)
theorem xc_IOB (w : Wd) : fx_XC w 167 kIOB := by
  refine ⟨by decide +kernel, fun s args hK hLow => ⟨ox_IOB hK hLow args, Bundle.six, cx_IOB hK args _ (by simp [Bundle.chainSAtoms, Bundle.passSAtoms]), cx_IOB hK args _ (by simp [Bundle.chainSAtoms, Bundle.passSAtoms]), fun pl hpl top htop => ?_⟩⟩
  exact Bundle.chainS (args := args) hpl htop ["java/lang/RuntimeException", "java/lang/Exception"] kIOB (by decide +kernel) (by decide +kernel) (cx_IOB hK args)
theorem xc_NSE (w : Wd) : fx_XC w 116 kNSE := by
  refine ⟨by decide +kernel, fun s args hK hLow => ⟨ox_NSE hK hLow args, b_NSE, px_NSE hK args _ (by simp [Bundle.passSAtoms]), px_NSE hK args _ (by simp [Bundle.passSAtoms]), fun pl hpl top htop => ?_⟩⟩
  obtain ⟨P, L, hm, hs⟩ := PassC.ofS_atoms (args := args) (s := s) hpl (X := kNSE) (Y := "java/lang/RuntimeException") (by decide) (by decide) dN_0 dN_1 dN_2 dN_5 (px_NSE hK args)
  obtain ⟨P1, Ps, hlen, L1, hL, hm1, hsup, hpass⟩ := Bundle.chainS (args := args) hpl htop ["java/lang/Exception"] "java/lang/RuntimeException" (by decide +kernel) (by decide +kernel) (cx_RTE hK args)
  refine ⟨P, P1 :: Ps, by simp [hlen], L, fun Q hQ => ?_, hm, Option.some.inj (hs.symm.trans hm1), hsup, hpass⟩
  rcases List.mem_cons.mp hQ with rfl | hQ
  · exact L1
  · exact hL Q hQ
/-- x is an exception of the class X -/
def fx_Xc (U : State) (X : String) (x : Nat) (H : Heap) : Prop := ∃ ce : Cell, H[x]? = some ce ∧ U.vm.findClass X = some ce.cls ∧ ce.vm = .none
section FXT
variable {p : Program} {l : Launch} {e : Env} {R : Room} {s : State} {m : MethodId} {args : Array Value} {below : List Frame} {meth : Method} {c : Code} {H : Heap} {locs : List Loc} {cells slots : Nat}
variable {cc : ByteArray} {pc : Nat} {ls : Array Slot} {rest : List Value} {Post : Outcome → Heap → Prop} {A : Nat → Prop} {mc ms : Nat}
theorem fx_throw {w : Wd} {X tx : String} {i0 ic is : Nat} (hXC : fx_XC w ic X) (hexec : p.tables.exec = Jvm.exec) (hfl : l.flags = flags0) (hK : KT w s) (hLow : Low w s.heap) (hb : c.code = cc) (hsz : ls.size = c.maxLocals) (hown : s.vm.findClass R_L = some m.cls)
    (hcl : (Cond.classLink R_L i0 X).before args s = true) (hini : (Cond.initialized X).before args s = true) (htx : (is, tx) ∈ kstr)
    (hnt : c.exceptionTable.isEmpty = true) (hlk : meth.locks = false) (hL : ∀ z ∈ locs, s.heap.size ≤ z.base) (hH : s.heap.size ≤ H.size)
    (hR : 5 < R.frames ∧ (rest.map fun v => v.category).sum + 82 ≤ R.locals ∧ cells + 1 ≤ R.cells ∧ slots + 6 ≤ R.slots) (hc : cells + 1 ≤ mc) (hs : slots + 6 ≤ ms) (hA : ∀ z ∈ locs, A z.base)
    (d0 : decode cc pc = .ok (.new i0, 3)) (d3 : decode cc (pc + 3) = .ok (.dup, 1)) (d4 : decode cc (pc + 3 + 1) = .ok (.ldc is, 2)) (d6 : decode cc (pc + 3 + 1 + 2) = .ok (.invokespecial ic, 3)) (d9 : decode cc (pc + 3 + 1 + 2 + 3) = .ok (.athrow, 1))
    (hq : ∀ (x : Nat) (H' : Heap), s.heap.size ≤ x → fx_Ex s.heap H' → fx_Xc s X x H' → Post (.threw x) H') :
    W p l e R s m args below meth c H locs cells slots (fx_E below s Post mc ms A) (F0 m pc ls rest) := by
  obtain ⟨hfit, hXC⟩ := hXC
  obtain ⟨hat, bytes, hcode, hinst, hch⟩ := hXC s args hK hLow
  refine W.newc hexec hb hown hcl (hat (.instantiable X 6) (by simp [fx_oa])) hini rfl d0 hR.2.2.1 hR.2.2.2 fun cC kC h1 h2 h3 h4 => ?_
  refine lv_dup hexec hb d3 rfl ?_
  refine va_ldcS hexec hb hown (kStr hK htx) d4 ?_
  intro T hT X1
  have htr : e.platform.stackTraces = false := Launch.traces_off (hfl.trans rfl) X1.admits
  have hpl : e.platform.magicAccessors = ({} : Platform).magicAccessors := by rw [X1.admits.platform]
  obtain ⟨U, hsteps, hrun, hend, hW, hsame, ce, hce, hcls, hcv⟩ := fx_ctorThrow X1 hexec htr (own := R_L) (cls := X) (ic := ic) hown hfit hat hcode hinst (hch e.platform hpl)
    (fun z hz cell hcell => absurd (Array.getElem?_eq_some_iff.mp hcell).1 (Nat.not_lt.mpr (hL z hz))) h1 h2 (a := H.size) (by rw [hT]; exact Array.getElem?_push_size) hH (msg := .ref (w.sa is)) rfl
    (g := F0 m (pc + 3 + 1 + 2) ls (.ref (w.sa is) :: .ref H.size :: .ref H.size :: rest)) rfl hsz rfl rfl (rest := rest) rfl (by rw [hb]; exact d6) (by rw [hb]; exact d9) (covers_of_empty hnt _) hR.1
    (by have := hR.2.1; show 2 * 0 + (1 + (rest.map fun v => v.category).sum) + (13 * (2 + 1) + 42) ≤ R.locals; omega) hlk
  have hF : fx_F (fun q => s.heap.size ≤ q) _ s.heap U.heap := fx_frame (T := s) (T' := U) (L := locs) hsame hL
  exact ⟨U, hsteps, .threw H.size, hrun, hend, hq _ _ hH (hF.ex (fun q hq => Nat.not_le.mpr hq)) ⟨ce, hce, hcls, hcv⟩, hW, locs, hsame.mono hc hs, hA⟩
end FXT
theorem fx_Xc.x {w : Wd} {s : State} (hK : KT w s) {i x : Nat} {H : Heap} (hi : i < 4) (h : fx_Xc s (kex i) x H) : xcp w i x H := by
  obtain ⟨ce, h1, h2, h3⟩ := h
  exact ⟨ce, h1, Option.some.inj (h2.symm.trans (hK.2.2.2.2.2.2.2.2.2.2.2.2 i hi)), h3⟩
end
section
/-! Rows on arrays of references, statics, clone and Math.min, with exact frames. -/
section FXR
variable {p : Program} {l : Launch} {e : Env} {R : Room} {s : State} {m : MethodId} {args : Array Value} {below : List Frame} {meth : Method} {c : Code} {H : Heap} {locs : List Loc} {cells slots : Nat} {Q : State → Prop}
variable {cc : ByteArray} {pc : Nat} {ls : Array Slot} {rest : List Value} {D : va_G} {cl : List vw_C} {a : Nat} {tys : List (ClassId × FieldType)} {B : Nat → Prop} {own C : String} {index : Nat}
theorem fx_aast (hexec : p.tables.exec = Jvm.exec) (hb : c.code = cc) (hK : va_K D cl tys s) (t0 : Nat) {cA : ClassId} {E : String} {n v : Nat} {f : Nat → Option Nat} (hO : va_at D cl (a, .inl (cA, n, .inr (.inr (.inr (.inr f))))) H) (ht : tys[t0]? = some (cA, .object E)) (hr : va_Any E s H v) {i : Int32} {j : Nat} (hi : i = nI j) (hj : j < n) (hn : n < 2 ^ 31) (hL : ∀ q ∈ locs, B q.base) (ha : B a) (hdg : decode cc pc = .ok (.aastore, 1))
    (kk : ∀ (H1 : Heap) (locs1 : List Loc), va_at D cl (a, .inl (cA, n, .inr (.inr (.inr (.inr (va_up f j (some v))))))) H1 → fx_U a H H1 → (∀ q ∈ locs1, B q.base) → W p l e R s m args below meth c H1 locs1 cells slots Q (F0 m (pc + 1) ls rest)) : W p l e R s m args below meth c H locs cells slots Q (F0 m pc ls (.ref v :: .int i :: .ref a :: rest)) := by
  subst hi
  have ej : (nI j).toNatClampNeg = j := nI_clamp (by omega)
  obtain ⟨cellV, g1, g3, ⟨kC, hkC⟩, hasg⟩ := hr
  obtain ⟨kA, comp, k1, k2, k3, -⟩ := (hK.2 t0 _ ht).2
  obtain ⟨kE, hkE, -⟩ := Vm.findClass_spec k3
  refine W.aast hexec hb hO (fun q h => by cases h) (fun h => by cases h) k1 k2 rfl hkE ⟨nI_pos (by omega), by show _ < (arrV _ _ _).slots.size; rw [arrV_size, ej]; exact hj⟩ g1 (fun q h => by rw [h] at g3; cases g3) hkC (hasg _ k3) rfl rfl hdg fun H1 e z oq => ?_
  refine kk H1 _ ?_ ⟨z, oq⟩ (fx_app1 hL ha)
  show H1[a]? = some (vp_cell _ _)
  rw [e, ej]
  rw [vp_cell_q, vp_cell_q, arrV_store]
  congr 2
  funext q
  by_cases hq : q = j
  · subst hq
    simp [updV, va_up, va_rf]
  · simp [updV, va_up, hq]
theorem fx_newO (hexec : p.tables.exec = Jvm.exec) (hb : c.code = cc) (hown : s.vm.findClass own = some m.cls) (hclink : (Cond.classLink own index C).before args s = true) (hover : va_AO C s) (hK : va_K D cl tys s) (t0 : Nat) {cA : ClassId} (ht : tys[t0]? = some (cA, .object C)) {n : Int32} {N : Nat} (hn : n = nI N) (hN : N ≤ 100000) (hcells : cells + 1 ≤ R.cells) (hslots : slots + N ≤ R.slots) (hdg : decode cc pc = .ok (.anewarray index, 3))
    (kk : ∀ (q : Nat) (H1 : Heap), q = H.size → va_at D cl (q, .inl (cA, N, .inr (.inr (.inr (.inr (fun _ => none)))))) H1 → fx_G H H1 → W p l e R s m args below meth c H1 locs (cells + 1) (slots + N) Q (F0 m (pc + 3) ls (.ref q :: rest))) : W p l e R s m args below meth c H locs cells slots Q (F0 m pc ls (.int n :: rest)) := by
  subst hn
  have eN : (nI N).toNatClampNeg = N := nI_clamp (by omega)
  refine W.anew hexec hb hown hclink (va_AO.use hover) rfl hdg rfl (nI_pos (by omega)) (by rw [eN]; omega) hcells (by rw [eN]; exact hslots) fun cB kA comp f1 f2 f3 f4 => ?_
  obtain ⟨kA', comp', -, -, -, g4⟩ := (hK.2 t0 _ ht).2
  cases Option.some.inj (g4.symm.trans f1)
  rw [eN]
  generalize hH1 : H.push ({ cls := cA, slots := Array.replicate N .null, vm := .none } : Cell) = H1
  have z1 : H1.size = H.size + 1 := by rw [← hH1, Array.size_push]
  have e1 : H1[H.size]? = some (arrV cA N (fun _ => .null)) := by rw [← hH1, Array.getElem?_push_size, ← arrV_new]
  exact kk H.size H1 rfl (by show H1[H.size]? = some (vp_cell _ _); rw [vp_cell_q]; exact e1) ⟨z1, fun q hq => by rw [← hH1, Array.getElem?_push, if_neg (Nat.ne_of_lt hq)]⟩
theorem fx_copyO (hexec : p.tables.exec = Jvm.exec) (hb : c.code = cc) (hml : ls.size = c.maxLocals) (hown : s.vm.findClass own = some m.cls) (hlink : (Cond.methodLink own index arraycopyName).before args s = true) (hnat : (Cond.native arraycopyName).before args s = true) (hstat : (Cond.static arraycopyName).before args s = true) (hini : (Cond.initialized "java/lang/System").before args s = true)
    (hK : va_K D cl tys s) (t0 : Nat) {a0 : Nat} {cA : ClassId} {n0 n1 : Nat} {f g : Nat → Option Nat} {E : String} (ht : tys[t0]? = some (cA, .object E)) (ha0 : va_at D cl (a0, .inl (cA, n0, .inr (.inr (.inr (.inr f))))) H) (ha1 : va_at D cl (a, .inl (cA, n1, .inr (.inr (.inr (.inr g))))) H)
    {sp dp n : Int32} {i j k : Nat} (hi : sp = nI i) (hj : dp = nI j) (hk : n = nI k) (h4 : i + k ≤ n0) (h5 : j + k ≤ n1) (hz : n0 < 2 ^ 31 ∧ n1 < 2 ^ 31) (hel : ∀ z : Nat, z < n0 → ∀ y : Nat, f z = some y → va_Any E s H y)
    (hframes : 1 ≤ R.frames) (hlocals : (rest.map fun v => v.category).sum + (nativeFrameWords "java/lang/System" "arraycopy" 5 + 11) ≤ R.locals) (hL : ∀ q ∈ locs, B q.base) (hB : B a) (hdg : decode cc pc = .ok (.invokestatic index, 3))
    (kk : ∀ (H1 : Heap) (locs1 : List Loc), va_at D cl (a, .inl (cA, n1, .inr (.inr (.inr (.inr (va_cpy f g i j k)))))) H1 → fx_U a H H1 → (∀ q ∈ locs1, B q.base) → W p l e R s m args below meth c H1 locs1 cells slots Q (F0 m (pc + 3) ls rest)) : W p l e R s m args below meth c H locs cells slots Q (F0 m pc ls (.int n :: .int dp :: .ref a :: .int sp :: .ref a0 :: rest)) := by
  subst hi; subst hj; subst hk
  have ei : (nI i).toNatClampNeg = i := nI_clamp (by omega)
  have ej : (nI j).toNatClampNeg = j := nI_clamp (by omega)
  have ek : (nI k).toNatClampNeg = k := nI_clamp (by omega)
  intro T hT X
  have hc0 : H[a0]? = some (vp_cell cA (n0, .inr (.inr (.inr (.inr f))))) := ha0
  have hc1 : H[a]? = some (vp_cell cA (n1, .inr (.inr (.inr (.inr g))))) := ha1
  obtain ⟨-, k0, hk0, cm0, hkk0⟩ := (hK.2 t0 _ ht).1 n0 (fun j => va_rf (f j))
  obtain ⟨-, k1, hk1, cm1, hkk1⟩ := (hK.2 t0 _ ht).1 n1 (fun j => va_rf (g j))
  obtain ⟨vm', X', step⟩ := X.arraycopy hexec hown hlink hnat hstat hini (src := a0) (dst := a) (cs := vp_cell cA (n0, .inr (.inr (.inr (.inr f))))) (cd := vp_cell cA (n1, .inr (.inr (.inr (.inr g))))) (srcPos := nI i) (destPos := nI j) (n := nI k) (by rw [hT]; exact hc0) (by rw [hT]; exact hc1)
    (fun _ h => by cases h) (fun _ h => by cases h) (fun h => by cases h) (fun h => by cases h) hk0 hk1 hkk0 hkk1 rfl (nI_pos (by omega)) (nI_pos (by omega)) (nI_pos (by omega))
    (by rw [nI_toInt (by omega), nI_toInt (by omega)]; show ¬ _ > ((arrV cA n0 (fun j => va_rf (f j))).slots.size : Int); rw [arrV_size]; omega)
    (by rw [nI_toInt (by omega), nI_toInt (by omega)]; show ¬ _ > ((arrV cA n1 (fun j => va_rf (g j))).slots.size : Int); rw [arrV_size]; omega)
    (fun vm₁ hal z hz => by
      rw [ek] at hz
      have e : (vp_cell cA (n0, .inr (.inr (.inr (.inr f))))).slots.getD ((nI i).toNatClampNeg + z) .null = va_rf (f (i + z)) := by
        show (arrV cA n0 (fun j => va_rf (f j))).slots.getD _ _ = _
        rw [ei, Array.getD_eq_getD_getElem?, arrV_read _ _ (by omega)]
        rfl
      rw [e]
      cases hy : f (i + z) with
      | none => exact ⟨rfl, trivial⟩
      | some y =>
        obtain ⟨cellV, g1, g2, ⟨kC, hkC⟩, hasg⟩ := hel (i + z) (by omega) y hy
        obtain ⟨kA, comp, r1, r2, r3, -⟩ := (hK.2 t0 _ ht).2
        cases hk1.symm.trans r1
        cases hkk1.symm.trans r2
        obtain ⟨kE, hkE, -⟩ := Vm.findClass_spec r3
        obtain ⟨kC', hkC', -⟩ := hal.2.2 _ _ hkC
        obtain ⟨kE', hkE', -⟩ := hal.2.2 _ _ hkE
        refine ⟨rfl, cellV, (show T.heap[y]? = some cellV by rw [hT]; exact g1), (fun q h => by rw [h] at g2; cases g2), ⟨kC', hkC'⟩, ?_, ?_⟩
        · exact ⟨kE', hkE'⟩
        · show vm₁.assignable _ _ = true
          rw [hal.assignable]
          exact hasg _ r3)
    (g := F0 m pc ls (.int (nI k) :: .int (nI j) :: .ref a :: .int (nI i) :: .ref a0 :: rest)) rfl (by rw [← hml]) (rest := rest) rfl (by rw [hb]; exact hdg) hframes (by show 2 * 0 + _ + _ ≤ _; omega)
  have e1 : copied (vp_cell cA (n0, .inr (.inr (.inr (.inr f))))) (vp_cell cA (n1, .inr (.inr (.inr (.inr g))))) (nI i) (nI j) (nI k) = vp_cell cA (n1, .inr (.inr (.inr (.inr (va_cpy f g i j k))))) := by
    have := va_copied (fun z => va_rf z) cA cA (n0 := n0) (n1 := n1) (sp := (nI i).toNatClampNeg) (dp := (nI j).toNatClampNeg) (n := (nI k).toNatClampNeg) f g (by rw [ei, ek]; exact h4)
    rw [ei, ej, ek] at this
    exact Eq.trans (by unfold copied; rw [ei, ej, ek]; rfl) this
  rw [e1] at X' step
  have hl : a < H.size := (Array.getElem?_eq_some_iff.mp hc1).1
  have hheap : ((T.setVm vm').setCell a (vp_cell cA (n1, .inr (.inr (.inr (.inr (va_cpy f g i j k))))))).heap = H.setIfInBounds a (vp_cell cA (n1, .inr (.inr (.inr (.inr (va_cpy f g i j k)))))) := by rw [← hT]; rfl
  obtain ⟨t, a1, b1⟩ := kk (H.setIfInBounds a (vp_cell cA (n1, .inr (.inr (.inr (.inr (va_cpy f g i j k))))))) _ (show (H.setIfInBounds a _)[a]? = some _ by simp [Array.getElem?_setIfInBounds, hl]) ⟨by simp, fun q hq => by simp [Array.getElem?_setIfInBounds, Ne.symm hq]⟩
    (fun q hq => by
      rcases List.mem_append.mp hq with h | h
      · exact hL q h
      · obtain ⟨z, -, hz⟩ := List.mem_map.mp h
        rw [← hz]
        exact hB) _ hheap X'
  exact ⟨t, step t a1, b1⟩
/-- an array of ints is cloned -/
theorem fx_clone (hexec : p.tables.exec = Jvm.exec) (hb : c.code = cc) (hml : ls.size = c.maxLocals) (hown : s.vm.findClass own = some m.cls)
    (hlink : (Cond.methodLink own index ⟨"[I", "clone", "()Ljava/lang/Object;"⟩).before args s = true) (hsame : (Cond.sameMethod "[I" "java/lang/Object" "clone" "()Ljava/lang/Object;").before args s = true)
    (hnat : (Cond.native ⟨"java/lang/Object", "clone", "()Ljava/lang/Object;"⟩).before args s = true) (hinst : (Cond.instanceMethod ⟨"java/lang/Object", "clone", "()Ljava/lang/Object;"⟩).before args s = true)
    (hsel : (Cond.selects "[I" ⟨"[I", "clone", "()Ljava/lang/Object;"⟩ ⟨"java/lang/Object", "clone", "()Ljava/lang/Object;"⟩).before args s = true) (hcl : va_Nw (.castable "[I" "java/lang/Cloneable") s)
    (hK : va_K D cl tys s) (t0 : Nat) {cA : ClassId} {n : Nat} {f : Nat → Int32} (hO : va_at D cl (a, .inl (cA, n, .inl f)) H) (ht : tys[t0]? = some (cA, .int))
    (hframes : 1 ≤ R.frames) (hlocals : (rest.map fun v => v.category).sum + 14 ≤ R.locals) (hcells : cells + 1 ≤ R.cells) (hslots : slots + n ≤ R.slots) (hdg : decode cc pc = .ok (.invokevirtual index, 3))
    (kk : ∀ (q : Nat) (H1 : Heap), q = H.size → va_at D cl (q, .inl (cA, n, .inl f)) H1 → fx_G H H1 → W p l e R s m args below meth c H1 locs (cells + 1) (slots + n) Q (F0 m (pc + 3) ls (.ref q :: rest))) : W p l e R s m args below meth c H locs cells slots Q (F0 m pc ls (.ref a :: rest)) := by
  have hsz : (vp_cell cA (n, .inl f)).slots.size = n := arrV_size _ _ _
  have hvm0 : (vp_cell cA (n, .inl f)).vm = .none := rfl
  have hcl0 : (vp_cell cA (n, .inl f)).cls = cA := rfl
  have hcellE : ({ cls := (vp_cell cA (n, .inl f)).cls, slots := (vp_cell cA (n, .inl f)).slots } : Cell) = vp_cell cA (n, .inl f) := rfl
  have hnm : s.vm.findClass "[I" = some cA := (hK.2 t0 _ ht).2
  obtain ⟨c0, t0', f1, f2, f3⟩ := Cond.castable_spec (va_Nw.use (A := args) rfl hcl)
  cases hnm.symm.trans f1
  intro T hT X
  have hcellT : T.heap[a]? = some (vp_cell cA (n, .inl f)) := by rw [hT]; exact hO
  obtain ⟨-, kA, hkA, comp, hkind⟩ := State.isArrayOf_alike X.warmed.alike ((hK.2 t0 _ ht).1 0 (fun _ => .null))
  obtain ⟨-, kS, hkS, compS, hkindS⟩ := (hK.2 t0 _ ht).1 0 (fun _ => .null)
  obtain ⟨vm', X', st⟩ := X.cloneArray hexec hown hlink hsame hnat hinst hsel (a := a) (cell := vp_cell cA (n, .inl f)) hcellT (fun k h => by rw [hvm0] at h; cases h) (by rw [hvm0]; exact fun h => by cases h) (by rw [hcl0]; exact hnm) f2 (by rw [hcl0]; exact f3)
    (fun i v hv => by
      rw [hcl0]
      have hk' : T.vm.classes[cA]? = some kA := hkA
      have hv2 : fits .int v = true := by
        have hv3 : (arrV cA n (fun j => Value.int (f j))).slots[i]? = some v := hv
        by_cases hi : i < n
        · rw [arrV_read _ _ hi] at hv3
          cases hv3
          rfl
        · rw [Array.getElem?_eq_none (by rw [arrV_size]; omega)] at hv3
          cases hv3
      simpa [State.fitsSlot, State.slotType?, hk', hkind] using hv2)
    (g := F0 m pc ls (.ref a :: rest)) rfl (by rw [← hml]) rfl (by rw [hb]; exact hdg) hframes (by show 2 * 0 + _ + 14 ≤ _; omega) hcells (by rw [hsz]; exact hslots) (hloader := by rw [hcl0]; exact Vm.clonesLoader_of_array hkS hkindS)
  rw [hcellE, hsz] at X'
  generalize hH1 : H.push (vp_cell cA (n, .inl f)) = H1
  have z1 : H1.size = H.size + 1 := by rw [← hH1, Array.size_push]
  have e1 : H1[H.size]? = some (vp_cell cA (n, .inl f)) := by rw [← hH1, Array.getElem?_push_size]
  obtain ⟨t, b1, b2⟩ := kk H.size H1 rfl e1 ⟨z1, fun q hq => by rw [← hH1, Array.getElem?_push, if_neg (Nat.ne_of_lt hq)]⟩
    ((T.setVm vm').pushCell (vp_cell cA (n, .inl f))) (by rw [← hH1, ← hT]; rfl) X'
  refine ⟨t, st t ?_, b2⟩
  rw [hcellE, hT]
  exact b1
/-- the length of a table that nobody writes -/
theorem fx_tlen {A : Nat → Prop} {H0 : Heap} {ty : FieldType} {t N : Nat} {f : Nat → Value} (hexec : p.tables.exec = Jvm.exec) (hb : c.code = cc) (hT : va_T ty t N f A s H0) (hE : ∀ q : Nat, q < H0.size → H[q]? = H0[q]?) (hdg : decode cc pc = .ok (.arraylength, 1))
    (kk : W p l e R s m args below meth c H locs cells slots Q (F0 m (pc + 1) ls (.int (nI N) :: rest))) : W p l e R s m args below meth c H locs cells slots Q (F0 m pc ls (.ref t :: rest)) := by
  obtain ⟨cell, h1, h2, h3, h4, h5, h6, h7⟩ := hT
  exact W.alen (n := nI N) hexec hb (by rw [hE t (Array.getElem?_eq_some_iff.mp h1).1]; exact h1) h2 h5 rfl rfl hdg kk
/-- a static that nobody writes -/
theorem fx_gets {A : Nat → Prop} {H0 : Heap} {n d ref : String} {v : Value} (hexec : p.tables.exec = Jvm.exec) (hb : c.code = cc) (hZ : va_Z C n d v A s H0) (hE : ∀ q : Nat, q < H0.size → H[q]? = H0[q]?) (hown : s.vm.findClass own = some m.cls) (hlink : (Cond.fieldLink own index ref n d).before args s = true) (hsame : ∀ x, s.fieldFound? C n d = some x → s.fieldFound? ref n d = some x) (hdg : decode cc pc = .ok (.getstatic index, 3))
    (kk : W p l e R s m args below meth c H locs cells slots Q (F0 m (pc + 3) ls (v :: rest))) : W p l e R s m args below meth c H locs cells slots Q (F0 m pc ls rest) := by
  obtain ⟨cf, kf, fi, f, a, cell, h1, h2, h3, h4, h5, h6, h7, h8⟩ := hZ
  exact W.gets hexec hb hown hlink (hsame _ h1) h2 h3 h4 (by rw [hE a (Array.getElem?_eq_some_iff.mp h5).1]; exact h5) (fun e => by rw [e] at h6; cases h6) h7 rfl hdg kk
theorem fx_tald {A : Nat → Prop} {H0 : Heap} {t N : Nat} {f : Nat → Value} (hexec : p.tables.exec = Jvm.exec) (hb : c.code = cc) (hT : va_T .int t N f A s H0) (hE : ∀ q : Nat, q < H0.size → H[q]? = H0[q]?) {i : Int32} {j : Nat} (hi : i = nI j) (hj : j < N) (hN : N < 2 ^ 31) {v : Int32} (hv : f j = .int v) (hdg : decode cc pc = .ok (.iaload, 1))
    (kk : W p l e R s m args below meth c H locs cells slots Q (F0 m (pc + 1) ls (.int v :: rest))) : W p l e R s m args below meth c H locs cells slots Q (F0 m pc ls (.int i :: .ref t :: rest)) := by
  subst hi
  have ej : (nI j).toNatClampNeg = j := nI_clamp (by omega)
  obtain ⟨cell, h1, h2, h3, h4, h5, h6, h7⟩ := hT
  exact W.iald (v := .int v) hexec hb (by rw [hE t (Array.getElem?_eq_some_iff.mp h1).1]; exact h1) h2 h3 (fun q => q.elim (nI_pos (by omega)) (fun q => by rw [ej] at q; omega)) (by rw [ej, h6 _ hj, hv]) rfl rfl hdg kk
end FXR
end
section
/-! The reference's cells, and its contracts' form: every method of it is a function of the numbers that its cells hold. -/
def zI (P : Prop) [Decidable P] : Int32 := if P then 1 else 0
theorem zI_t {P : Prop} [Decidable P] (h : P) : zI P = 1 := if_pos h
theorem zI_f {P : Prop} [Decidable P] (h : ¬ P) : zI P = 0 := if_neg h
theorem zI_eq0 {P : Prop} [Decidable P] : zI P = 0 ↔ ¬ P := by
  unfold zI
  by_cases h : P
  · rw [if_pos h]; exact ⟨fun z => absurd z (by decide), fun z => absurd h z⟩
  · rw [if_neg h]; exact ⟨fun _ => h, fun _ => rfl⟩
theorem zI_ne0 {P : Prop} [Decidable P] : ¬ zI P = 0 ↔ P := by
  rw [zI_eq0]
  exact Decidable.not_not
/-- a room of k frames for methods that make nothing -/
abbrev rmK (k : Nat) : Room := { frames := k, cells := 0, slots := 0, locals := 40 * k }
/-- the numbers that the reference's cells hold: versions, thrown, kinds, forms, sizes, elements, keys, fewest -/
abbrev mS : Type := Int32 × Int32 × (Nat → Int32) × (Nat → Int32) × (Nat → Int32) × (Nat → Int32) × (Nat → Int32) × (Nat → Int32)
abbrev mw (w : Wd) (am : Nat → Nat) (S : mS) : va_W := [(am 0, .inr (2, [.int S.1, .ref (am 1), .ref (am 2), .ref (am 3), .ref (am 4), .ref (am 5), .int S.2.1, .ref (am 6)])), (am 1, .inl (w.I, 64, .inl S.2.2.1)), (am 2, .inl (w.I, 64, .inl S.2.2.2.1)), (am 3, .inl (w.I, 64, .inl S.2.2.2.2.1)), (am 4, .inl (w.I, 6400, .inl S.2.2.2.2.2.1)), (am 5, .inl (w.I, 6400, .inl S.2.2.2.2.2.2.1)), (am 6, .inl (w.I, 101, .inl S.2.2.2.2.2.2.2))]
def mI (am : Nat → Nat) : Prop := ∀ i j, i < 7 → j < 7 → am i = am j → i = j
def mA (am : Nat → Nat) : Nat → Prop := fun q => ∃ i, i < 7 ∧ q = am i
theorem mw_adr {w : Wd} {am : Nat → Nat} {S : mS} {k : Nat} {q : Nat × va_E} (h : (mw w am S)[k]? = some q) : k < 7 ∧ q.1 = am k := by
  match k, h with
  | 0, h => cases h; exact ⟨by decide, rfl⟩
  | 1, h => cases h; exact ⟨by decide, rfl⟩
  | 2, h => cases h; exact ⟨by decide, rfl⟩
  | 3, h => cases h; exact ⟨by decide, rfl⟩
  | 4, h => cases h; exact ⟨by decide, rfl⟩
  | 5, h => cases h; exact ⟨by decide, rfl⟩
  | 6, h => cases h; exact ⟨by decide, rfl⟩
  | n + 7, h => cases h
theorem mw_D {w : Wd} {am : Nat → Nat} (hI : mI am) (S : mS) : va_D (mA am) (mw w am S) := by
  refine ⟨fun i j p q hp hq e => ?_, fun k q hq => ?_⟩
  · obtain ⟨h1, h2⟩ := mw_adr hp
    obtain ⟨h3, h4⟩ := mw_adr hq
    exact hI i j h1 h3 (by rw [← h2, ← h4]; exact e)
  · obtain ⟨h1, h2⟩ := mw_adr hq
    exact ⟨k, h1, h2⟩
def mCt (w : Wd) (am : Nat → Nat) (y : MethodName) (nL : Nat) (rm : Room) (as : List Value) (S : mS) (r : Option Value) (S' : mS) : Prop :=
  fx_C (KT w) y nL rm (.ref (am 0) :: as) (fun H => va_P w.D cls (mw w am S) H) (fun _ o H' => o = .returned r ∧ va_P w.D cls (mw w am S') H') (fun _ => mA am)
theorem fx_vaS {A A1 : Nat → Prop} {H0 H H' : Heap} {locs locs' : List Loc} {mc : Nat} (hS : va_S A H0 H locs) (hF : fx_F A1 mc H H') (hA : ∀ q, A1 q → A q) (hL : ∀ q ∈ locs', A q.base) : va_S A H0 H' locs' :=
  ⟨Nat.le_trans hS.1 hF.1, fun q h1 h2 => (hF.2.2 q (Nat.lt_of_lt_of_le h1 hS.1) (fun z => h2 (hA q z))).trans (hS.2.1 q h1 h2), hL⟩
section MCALL
variable {p : Program} {l : Launch} {e : Env} {R : Room} {s : State} {m : MethodId} {args : Array Value} {below : List Frame} {meth : Method} {c : Code} {H : Heap} {locs : List Loc} {cells slots : Nat} {Q : State → Prop}
variable {cc : ByteArray} {pc : Nat} {ls : Array Slot} {rest st as : List Value} {y : MethodName} {nL : Nat} {rm : Room} {w : Wd} {am : Nat → Nat} {S S' : mS} {r : Option Value} {bytes : ByteArray} {ret : Option FieldType}
theorem m_cV {own : String} {index : Nat} (hC : mCt w am y nL rm as S r S') (hx : p.tables.exec = Jvm.exec) (hfl : l.flags = flags0) (hK : KT w s) (hb : c.code = cc) (hsz : ls.size = c.maxLocals) (hown : s.vm.findClass own = some m.cls) (hlink : (Cond.methodLink own index y).before args s = true) (hcode : (Cond.code y bytes nL ret).before args s = true)
    (hinst : (Cond.instanceMethod y).before args s = true) (hsel : (Cond.selects R_M y y).before args s = true) (hN : fx_N y as.length) (hst : st = as.reverse ++ .ref (am 0) :: rest) (hR : fx_R R rm nL cells slots rest) (hP : va_P w.D cls (mw w am S) H) (hS : va_S (mA am) s.heap H locs) (hdg : decode cc pc = .ok (.invokevirtual index, 3))
    (kk : ∀ (H1 : Heap) (locs1 : List Loc), va_P w.D cls (mw w am S') H1 → va_S (mA am) s.heap H1 locs1 → W p l e R s m args below meth c H1 locs1 (cells + rm.cells) (slots + rm.slots) Q (F0 m (pc + 3) ls (r.toList ++ rest))) : W p l e R s m args below meth c H locs cells slots Q (F0 m pc ls st) :=
  fx_cV KT_moved hC hx hfl hK hb hsz hown hlink (fx_Y.code hcode) hinst hsel hN (va_recv (q0 := 0) hK.2.1 hP (show cls[2]? = some (R_M, T_M, 8) from rfl) rfl) hst hR hP hdg hS.2.2 (fun _ h => h)
    (fun v H' locs' hq hF hL => by obtain ⟨hv, hP'⟩ := hq; cases hv; exact kk H' locs' hP' (fx_vaS hS hF (fun _ h => h) hL)) (fun x H' locs' hq _ _ => by cases hq.1)
end MCALL
end
section
set_option maxHeartbeats 4000000 in
set_option maxRecDepth 100000 in
theorem ct_M_thrown (w : Wd) (am : Nat → Nat) (hI : mI am) (n th : Int32) (fk ff fs fe fy fw : Nat → Int32)  : mCt w am y_M_thrown 1 (rmK 0) [] (n, th, fk, ff, fs, fe, fy, fw) (some (.int th)) (n, th, fk, ff, fs, fe, fy, fw) := by
  refine fx_of (ret := some .int) (cc := b_M_thrown) (fun s hK => hK.1 _ mk_M_thrown _) (Nat.le_of_ble_eq_true rfl) ?_
  intro p l e s m below meth c hx hfl hK hb hml hr hlk hnt hown hin hP ls hl
  have hw : ∀ z ∈ gw, z.before (.ref (am 0) :: [] : List Value).toArray s = true := fun z hz => hK.1 z hz _
  have hKv := hK.2.1
  have hD : va_D (mA am) [(am 0, .inr (2, [.int (n), .ref (am 1), .ref (am 2), .ref (am 3), .ref (am 4), .ref (am 5), .int (th), .ref (am 6)])), (am 1, .inl (w.I, 64, .inl fk)), (am 2, .inl (w.I, 64, .inl ff)), (am 3, .inl (w.I, 64, .inl fs)), (am 4, .inl (w.I, 6400, .inl fe)), (am 5, .inl (w.I, 6400, .inl fy)), (am 6, .inl (w.I, 101, .inl fw))] := mw_D (w := w) hI ((n), (th), fk, ff, fs, fe, fy, fw)
  have hS : va_S (mA am) s.heap s.heap [] := va_S.rf
  have hP : va_P w.D cls [(am 0, .inr (2, [.int (n), .ref (am 1), .ref (am 2), .ref (am 3), .ref (am 4), .ref (am 5), .int (th), .ref (am 6)])), (am 1, .inl (w.I, 64, .inl fk)), (am 2, .inl (w.I, 64, .inl ff)), (am 3, .inl (w.I, 64, .inl fs)), (am 4, .inl (w.I, 6400, .inl fe)), (am 5, .inl (w.I, 6400, .inl fy)), (am 6, .inl (w.I, 101, .inl fw))] s.heap := hP
  have hl : lv_has ls 1 [(0, .ref (am 0))] := hl
  refine lv_aload_n hx hb d_M_thrown_0 rfl (lv_at hl 0 rfl) ?_
  refine fx_get hx hb hown (kc_M hK _) hKv 6 (by decide) (hw _ mf_M_28) (fun _ h => h) (hP 0 _ rfl) rfl d_M_thrown_1 ?_
  exact fx_iret hx hb hr hlk hS.2.2 (Nat.le_of_ble_eq_true rfl) (Nat.le_of_ble_eq_true rfl) d_M_thrown_4 (⟨rfl, hP⟩)
set_option maxHeartbeats 4000000 in
set_option maxRecDepth 100000 in
theorem ct_M_versions (w : Wd) (am : Nat → Nat) (hI : mI am) (n th : Int32) (fk ff fs fe fy fw : Nat → Int32)  : mCt w am y_M_versions 1 (rmK 0) [] (n, th, fk, ff, fs, fe, fy, fw) (some (.int n)) (n, 0, fk, ff, fs, fe, fy, fw) := by
  refine fx_of (ret := some .int) (cc := b_M_versions) (fun s hK => hK.1 _ mk_M_versions _) (Nat.le_of_ble_eq_true rfl) ?_
  intro p l e s m below meth c hx hfl hK hb hml hr hlk hnt hown hin hP ls hl
  have hw : ∀ z ∈ gw, z.before (.ref (am 0) :: [] : List Value).toArray s = true := fun z hz => hK.1 z hz _
  have hKv := hK.2.1
  have hD : va_D (mA am) [(am 0, .inr (2, [.int (n), .ref (am 1), .ref (am 2), .ref (am 3), .ref (am 4), .ref (am 5), .int (th), .ref (am 6)])), (am 1, .inl (w.I, 64, .inl fk)), (am 2, .inl (w.I, 64, .inl ff)), (am 3, .inl (w.I, 64, .inl fs)), (am 4, .inl (w.I, 6400, .inl fe)), (am 5, .inl (w.I, 6400, .inl fy)), (am 6, .inl (w.I, 101, .inl fw))] := mw_D (w := w) hI ((n), (th), fk, ff, fs, fe, fy, fw)
  have hS : va_S (mA am) s.heap s.heap [] := va_S.rf
  have hP : va_P w.D cls [(am 0, .inr (2, [.int (n), .ref (am 1), .ref (am 2), .ref (am 3), .ref (am 4), .ref (am 5), .int (th), .ref (am 6)])), (am 1, .inl (w.I, 64, .inl fk)), (am 2, .inl (w.I, 64, .inl ff)), (am 3, .inl (w.I, 64, .inl fs)), (am 4, .inl (w.I, 6400, .inl fe)), (am 5, .inl (w.I, 6400, .inl fy)), (am 6, .inl (w.I, 101, .inl fw))] s.heap := hP
  have hl : lv_has ls 1 [(0, .ref (am 0))] := hl
  refine lv_aload_n hx hb d_M_versions_0 rfl (lv_at hl 0 rfl) ?_
  refine lv_iconst (v := nI 0) hx hb d_M_versions_1 rfl ?_
  refine va_put (D := w.D) (ci := 2) (v := .int (nI 0)) (ty := .int) (C := R_M) (T := T_M) (N := 8) (Ts := u_ws R_M T_M 8) hx hb (kc_M hK _).2.1 (fun _ h => h) ty_M tyok_M nm_M hown hKv hP hD hS 0 rfl rfl 6 (by decide) (hw _ mf_M_28) (fun _ h => h) rfl (by decide +kernel) rfl rfl (Nat.le_of_ble_eq_true rfl) d_M_versions_2 (fun H locs hP hD hS => ?_)
  have hP : va_P w.D cls [(am 0, .inr (2, [.int (n), .ref (am 1), .ref (am 2), .ref (am 3), .ref (am 4), .ref (am 5), .int (nI 0), .ref (am 6)])), (am 1, .inl (w.I, 64, .inl fk)), (am 2, .inl (w.I, 64, .inl ff)), (am 3, .inl (w.I, 64, .inl fs)), (am 4, .inl (w.I, 6400, .inl fe)), (am 5, .inl (w.I, 6400, .inl fy)), (am 6, .inl (w.I, 101, .inl fw))] H := hP
  have hD : va_D (mA am) [(am 0, .inr (2, [.int (n), .ref (am 1), .ref (am 2), .ref (am 3), .ref (am 4), .ref (am 5), .int (nI 0), .ref (am 6)])), (am 1, .inl (w.I, 64, .inl fk)), (am 2, .inl (w.I, 64, .inl ff)), (am 3, .inl (w.I, 64, .inl fs)), (am 4, .inl (w.I, 6400, .inl fe)), (am 5, .inl (w.I, 6400, .inl fy)), (am 6, .inl (w.I, 101, .inl fw))] := hD
  refine lv_aload_n hx hb d_M_versions_5 rfl (lv_at hl 0 rfl) ?_
  refine fx_get hx hb hown (kc_M hK _) hKv 0 (by decide) (hw _ mf_M_32) (fun _ h => h) (hP 0 _ rfl) rfl d_M_versions_6 ?_
  exact fx_iret hx hb hr hlk hS.2.2 (Nat.le_of_ble_eq_true rfl) (Nat.le_of_ble_eq_true rfl) d_M_versions_9 (⟨rfl, hP⟩)
set_option maxHeartbeats 4000000 in
set_option maxRecDepth 100000 in
theorem ct_M_throwsBy (w : Wd) (am : Nat → Nat) (hI : mI am) (n th : Int32) (fk ff fs fe fy fw : Nat → Int32) (k : Int32) : mCt w am y_M_throwsBy 2 (rmK 0) [.int k] (n, th, fk, ff, fs, fe, fy, fw) (some (.int (zI (0 < k)))) (n, k, fk, ff, fs, fe, fy, fw) := by
  refine fx_of (ret := some .boolean) (cc := b_M_throwsBy) (fun s hK => hK.1 _ mk_M_throwsBy _) (Nat.le_of_ble_eq_true rfl) ?_
  intro p l e s m below meth c hx hfl hK hb hml hr hlk hnt hown hin hP ls hl
  have hw : ∀ z ∈ gw, z.before (.ref (am 0) :: [.int k] : List Value).toArray s = true := fun z hz => hK.1 z hz _
  have hKv := hK.2.1
  have hD : va_D (mA am) [(am 0, .inr (2, [.int (n), .ref (am 1), .ref (am 2), .ref (am 3), .ref (am 4), .ref (am 5), .int (th), .ref (am 6)])), (am 1, .inl (w.I, 64, .inl fk)), (am 2, .inl (w.I, 64, .inl ff)), (am 3, .inl (w.I, 64, .inl fs)), (am 4, .inl (w.I, 6400, .inl fe)), (am 5, .inl (w.I, 6400, .inl fy)), (am 6, .inl (w.I, 101, .inl fw))] := mw_D (w := w) hI ((n), (th), fk, ff, fs, fe, fy, fw)
  have hS : va_S (mA am) s.heap s.heap [] := va_S.rf
  have hP : va_P w.D cls [(am 0, .inr (2, [.int (n), .ref (am 1), .ref (am 2), .ref (am 3), .ref (am 4), .ref (am 5), .int (th), .ref (am 6)])), (am 1, .inl (w.I, 64, .inl fk)), (am 2, .inl (w.I, 64, .inl ff)), (am 3, .inl (w.I, 64, .inl fs)), (am 4, .inl (w.I, 6400, .inl fe)), (am 5, .inl (w.I, 6400, .inl fy)), (am 6, .inl (w.I, 101, .inl fw))] s.heap := hP
  have hl : lv_has ls 2 [(0, .ref (am 0)), (1, .int k)] := hl
  refine lv_aload_n hx hb d_M_throwsBy_0 rfl (lv_at hl 0 rfl) ?_
  refine lv_iload_n hx hb d_M_throwsBy_1 rfl (lv_at hl 1 rfl) ?_
  refine va_put (D := w.D) (ci := 2) (v := .int k) (ty := .int) (C := R_M) (T := T_M) (N := 8) (Ts := u_ws R_M T_M 8) hx hb (kc_M hK _).2.1 (fun _ h => h) ty_M tyok_M nm_M hown hKv hP hD hS 0 rfl rfl 6 (by decide) (hw _ mf_M_28) (fun _ h => h) rfl (by decide +kernel) rfl rfl (Nat.le_of_ble_eq_true rfl) d_M_throwsBy_2 (fun H locs hP hD hS => ?_)
  have hP : va_P w.D cls [(am 0, .inr (2, [.int (n), .ref (am 1), .ref (am 2), .ref (am 3), .ref (am 4), .ref (am 5), .int k, .ref (am 6)])), (am 1, .inl (w.I, 64, .inl fk)), (am 2, .inl (w.I, 64, .inl ff)), (am 3, .inl (w.I, 64, .inl fs)), (am 4, .inl (w.I, 6400, .inl fe)), (am 5, .inl (w.I, 6400, .inl fy)), (am 6, .inl (w.I, 101, .inl fw))] H := hP
  have hD : va_D (mA am) [(am 0, .inr (2, [.int (n), .ref (am 1), .ref (am 2), .ref (am 3), .ref (am 4), .ref (am 5), .int k, .ref (am 6)])), (am 1, .inl (w.I, 64, .inl fk)), (am 2, .inl (w.I, 64, .inl ff)), (am 3, .inl (w.I, 64, .inl fs)), (am 4, .inl (w.I, 6400, .inl fe)), (am 5, .inl (w.I, 6400, .inl fy)), (am 6, .inl (w.I, 101, .inl fw))] := hD
  refine lv_iload_n hx hb d_M_throwsBy_5 rfl (lv_at hl 1 rfl) ?_
  refine lv_if_le (tgt := 13) hx hb d_M_throwsBy_6 rfl (fun h6 => ?_) (fun h6 => ?_)
  · refine lv_iconst (v := nI 0) hx hb d_M_throwsBy_13 rfl ?_
    exact fx_zret hx hb hr (by decide) hlk hS.2.2 (Nat.le_of_ble_eq_true rfl) (Nat.le_of_ble_eq_true rfl) d_M_throwsBy_14 (⟨by rw [zI_f (fun h => absurd (Int32.not_le.mpr h) (fun z => z h6))]; rfl, hP⟩)
  · refine lv_iconst (v := nI 1) hx hb d_M_throwsBy_9 rfl ?_
    refine lv_goto (tgt := 14) hx hb d_M_throwsBy_10 rfl ?_
    exact fx_zret hx hb hr (by decide) hlk hS.2.2 (Nat.le_of_ble_eq_true rfl) (Nat.le_of_ble_eq_true rfl) d_M_throwsBy_14 (⟨by rw [zI_t (Int32.not_le.mp h6)]; rfl, hP⟩)
set_option maxHeartbeats 4000000 in
set_option maxRecDepth 100000 in
theorem ct_M_is (w : Wd) (am : Nat → Nat) (hI : mI am) (n th : Int32) (fk ff fs fe fy fw : Nat → Int32) (v : Int32) : mCt w am y_M_is 2 (rmK 0) [.int v] (n, th, fk, ff, fs, fe, fy, fw) (some (.int (zI (¬ v < 0 ∧ v < n)))) (n, th, fk, ff, fs, fe, fy, fw) := by
  refine fx_of (ret := some .boolean) (cc := b_M_is) (fun s hK => hK.1 _ mk_M_is _) (Nat.le_of_ble_eq_true rfl) ?_
  intro p l e s m below meth c hx hfl hK hb hml hr hlk hnt hown hin hP ls hl
  have hw : ∀ z ∈ gw, z.before (.ref (am 0) :: [.int v] : List Value).toArray s = true := fun z hz => hK.1 z hz _
  have hKv := hK.2.1
  have hD : va_D (mA am) [(am 0, .inr (2, [.int (n), .ref (am 1), .ref (am 2), .ref (am 3), .ref (am 4), .ref (am 5), .int (th), .ref (am 6)])), (am 1, .inl (w.I, 64, .inl fk)), (am 2, .inl (w.I, 64, .inl ff)), (am 3, .inl (w.I, 64, .inl fs)), (am 4, .inl (w.I, 6400, .inl fe)), (am 5, .inl (w.I, 6400, .inl fy)), (am 6, .inl (w.I, 101, .inl fw))] := mw_D (w := w) hI ((n), (th), fk, ff, fs, fe, fy, fw)
  have hS : va_S (mA am) s.heap s.heap [] := va_S.rf
  have hP : va_P w.D cls [(am 0, .inr (2, [.int (n), .ref (am 1), .ref (am 2), .ref (am 3), .ref (am 4), .ref (am 5), .int (th), .ref (am 6)])), (am 1, .inl (w.I, 64, .inl fk)), (am 2, .inl (w.I, 64, .inl ff)), (am 3, .inl (w.I, 64, .inl fs)), (am 4, .inl (w.I, 6400, .inl fe)), (am 5, .inl (w.I, 6400, .inl fy)), (am 6, .inl (w.I, 101, .inl fw))] s.heap := hP
  have hl : lv_has ls 2 [(0, .ref (am 0)), (1, .int v)] := hl
  refine lv_iload_n hx hb d_M_is_0 rfl (lv_at hl 1 rfl) ?_
  refine lv_if_lt (tgt := 16) hx hb d_M_is_1 rfl (fun h1 => ?_) (fun h1 => ?_)
  · refine lv_iconst (v := nI 0) hx hb d_M_is_16 rfl ?_
    exact fx_zret hx hb hr (by decide) hlk hS.2.2 (Nat.le_of_ble_eq_true rfl) (Nat.le_of_ble_eq_true rfl) d_M_is_17 (⟨by rw [zI_f (fun h => h.1 h1)]; rfl, hP⟩)
  · refine lv_iload_n hx hb d_M_is_4 rfl (lv_at hl 1 rfl) ?_
    refine lv_aload_n hx hb d_M_is_5 rfl (lv_at hl 0 rfl) ?_
    refine fx_get hx hb hown (kc_M hK _) hKv 0 (by decide) (hw _ mf_M_32) (fun _ h => h) (hP 0 _ rfl) rfl d_M_is_6 ?_
    refine lv_icmp_ge (tgt := 16) hx hb d_M_is_9 rfl (fun h9 => ?_) (fun h9 => ?_)
    · refine lv_iconst (v := nI 0) hx hb d_M_is_16 rfl ?_
      exact fx_zret hx hb hr (by decide) hlk hS.2.2 (Nat.le_of_ble_eq_true rfl) (Nat.le_of_ble_eq_true rfl) d_M_is_17 (⟨by rw [zI_f (fun h => absurd h.2 (Int32.not_lt.mpr h9))]; rfl, hP⟩)
    · refine lv_iconst (v := nI 1) hx hb d_M_is_12 rfl ?_
      refine lv_goto (tgt := 17) hx hb d_M_is_13 rfl ?_
      exact fx_zret hx hb hr (by decide) hlk hS.2.2 (Nat.le_of_ble_eq_true rfl) (Nat.le_of_ble_eq_true rfl) d_M_is_17 (⟨by rw [zI_t ⟨h1, Int32.not_le.mp h9⟩]; rfl, hP⟩)
set_option maxHeartbeats 4000000 in
set_option maxRecDepth 100000 in
theorem ct_M_isMap (w : Wd) (am : Nat → Nat) (hI : mI am) (n th : Int32) (fk ff fs fe fy fw : Nat → Int32) (j : Nat) (hj : j < 64) : mCt w am y_M_isMap 2 (rmK 0) [.int (nI j)] (n, th, fk, ff, fs, fe, fy, fw) (some (.int (zI (fk j = 3)))) (n, th, fk, ff, fs, fe, fy, fw) := by
  refine fx_of (ret := some .boolean) (cc := b_M_isMap) (fun s hK => hK.1 _ mk_M_isMap _) (Nat.le_of_ble_eq_true rfl) ?_
  intro p l e s m below meth c hx hfl hK hb hml hr hlk hnt hown hin hP ls hl
  have hw : ∀ z ∈ gw, z.before (.ref (am 0) :: [.int (nI j)] : List Value).toArray s = true := fun z hz => hK.1 z hz _
  have hKv := hK.2.1
  have hD : va_D (mA am) [(am 0, .inr (2, [.int (n), .ref (am 1), .ref (am 2), .ref (am 3), .ref (am 4), .ref (am 5), .int (th), .ref (am 6)])), (am 1, .inl (w.I, 64, .inl fk)), (am 2, .inl (w.I, 64, .inl ff)), (am 3, .inl (w.I, 64, .inl fs)), (am 4, .inl (w.I, 6400, .inl fe)), (am 5, .inl (w.I, 6400, .inl fy)), (am 6, .inl (w.I, 101, .inl fw))] := mw_D (w := w) hI ((n), (th), fk, ff, fs, fe, fy, fw)
  have hS : va_S (mA am) s.heap s.heap [] := va_S.rf
  have hP : va_P w.D cls [(am 0, .inr (2, [.int (n), .ref (am 1), .ref (am 2), .ref (am 3), .ref (am 4), .ref (am 5), .int (th), .ref (am 6)])), (am 1, .inl (w.I, 64, .inl fk)), (am 2, .inl (w.I, 64, .inl ff)), (am 3, .inl (w.I, 64, .inl fs)), (am 4, .inl (w.I, 6400, .inl fe)), (am 5, .inl (w.I, 6400, .inl fy)), (am 6, .inl (w.I, 101, .inl fw))] s.heap := hP
  have hl : lv_has ls 2 [(0, .ref (am 0)), (1, .int (nI j))] := hl
  refine lv_aload_n hx hb d_M_isMap_0 rfl (lv_at hl 0 rfl) ?_
  refine fx_get hx hb hown (kc_M hK _) hKv 1 (by decide) (hw _ mf_M_7) (fun _ h => h) (hP 0 _ rfl) rfl d_M_isMap_1 ?_
  refine lv_iload_n hx hb d_M_isMap_4 rfl (lv_at hl 1 rfl) ?_
  refine fx_iald (j := j) hx hb hKv 0 (hP 1 _ rfl) rfl (rfl) (hj) (by decide) d_M_isMap_5 ?_
  refine lv_iconst (v := nI 3) hx hb d_M_isMap_6 rfl ?_
  refine lv_icmp_ne (tgt := 14) hx hb d_M_isMap_7 rfl (fun h7 => ?_) (fun h7 => ?_)
  · refine lv_iconst (v := nI 0) hx hb d_M_isMap_14 rfl ?_
    exact fx_zret hx hb hr (by decide) hlk hS.2.2 (Nat.le_of_ble_eq_true rfl) (Nat.le_of_ble_eq_true rfl) d_M_isMap_15 (⟨by rw [zI_f (P := fk j = 3) h7]; rfl, hP⟩)
  · refine lv_iconst (v := nI 1) hx hb d_M_isMap_10 rfl ?_
    refine lv_goto (tgt := 15) hx hb d_M_isMap_11 rfl ?_
    exact fx_zret hx hb hr (by decide) hlk hS.2.2 (Nat.le_of_ble_eq_true rfl) (Nat.le_of_ble_eq_true rfl) d_M_isMap_15 (⟨by rw [zI_t (P := fk j = 3) h7]; rfl, hP⟩)
set_option maxHeartbeats 4000000 in
set_option maxRecDepth 100000 in
theorem ct_M_isFull (w : Wd) (am : Nat → Nat) (hI : mI am) (n th : Int32) (fk ff fs fe fy fw : Nat → Int32)  : mCt w am y_M_isFull 1 (rmK 0) [] (n, th, fk, ff, fs, fe, fy, fw) (some (.int (zI (nI 64 ≤ n)))) (n, th, fk, ff, fs, fe, fy, fw) := by
  refine fx_of (ret := some .boolean) (cc := b_M_isFull) (fun s hK => hK.1 _ mk_M_isFull _) (Nat.le_of_ble_eq_true rfl) ?_
  intro p l e s m below meth c hx hfl hK hb hml hr hlk hnt hown hin hP ls hl
  have hw : ∀ z ∈ gw, z.before (.ref (am 0) :: [] : List Value).toArray s = true := fun z hz => hK.1 z hz _
  have hKv := hK.2.1
  have hD : va_D (mA am) [(am 0, .inr (2, [.int (n), .ref (am 1), .ref (am 2), .ref (am 3), .ref (am 4), .ref (am 5), .int (th), .ref (am 6)])), (am 1, .inl (w.I, 64, .inl fk)), (am 2, .inl (w.I, 64, .inl ff)), (am 3, .inl (w.I, 64, .inl fs)), (am 4, .inl (w.I, 6400, .inl fe)), (am 5, .inl (w.I, 6400, .inl fy)), (am 6, .inl (w.I, 101, .inl fw))] := mw_D (w := w) hI ((n), (th), fk, ff, fs, fe, fy, fw)
  have hS : va_S (mA am) s.heap s.heap [] := va_S.rf
  have hP : va_P w.D cls [(am 0, .inr (2, [.int (n), .ref (am 1), .ref (am 2), .ref (am 3), .ref (am 4), .ref (am 5), .int (th), .ref (am 6)])), (am 1, .inl (w.I, 64, .inl fk)), (am 2, .inl (w.I, 64, .inl ff)), (am 3, .inl (w.I, 64, .inl fs)), (am 4, .inl (w.I, 6400, .inl fe)), (am 5, .inl (w.I, 6400, .inl fy)), (am 6, .inl (w.I, 101, .inl fw))] s.heap := hP
  have hl : lv_has ls 1 [(0, .ref (am 0))] := hl
  refine lv_aload_n hx hb d_M_isFull_0 rfl (lv_at hl 0 rfl) ?_
  refine fx_get hx hb hown (kc_M hK _) hKv 0 (by decide) (hw _ mf_M_32) (fun _ h => h) (hP 0 _ rfl) rfl d_M_isFull_1 ?_
  refine lv_bipush (v := nI 64) hx hb d_M_isFull_4 rfl ?_
  refine lv_icmp_lt (tgt := 13) hx hb d_M_isFull_6 rfl (fun h6 => ?_) (fun h6 => ?_)
  · refine lv_iconst (v := nI 0) hx hb d_M_isFull_13 rfl ?_
    exact fx_zret hx hb hr (by decide) hlk hS.2.2 (Nat.le_of_ble_eq_true rfl) (Nat.le_of_ble_eq_true rfl) d_M_isFull_14 (⟨by rw [zI_f (Int32.not_le.mpr h6)]; rfl, hP⟩)
  · refine lv_iconst (v := nI 1) hx hb d_M_isFull_9 rfl ?_
    refine lv_goto (tgt := 14) hx hb d_M_isFull_10 rfl ?_
    exact fx_zret hx hb hr (by decide) hlk hS.2.2 (Nat.le_of_ble_eq_true rfl) (Nat.le_of_ble_eq_true rfl) d_M_isFull_14 (⟨by rw [zI_t (Int32.not_lt.mp h6)]; rfl, hP⟩)
set_option maxHeartbeats 4000000 in
set_option maxRecDepth 100000 in
theorem ct_M_create (w : Wd) (am : Nat → Nat) (hI : mI am) (th : Int32) (fk ff fs fe fy fw : Nat → Int32) (i : Nat) (k f : Int32) (hi : i < 64) : mCt w am y_M_create 3 (rmK 0) [.int k, .int f] (nI i, th, fk, ff, fs, fe, fy, fw) (some (.int (nI i))) (nI (i + 1), th, upd fk i k, upd ff i f, upd fs i 0, fe, fy, fw) := by
  refine fx_of (ret := some .int) (cc := b_M_create) (fun s hK => hK.1 _ mk_M_create _) (Nat.le_of_ble_eq_true rfl) ?_
  intro p l e s m below meth c hx hfl hK hb hml hr hlk hnt hown hin hP ls hl
  have hw : ∀ z ∈ gw, z.before (.ref (am 0) :: [.int k, .int f] : List Value).toArray s = true := fun z hz => hK.1 z hz _
  have hKv := hK.2.1
  have hD : va_D (mA am) [(am 0, .inr (2, [.int (nI i), .ref (am 1), .ref (am 2), .ref (am 3), .ref (am 4), .ref (am 5), .int (th), .ref (am 6)])), (am 1, .inl (w.I, 64, .inl fk)), (am 2, .inl (w.I, 64, .inl ff)), (am 3, .inl (w.I, 64, .inl fs)), (am 4, .inl (w.I, 6400, .inl fe)), (am 5, .inl (w.I, 6400, .inl fy)), (am 6, .inl (w.I, 101, .inl fw))] := mw_D (w := w) hI ((nI i), (th), fk, ff, fs, fe, fy, fw)
  have hS : va_S (mA am) s.heap s.heap [] := va_S.rf
  have hP : va_P w.D cls [(am 0, .inr (2, [.int (nI i), .ref (am 1), .ref (am 2), .ref (am 3), .ref (am 4), .ref (am 5), .int (th), .ref (am 6)])), (am 1, .inl (w.I, 64, .inl fk)), (am 2, .inl (w.I, 64, .inl ff)), (am 3, .inl (w.I, 64, .inl fs)), (am 4, .inl (w.I, 6400, .inl fe)), (am 5, .inl (w.I, 6400, .inl fy)), (am 6, .inl (w.I, 101, .inl fw))] s.heap := hP
  have hl : lv_has ls 3 [(0, .ref (am 0)), (1, .int k), (2, .int f)] := hl
  refine lv_aload_n hx hb d_M_create_0 rfl (lv_at hl 0 rfl) ?_
  refine fx_get hx hb hown (kc_M hK _) hKv 1 (by decide) (hw _ mf_M_7) (fun _ h => h) (hP 0 _ rfl) rfl d_M_create_1 ?_
  refine lv_aload_n hx hb d_M_create_4 rfl (lv_at hl 0 rfl) ?_
  refine fx_get hx hb hown (kc_M hK _) hKv 0 (by decide) (hw _ mf_M_32) (fun _ h => h) (hP 0 _ rfl) rfl d_M_create_5 ?_
  refine lv_iload_n hx hb d_M_create_8 rfl (lv_at hl 1 rfl) ?_
  refine va_iast hx hb hKv hP hD hS 1 0 rfl rfl (vp_in_nI hi (by decide)) d_M_create_9 (fun H locs hP hD hS => ?_)
  obtain ⟨fk1, e_fk1⟩ : ∃ z : Nat → Int32, z = upd fk (i) k := ⟨_, rfl⟩
  have e0 : upd fk ((nI i)).toNatClampNeg k = fk1 := by rw [e_fk1]; congr 1; exact nI_clamp (by omega)
  have hP : va_P w.D cls [(am 0, .inr (2, [.int (nI i), .ref (am 1), .ref (am 2), .ref (am 3), .ref (am 4), .ref (am 5), .int (th), .ref (am 6)])), (am 1, .inl (w.I, 64, .inl fk1)), (am 2, .inl (w.I, 64, .inl ff)), (am 3, .inl (w.I, 64, .inl fs)), (am 4, .inl (w.I, 6400, .inl fe)), (am 5, .inl (w.I, 6400, .inl fy)), (am 6, .inl (w.I, 101, .inl fw))] H := by rw [← e0]; exact hP
  have hD : va_D (mA am) [(am 0, .inr (2, [.int (nI i), .ref (am 1), .ref (am 2), .ref (am 3), .ref (am 4), .ref (am 5), .int (th), .ref (am 6)])), (am 1, .inl (w.I, 64, .inl fk1)), (am 2, .inl (w.I, 64, .inl ff)), (am 3, .inl (w.I, 64, .inl fs)), (am 4, .inl (w.I, 6400, .inl fe)), (am 5, .inl (w.I, 6400, .inl fy)), (am 6, .inl (w.I, 101, .inl fw))] := by rw [← e0]; exact hD
  refine lv_aload_n hx hb d_M_create_10 rfl (lv_at hl 0 rfl) ?_
  refine fx_get hx hb hown (kc_M hK _) hKv 2 (by decide) (hw _ mf_M_13) (fun _ h => h) (hP 0 _ rfl) rfl d_M_create_11 ?_
  refine lv_aload_n hx hb d_M_create_14 rfl (lv_at hl 0 rfl) ?_
  refine fx_get hx hb hown (kc_M hK _) hKv 0 (by decide) (hw _ mf_M_32) (fun _ h => h) (hP 0 _ rfl) rfl d_M_create_15 ?_
  refine lv_iload_n hx hb d_M_create_18 rfl (lv_at hl 2 rfl) ?_
  refine va_iast hx hb hKv hP hD hS 2 0 rfl rfl (vp_in_nI hi (by decide)) d_M_create_19 (fun H locs hP hD hS => ?_)
  obtain ⟨ff1, e_ff1⟩ : ∃ z : Nat → Int32, z = upd ff (i) f := ⟨_, rfl⟩
  have e0 : upd ff ((nI i)).toNatClampNeg f = ff1 := by rw [e_ff1]; congr 1; exact nI_clamp (by omega)
  have hP : va_P w.D cls [(am 0, .inr (2, [.int (nI i), .ref (am 1), .ref (am 2), .ref (am 3), .ref (am 4), .ref (am 5), .int (th), .ref (am 6)])), (am 1, .inl (w.I, 64, .inl fk1)), (am 2, .inl (w.I, 64, .inl ff1)), (am 3, .inl (w.I, 64, .inl fs)), (am 4, .inl (w.I, 6400, .inl fe)), (am 5, .inl (w.I, 6400, .inl fy)), (am 6, .inl (w.I, 101, .inl fw))] H := by rw [← e0]; exact hP
  have hD : va_D (mA am) [(am 0, .inr (2, [.int (nI i), .ref (am 1), .ref (am 2), .ref (am 3), .ref (am 4), .ref (am 5), .int (th), .ref (am 6)])), (am 1, .inl (w.I, 64, .inl fk1)), (am 2, .inl (w.I, 64, .inl ff1)), (am 3, .inl (w.I, 64, .inl fs)), (am 4, .inl (w.I, 6400, .inl fe)), (am 5, .inl (w.I, 6400, .inl fy)), (am 6, .inl (w.I, 101, .inl fw))] := by rw [← e0]; exact hD
  refine lv_aload_n hx hb d_M_create_20 rfl (lv_at hl 0 rfl) ?_
  refine fx_get hx hb hown (kc_M hK _) hKv 3 (by decide) (hw _ mf_M_16) (fun _ h => h) (hP 0 _ rfl) rfl d_M_create_21 ?_
  refine lv_aload_n hx hb d_M_create_24 rfl (lv_at hl 0 rfl) ?_
  refine fx_get hx hb hown (kc_M hK _) hKv 0 (by decide) (hw _ mf_M_32) (fun _ h => h) (hP 0 _ rfl) rfl d_M_create_25 ?_
  refine lv_iconst (v := nI 0) hx hb d_M_create_28 rfl ?_
  refine va_iast hx hb hKv hP hD hS 3 0 rfl rfl (vp_in_nI hi (by decide)) d_M_create_29 (fun H locs hP hD hS => ?_)
  obtain ⟨fs1, e_fs1⟩ : ∃ z : Nat → Int32, z = upd fs (i) (nI 0) := ⟨_, rfl⟩
  have e0 : upd fs ((nI i)).toNatClampNeg (nI 0) = fs1 := by rw [e_fs1]; congr 1; exact nI_clamp (by omega)
  have hP : va_P w.D cls [(am 0, .inr (2, [.int (nI i), .ref (am 1), .ref (am 2), .ref (am 3), .ref (am 4), .ref (am 5), .int (th), .ref (am 6)])), (am 1, .inl (w.I, 64, .inl fk1)), (am 2, .inl (w.I, 64, .inl ff1)), (am 3, .inl (w.I, 64, .inl fs1)), (am 4, .inl (w.I, 6400, .inl fe)), (am 5, .inl (w.I, 6400, .inl fy)), (am 6, .inl (w.I, 101, .inl fw))] H := by rw [← e0]; exact hP
  have hD : va_D (mA am) [(am 0, .inr (2, [.int (nI i), .ref (am 1), .ref (am 2), .ref (am 3), .ref (am 4), .ref (am 5), .int (th), .ref (am 6)])), (am 1, .inl (w.I, 64, .inl fk1)), (am 2, .inl (w.I, 64, .inl ff1)), (am 3, .inl (w.I, 64, .inl fs1)), (am 4, .inl (w.I, 6400, .inl fe)), (am 5, .inl (w.I, 6400, .inl fy)), (am 6, .inl (w.I, 101, .inl fw))] := by rw [← e0]; exact hD
  refine lv_aload_n hx hb d_M_create_30 rfl (lv_at hl 0 rfl) ?_
  refine lv_aload_n hx hb d_M_create_31 rfl (lv_at hl 0 rfl) ?_
  refine fx_get hx hb hown (kc_M hK _) hKv 0 (by decide) (hw _ mf_M_32) (fun _ h => h) (hP 0 _ rfl) rfl d_M_create_32 ?_
  refine lv_iconst (v := nI 1) hx hb d_M_create_35 rfl ?_
  refine lv_iadd hx hb d_M_create_36 ?_
  refine fx_ti (y := nI (i + 1)) (nI_1 i) ?_
  refine va_put (D := w.D) (ci := 2) (v := .int (nI (i + 1))) (ty := .int) (C := R_M) (T := T_M) (N := 8) (Ts := u_ws R_M T_M 8) hx hb (kc_M hK _).2.1 (fun _ h => h) ty_M tyok_M nm_M hown hKv hP hD hS 0 rfl rfl 0 (by decide) (hw _ mf_M_32) (fun _ h => h) rfl (by decide +kernel) rfl rfl (Nat.le_of_ble_eq_true rfl) d_M_create_37 (fun H locs hP hD hS => ?_)
  have hP : va_P w.D cls [(am 0, .inr (2, [.int (nI (i + 1)), .ref (am 1), .ref (am 2), .ref (am 3), .ref (am 4), .ref (am 5), .int (th), .ref (am 6)])), (am 1, .inl (w.I, 64, .inl fk1)), (am 2, .inl (w.I, 64, .inl ff1)), (am 3, .inl (w.I, 64, .inl fs1)), (am 4, .inl (w.I, 6400, .inl fe)), (am 5, .inl (w.I, 6400, .inl fy)), (am 6, .inl (w.I, 101, .inl fw))] H := hP
  have hD : va_D (mA am) [(am 0, .inr (2, [.int (nI (i + 1)), .ref (am 1), .ref (am 2), .ref (am 3), .ref (am 4), .ref (am 5), .int (th), .ref (am 6)])), (am 1, .inl (w.I, 64, .inl fk1)), (am 2, .inl (w.I, 64, .inl ff1)), (am 3, .inl (w.I, 64, .inl fs1)), (am 4, .inl (w.I, 6400, .inl fe)), (am 5, .inl (w.I, 6400, .inl fy)), (am 6, .inl (w.I, 101, .inl fw))] := hD
  refine lv_aload_n hx hb d_M_create_40 rfl (lv_at hl 0 rfl) ?_
  refine fx_get hx hb hown (kc_M hK _) hKv 0 (by decide) (hw _ mf_M_32) (fun _ h => h) (hP 0 _ rfl) rfl d_M_create_41 ?_
  refine lv_iconst (v := nI 1) hx hb d_M_create_44 rfl ?_
  refine lv_isub hx hb d_M_create_45 ?_
  refine fx_ti (y := nI i) (by have := pk_sub (a := i + 1) (b := 1) (by omega); rw [Nat.add_sub_cancel] at this; exact this) ?_
  exact fx_iret hx hb hr hlk hS.2.2 (Nat.le_of_ble_eq_true rfl) (Nat.le_of_ble_eq_true rfl) d_M_create_46 (⟨rfl, by rw [← e_fk1, ← e_ff1, ← show fs1 = upd fs i 0 from e_fs1]; exact hP⟩)
set_option maxHeartbeats 4000000 in
set_option maxRecDepth 100000 in
theorem ct_M_put (w : Wd) (am : Nat → Nat) (hI : mI am) (th : Int32) (fk ff fs fe fy fw : Nat → Int32) (i j : Nat) (key x : Int32) (hi : i < 64) (hj : j < 100) (hs : fs i = nI j) : mCt w am y_M_put 4 (rmK 0) [.int key, .int x] (nI (i + 1), th, fk, ff, fs, fe, fy, fw) (none) (nI (i + 1), th, fk, ff, upd fs i (nI (j + 1)), upd fe (100 * i + j) x, upd fy (100 * i + j) key, fw) := by
  refine fx_of (ret := none) (cc := b_M_put) (fun s hK => hK.1 _ mk_M_put _) (Nat.le_of_ble_eq_true rfl) ?_
  intro p l e s m below meth c hx hfl hK hb hml hr hlk hnt hown hin hP ls hl
  have hw : ∀ z ∈ gw, z.before (.ref (am 0) :: [.int key, .int x] : List Value).toArray s = true := fun z hz => hK.1 z hz _
  have hKv := hK.2.1
  have hD : va_D (mA am) [(am 0, .inr (2, [.int (nI (i + 1)), .ref (am 1), .ref (am 2), .ref (am 3), .ref (am 4), .ref (am 5), .int (th), .ref (am 6)])), (am 1, .inl (w.I, 64, .inl fk)), (am 2, .inl (w.I, 64, .inl ff)), (am 3, .inl (w.I, 64, .inl fs)), (am 4, .inl (w.I, 6400, .inl fe)), (am 5, .inl (w.I, 6400, .inl fy)), (am 6, .inl (w.I, 101, .inl fw))] := mw_D (w := w) hI ((nI (i + 1)), (th), fk, ff, fs, fe, fy, fw)
  have hS : va_S (mA am) s.heap s.heap [] := va_S.rf
  have hP : va_P w.D cls [(am 0, .inr (2, [.int (nI (i + 1)), .ref (am 1), .ref (am 2), .ref (am 3), .ref (am 4), .ref (am 5), .int (th), .ref (am 6)])), (am 1, .inl (w.I, 64, .inl fk)), (am 2, .inl (w.I, 64, .inl ff)), (am 3, .inl (w.I, 64, .inl fs)), (am 4, .inl (w.I, 6400, .inl fe)), (am 5, .inl (w.I, 6400, .inl fy)), (am 6, .inl (w.I, 101, .inl fw))] s.heap := hP
  have hl : lv_has ls 4 [(0, .ref (am 0)), (1, .int key), (2, .int x)] := hl
  refine lv_aload_n hx hb d_M_put_0 rfl (lv_at hl 0 rfl) ?_
  refine fx_get hx hb hown (kc_M hK _) hKv 0 (by decide) (hw _ mf_M_32) (fun _ h => h) (hP 0 _ rfl) rfl d_M_put_1 ?_
  refine lv_iconst (v := nI 1) hx hb d_M_put_4 rfl ?_
  refine lv_isub hx hb d_M_put_5 ?_
  refine fx_ti (y := nI i) (by have := pk_sub (a := i + 1) (b := 1) (by omega); rw [Nat.add_sub_cancel] at this; exact this) ?_
  refine lv_istore_n hx hb d_M_put_6 rfl hl (by decide) rfl (fun ls hl => ?_)
  have hl : lv_has ls 4 [(3, .int (nI i)), (0, .ref (am 0)), (1, .int key), (2, .int x)] := hl
  refine lv_aload_n hx hb d_M_put_7 rfl (lv_at hl 1 rfl) ?_
  refine fx_get hx hb hown (kc_M hK _) hKv 4 (by decide) (hw _ mf_M_19) (fun _ h => h) (hP 0 _ rfl) rfl d_M_put_8 ?_
  refine lv_bipush (v := nI 100) hx hb d_M_put_11 rfl ?_
  refine lv_iload_n hx hb d_M_put_13 rfl (lv_at hl 0 rfl) ?_
  refine lv_imul hx hb d_M_put_14 ?_
  refine fx_ti (y := nI (100 * i)) (pk_mul 100 i) ?_
  refine lv_aload_n hx hb d_M_put_15 rfl (lv_at hl 1 rfl) ?_
  refine fx_get hx hb hown (kc_M hK _) hKv 3 (by decide) (hw _ mf_M_16) (fun _ h => h) (hP 0 _ rfl) rfl d_M_put_16 ?_
  refine lv_iload_n hx hb d_M_put_19 rfl (lv_at hl 0 rfl) ?_
  refine fx_iald (j := i) hx hb hKv 0 (hP 3 _ rfl) rfl (rfl) (hi) (by decide) d_M_put_20 ?_
  refine lv_iadd hx hb d_M_put_21 ?_
  refine fx_ti (y := nI (100 * i + j)) (by rw [hs]; exact nI_add _ _) ?_
  refine lv_iload_n hx hb d_M_put_22 rfl (lv_at hl 3 rfl) ?_
  refine va_iast hx hb hKv hP hD hS 4 0 rfl rfl (vp_in_nI (by omega) (by decide)) d_M_put_23 (fun H locs hP hD hS => ?_)
  obtain ⟨fe1, e_fe1⟩ : ∃ z : Nat → Int32, z = upd fe (100 * i + j) x := ⟨_, rfl⟩
  have e0 : upd fe ((nI (100 * i + j))).toNatClampNeg x = fe1 := by rw [e_fe1]; congr 1; exact nI_clamp (by omega)
  have hP : va_P w.D cls [(am 0, .inr (2, [.int (nI (i + 1)), .ref (am 1), .ref (am 2), .ref (am 3), .ref (am 4), .ref (am 5), .int (th), .ref (am 6)])), (am 1, .inl (w.I, 64, .inl fk)), (am 2, .inl (w.I, 64, .inl ff)), (am 3, .inl (w.I, 64, .inl fs)), (am 4, .inl (w.I, 6400, .inl fe1)), (am 5, .inl (w.I, 6400, .inl fy)), (am 6, .inl (w.I, 101, .inl fw))] H := by rw [← e0]; exact hP
  have hD : va_D (mA am) [(am 0, .inr (2, [.int (nI (i + 1)), .ref (am 1), .ref (am 2), .ref (am 3), .ref (am 4), .ref (am 5), .int (th), .ref (am 6)])), (am 1, .inl (w.I, 64, .inl fk)), (am 2, .inl (w.I, 64, .inl ff)), (am 3, .inl (w.I, 64, .inl fs)), (am 4, .inl (w.I, 6400, .inl fe1)), (am 5, .inl (w.I, 6400, .inl fy)), (am 6, .inl (w.I, 101, .inl fw))] := by rw [← e0]; exact hD
  refine lv_aload_n hx hb d_M_put_24 rfl (lv_at hl 1 rfl) ?_
  refine fx_get hx hb hown (kc_M hK _) hKv 5 (by decide) (hw _ mf_M_22) (fun _ h => h) (hP 0 _ rfl) rfl d_M_put_25 ?_
  refine lv_bipush (v := nI 100) hx hb d_M_put_28 rfl ?_
  refine lv_iload_n hx hb d_M_put_30 rfl (lv_at hl 0 rfl) ?_
  refine lv_imul hx hb d_M_put_31 ?_
  refine fx_ti (y := nI (100 * i)) (pk_mul 100 i) ?_
  refine lv_aload_n hx hb d_M_put_32 rfl (lv_at hl 1 rfl) ?_
  refine fx_get hx hb hown (kc_M hK _) hKv 3 (by decide) (hw _ mf_M_16) (fun _ h => h) (hP 0 _ rfl) rfl d_M_put_33 ?_
  refine lv_iload_n hx hb d_M_put_36 rfl (lv_at hl 0 rfl) ?_
  refine fx_iald (j := i) hx hb hKv 0 (hP 3 _ rfl) rfl (rfl) (hi) (by decide) d_M_put_37 ?_
  refine lv_iadd hx hb d_M_put_38 ?_
  refine fx_ti (y := nI (100 * i + j)) (by rw [hs]; exact nI_add _ _) ?_
  refine lv_iload_n hx hb d_M_put_39 rfl (lv_at hl 2 rfl) ?_
  refine va_iast hx hb hKv hP hD hS 5 0 rfl rfl (vp_in_nI (by omega) (by decide)) d_M_put_40 (fun H locs hP hD hS => ?_)
  obtain ⟨fy1, e_fy1⟩ : ∃ z : Nat → Int32, z = upd fy (100 * i + j) key := ⟨_, rfl⟩
  have e0 : upd fy ((nI (100 * i + j))).toNatClampNeg key = fy1 := by rw [e_fy1]; congr 1; exact nI_clamp (by omega)
  have hP : va_P w.D cls [(am 0, .inr (2, [.int (nI (i + 1)), .ref (am 1), .ref (am 2), .ref (am 3), .ref (am 4), .ref (am 5), .int (th), .ref (am 6)])), (am 1, .inl (w.I, 64, .inl fk)), (am 2, .inl (w.I, 64, .inl ff)), (am 3, .inl (w.I, 64, .inl fs)), (am 4, .inl (w.I, 6400, .inl fe1)), (am 5, .inl (w.I, 6400, .inl fy1)), (am 6, .inl (w.I, 101, .inl fw))] H := by rw [← e0]; exact hP
  have hD : va_D (mA am) [(am 0, .inr (2, [.int (nI (i + 1)), .ref (am 1), .ref (am 2), .ref (am 3), .ref (am 4), .ref (am 5), .int (th), .ref (am 6)])), (am 1, .inl (w.I, 64, .inl fk)), (am 2, .inl (w.I, 64, .inl ff)), (am 3, .inl (w.I, 64, .inl fs)), (am 4, .inl (w.I, 6400, .inl fe1)), (am 5, .inl (w.I, 6400, .inl fy1)), (am 6, .inl (w.I, 101, .inl fw))] := by rw [← e0]; exact hD
  refine lv_aload_n hx hb d_M_put_41 rfl (lv_at hl 1 rfl) ?_
  refine fx_get hx hb hown (kc_M hK _) hKv 3 (by decide) (hw _ mf_M_16) (fun _ h => h) (hP 0 _ rfl) rfl d_M_put_42 ?_
  refine lv_iload_n hx hb d_M_put_45 rfl (lv_at hl 0 rfl) ?_
  refine lv_aload_n hx hb d_M_put_46 rfl (lv_at hl 1 rfl) ?_
  refine fx_get hx hb hown (kc_M hK _) hKv 3 (by decide) (hw _ mf_M_16) (fun _ h => h) (hP 0 _ rfl) rfl d_M_put_47 ?_
  refine lv_iload_n hx hb d_M_put_50 rfl (lv_at hl 0 rfl) ?_
  refine fx_iald (j := i) hx hb hKv 0 (hP 3 _ rfl) rfl (rfl) (hi) (by decide) d_M_put_51 ?_
  refine lv_iconst (v := nI 1) hx hb d_M_put_52 rfl ?_
  refine lv_iadd hx hb d_M_put_53 ?_
  refine fx_ti (y := nI (j + 1)) (by rw [hs]; exact nI_1 j) ?_
  refine va_iast hx hb hKv hP hD hS 3 0 rfl rfl (vp_in_nI hi (by decide)) d_M_put_54 (fun H locs hP hD hS => ?_)
  obtain ⟨fs1, e_fs1⟩ : ∃ z : Nat → Int32, z = upd fs (i) (nI (j + 1)) := ⟨_, rfl⟩
  have e0 : upd fs ((nI i)).toNatClampNeg (nI (j + 1)) = fs1 := by rw [e_fs1]; congr 1; exact nI_clamp (by omega)
  have hP : va_P w.D cls [(am 0, .inr (2, [.int (nI (i + 1)), .ref (am 1), .ref (am 2), .ref (am 3), .ref (am 4), .ref (am 5), .int (th), .ref (am 6)])), (am 1, .inl (w.I, 64, .inl fk)), (am 2, .inl (w.I, 64, .inl ff)), (am 3, .inl (w.I, 64, .inl fs1)), (am 4, .inl (w.I, 6400, .inl fe1)), (am 5, .inl (w.I, 6400, .inl fy1)), (am 6, .inl (w.I, 101, .inl fw))] H := by rw [← e0]; exact hP
  have hD : va_D (mA am) [(am 0, .inr (2, [.int (nI (i + 1)), .ref (am 1), .ref (am 2), .ref (am 3), .ref (am 4), .ref (am 5), .int (th), .ref (am 6)])), (am 1, .inl (w.I, 64, .inl fk)), (am 2, .inl (w.I, 64, .inl ff)), (am 3, .inl (w.I, 64, .inl fs1)), (am 4, .inl (w.I, 6400, .inl fe1)), (am 5, .inl (w.I, 6400, .inl fy1)), (am 6, .inl (w.I, 101, .inl fw))] := by rw [← e0]; exact hD
  exact fx_vret hx hb hr hlk hS.2.2 (Nat.le_of_ble_eq_true rfl) (Nat.le_of_ble_eq_true rfl) d_M_put_55 (⟨rfl, by rw [← e_fe1, ← e_fy1, ← e_fs1]; exact hP⟩)
set_option maxHeartbeats 4000000 in
set_option maxRecDepth 100000 in
theorem ct_M_isRow (w : Wd) (am : Nat → Nat) (hI : mI am) (th : Int32) (fk ff fs fe fy fw : Nat → Int32) (k : Nat) (v : Int32) (hk : k ≤ 64) : mCt w am y_M_isRow 2 (rmK 1) [.int v] (nI k, th, fk, ff, fs, fe, fy, fw) (some (.int (zI ((¬ v < 0 ∧ v < nI k) ∧ ¬ fk v.toNatClampNeg = 3)))) (nI k, th, fk, ff, fs, fe, fy, fw) := by
  refine fx_of (ret := some .boolean) (cc := b_M_isRow) (fun s hK => hK.1 _ mk_M_isRow _) (Nat.le_of_ble_eq_true rfl) ?_
  intro p l e s m below meth c hx hfl hK hb hml hr hlk hnt hown hin hP ls hl
  have hw : ∀ z ∈ gw, z.before (.ref (am 0) :: [.int v] : List Value).toArray s = true := fun z hz => hK.1 z hz _
  have hKv := hK.2.1
  have hD : va_D (mA am) [(am 0, .inr (2, [.int (nI k), .ref (am 1), .ref (am 2), .ref (am 3), .ref (am 4), .ref (am 5), .int (th), .ref (am 6)])), (am 1, .inl (w.I, 64, .inl fk)), (am 2, .inl (w.I, 64, .inl ff)), (am 3, .inl (w.I, 64, .inl fs)), (am 4, .inl (w.I, 6400, .inl fe)), (am 5, .inl (w.I, 6400, .inl fy)), (am 6, .inl (w.I, 101, .inl fw))] := mw_D (w := w) hI ((nI k), (th), fk, ff, fs, fe, fy, fw)
  have hS : va_S (mA am) s.heap s.heap [] := va_S.rf
  have hP : va_P w.D cls [(am 0, .inr (2, [.int (nI k), .ref (am 1), .ref (am 2), .ref (am 3), .ref (am 4), .ref (am 5), .int (th), .ref (am 6)])), (am 1, .inl (w.I, 64, .inl fk)), (am 2, .inl (w.I, 64, .inl ff)), (am 3, .inl (w.I, 64, .inl fs)), (am 4, .inl (w.I, 6400, .inl fe)), (am 5, .inl (w.I, 6400, .inl fy)), (am 6, .inl (w.I, 101, .inl fw))] s.heap := hP
  have hl : lv_has ls 2 [(0, .ref (am 0)), (1, .int v)] := hl
  refine lv_aload_n hx hb d_M_isRow_0 rfl (lv_at hl 0 rfl) ?_
  refine lv_iload_n hx hb d_M_isRow_1 rfl (lv_at hl 1 rfl) ?_
  refine m_cV (ct_M_is w am hI _ _ _ _ _ _ _ _ v) hx hfl hK hb (by rw [hml]; exact hl.1) hown (hw _ mm_M_35) (hw _ mk_M_is) (hw _ mi_M_is) (hw _ mq_M_is) (show fx_N y_M_is 1 by decide +kernel) rfl ⟨Nat.le_of_ble_eq_true rfl, Nat.le_of_ble_eq_true rfl, Nat.le_of_ble_eq_true rfl, Nat.le_of_ble_eq_true rfl⟩ hP hS d_M_isRow_2 (fun H locs hP hS => ?_)
  have hP : va_P w.D cls [(am 0, .inr (2, [.int (nI k), .ref (am 1), .ref (am 2), .ref (am 3), .ref (am 4), .ref (am 5), .int (th), .ref (am 6)])), (am 1, .inl (w.I, 64, .inl fk)), (am 2, .inl (w.I, 64, .inl ff)), (am 3, .inl (w.I, 64, .inl fs)), (am 4, .inl (w.I, 6400, .inl fe)), (am 5, .inl (w.I, 6400, .inl fy)), (am 6, .inl (w.I, 101, .inl fw))] H := hP
  have hD : va_D (mA am) [(am 0, .inr (2, [.int (nI k), .ref (am 1), .ref (am 2), .ref (am 3), .ref (am 4), .ref (am 5), .int (th), .ref (am 6)])), (am 1, .inl (w.I, 64, .inl fk)), (am 2, .inl (w.I, 64, .inl ff)), (am 3, .inl (w.I, 64, .inl fs)), (am 4, .inl (w.I, 6400, .inl fe)), (am 5, .inl (w.I, 6400, .inl fy)), (am 6, .inl (w.I, 101, .inl fw))] := mw_D (w := w) hI ((nI k), (th), fk, ff, fs, fe, fy, fw)
  refine lv_if_eq (tgt := 20) hx hb d_M_isRow_5 rfl (fun h5 => ?_) (fun h5 => ?_)
  · have h5 := zI_eq0.mp h5
    refine lv_iconst (v := nI 0) hx hb d_M_isRow_20 rfl ?_
    exact fx_zret hx hb hr (by decide) hlk hS.2.2 (Nat.le_of_ble_eq_true rfl) (Nat.le_of_ble_eq_true rfl) d_M_isRow_21 (⟨by rw [zI_f (fun h => h5 h.1)]; rfl, hP⟩)
  · have h5 := zI_ne0.mp h5
    obtain ⟨j, hj, ej⟩ : ∃ j : Nat, j < k ∧ v = nI j := by
      have h0 := Int32.not_lt.mpr (Int32.not_lt.mp h5.1)
      obtain ⟨j, hj, e⟩ := nI_of h5.1
      refine ⟨j, ?_, e⟩
      rw [e] at h5
      exact (nI_ltI hj (by omega)).mp h5.2
    refine lv_aload_n hx hb d_M_isRow_8 rfl (lv_at hl 0 rfl) ?_
    refine lv_iload_n hx hb d_M_isRow_9 rfl (lv_at hl 1 rfl) ?_
    subst ej
    have hc : (nI j).toNatClampNeg = j := nI_clamp (by omega)
    have hl : lv_has ls 2 [(0, .ref (am 0)), (1, .int (nI j))] := hl
    refine m_cV (ct_M_isMap w am hI _ _ _ _ _ _ _ _ j (by omega)) hx hfl hK hb (by rw [hml]; exact hl.1) hown (hw _ mm_M_39) (hw _ mk_M_isMap) (hw _ mi_M_isMap) (hw _ mq_M_isMap) (show fx_N y_M_isMap 1 by decide +kernel) rfl ⟨Nat.le_of_ble_eq_true rfl, Nat.le_of_ble_eq_true rfl, Nat.le_of_ble_eq_true rfl, Nat.le_of_ble_eq_true rfl⟩ hP hS d_M_isRow_10 (fun H locs hP hS => ?_)
    have hP : va_P w.D cls [(am 0, .inr (2, [.int (nI k), .ref (am 1), .ref (am 2), .ref (am 3), .ref (am 4), .ref (am 5), .int (th), .ref (am 6)])), (am 1, .inl (w.I, 64, .inl fk)), (am 2, .inl (w.I, 64, .inl ff)), (am 3, .inl (w.I, 64, .inl fs)), (am 4, .inl (w.I, 6400, .inl fe)), (am 5, .inl (w.I, 6400, .inl fy)), (am 6, .inl (w.I, 101, .inl fw))] H := hP
    have hD : va_D (mA am) [(am 0, .inr (2, [.int (nI k), .ref (am 1), .ref (am 2), .ref (am 3), .ref (am 4), .ref (am 5), .int (th), .ref (am 6)])), (am 1, .inl (w.I, 64, .inl fk)), (am 2, .inl (w.I, 64, .inl ff)), (am 3, .inl (w.I, 64, .inl fs)), (am 4, .inl (w.I, 6400, .inl fe)), (am 5, .inl (w.I, 6400, .inl fy)), (am 6, .inl (w.I, 101, .inl fw))] := mw_D (w := w) hI ((nI k), (th), fk, ff, fs, fe, fy, fw)
    refine lv_if_ne (tgt := 20) hx hb d_M_isRow_13 rfl (fun h13 => ?_) (fun h13 => ?_)
    · have h13 := zI_ne0.mp h13
      refine lv_iconst (v := nI 0) hx hb d_M_isRow_20 rfl ?_
      exact fx_zret hx hb hr (by decide) hlk hS.2.2 (Nat.le_of_ble_eq_true rfl) (Nat.le_of_ble_eq_true rfl) d_M_isRow_21 (⟨by rw [zI_f (fun h => h.2 (by rw [hc]; exact h13))]; rfl, hP⟩)
    · have h13 := zI_eq0.mp h13
      refine lv_iconst (v := nI 1) hx hb d_M_isRow_16 rfl ?_
      refine lv_goto (tgt := 21) hx hb d_M_isRow_17 rfl ?_
      exact fx_zret hx hb hr (by decide) hlk hS.2.2 (Nat.le_of_ble_eq_true rfl) (Nat.le_of_ble_eq_true rfl) d_M_isRow_21 (⟨by rw [zI_t ⟨h5, by rw [hc]; exact h13⟩]; rfl, hP⟩)
end
section
/-! The reference's loops. -/
theorem m_uu (f : Nat → Int32) (k : Nat) (x y : Int32) : upd (upd f k x) k y = upd f k y := by
  funext j
  by_cases h : j = k
  · subst h; rw [pk_us, pk_us]
  · rw [pk_un h, pk_un h, pk_un h]
theorem m_us (f : Nat → Int32) (k : Nat) : upd f k (f k) = f := by
  funext j
  by_cases h : j = k
  · subst h; rw [pk_us]
  · rw [pk_un h]
theorem m_cpy0 (f : Nat → Int32) (a b : Nat) : va_cpy f f a b 0 = f := by
  funext j
  exact pk_cpy_out (by omega)
theorem m_cpy1 {f : Nat → Int32} {i a b j t : Nat} (h1 : 100 * a + t < 100 * i + j) (h2 : b ≤ t) : upd (va_cpy f f (100 * a + b) (100 * i + j) (t - b)) (100 * i + (j + (t - b))) (va_cpy f f (100 * a + b) (100 * i + j) (t - b) (100 * a + t)) = va_cpy f f (100 * a + b) (100 * i + j) (t - b + 1) := by
  funext q
  rw [pk_cpy_out (f := f) (g := f) (j := 100 * a + t) (by omega)]
  by_cases h : q = 100 * i + (j + (t - b))
  · rw [h, pk_us, pk_cpy_in (by omega) (by omega)]
    congr 1
    omega
  · rw [pk_un h]
    by_cases h3 : 100 * i + j ≤ q ∧ q < 100 * i + j + (t - b)
    · rw [pk_cpy_in h3.1 h3.2, pk_cpy_in h3.1 (by omega)]
    · rw [pk_cpy_out (by omega), pk_cpy_out (by omega)]
set_option maxHeartbeats 4000000 in
set_option maxRecDepth 100000 in
theorem ct_M_putAll (w : Wd) (am : Nat → Nat) (hI : mI am) (th : Int32) (fk ff fs fe fy fw : Nat → Int32) (i j a b d : Nat) (hi : i < 64) (ha : a < i) (hbd : b ≤ d) (hd : d ≤ 100) (hj : j + (d - b) ≤ 100) (hs : fs i = nI j) : mCt w am y_M_putAll 5 (rmK 1) [.int (nI a), .int (nI b), .int (nI d)] (nI (i + 1), th, fk, ff, fs, fe, fy, fw) (none) (nI (i + 1), th, fk, ff, upd fs i (nI (j + (d - b))), va_cpy fe fe (100 * a + b) (100 * i + j) (d - b), va_cpy fy fy (100 * a + b) (100 * i + j) (d - b), fw) := by
  refine fx_of (ret := none) (cc := b_M_putAll) (fun s hK => hK.1 _ mk_M_putAll _) (Nat.le_of_ble_eq_true rfl) ?_
  intro p l e s m below meth c hx hfl hK hb hml hr hlk hnt hown hin hP ls hl
  have hw : ∀ z ∈ gw, z.before (.ref (am 0) :: [.int (nI a), .int (nI b), .int (nI d)] : List Value).toArray s = true := fun z hz => hK.1 z hz _
  have hKv := hK.2.1
  have hD : va_D (mA am) [(am 0, .inr (2, [.int (nI (i + 1)), .ref (am 1), .ref (am 2), .ref (am 3), .ref (am 4), .ref (am 5), .int (th), .ref (am 6)])), (am 1, .inl (w.I, 64, .inl fk)), (am 2, .inl (w.I, 64, .inl ff)), (am 3, .inl (w.I, 64, .inl fs)), (am 4, .inl (w.I, 6400, .inl fe)), (am 5, .inl (w.I, 6400, .inl fy)), (am 6, .inl (w.I, 101, .inl fw))] := mw_D (w := w) hI ((nI (i + 1)), (th), fk, ff, fs, fe, fy, fw)
  have hS : va_S (mA am) s.heap s.heap [] := va_S.rf
  have hP : va_P w.D cls [(am 0, .inr (2, [.int (nI (i + 1)), .ref (am 1), .ref (am 2), .ref (am 3), .ref (am 4), .ref (am 5), .int (th), .ref (am 6)])), (am 1, .inl (w.I, 64, .inl fk)), (am 2, .inl (w.I, 64, .inl ff)), (am 3, .inl (w.I, 64, .inl fs)), (am 4, .inl (w.I, 6400, .inl fe)), (am 5, .inl (w.I, 6400, .inl fy)), (am 6, .inl (w.I, 101, .inl fw))] s.heap := hP
  have hl : lv_has ls 5 [(0, .ref (am 0)), (1, .int (nI a)), (2, .int (nI b)), (3, .int (nI d))] := hl
  refine lv_iload_n hx hb d_M_putAll_0 rfl (lv_at hl 2 rfl) ?_
  refine lv_istore hx hb d_M_putAll_1 hl (by decide) rfl (fun ls hl => ?_)
  have hl : lv_has ls 5 [(4, .int (nI b)), (0, .ref (am 0)), (1, .int (nI a)), (2, .int (nI b)), (3, .int (nI d))] := hl
  refine fx_gen (fun Q0 hQ0 => ?_)
  have loop : ∀ (k t : Nat), t + k = d → b ≤ t → ∀ (fs1 fe1 fy1 : Nat → Int32), fs1 = upd fs i (nI (j + (t - b))) → fe1 = va_cpy fe fe (100 * a + b) (100 * i + j) (t - b) → fy1 = va_cpy fy fy (100 * a + b) (100 * i + j) (t - b) → ∀ (H : Heap) (locs : List Loc) (ls : Array Slot), va_P w.D cls [(am 0, .inr (2, [.int (nI (i + 1)), .ref (am 1), .ref (am 2), .ref (am 3), .ref (am 4), .ref (am 5), .int (th), .ref (am 6)])), (am 1, .inl (w.I, 64, .inl fk)), (am 2, .inl (w.I, 64, .inl ff)), (am 3, .inl (w.I, 64, .inl fs1)), (am 4, .inl (w.I, 6400, .inl fe1)), (am 5, .inl (w.I, 6400, .inl fy1)), (am 6, .inl (w.I, 101, .inl fw))] H → va_S (mA am) s.heap H locs → lv_has ls 5 [(4, .int (nI t)), (0, .ref (am 0)), (1, .int (nI a)), (2, .int (nI b)), (3, .int (nI d))] → W p l e (rmK 1) s m (.ref (am 0) :: [.int (nI a), .int (nI b), .int (nI d)] : List Value).toArray below meth c H locs 0 0 Q0 (F0 m 3 ls []) := by
    intro k
    induction k with
    | zero =>
      intro t ht hbt fs1 fe1 fy1 efs efe efy H locs ls hP hS hl
      have htd : t = d := by omega
      subst htd
      rw [hQ0]
      refine lv_iload hx hb d_M_putAll_3 (lv_at hl 0 rfl) ?_
      refine lv_iload_n hx hb d_M_putAll_5 rfl (lv_at hl 4 rfl) ?_
      refine lv_icmp_ge (tgt := 43) hx hb d_M_putAll_6 rfl (fun _ => ?_) (fun h9 => absurd (nI_le (Nat.le_refl _) (by omega)) h9)
      exact fx_vret hx hb hr hlk hS.2.2 (Nat.le_of_ble_eq_true rfl) (Nat.le_of_ble_eq_true rfl) d_M_putAll_43 (⟨rfl, by rw [← efs, ← efe, ← efy]; exact hP⟩)
    | succ k ih =>
      intro t ht hbt fs1 fe1 fy1 efs efe efy H locs ls hP hS hl
      have hD : va_D (mA am) [(am 0, .inr (2, [.int (nI (i + 1)), .ref (am 1), .ref (am 2), .ref (am 3), .ref (am 4), .ref (am 5), .int (th), .ref (am 6)])), (am 1, .inl (w.I, 64, .inl fk)), (am 2, .inl (w.I, 64, .inl ff)), (am 3, .inl (w.I, 64, .inl fs1)), (am 4, .inl (w.I, 6400, .inl fe1)), (am 5, .inl (w.I, 6400, .inl fy1)), (am 6, .inl (w.I, 101, .inl fw))] := mw_D (w := w) hI ((nI (i + 1)), (th), fk, ff, fs1, fe1, fy1, fw)
      have hst : fs1 i = nI (j + (t - b)) := by rw [efs]; exact pk_us
      refine lv_iload hx hb d_M_putAll_3 (lv_at hl 0 rfl) ?_
      refine lv_iload_n hx hb d_M_putAll_5 rfl (lv_at hl 4 rfl) ?_
      refine lv_icmp_ge (tgt := 43) hx hb d_M_putAll_6 rfl (fun h9 => absurd h9 (nI_ge (by omega) (by omega))) (fun _ => ?_)
      refine lv_aload_n hx hb d_M_putAll_9 rfl (lv_at hl 1 rfl) ?_
      refine lv_aload_n hx hb d_M_putAll_10 rfl (lv_at hl 1 rfl) ?_
      refine fx_get hx hb hown (kc_M hK _) hKv 5 (by decide) (hw _ mf_M_22) (fun _ h => h) (hP 0 _ rfl) rfl d_M_putAll_11 ?_
      refine lv_bipush (v := nI 100) hx hb d_M_putAll_14 rfl ?_
      refine lv_iload_n hx hb d_M_putAll_16 rfl (lv_at hl 2 rfl) ?_
      refine lv_imul hx hb d_M_putAll_17 ?_
      refine fx_ti (y := nI (100 * a)) (pk_mul 100 a) ?_
      refine lv_iload hx hb d_M_putAll_18 (lv_at hl 0 rfl) ?_
      refine lv_iadd hx hb d_M_putAll_20 ?_
      refine fx_ti (y := nI (100 * a + t)) (nI_add _ _) ?_
      refine fx_iald (j := 100 * a + t) hx hb hKv 0 (hP 5 _ rfl) rfl (rfl) (by omega) (by decide) d_M_putAll_21 ?_
      refine lv_aload_n hx hb d_M_putAll_22 rfl (lv_at hl 1 rfl) ?_
      refine fx_get hx hb hown (kc_M hK _) hKv 4 (by decide) (hw _ mf_M_19) (fun _ h => h) (hP 0 _ rfl) rfl d_M_putAll_23 ?_
      refine lv_bipush (v := nI 100) hx hb d_M_putAll_26 rfl ?_
      refine lv_iload_n hx hb d_M_putAll_28 rfl (lv_at hl 2 rfl) ?_
      refine lv_imul hx hb d_M_putAll_29 ?_
      refine fx_ti (y := nI (100 * a)) (pk_mul 100 a) ?_
      refine lv_iload hx hb d_M_putAll_30 (lv_at hl 0 rfl) ?_
      refine lv_iadd hx hb d_M_putAll_32 ?_
      refine fx_ti (y := nI (100 * a + t)) (nI_add _ _) ?_
      refine fx_iald (j := 100 * a + t) hx hb hKv 0 (hP 4 _ rfl) rfl (rfl) (by omega) (by decide) d_M_putAll_33 ?_
      refine m_cV (ct_M_put w am hI _ _ _ _ _ _ _ i (j + (t - b)) _ _ hi (by omega) hst) hx hfl hK hb (by rw [hml]; exact hl.1) hown (hw _ mm_M_42) (hw _ mk_M_put) (hw _ mi_M_put) (hw _ mq_M_put) (show fx_N y_M_put 2 by decide +kernel) rfl ⟨Nat.le_of_ble_eq_true rfl, Nat.le_of_ble_eq_true rfl, Nat.le_of_ble_eq_true rfl, Nat.le_of_ble_eq_true rfl⟩ hP hS d_M_putAll_34 (fun H locs hP hS => ?_)
      have hP : va_P w.D cls [(am 0, .inr (2, [.int (nI (i + 1)), .ref (am 1), .ref (am 2), .ref (am 3), .ref (am 4), .ref (am 5), .int (th), .ref (am 6)])), (am 1, .inl (w.I, 64, .inl fk)), (am 2, .inl (w.I, 64, .inl ff)), (am 3, .inl (w.I, 64, .inl (upd fs1 i (nI (j + (t - b) + 1))))), (am 4, .inl (w.I, 6400, .inl (upd fe1 (100 * i + (j + (t - b))) (fe1 (100 * a + t))))), (am 5, .inl (w.I, 6400, .inl (upd fy1 (100 * i + (j + (t - b))) (fy1 (100 * a + t))))), (am 6, .inl (w.I, 101, .inl fw))] H := hP
      have hD : va_D (mA am) [(am 0, .inr (2, [.int (nI (i + 1)), .ref (am 1), .ref (am 2), .ref (am 3), .ref (am 4), .ref (am 5), .int (th), .ref (am 6)])), (am 1, .inl (w.I, 64, .inl fk)), (am 2, .inl (w.I, 64, .inl ff)), (am 3, .inl (w.I, 64, .inl (upd fs1 i (nI (j + (t - b) + 1))))), (am 4, .inl (w.I, 6400, .inl (upd fe1 (100 * i + (j + (t - b))) (fe1 (100 * a + t))))), (am 5, .inl (w.I, 6400, .inl (upd fy1 (100 * i + (j + (t - b))) (fy1 (100 * a + t))))), (am 6, .inl (w.I, 101, .inl fw))] := mw_D (w := w) hI ((nI (i + 1)), (th), fk, ff, (upd fs1 i (nI (j + (t - b) + 1))), (upd fe1 (100 * i + (j + (t - b))) (fe1 (100 * a + t))), (upd fy1 (100 * i + (j + (t - b))) (fy1 (100 * a + t))), fw)
      refine lv_iinc (k := 0) (v := nI (t + 1)) hx hb d_M_putAll_37 hl rfl (nI_1 t) (by decide) rfl (fun ls hl => ?_)
      refine lv_goto (tgt := 3) hx hb d_M_putAll_40 rfl ?_
      refine ih (t + 1) (by omega) (by omega) _ _ _ ?_ ?_ ?_ H locs ls hP hS hl
      · rw [efs, show t + 1 - b = t - b + 1 by omega]; exact m_uu _ _ _ _
      · rw [efe, show t + 1 - b = t - b + 1 by omega]; exact m_cpy1 (by omega) (by omega)
      · rw [efy, show t + 1 - b = t - b + 1 by omega]; exact m_cpy1 (by omega) (by omega)
  have e1 : fs = upd fs i (nI (j + (b - b))) := by rw [Nat.sub_self, Nat.add_zero, ← hs]; exact (m_us _ _).symm
  have e2 : ∀ f : Nat → Int32, f = va_cpy f f (100 * a + b) (100 * i + j) (b - b) := fun f => by rw [Nat.sub_self]; exact (m_cpy0 f _ _).symm
  exact loop (d - b) b (by omega) (Nat.le_refl _) _ _ _ e1 (e2 fe) (e2 fy) _ _ ls hP hS hl
set_option maxHeartbeats 4000000 in
set_option maxRecDepth 100000 in
theorem ct_M_below (w : Wd) (am : Nat → Nat) (hI : mI am) (n th : Int32) (fk ff fs fe fy fw : Nat → Int32) (a : Nat) (xs : List Int32) (x : Int32) (ha : a < 64) (hL : xs.length ≤ 100) (hs : fs a = nI xs.length) (hx0 : ∀ j, j < xs.length → fe (100 * a + j) = xs.getD j 0) : mCt w am y_M_below 4 (rmK 0) [.int (nI a), .int x] (n, th, fk, ff, fs, fe, fy, fw) (some (.int (nI (sv_cb xs x)))) (n, th, fk, ff, fs, fe, fy, fw) := by
  refine fx_of (ret := some .int) (cc := b_M_below) (fun s hK => hK.1 _ mk_M_below _) (Nat.le_of_ble_eq_true rfl) ?_
  intro p l e s m below meth c hx hfl hK hb hml hr hlk hnt hown hin hP ls hl
  have hw : ∀ z ∈ gw, z.before (.ref (am 0) :: [.int (nI a), .int x] : List Value).toArray s = true := fun z hz => hK.1 z hz _
  have hKv := hK.2.1
  have hD : va_D (mA am) [(am 0, .inr (2, [.int (n), .ref (am 1), .ref (am 2), .ref (am 3), .ref (am 4), .ref (am 5), .int (th), .ref (am 6)])), (am 1, .inl (w.I, 64, .inl fk)), (am 2, .inl (w.I, 64, .inl ff)), (am 3, .inl (w.I, 64, .inl fs)), (am 4, .inl (w.I, 6400, .inl fe)), (am 5, .inl (w.I, 6400, .inl fy)), (am 6, .inl (w.I, 101, .inl fw))] := mw_D (w := w) hI ((n), (th), fk, ff, fs, fe, fy, fw)
  have hS : va_S (mA am) s.heap s.heap [] := va_S.rf
  have hP : va_P w.D cls [(am 0, .inr (2, [.int (n), .ref (am 1), .ref (am 2), .ref (am 3), .ref (am 4), .ref (am 5), .int (th), .ref (am 6)])), (am 1, .inl (w.I, 64, .inl fk)), (am 2, .inl (w.I, 64, .inl ff)), (am 3, .inl (w.I, 64, .inl fs)), (am 4, .inl (w.I, 6400, .inl fe)), (am 5, .inl (w.I, 6400, .inl fy)), (am 6, .inl (w.I, 101, .inl fw))] s.heap := hP
  have hl : lv_has ls 4 [(0, .ref (am 0)), (1, .int (nI a)), (2, .int x)] := hl
  refine lv_iconst (v := nI 0) hx hb d_M_below_0 rfl ?_
  refine lv_istore_n hx hb d_M_below_1 rfl hl (by decide) rfl (fun ls hl => ?_)
  have hl : lv_has ls 4 [(3, .int (nI 0)), (0, .ref (am 0)), (1, .int (nI a)), (2, .int x)] := hl
  refine fx_gen (fun Q0 hQ0 => ?_)
  have loop : ∀ (k t : Nat), t + k = xs.length → (∀ j, j < t → xs.getD j 0 < x) → ∀ (ls : Array Slot), lv_has ls 4 [(3, .int (nI t)), (0, .ref (am 0)), (1, .int (nI a)), (2, .int x)] → W p l e (rmK 0) s m (.ref (am 0) :: [.int (nI a), .int x] : List Value).toArray below meth c s.heap [] 0 0 Q0 (F0 m 2 ls []) := by
    intro k
    induction k with
    | zero =>
      intro t ht hlt ls hl
      have hte : t = xs.length := by omega
      rw [hQ0]
      refine lv_iload_n hx hb d_M_below_2 rfl (lv_at hl 0 rfl) ?_
      refine lv_aload_n hx hb d_M_below_3 rfl (lv_at hl 1 rfl) ?_
      refine fx_get hx hb hown (kc_M hK _) hKv 3 (by decide) (hw _ mf_M_16) (fun _ h => h) (hP 0 _ rfl) rfl d_M_below_4 ?_
      refine lv_iload_n hx hb d_M_below_7 rfl (lv_at hl 2 rfl) ?_
      refine fx_iald (j := a) hx hb hKv 0 (hP 3 _ rfl) rfl (rfl) (ha) (by decide) d_M_below_8 ?_
      refine lv_icmp_ge (tgt := 34) hx hb d_M_below_9 rfl (fun _ => ?_) (fun h9 => absurd (by rw [hs, hte]; exact nI_le (Nat.le_refl _) (by omega)) h9)
      refine lv_iload_n hx hb d_M_below_34 rfl (lv_at hl 0 rfl) ?_
      exact fx_iret hx hb hr hlk hS.2.2 (Nat.le_of_ble_eq_true rfl) (Nat.le_of_ble_eq_true rfl) d_M_below_35 (⟨by rw [sv_cb_of xs x t (by omega) hlt (Or.inl hte)], hP⟩)
    | succ k ih =>
      intro t ht hlt ls hl
      refine lv_iload_n hx hb d_M_below_2 rfl (lv_at hl 0 rfl) ?_
      refine lv_aload_n hx hb d_M_below_3 rfl (lv_at hl 1 rfl) ?_
      refine fx_get hx hb hown (kc_M hK _) hKv 3 (by decide) (hw _ mf_M_16) (fun _ h => h) (hP 0 _ rfl) rfl d_M_below_4 ?_
      refine lv_iload_n hx hb d_M_below_7 rfl (lv_at hl 2 rfl) ?_
      refine fx_iald (j := a) hx hb hKv 0 (hP 3 _ rfl) rfl (rfl) (ha) (by decide) d_M_below_8 ?_
      refine lv_icmp_ge (tgt := 34) hx hb d_M_below_9 rfl (fun h9 => absurd h9 (by rw [hs]; exact nI_ge (by omega) (by omega))) (fun _ => ?_)
      refine lv_aload_n hx hb d_M_below_12 rfl (lv_at hl 1 rfl) ?_
      refine fx_get hx hb hown (kc_M hK _) hKv 4 (by decide) (hw _ mf_M_19) (fun _ h => h) (hP 0 _ rfl) rfl d_M_below_13 ?_
      refine lv_bipush (v := nI 100) hx hb d_M_below_16 rfl ?_
      refine lv_iload_n hx hb d_M_below_18 rfl (lv_at hl 2 rfl) ?_
      refine lv_imul hx hb d_M_below_19 ?_
      refine fx_ti (y := nI (100 * a)) (pk_mul 100 a) ?_
      refine lv_iload_n hx hb d_M_below_20 rfl (lv_at hl 0 rfl) ?_
      refine lv_iadd hx hb d_M_below_21 ?_
      refine fx_ti (y := nI (100 * a + t)) (nI_add _ _) ?_
      refine fx_iald (j := 100 * a + t) hx hb hKv 0 (hP 4 _ rfl) rfl (rfl) (by omega) (by decide) d_M_below_22 ?_
      refine lv_iload_n hx hb d_M_below_23 rfl (lv_at hl 3 rfl) ?_
      refine lv_icmp_ge (tgt := 34) hx hb d_M_below_24 rfl (fun h24 => ?_) (fun h24 => ?_)
      · rw [hQ0]
        refine lv_iload_n hx hb d_M_below_34 rfl (lv_at hl 0 rfl) ?_
        exact fx_iret hx hb hr hlk hS.2.2 (Nat.le_of_ble_eq_true rfl) (Nat.le_of_ble_eq_true rfl) d_M_below_35 (⟨by rw [sv_cb_of xs x t (by omega) hlt (Or.inr (by rw [← hx0 t (by omega)]; exact Int32.not_lt.mpr h24))], hP⟩)
      · refine lv_iload_n hx hb d_M_below_27 rfl (lv_at hl 0 rfl) ?_
        refine lv_iconst (v := nI 1) hx hb d_M_below_28 rfl ?_
        refine lv_iadd hx hb d_M_below_29 ?_
        refine fx_ti (y := nI (t + 1)) (nI_1 t) ?_
        refine lv_istore_n hx hb d_M_below_30 rfl hl (by decide) rfl (fun ls hl => ?_)
        have hl : lv_has ls 4 [(3, .int (nI (t + 1))), (0, .ref (am 0)), (1, .int (nI a)), (2, .int x)] := hl
        refine lv_goto (tgt := 2) hx hb d_M_below_31 rfl ?_
        exact ih (t + 1) (by omega) (lt_s hlt (by rw [← hx0 t (by omega)]; exact Int32.not_le.mp h24)) ls hl
  exact loop xs.length 0 (by omega) (fun j hj => absurd hj (Nat.not_lt_zero _)) ls hl
set_option maxHeartbeats 4000000 in
set_option maxRecDepth 100000 in
theorem ct_M_placeOf (w : Wd) (am : Nat → Nat) (hI : mI am) (n th : Int32) (fk ff fs fe fy fw : Nat → Int32) (a : Nat) (xs : List Int32) (x : Int32) (ha : a < 64) (hL : xs.length ≤ 100) (hs : fs a = nI xs.length) (hx0 : ∀ j, j < xs.length → fy (100 * a + j) = xs.getD j 0) : mCt w am y_M_placeOf 4 (rmK 0) [.int (nI a), .int x] (n, th, fk, ff, fs, fe, fy, fw) (some (.int (nI (sv_cb xs x)))) (n, th, fk, ff, fs, fe, fy, fw) := by
  refine fx_of (ret := some .int) (cc := b_M_placeOf) (fun s hK => hK.1 _ mk_M_placeOf _) (Nat.le_of_ble_eq_true rfl) ?_
  intro p l e s m below meth c hx hfl hK hb hml hr hlk hnt hown hin hP ls hl
  have hw : ∀ z ∈ gw, z.before (.ref (am 0) :: [.int (nI a), .int x] : List Value).toArray s = true := fun z hz => hK.1 z hz _
  have hKv := hK.2.1
  have hD : va_D (mA am) [(am 0, .inr (2, [.int (n), .ref (am 1), .ref (am 2), .ref (am 3), .ref (am 4), .ref (am 5), .int (th), .ref (am 6)])), (am 1, .inl (w.I, 64, .inl fk)), (am 2, .inl (w.I, 64, .inl ff)), (am 3, .inl (w.I, 64, .inl fs)), (am 4, .inl (w.I, 6400, .inl fe)), (am 5, .inl (w.I, 6400, .inl fy)), (am 6, .inl (w.I, 101, .inl fw))] := mw_D (w := w) hI ((n), (th), fk, ff, fs, fe, fy, fw)
  have hS : va_S (mA am) s.heap s.heap [] := va_S.rf
  have hP : va_P w.D cls [(am 0, .inr (2, [.int (n), .ref (am 1), .ref (am 2), .ref (am 3), .ref (am 4), .ref (am 5), .int (th), .ref (am 6)])), (am 1, .inl (w.I, 64, .inl fk)), (am 2, .inl (w.I, 64, .inl ff)), (am 3, .inl (w.I, 64, .inl fs)), (am 4, .inl (w.I, 6400, .inl fe)), (am 5, .inl (w.I, 6400, .inl fy)), (am 6, .inl (w.I, 101, .inl fw))] s.heap := hP
  have hl : lv_has ls 4 [(0, .ref (am 0)), (1, .int (nI a)), (2, .int x)] := hl
  refine lv_iconst (v := nI 0) hx hb d_M_placeOf_0 rfl ?_
  refine lv_istore_n hx hb d_M_placeOf_1 rfl hl (by decide) rfl (fun ls hl => ?_)
  have hl : lv_has ls 4 [(3, .int (nI 0)), (0, .ref (am 0)), (1, .int (nI a)), (2, .int x)] := hl
  refine fx_gen (fun Q0 hQ0 => ?_)
  have loop : ∀ (k t : Nat), t + k = xs.length → (∀ j, j < t → xs.getD j 0 < x) → ∀ (ls : Array Slot), lv_has ls 4 [(3, .int (nI t)), (0, .ref (am 0)), (1, .int (nI a)), (2, .int x)] → W p l e (rmK 0) s m (.ref (am 0) :: [.int (nI a), .int x] : List Value).toArray below meth c s.heap [] 0 0 Q0 (F0 m 2 ls []) := by
    intro k
    induction k with
    | zero =>
      intro t ht hlt ls hl
      have hte : t = xs.length := by omega
      rw [hQ0]
      refine lv_iload_n hx hb d_M_placeOf_2 rfl (lv_at hl 0 rfl) ?_
      refine lv_aload_n hx hb d_M_placeOf_3 rfl (lv_at hl 1 rfl) ?_
      refine fx_get hx hb hown (kc_M hK _) hKv 3 (by decide) (hw _ mf_M_16) (fun _ h => h) (hP 0 _ rfl) rfl d_M_placeOf_4 ?_
      refine lv_iload_n hx hb d_M_placeOf_7 rfl (lv_at hl 2 rfl) ?_
      refine fx_iald (j := a) hx hb hKv 0 (hP 3 _ rfl) rfl (rfl) (ha) (by decide) d_M_placeOf_8 ?_
      refine lv_icmp_ge (tgt := 34) hx hb d_M_placeOf_9 rfl (fun _ => ?_) (fun h9 => absurd (by rw [hs, hte]; exact nI_le (Nat.le_refl _) (by omega)) h9)
      refine lv_iload_n hx hb d_M_placeOf_34 rfl (lv_at hl 0 rfl) ?_
      exact fx_iret hx hb hr hlk hS.2.2 (Nat.le_of_ble_eq_true rfl) (Nat.le_of_ble_eq_true rfl) d_M_placeOf_35 (⟨by rw [sv_cb_of xs x t (by omega) hlt (Or.inl hte)], hP⟩)
    | succ k ih =>
      intro t ht hlt ls hl
      refine lv_iload_n hx hb d_M_placeOf_2 rfl (lv_at hl 0 rfl) ?_
      refine lv_aload_n hx hb d_M_placeOf_3 rfl (lv_at hl 1 rfl) ?_
      refine fx_get hx hb hown (kc_M hK _) hKv 3 (by decide) (hw _ mf_M_16) (fun _ h => h) (hP 0 _ rfl) rfl d_M_placeOf_4 ?_
      refine lv_iload_n hx hb d_M_placeOf_7 rfl (lv_at hl 2 rfl) ?_
      refine fx_iald (j := a) hx hb hKv 0 (hP 3 _ rfl) rfl (rfl) (ha) (by decide) d_M_placeOf_8 ?_
      refine lv_icmp_ge (tgt := 34) hx hb d_M_placeOf_9 rfl (fun h9 => absurd h9 (by rw [hs]; exact nI_ge (by omega) (by omega))) (fun _ => ?_)
      refine lv_aload_n hx hb d_M_placeOf_12 rfl (lv_at hl 1 rfl) ?_
      refine fx_get hx hb hown (kc_M hK _) hKv 5 (by decide) (hw _ mf_M_22) (fun _ h => h) (hP 0 _ rfl) rfl d_M_placeOf_13 ?_
      refine lv_bipush (v := nI 100) hx hb d_M_placeOf_16 rfl ?_
      refine lv_iload_n hx hb d_M_placeOf_18 rfl (lv_at hl 2 rfl) ?_
      refine lv_imul hx hb d_M_placeOf_19 ?_
      refine fx_ti (y := nI (100 * a)) (pk_mul 100 a) ?_
      refine lv_iload_n hx hb d_M_placeOf_20 rfl (lv_at hl 0 rfl) ?_
      refine lv_iadd hx hb d_M_placeOf_21 ?_
      refine fx_ti (y := nI (100 * a + t)) (nI_add _ _) ?_
      refine fx_iald (j := 100 * a + t) hx hb hKv 0 (hP 5 _ rfl) rfl (rfl) (by omega) (by decide) d_M_placeOf_22 ?_
      refine lv_iload_n hx hb d_M_placeOf_23 rfl (lv_at hl 3 rfl) ?_
      refine lv_icmp_ge (tgt := 34) hx hb d_M_placeOf_24 rfl (fun h24 => ?_) (fun h24 => ?_)
      · rw [hQ0]
        refine lv_iload_n hx hb d_M_placeOf_34 rfl (lv_at hl 0 rfl) ?_
        exact fx_iret hx hb hr hlk hS.2.2 (Nat.le_of_ble_eq_true rfl) (Nat.le_of_ble_eq_true rfl) d_M_placeOf_35 (⟨by rw [sv_cb_of xs x t (by omega) hlt (Or.inr (by rw [← hx0 t (by omega)]; exact Int32.not_lt.mpr h24))], hP⟩)
      · refine lv_iload_n hx hb d_M_placeOf_27 rfl (lv_at hl 0 rfl) ?_
        refine lv_iconst (v := nI 1) hx hb d_M_placeOf_28 rfl ?_
        refine lv_iadd hx hb d_M_placeOf_29 ?_
        refine fx_ti (y := nI (t + 1)) (nI_1 t) ?_
        refine lv_istore_n hx hb d_M_placeOf_30 rfl hl (by decide) rfl (fun ls hl => ?_)
        have hl : lv_has ls 4 [(3, .int (nI (t + 1))), (0, .ref (am 0)), (1, .int (nI a)), (2, .int x)] := hl
        refine lv_goto (tgt := 2) hx hb d_M_placeOf_31 rfl ?_
        exact ih (t + 1) (by omega) (lt_s hlt (by rw [← hx0 t (by omega)]; exact Int32.not_le.mp h24)) ls hl
  exact loop xs.length 0 (by omega) (fun j hj => absurd hj (Nat.not_lt_zero _)) ls hl
set_option maxHeartbeats 4000000 in
set_option maxRecDepth 100000 in
theorem ct_M_hasAt (w : Wd) (am : Nat → Nat) (hI : mI am) (n th : Int32) (fk ff fs fe fy fw : Nat → Int32) (a q : Nat) (key : Int32) (L : Nat) (ha : a < 64) (hL : L ≤ 100) (hq : q ≤ 100) (hs : fs a = nI L) : mCt w am y_M_hasAt 4 (rmK 0) [.int (nI a), .int (nI q), .int key] (n, th, fk, ff, fs, fe, fy, fw) (some (.int (zI (q < L ∧ fy (100 * a + q) = key)))) (n, th, fk, ff, fs, fe, fy, fw) := by
  refine fx_of (ret := some .boolean) (cc := b_M_hasAt) (fun s hK => hK.1 _ mk_M_hasAt _) (Nat.le_of_ble_eq_true rfl) ?_
  intro p l e s m below meth c hx hfl hK hb hml hr hlk hnt hown hin hP ls hl
  have hw : ∀ z ∈ gw, z.before (.ref (am 0) :: [.int (nI a), .int (nI q), .int key] : List Value).toArray s = true := fun z hz => hK.1 z hz _
  have hKv := hK.2.1
  have hD : va_D (mA am) [(am 0, .inr (2, [.int (n), .ref (am 1), .ref (am 2), .ref (am 3), .ref (am 4), .ref (am 5), .int (th), .ref (am 6)])), (am 1, .inl (w.I, 64, .inl fk)), (am 2, .inl (w.I, 64, .inl ff)), (am 3, .inl (w.I, 64, .inl fs)), (am 4, .inl (w.I, 6400, .inl fe)), (am 5, .inl (w.I, 6400, .inl fy)), (am 6, .inl (w.I, 101, .inl fw))] := mw_D (w := w) hI ((n), (th), fk, ff, fs, fe, fy, fw)
  have hS : va_S (mA am) s.heap s.heap [] := va_S.rf
  have hP : va_P w.D cls [(am 0, .inr (2, [.int (n), .ref (am 1), .ref (am 2), .ref (am 3), .ref (am 4), .ref (am 5), .int (th), .ref (am 6)])), (am 1, .inl (w.I, 64, .inl fk)), (am 2, .inl (w.I, 64, .inl ff)), (am 3, .inl (w.I, 64, .inl fs)), (am 4, .inl (w.I, 6400, .inl fe)), (am 5, .inl (w.I, 6400, .inl fy)), (am 6, .inl (w.I, 101, .inl fw))] s.heap := hP
  have hl : lv_has ls 4 [(0, .ref (am 0)), (1, .int (nI a)), (2, .int (nI q)), (3, .int key)] := hl
  refine lv_iload_n hx hb d_M_hasAt_0 rfl (lv_at hl 2 rfl) ?_
  refine lv_aload_n hx hb d_M_hasAt_1 rfl (lv_at hl 0 rfl) ?_
  refine fx_get hx hb hown (kc_M hK _) hKv 3 (by decide) (hw _ mf_M_16) (fun _ h => h) (hP 0 _ rfl) rfl d_M_hasAt_2 ?_
  refine lv_iload_n hx hb d_M_hasAt_5 rfl (lv_at hl 1 rfl) ?_
  refine fx_iald (j := a) hx hb hKv 0 (hP 3 _ rfl) rfl (rfl) (ha) (by decide) d_M_hasAt_6 ?_
  refine lv_icmp_ge (tgt := 29) hx hb d_M_hasAt_7 rfl (fun h7 => ?_) (fun h7 => ?_)
  · have h7 : L ≤ q := by rw [hs] at h7; exact (nI_leI (by omega) (by omega)).mp h7
    refine lv_iconst (v := nI 0) hx hb d_M_hasAt_29 rfl ?_
    exact fx_zret hx hb hr (by decide) hlk hS.2.2 (Nat.le_of_ble_eq_true rfl) (Nat.le_of_ble_eq_true rfl) d_M_hasAt_30 (⟨by rw [zI_f (fun h => absurd h.1 (Nat.not_lt.mpr h7))]; rfl, hP⟩)
  · have h7 : q < L := by rw [hs] at h7; exact Nat.not_le.mp (fun z => h7 (nI_le z (by omega)))
    refine lv_aload_n hx hb d_M_hasAt_10 rfl (lv_at hl 0 rfl) ?_
    refine fx_get hx hb hown (kc_M hK _) hKv 5 (by decide) (hw _ mf_M_22) (fun _ h => h) (hP 0 _ rfl) rfl d_M_hasAt_11 ?_
    refine lv_bipush (v := nI 100) hx hb d_M_hasAt_14 rfl ?_
    refine lv_iload_n hx hb d_M_hasAt_16 rfl (lv_at hl 1 rfl) ?_
    refine lv_imul hx hb d_M_hasAt_17 ?_
    refine fx_ti (y := nI (100 * a)) (pk_mul 100 a) ?_
    refine lv_iload_n hx hb d_M_hasAt_18 rfl (lv_at hl 2 rfl) ?_
    refine lv_iadd hx hb d_M_hasAt_19 ?_
    refine fx_ti (y := nI (100 * a + q)) (nI_add _ _) ?_
    refine fx_iald (j := 100 * a + q) hx hb hKv 0 (hP 5 _ rfl) rfl (rfl) (by omega) (by decide) d_M_hasAt_20 ?_
    refine lv_iload_n hx hb d_M_hasAt_21 rfl (lv_at hl 3 rfl) ?_
    refine lv_icmp_ne (tgt := 29) hx hb d_M_hasAt_22 rfl (fun h22 => ?_) (fun h22 => ?_)
    · refine lv_iconst (v := nI 0) hx hb d_M_hasAt_29 rfl ?_
      exact fx_zret hx hb hr (by decide) hlk hS.2.2 (Nat.le_of_ble_eq_true rfl) (Nat.le_of_ble_eq_true rfl) d_M_hasAt_30 (⟨by rw [zI_f (fun h => h22 h.2)]; rfl, hP⟩)
    · refine lv_iconst (v := nI 1) hx hb d_M_hasAt_25 rfl ?_
      refine lv_goto (tgt := 30) hx hb d_M_hasAt_26 rfl ?_
      exact fx_zret hx hb hr (by decide) hlk hS.2.2 (Nat.le_of_ble_eq_true rfl) (Nat.le_of_ble_eq_true rfl) d_M_hasAt_30 (⟨by rw [zI_t ⟨h7, h22⟩]; rfl, hP⟩)
end
section
/-! What the reference's numbers mean: a list of versions. -/
/-- the first versions are as the list says -/
def mF (S : mS) (Vs : List sV) : Prop := ∀ (i : Nat) (o : sV), Vs[i]? = some o → S.2.2.1 i = o.1 ∧ S.2.2.2.1 i = o.2.1 ∧ S.2.2.2.2.1 i = nI o.2.2.1.length ∧ sv_ok o ∧ (∀ j, j < o.2.2.1.length → S.2.2.2.2.2.1 (100 * i + j) = o.2.2.1.getD j 0) ∧ (o.1 = 3 → ∀ j, j < o.2.2.1.length → S.2.2.2.2.2.2.1 (100 * i + j) = o.2.2.2.getD j 0)
def mFw (S : mS) : Prop := ∀ k, k ≤ 100 → S.2.2.2.2.2.2.2 k = nI (sv_few k)
def mAbs (S : mS) (Vs : List sV) : Prop := S.1 = nI Vs.length ∧ Vs.length ≤ 64 ∧ mF S Vs ∧ mFw S
/-- one version more is under way: its kind, form, elements, keys (the keys are told of a map alone) -/
def mB (S : mS) (Vs : List sV) (k f : Int32) (es ks : List Int32) : Prop := S.1 = nI (Vs.length + 1) ∧ Vs.length < 64 ∧ mF S Vs ∧ mFw S ∧ S.2.2.1 Vs.length = k ∧ S.2.2.2.1 Vs.length = f ∧ S.2.2.2.2.1 Vs.length = nI es.length ∧ es.length ≤ 100 ∧
  (∀ j, j < es.length → S.2.2.2.2.2.1 (100 * Vs.length + j) = es.getD j 0) ∧ (k = 3 → ks.length = es.length ∧ ∀ j, j < es.length → S.2.2.2.2.2.2.1 (100 * Vs.length + j) = ks.getD j 0)
theorem mB_create {n th : Int32} {fk ff fs fe fy fw : Nat → Int32} {Vs : List sV} (h : mAbs (n, th, fk, ff, fs, fe, fy, fw) Vs) (hl : Vs.length < 64) (th' k f : Int32) : mB (nI (Vs.length + 1), th', upd fk Vs.length k, upd ff Vs.length f, upd fs Vs.length 0, fe, fy, fw) Vs k f [] [] := by
  obtain ⟨-, -, h3, h4⟩ := h
  refine ⟨rfl, hl, fun i o hi => ?_, h4, pk_us, pk_us, pk_us, Nat.zero_le _, fun j hj => absurd hj (Nat.not_lt_zero _), fun _ => ⟨rfl, fun j hj => absurd hj (Nat.not_lt_zero _)⟩⟩
  have hne : i ≠ Vs.length := Nat.ne_of_lt (List.getElem?_eq_some_iff.mp hi).1
  obtain ⟨a1, a2, a3, a4, a5, a6⟩ := h3 i o hi
  exact ⟨(pk_un hne).trans a1, (pk_un hne).trans a2, (pk_un hne).trans a3, a4, a5, a6⟩
theorem mB_put {n th : Int32} {fk ff fs fe fy fw : Nat → Int32} {Vs : List sV} {k f : Int32} {es ks : List Int32} (h : mB (n, th, fk, ff, fs, fe, fy, fw) Vs k f es ks) (he : es.length < 100) (key x : Int32) :
    mB (n, th, fk, ff, upd fs Vs.length (nI (es.length + 1)), upd fe (100 * Vs.length + es.length) x, upd fy (100 * Vs.length + es.length) key, fw) Vs k f (es ++ [x]) (ks ++ [key]) := by
  obtain ⟨h1, h2, h3, h4, h5, h6, h7, h8, h9, h10⟩ := h
  refine ⟨h1, h2, fun i o hi => ?_, h4, h5, h6, ?_, by simp only [List.length_append, List.length_singleton]; omega, fun j hj => ?_, fun hk => ⟨?_, fun j hj => ?_⟩⟩
  · have hlt : i < Vs.length := (List.getElem?_eq_some_iff.mp hi).1
    have hne : i ≠ Vs.length := Nat.ne_of_lt hlt
    obtain ⟨a1, a2, a3, a4, a5, a6⟩ := h3 i o hi
    have ho : o.2.2.1.length ≤ 100 := a4.1
    exact ⟨a1, a2, (pk_un hne).trans a3, a4, fun j hj => (pk_un (by omega)).trans (a5 j hj), fun hk j hj => (pk_un (by omega)).trans (a6 hk j hj)⟩
  · show upd fs Vs.length (nI (es.length + 1)) Vs.length = nI (es ++ [x]).length
    rw [pk_us, List.length_append, List.length_singleton]
  · simp only [List.length_append, List.length_singleton] at hj
    show upd fe (100 * Vs.length + es.length) x (100 * Vs.length + j) = _
    by_cases hje : j = es.length
    · subst hje
      rw [pk_us]
      simp
    · rw [pk_un (by omega)]
      refine (h9 j (by omega)).trans ?_
      simp only [List.getD_eq_getElem?_getD]
      rw [List.getElem?_append_left (by omega)]
  · rw [List.length_append, List.length_append, (h10 hk).1]
    rfl
  · simp only [List.length_append, List.length_singleton] at hj
    obtain ⟨hkl, hk2⟩ := h10 hk
    show upd fy (100 * Vs.length + es.length) key (100 * Vs.length + j) = _
    by_cases hje : j = es.length
    · subst hje
      rw [pk_us, ← hkl]
      simp
    · rw [pk_un (by omega)]
      refine (hk2 j (by omega)).trans ?_
      simp only [List.getD_eq_getElem?_getD]
      rw [List.getElem?_append_left (by omega)]
/-- a stretch of a list -/
def sv_cut (xs : List Int32) (b d : Nat) : List Int32 := (xs.take d).drop b
theorem sv_cut_length {xs : List Int32} {b d : Nat} (h : d ≤ xs.length) : (sv_cut xs b d).length = d - b := by
  unfold sv_cut
  simp only [List.length_drop, List.length_take]
  omega
theorem sv_cut_get {xs : List Int32} {b d j : Nat} (h : d ≤ xs.length) (hj : j < d - b) : (sv_cut xs b d).getD j 0 = xs.getD (b + j) 0 := by
  unfold sv_cut
  simp only [List.getD_eq_getElem?_getD]
  rw [List.getElem?_drop, List.getElem?_take, if_pos (by omega)]
theorem mB_all {n th : Int32} {fk ff fs fe fy fw : Nat → Int32} {Vs : List sV} {k f : Int32} {es ks : List Int32} (h : mB (n, th, fk, ff, fs, fe, fy, fw) Vs k f es ks) {a b d : Nat} {o : sV} (ha : Vs[a]? = some o) (hbd : b ≤ d) (hd : d ≤ o.2.2.1.length) (he : es.length + (d - b) ≤ 100) (hk3 : k = 3 → o.1 = 3) :
    mB (n, th, fk, ff, upd fs Vs.length (nI (es.length + (d - b))), va_cpy fe fe (100 * a + b) (100 * Vs.length + es.length) (d - b), va_cpy fy fy (100 * a + b) (100 * Vs.length + es.length) (d - b), fw) Vs k f (es ++ sv_cut o.2.2.1 b d) (ks ++ sv_cut o.2.2.2 b d) := by
  obtain ⟨h1, h2, h3, h4, h5, h6, h7, h8, h9, h10⟩ := h
  have hlta : a < Vs.length := (List.getElem?_eq_some_iff.mp ha).1
  obtain ⟨b1, b2, b3, b4, b5, b6⟩ := h3 a o ha
  have hlc := sv_cut_length (b := b) hd
  refine ⟨h1, h2, fun i o' hi => ?_, h4, h5, h6, ?_, by rw [List.length_append, hlc]; omega, fun j hj => ?_, fun hk => ?_⟩
  · have hlt : i < Vs.length := (List.getElem?_eq_some_iff.mp hi).1
    have hne : i ≠ Vs.length := Nat.ne_of_lt hlt
    obtain ⟨a1, a2, a3, a4, a5, a6⟩ := h3 i o' hi
    have ho : o'.2.2.1.length ≤ 100 := a4.1
    exact ⟨a1, a2, (pk_un hne).trans a3, a4, fun j hj => (pk_cpy_out (by omega)).trans (a5 j hj), fun hk j hj => (pk_cpy_out (by omega)).trans (a6 hk j hj)⟩
  · show upd fs Vs.length (nI (es.length + (d - b))) Vs.length = _
    rw [pk_us, List.length_append, hlc]
  · rw [List.length_append, hlc] at hj
    show va_cpy fe fe (100 * a + b) (100 * Vs.length + es.length) (d - b) (100 * Vs.length + j) = _
    by_cases hje : j < es.length
    · rw [pk_cpy_out (by omega)]
      refine (h9 j hje).trans ?_
      simp only [List.getD_eq_getElem?_getD]
      rw [List.getElem?_append_left hje]
    · rw [pk_cpy_in (by omega) (by omega)]
      have e1 : 100 * a + b + (100 * Vs.length + j - (100 * Vs.length + es.length)) = 100 * a + (b + (j - es.length)) := by omega
      rw [e1, show fe (100 * a + (b + (j - es.length))) = _ from b5 (b + (j - es.length)) (by omega), ← sv_cut_get (xs := o.2.2.1) hd (show j - es.length < d - b by omega)]
      simp only [List.getD_eq_getElem?_getD]
      rw [List.getElem?_append_right (by omega)]
  · obtain ⟨hkl, hk2⟩ := h10 hk
    have hok := b4.2.1 (hk3 hk)
    have hlk := sv_cut_length (xs := o.2.2.2) (b := b) (d := d) (by omega)
    refine ⟨by rw [List.length_append, List.length_append, hlc, hlk, hkl], fun j hj => ?_⟩
    rw [List.length_append, hlc] at hj
    show va_cpy fy fy (100 * a + b) (100 * Vs.length + es.length) (d - b) (100 * Vs.length + j) = _
    by_cases hje : j < es.length
    · rw [pk_cpy_out (by omega)]
      refine (hk2 j hje).trans ?_
      simp only [List.getD_eq_getElem?_getD]
      rw [List.getElem?_append_left (by omega)]
    · rw [pk_cpy_in (by omega) (by omega)]
      have e1 : 100 * a + b + (100 * Vs.length + j - (100 * Vs.length + es.length)) = 100 * a + (b + (j - es.length)) := by omega
      rw [e1, show fy (100 * a + (b + (j - es.length))) = _ from b6 (hk3 hk) (b + (j - es.length)) (by omega), ← sv_cut_get (xs := o.2.2.2) (d := d) (by omega) (show j - es.length < d - b by omega)]
      simp only [List.getD_eq_getElem?_getD]
      rw [List.getElem?_append_right (by omega), hkl]
theorem mB_done {S : mS} {Vs : List sV} {k f : Int32} {es ks : List Int32} (h : mB S Vs k f es ks) (ks' : List Int32) (h3 : k = 3 → ks' = ks) (hl : ks'.length ≤ 100) : mAbs S (Vs ++ [(k, f, es, ks')]) := by
  obtain ⟨h1, h2, hF, h4, h5, h6, h7, h8, h9, h10⟩ := h
  refine ⟨by rw [h1, List.length_append]; rfl, by rw [List.length_append]; show Vs.length + 1 ≤ 64; omega, fun i o hi => ?_, h4⟩
  by_cases hlt : i < Vs.length
  · rw [List.getElem?_append_left hlt] at hi
    exact hF i o hi
  · have hi2 : i < (Vs ++ [(k, f, es, ks')]).length := (List.getElem?_eq_some_iff.mp hi).1
    have hie : i = Vs.length := by
      rw [List.length_append] at hi2
      have : i < Vs.length + 1 := hi2
      omega
    subst hie
    rw [List.getElem?_append_right (Nat.le_refl _), Nat.sub_self] at hi
    cases hi
    refine ⟨h5, h6, h7, ⟨h8, fun hk => ?_, hl⟩, h9, fun hk j hj => ?_⟩
    · show ks'.length = es.length
      rw [h3 hk]; exact (h10 hk).1
    · show _ = ks'.getD j 0
      rw [h3 hk]; exact (h10 hk).2 j hj
theorem mAbs_at {S : mS} {Vs : List sV} (h : mAbs S Vs) {v : Int32} (h1 : ¬ v < 0) (h2 : v < nI Vs.length) : ∃ (a : Nat) (o : sV), v = nI a ∧ a < Vs.length ∧ Vs[a]? = some o ∧ sv_at Vs v = some o := by
  obtain ⟨a, ha, e⟩ := nI_of h1
  subst e
  have hl := h.2.1
  have hlt : a < Vs.length := (nI_ltI ha (by omega)).mp h2
  refine ⟨a, Vs[a], rfl, hlt, List.getElem?_eq_getElem hlt, ?_⟩
  unfold sv_at
  rw [if_neg h1, nI_clamp ha]
  exact List.getElem?_eq_getElem hlt
theorem mAbs_none {S : mS} {Vs : List sV} (h : mAbs S Vs) {v : Int32} (h1 : ¬ (¬ v < 0 ∧ v < nI Vs.length)) : sv_at Vs v = none := by
  unfold sv_at
  by_cases h0 : v < 0
  · rw [if_pos h0]
  · rw [if_neg h0]
    obtain ⟨a, ha, e⟩ := nI_of h0
    subst e
    have hl := h.2.1
    have hge : Vs.length ≤ a := Nat.not_lt.mp (fun z => h1 ⟨h0, nI_lt z (by omega)⟩)
    rw [nI_clamp ha]
    exact List.getElem?_eq_none hge
theorem sv_cut_all (xs : List Int32) (b : Nat) : sv_cut xs b xs.length = xs.drop b := by
  unfold sv_cut
  rw [List.take_length]
theorem sv_cut_0 (xs : List Int32) (d : Nat) : sv_cut xs 0 d = xs.take d := by
  unfold sv_cut
  rfl
theorem sv_set : ∀ {xs : List Int32} {b : Nat} {x : Int32}, b < xs.length → xs.take b ++ x :: xs.drop (b + 1) = xs.set b x
  | [], b, x, h => absurd h (Nat.not_lt_zero _)
  | y :: ys, 0, x, _ => rfl
  | y :: ys, b + 1, x, h => by
    have ih := sv_set (xs := ys) (b := b) (x := x) (by simpa using h)
    show y :: (ys.take b ++ x :: ys.drop (b + 1)) = y :: ys.set b x
    rw [ih]
theorem sv_same : ∀ {xs : List Int32} {b : Nat} {x : Int32}, xs[b]? = some x → xs.take b ++ x :: xs.drop (b + 1) = xs
  | [], b, x, h => by simp at h
  | y :: ys, 0, x, h => by
    have h' : y = x := by simpa using h
    subst h'
    rfl
  | y :: ys, b + 1, x, h => by
    have ih := sv_same (xs := ys) (b := b) (x := x) (by simpa using h)
    show y :: (ys.take b ++ x :: ys.drop (b + 1)) = y :: ys
    rw [ih]
theorem m_has {fy : Nat → Int32} {a q : Nat} {o : sV} {key : Int32} (hl : o.2.2.2.length = o.2.2.1.length) (hy : ∀ j, j < o.2.2.1.length → fy (100 * a + j) = o.2.2.2.getD j 0) : (q < o.2.2.1.length ∧ fy (100 * a + q) = key) ↔ o.2.2.2[q]? = some key := by
  constructor
  · intro ⟨h1, h2⟩
    rw [hy q h1, List.getD_eq_getElem?_getD, List.getElem?_eq_getElem (by omega)] at h2
    rw [List.getElem?_eq_getElem (by omega)]
    exact congrArg some h2
  · intro h
    have h1 : q < o.2.2.2.length := (List.getElem?_eq_some_iff.mp h).1
    refine ⟨by omega, ?_⟩
    rw [hy q (by omega), List.getD_eq_getElem?_getD, h]
    rfl
end
section
/-! Calls inside the reference, in terms of the list of versions. -/
def mApi (w : Wd) (am : Nat → Nat) (y : MethodName) (nL : Nat) (rm : Room) (as : List Value) (Vs : List sV) (A : sR) : Prop := ∀ S : mS, mAbs S Vs →
  fx_C (KT w) y nL rm (.ref (am 0) :: as) (fun H => va_P w.D cls (mw w am S) H) (fun _ o H' => o = .returned (some (.int A.2.1)) ∧ ∃ S' : mS, va_P w.D cls (mw w am S') H' ∧ mAbs S' A.2.2 ∧ S'.2.1 = nI A.1) (fun _ => mA am)
section MROW
variable {p : Program} {l : Launch} {e : Env} {R : Room} {s : State} {m : MethodId} {args : Array Value} {below : List Frame} {meth : Method} {c : Code} {H : Heap} {locs : List Loc} {cells slots : Nat} {Q : State → Prop}
variable {cc : ByteArray} {pc : Nat} {ls : Array Slot} {rest : List Value} {w : Wd} {am : Nat → Nat} {S : mS} {Vs : List sV} {index : Nat} {k f : Int32} {es ks : List Int32}
theorem m_rThr (hI : mI am) (hA : mAbs S Vs) (k : Int32) (hx : p.tables.exec = Jvm.exec) (hfl : l.flags = flags0) (hK : KT w s) (hb : c.code = cc) (hsz : ls.size = c.maxLocals) (hown : s.vm.findClass R_M = some m.cls) (hlink : (Cond.methodLink R_M index y_M_throwsBy).before args s = true) (hR : fx_R R (rmK 0) 2 cells slots rest)
    (hP : va_P w.D cls (mw w am S) H) (hS : va_S (mA am) s.heap H locs) (hdg : decode cc pc = .ok (.invokevirtual index, 3))
    (kk : ∀ S' : mS, mAbs S' Vs → S'.2.1 = k → ∀ (H1 : Heap) (locs1 : List Loc), va_P w.D cls (mw w am S') H1 → va_S (mA am) s.heap H1 locs1 → W p l e R s m args below meth c H1 locs1 cells slots Q (F0 m (pc + 3) ls (.int (zI (0 < k)) :: rest))) : W p l e R s m args below meth c H locs cells slots Q (F0 m pc ls (.int k :: .ref (am 0) :: rest)) := by
  obtain ⟨n, th, fk, ff, fs, fe, fy, fw⟩ := S
  exact m_cV (ct_M_throwsBy w am hI n th fk ff fs fe fy fw k) hx hfl hK hb hsz hown hlink (hK.1 _ mk_M_throwsBy _) (hK.1 _ mi_M_throwsBy _) (hK.1 _ mq_M_throwsBy _) (show fx_N y_M_throwsBy 1 by decide +kernel) rfl hR hP hS hdg (fun H1 locs1 hP1 hS1 => kk (n, k, fk, ff, fs, fe, fy, fw) hA rfl H1 locs1 hP1 hS1)
theorem m_rCreate (hI : mI am) (hA : mAbs S Vs) (hl : Vs.length < 64) (k f : Int32) (hx : p.tables.exec = Jvm.exec) (hfl : l.flags = flags0) (hK : KT w s) (hb : c.code = cc) (hsz : ls.size = c.maxLocals) (hown : s.vm.findClass R_M = some m.cls) (hlink : (Cond.methodLink R_M index y_M_create).before args s = true) (hR : fx_R R (rmK 0) 3 cells slots rest)
    (hP : va_P w.D cls (mw w am S) H) (hS : va_S (mA am) s.heap H locs) (hdg : decode cc pc = .ok (.invokevirtual index, 3))
    (kk : ∀ S' : mS, mB S' Vs k f [] [] → S'.2.1 = S.2.1 → ∀ (H1 : Heap) (locs1 : List Loc), va_P w.D cls (mw w am S') H1 → va_S (mA am) s.heap H1 locs1 → W p l e R s m args below meth c H1 locs1 cells slots Q (F0 m (pc + 3) ls (.int (nI Vs.length) :: rest))) : W p l e R s m args below meth c H locs cells slots Q (F0 m pc ls (.int f :: .int k :: .ref (am 0) :: rest)) := by
  obtain ⟨n, th, fk, ff, fs, fe, fy, fw⟩ := S
  have hn : n = nI Vs.length := hA.1
  subst hn
  exact m_cV (ct_M_create w am hI th fk ff fs fe fy fw Vs.length k f hl) hx hfl hK hb hsz hown hlink (hK.1 _ mk_M_create _) (hK.1 _ mi_M_create _) (hK.1 _ mq_M_create _) (show fx_N y_M_create 2 by decide +kernel) rfl hR hP hS hdg (fun H1 locs1 hP1 hS1 => kk _ (mB_create hA hl th k f) rfl H1 locs1 hP1 hS1)
theorem m_rPut (hI : mI am) (hB : mB S Vs k f es ks) (he : es.length < 100) (key x : Int32) (hx : p.tables.exec = Jvm.exec) (hfl : l.flags = flags0) (hK : KT w s) (hb : c.code = cc) (hsz : ls.size = c.maxLocals) (hown : s.vm.findClass R_M = some m.cls) (hlink : (Cond.methodLink R_M index y_M_put).before args s = true) (hR : fx_R R (rmK 0) 4 cells slots rest)
    (hP : va_P w.D cls (mw w am S) H) (hS : va_S (mA am) s.heap H locs) (hdg : decode cc pc = .ok (.invokevirtual index, 3))
    (kk : ∀ S' : mS, mB S' Vs k f (es ++ [x]) (ks ++ [key]) → S'.2.1 = S.2.1 → ∀ (H1 : Heap) (locs1 : List Loc), va_P w.D cls (mw w am S') H1 → va_S (mA am) s.heap H1 locs1 → W p l e R s m args below meth c H1 locs1 cells slots Q (F0 m (pc + 3) ls rest)) : W p l e R s m args below meth c H locs cells slots Q (F0 m pc ls (.int x :: .int key :: .ref (am 0) :: rest)) := by
  obtain ⟨n, th, fk, ff, fs, fe, fy, fw⟩ := S
  have hn : n = nI (Vs.length + 1) := hB.1
  have hs : fs Vs.length = nI es.length := hB.2.2.2.2.2.2.1
  subst hn
  exact m_cV (ct_M_put w am hI th fk ff fs fe fy fw Vs.length es.length key x hB.2.1 he hs) hx hfl hK hb hsz hown hlink (hK.1 _ mk_M_put _) (hK.1 _ mi_M_put _) (hK.1 _ mq_M_put _) (show fx_N y_M_put 2 by decide +kernel) rfl hR hP hS hdg (fun H1 locs1 hP1 hS1 => kk _ (mB_put hB he key x) rfl H1 locs1 hP1 hS1)
theorem m_rAll (hI : mI am) (hB : mB S Vs k f es ks) {a b d : Nat} {o : sV} (ha : Vs[a]? = some o) (hbd : b ≤ d) (hd : d ≤ o.2.2.1.length) (he : es.length + (d - b) ≤ 100) (hk3 : k = 3 → o.1 = 3) (hx : p.tables.exec = Jvm.exec) (hfl : l.flags = flags0) (hK : KT w s) (hb : c.code = cc) (hsz : ls.size = c.maxLocals) (hown : s.vm.findClass R_M = some m.cls) (hlink : (Cond.methodLink R_M index y_M_putAll).before args s = true) (hR : fx_R R (rmK 1) 5 cells slots rest)
    (hP : va_P w.D cls (mw w am S) H) (hS : va_S (mA am) s.heap H locs) (hdg : decode cc pc = .ok (.invokevirtual index, 3))
    (kk : ∀ S' : mS, mB S' Vs k f (es ++ sv_cut o.2.2.1 b d) (ks ++ sv_cut o.2.2.2 b d) → S'.2.1 = S.2.1 → ∀ (H1 : Heap) (locs1 : List Loc), va_P w.D cls (mw w am S') H1 → va_S (mA am) s.heap H1 locs1 → W p l e R s m args below meth c H1 locs1 cells slots Q (F0 m (pc + 3) ls rest)) : W p l e R s m args below meth c H locs cells slots Q (F0 m pc ls (.int (nI d) :: .int (nI b) :: .int (nI a) :: .ref (am 0) :: rest)) := by
  obtain ⟨n, th, fk, ff, fs, fe, fy, fw⟩ := S
  have hn : n = nI (Vs.length + 1) := hB.1
  have hs : fs Vs.length = nI es.length := hB.2.2.2.2.2.2.1
  have hla : a < Vs.length := (List.getElem?_eq_some_iff.mp ha).1
  have hlo : o.2.2.1.length ≤ 100 := (hB.2.2.1 a o ha).2.2.2.1.1
  subst hn
  exact m_cV (ct_M_putAll w am hI th fk ff fs fe fy fw Vs.length es.length a b d hB.2.1 hla hbd (by omega) he hs) hx hfl hK hb hsz hown hlink (hK.1 _ mk_M_putAll _) (hK.1 _ mi_M_putAll _) (hK.1 _ mq_M_putAll _) (show fx_N y_M_putAll 3 by decide +kernel) rfl hR hP hS hdg (fun H1 locs1 hP1 hS1 => kk _ (mB_all hB ha hbd hd he hk3) rfl H1 locs1 hP1 hS1)
end MROW
end
section
set_option maxHeartbeats 4000000 in
set_option maxRecDepth 100000 in
theorem ct_M_size (w : Wd) (am : Nat → Nat) (hI : mI am) (Vs : List sV) (v : Int32) : mApi w am y_M_size 2 (rmK 3) [.int v] Vs (so_size Vs v) := by
  intro S hA
  have hn : S.1 = nI Vs.length := hA.1
  have hVl : Vs.length ≤ 64 := hA.2.1
  refine fx_of (ret := some .int) (cc := b_M_size) (fun s hK => hK.1 _ mk_M_size _) (Nat.le_of_ble_eq_true rfl) ?_
  intro p l e s m below meth c hx hfl hK hb hml hr hlk hnt hown hin hP ls hl
  have hw : ∀ z ∈ gw, z.before (.ref (am 0) :: [.int v] : List Value).toArray s = true := fun z hz => hK.1 z hz _
  have hKv := hK.2.1
  have hS : va_S (mA am) s.heap s.heap [] := va_S.rf
  have hP : va_P w.D cls (mw w am S) s.heap := hP
  have hl : lv_has ls 2 [(0, .ref (am 0)), (1, .int v)] := hl
  refine lv_aload_n hx hb d_M_size_0 rfl (lv_at hl 0 rfl) ?_
  refine lv_aload_n hx hb d_M_size_1 rfl (lv_at hl 0 rfl) ?_
  refine lv_iload_n hx hb d_M_size_2 rfl (lv_at hl 1 rfl) ?_
  refine m_cV (ct_M_is w am hI S.1 S.2.1 S.2.2.1 S.2.2.2.1 S.2.2.2.2.1 S.2.2.2.2.2.1 S.2.2.2.2.2.2.1 S.2.2.2.2.2.2.2 v) hx hfl hK hb (by rw [hml]; exact hl.1) hown (hw _ mm_M_35) (hw _ mk_M_is) (hw _ mi_M_is) (hw _ mq_M_is) (show fx_N y_M_is 1 by decide +kernel) rfl ⟨Nat.le_of_ble_eq_true rfl, Nat.le_of_ble_eq_true rfl, Nat.le_of_ble_eq_true rfl, Nat.le_of_ble_eq_true rfl⟩ hP hS d_M_size_3 (fun H locs hP hS => ?_)
  have hP : va_P w.D cls (mw w am S) H := hP
  refine lv_if_eq (tgt := 13) hx hb d_M_size_6 rfl (fun h6 => ?_) (fun h6 => ?_)
  · have h6 := zI_eq0.mp h6
    rw [hn] at h6
    refine lv_iconst (v := nI 1) hx hb d_M_size_13 rfl ?_
    refine m_rThr hI hA (nI 1) hx hfl hK hb (by rw [hml]; exact hl.1) hown (hw _ mm_M_50) ⟨Nat.le_of_ble_eq_true rfl, Nat.le_of_ble_eq_true rfl, Nat.le_of_ble_eq_true rfl, Nat.le_of_ble_eq_true rfl⟩ hP hS d_M_size_14 (fun S1 hA hT H locs hP hS => ?_)
    have hn : S1.1 = nI Vs.length := hA.1
    refine lv_if_eq (tgt := 24) hx hb d_M_size_17 rfl (fun h9 => absurd h9 (by rw [zI_t (by decide)]; decide)) (fun _ => ?_)
    refine lv_iconst (v := nI 0) hx hb d_M_size_20 rfl ?_
    refine lv_goto (tgt := 30) hx hb d_M_size_21 rfl ?_
    exact fx_iret hx hb hr hlk hS.2.2 (Nat.le_of_ble_eq_true rfl) (Nat.le_of_ble_eq_true rfl) d_M_size_30 (⟨by rw [(show so_size Vs v = (1, 0, Vs) from by unfold so_size; rw [mAbs_none hA h6])]; exact rfl, S1, hP, by rw [(show so_size Vs v = (1, 0, Vs) from by unfold so_size; rw [mAbs_none hA h6])]; exact hA, by rw [(show so_size Vs v = (1, 0, Vs) from by unfold so_size; rw [mAbs_none hA h6])]; exact hT⟩)
  · have h6 := zI_ne0.mp h6
    rw [hn] at h6
    obtain ⟨a, o, ea, ha, ga, ta⟩ := mAbs_at hA h6.1 h6.2
    subst ea
    have ca : (nI a).toNatClampNeg = a := nI_clamp (by omega)
    have hl : lv_has ls 2 [(0, .ref (am 0)), (1, .int (nI a))] := hl
    refine lv_iconst (v := nI 0) hx hb d_M_size_9 rfl ?_
    refine lv_goto (tgt := 14) hx hb d_M_size_10 rfl ?_
    refine m_rThr hI hA (nI 0) hx hfl hK hb (by rw [hml]; exact hl.1) hown (hw _ mm_M_50) ⟨Nat.le_of_ble_eq_true rfl, Nat.le_of_ble_eq_true rfl, Nat.le_of_ble_eq_true rfl, Nat.le_of_ble_eq_true rfl⟩ hP hS d_M_size_14 (fun S1 hA hT H locs hP hS => ?_)
    have hn : S1.1 = nI Vs.length := hA.1
    refine lv_if_eq (tgt := 24) hx hb d_M_size_17 rfl (fun _ => ?_) (fun h9 => absurd (zI_f (by decide)) h9)
    obtain ⟨ka, fa, sa, qa, xa, ya⟩ := hA.2.2.1 a o ga
    have ka : S1.2.2.1 a = o.1 := ka
    have fa : S1.2.2.2.1 a = o.2.1 := fa
    have sa : S1.2.2.2.2.1 a = nI o.2.2.1.length := sa
    have la : o.2.2.1.length ≤ 100 := qa.1
    refine lv_aload_n hx hb d_M_size_24 rfl (lv_at hl 0 rfl) ?_
    refine fx_get hx hb hown (kc_M hK _) hKv 3 (by decide) (hw _ mf_M_16) (fun _ h => h) (hP 0 _ rfl) rfl d_M_size_25 ?_
    refine lv_iload_n hx hb d_M_size_28 rfl (lv_at hl 1 rfl) ?_
    refine fx_iald (j := a) hx hb hKv 0 (hP 3 _ rfl) rfl (rfl) (by omega) (by decide) d_M_size_29 ?_
    exact fx_iret hx hb hr hlk hS.2.2 (Nat.le_of_ble_eq_true rfl) (Nat.le_of_ble_eq_true rfl) d_M_size_30 (⟨by rw [(show so_size Vs (nI a) = (0, nI o.2.2.1.length, Vs) from by unfold so_size; rw [ta])]; exact congrArg (fun z => Outcome.returned (some (Value.int z))) sa, S1, hP, by rw [(show so_size Vs (nI a) = (0, nI o.2.2.1.length, Vs) from by unfold so_size; rw [ta])]; exact hA, by rw [(show so_size Vs (nI a) = (0, nI o.2.2.1.length, Vs) from by unfold so_size; rw [ta])]; exact hT⟩)
set_option maxHeartbeats 4000000 in
set_option maxRecDepth 100000 in
theorem ct_M_kind (w : Wd) (am : Nat → Nat) (hI : mI am) (Vs : List sV) (v : Int32) : mApi w am y_M_kind 2 (rmK 3) [.int v] Vs (so_kind Vs v) := by
  intro S hA
  have hn : S.1 = nI Vs.length := hA.1
  have hVl : Vs.length ≤ 64 := hA.2.1
  refine fx_of (ret := some .int) (cc := b_M_kind) (fun s hK => hK.1 _ mk_M_kind _) (Nat.le_of_ble_eq_true rfl) ?_
  intro p l e s m below meth c hx hfl hK hb hml hr hlk hnt hown hin hP ls hl
  have hw : ∀ z ∈ gw, z.before (.ref (am 0) :: [.int v] : List Value).toArray s = true := fun z hz => hK.1 z hz _
  have hKv := hK.2.1
  have hS : va_S (mA am) s.heap s.heap [] := va_S.rf
  have hP : va_P w.D cls (mw w am S) s.heap := hP
  have hl : lv_has ls 2 [(0, .ref (am 0)), (1, .int v)] := hl
  refine lv_aload_n hx hb d_M_kind_0 rfl (lv_at hl 0 rfl) ?_
  refine lv_aload_n hx hb d_M_kind_1 rfl (lv_at hl 0 rfl) ?_
  refine lv_iload_n hx hb d_M_kind_2 rfl (lv_at hl 1 rfl) ?_
  refine m_cV (ct_M_is w am hI S.1 S.2.1 S.2.2.1 S.2.2.2.1 S.2.2.2.2.1 S.2.2.2.2.2.1 S.2.2.2.2.2.2.1 S.2.2.2.2.2.2.2 v) hx hfl hK hb (by rw [hml]; exact hl.1) hown (hw _ mm_M_35) (hw _ mk_M_is) (hw _ mi_M_is) (hw _ mq_M_is) (show fx_N y_M_is 1 by decide +kernel) rfl ⟨Nat.le_of_ble_eq_true rfl, Nat.le_of_ble_eq_true rfl, Nat.le_of_ble_eq_true rfl, Nat.le_of_ble_eq_true rfl⟩ hP hS d_M_kind_3 (fun H locs hP hS => ?_)
  have hP : va_P w.D cls (mw w am S) H := hP
  refine lv_if_eq (tgt := 13) hx hb d_M_kind_6 rfl (fun h6 => ?_) (fun h6 => ?_)
  · have h6 := zI_eq0.mp h6
    rw [hn] at h6
    refine lv_iconst (v := nI 1) hx hb d_M_kind_13 rfl ?_
    refine m_rThr hI hA (nI 1) hx hfl hK hb (by rw [hml]; exact hl.1) hown (hw _ mm_M_50) ⟨Nat.le_of_ble_eq_true rfl, Nat.le_of_ble_eq_true rfl, Nat.le_of_ble_eq_true rfl, Nat.le_of_ble_eq_true rfl⟩ hP hS d_M_kind_14 (fun S1 hA hT H locs hP hS => ?_)
    have hn : S1.1 = nI Vs.length := hA.1
    refine lv_if_eq (tgt := 24) hx hb d_M_kind_17 rfl (fun h9 => absurd h9 (by rw [zI_t (by decide)]; decide)) (fun _ => ?_)
    refine lv_iconst (v := nI 0) hx hb d_M_kind_20 rfl ?_
    refine lv_goto (tgt := 40) hx hb d_M_kind_21 rfl ?_
    exact fx_iret hx hb hr hlk hS.2.2 (Nat.le_of_ble_eq_true rfl) (Nat.le_of_ble_eq_true rfl) d_M_kind_40 (⟨by rw [(show so_kind Vs v = (1, 0, Vs) from by unfold so_kind; rw [mAbs_none hA h6])]; exact rfl, S1, hP, by rw [(show so_kind Vs v = (1, 0, Vs) from by unfold so_kind; rw [mAbs_none hA h6])]; exact hA, by rw [(show so_kind Vs v = (1, 0, Vs) from by unfold so_kind; rw [mAbs_none hA h6])]; exact hT⟩)
  · have h6 := zI_ne0.mp h6
    rw [hn] at h6
    obtain ⟨a, o, ea, ha, ga, ta⟩ := mAbs_at hA h6.1 h6.2
    subst ea
    have ca : (nI a).toNatClampNeg = a := nI_clamp (by omega)
    have hl : lv_has ls 2 [(0, .ref (am 0)), (1, .int (nI a))] := hl
    refine lv_iconst (v := nI 0) hx hb d_M_kind_9 rfl ?_
    refine lv_goto (tgt := 14) hx hb d_M_kind_10 rfl ?_
    refine m_rThr hI hA (nI 0) hx hfl hK hb (by rw [hml]; exact hl.1) hown (hw _ mm_M_50) ⟨Nat.le_of_ble_eq_true rfl, Nat.le_of_ble_eq_true rfl, Nat.le_of_ble_eq_true rfl, Nat.le_of_ble_eq_true rfl⟩ hP hS d_M_kind_14 (fun S1 hA hT H locs hP hS => ?_)
    have hn : S1.1 = nI Vs.length := hA.1
    refine lv_if_eq (tgt := 24) hx hb d_M_kind_17 rfl (fun _ => ?_) (fun h9 => absurd (zI_f (by decide)) h9)
    obtain ⟨ka, fa, sa, qa, xa, ya⟩ := hA.2.2.1 a o ga
    have ka : S1.2.2.1 a = o.1 := ka
    have fa : S1.2.2.2.1 a = o.2.1 := fa
    have sa : S1.2.2.2.2.1 a = nI o.2.2.1.length := sa
    have la : o.2.2.1.length ≤ 100 := qa.1
    refine lv_bipush (v := nI 10) hx hb d_M_kind_24 rfl ?_
    refine lv_aload_n hx hb d_M_kind_26 rfl (lv_at hl 0 rfl) ?_
    refine fx_get hx hb hown (kc_M hK _) hKv 1 (by decide) (hw _ mf_M_7) (fun _ h => h) (hP 0 _ rfl) rfl d_M_kind_27 ?_
    refine lv_iload_n hx hb d_M_kind_30 rfl (lv_at hl 1 rfl) ?_
    refine fx_iald (j := a) hx hb hKv 0 (hP 1 _ rfl) rfl (rfl) (by omega) (by decide) d_M_kind_31 ?_
    refine lv_imul hx hb d_M_kind_32 ?_
    refine lv_aload_n hx hb d_M_kind_33 rfl (lv_at hl 0 rfl) ?_
    refine fx_get hx hb hown (kc_M hK _) hKv 2 (by decide) (hw _ mf_M_13) (fun _ h => h) (hP 0 _ rfl) rfl d_M_kind_34 ?_
    refine lv_iload_n hx hb d_M_kind_37 rfl (lv_at hl 1 rfl) ?_
    refine fx_iald (j := a) hx hb hKv 0 (hP 2 _ rfl) rfl (rfl) (by omega) (by decide) d_M_kind_38 ?_
    refine lv_iadd hx hb d_M_kind_39 ?_
    exact fx_iret hx hb hr hlk hS.2.2 (Nat.le_of_ble_eq_true rfl) (Nat.le_of_ble_eq_true rfl) d_M_kind_40 (⟨by rw [(show so_kind Vs (nI a) = (0, 10 * o.1 + o.2.1, Vs) from by unfold so_kind; rw [ta])]; exact congrArg (fun z => Outcome.returned (some (Value.int z))) (by rw [ka, fa]; rfl), S1, hP, by rw [(show so_kind Vs (nI a) = (0, 10 * o.1 + o.2.1, Vs) from by unfold so_kind; rw [ta])]; exact hA, by rw [(show so_kind Vs (nI a) = (0, 10 * o.1 + o.2.1, Vs) from by unfold so_kind; rw [ta])]; exact hT⟩)
set_option maxHeartbeats 4000000 in
set_option maxRecDepth 100000 in
theorem ct_M_at (w : Wd) (am : Nat → Nat) (hI : mI am) (Vs : List sV) (v i : Int32) : mApi w am y_M_at 3 (rmK 3) [.int v, .int i] Vs (so_at Vs v i) := by
  intro S hA
  have hn : S.1 = nI Vs.length := hA.1
  have hVl : Vs.length ≤ 64 := hA.2.1
  refine fx_of (ret := some .int) (cc := b_M_at) (fun s hK => hK.1 _ mk_M_at _) (Nat.le_of_ble_eq_true rfl) ?_
  intro p l e s m below meth c hx hfl hK hb hml hr hlk hnt hown hin hP ls hl
  have hw : ∀ z ∈ gw, z.before (.ref (am 0) :: [.int v, .int i] : List Value).toArray s = true := fun z hz => hK.1 z hz _
  have hKv := hK.2.1
  have hS : va_S (mA am) s.heap s.heap [] := va_S.rf
  have hP : va_P w.D cls (mw w am S) s.heap := hP
  have hl : lv_has ls 3 [(0, .ref (am 0)), (1, .int v), (2, .int i)] := hl
  refine lv_aload_n hx hb d_M_at_0 rfl (lv_at hl 0 rfl) ?_
  refine lv_aload_n hx hb d_M_at_1 rfl (lv_at hl 0 rfl) ?_
  refine lv_iload_n hx hb d_M_at_2 rfl (lv_at hl 1 rfl) ?_
  refine m_cV (ct_M_is w am hI S.1 S.2.1 S.2.2.1 S.2.2.2.1 S.2.2.2.2.1 S.2.2.2.2.2.1 S.2.2.2.2.2.2.1 S.2.2.2.2.2.2.2 v) hx hfl hK hb (by rw [hml]; exact hl.1) hown (hw _ mm_M_35) (hw _ mk_M_is) (hw _ mi_M_is) (hw _ mq_M_is) (show fx_N y_M_is 1 by decide +kernel) rfl ⟨Nat.le_of_ble_eq_true rfl, Nat.le_of_ble_eq_true rfl, Nat.le_of_ble_eq_true rfl, Nat.le_of_ble_eq_true rfl⟩ hP hS d_M_at_3 (fun H locs hP hS => ?_)
  have hP : va_P w.D cls (mw w am S) H := hP
  refine lv_if_ne (tgt := 13) hx hb d_M_at_6 rfl (fun h6 => ?_) (fun h6 => ?_)
  · have h6 := zI_ne0.mp h6
    rw [hn] at h6
    obtain ⟨a, o, ea, ha, ga, ta⟩ := mAbs_at hA h6.1 h6.2
    subst ea
    have ca : (nI a).toNatClampNeg = a := nI_clamp (by omega)
    have hl : lv_has ls 3 [(0, .ref (am 0)), (1, .int (nI a)), (2, .int i)] := hl
    obtain ⟨ka, fa, sa, qa, xa, ya⟩ := hA.2.2.1 a o ga
    have ka : S.2.2.1 a = o.1 := ka
    have fa : S.2.2.2.1 a = o.2.1 := fa
    have sa : S.2.2.2.2.1 a = nI o.2.2.1.length := sa
    have la : o.2.2.1.length ≤ 100 := qa.1
    refine lv_iload_n hx hb d_M_at_13 rfl (lv_at hl 2 rfl) ?_
    refine lv_if_lt (tgt := 27) hx hb d_M_at_14 rfl (fun h14 => ?_) (fun h14 => ?_)
    · refine lv_iconst (v := nI 2) hx hb d_M_at_27 rfl ?_
      refine lv_goto (tgt := 32) hx hb d_M_at_28 rfl ?_
      refine m_rThr hI hA (nI 2) hx hfl hK hb (by rw [hml]; exact hl.1) hown (hw _ mm_M_50) ⟨Nat.le_of_ble_eq_true rfl, Nat.le_of_ble_eq_true rfl, Nat.le_of_ble_eq_true rfl, Nat.le_of_ble_eq_true rfl⟩ hP hS d_M_at_32 (fun S1 hA hT H locs hP hS => ?_)
      have hn : S1.1 = nI Vs.length := hA.1
      refine lv_if_eq (tgt := 40) hx hb d_M_at_35 rfl (fun h9 => absurd h9 (by rw [zI_t (by decide)]; decide)) (fun _ => ?_)
      refine lv_iconst (v := nI 0) hx hb d_M_at_38 rfl ?_
      exact fx_iret hx hb hr hlk hS.2.2 (Nat.le_of_ble_eq_true rfl) (Nat.le_of_ble_eq_true rfl) d_M_at_39 (⟨by rw [(show so_at Vs (nI a) i = (2, 0, Vs) from by unfold so_at; rw [ta]; dsimp only; rw [if_pos (Or.inl h14)])]; exact rfl, S1, hP, by rw [(show so_at Vs (nI a) i = (2, 0, Vs) from by unfold so_at; rw [ta]; dsimp only; rw [if_pos (Or.inl h14)])]; exact hA, by rw [(show so_at Vs (nI a) i = (2, 0, Vs) from by unfold so_at; rw [ta]; dsimp only; rw [if_pos (Or.inl h14)])]; exact hT⟩)
    · refine lv_iload_n hx hb d_M_at_17 rfl (lv_at hl 2 rfl) ?_
      refine lv_aload_n hx hb d_M_at_18 rfl (lv_at hl 0 rfl) ?_
      refine fx_get hx hb hown (kc_M hK _) hKv 3 (by decide) (hw _ mf_M_16) (fun _ h => h) (hP 0 _ rfl) rfl d_M_at_19 ?_
      refine lv_iload_n hx hb d_M_at_22 rfl (lv_at hl 1 rfl) ?_
      refine fx_iald (j := a) hx hb hKv 0 (hP 3 _ rfl) rfl (rfl) (by omega) (by decide) d_M_at_23 ?_
      refine lv_icmp_lt (tgt := 31) hx hb d_M_at_24 rfl (fun h24 => ?_) (fun h24 => ?_)
      · rw [sa] at h24
        obtain ⟨b, hb1, eb⟩ := nI_of h14
        subst eb
        have hb0 : b < o.2.2.1.length := (nI_ltI hb1 (by omega)).mp h24
        have h24 : ¬ nI o.2.2.1.length ≤ nI b := fun z => absurd h24 (Int32.not_lt.mpr z)
        have hl : lv_has ls 3 [(0, .ref (am 0)), (1, .int (nI a)), (2, .int (nI b))] := hl
        refine lv_iconst (v := nI 0) hx hb d_M_at_31 rfl ?_
        refine m_rThr hI hA (nI 0) hx hfl hK hb (by rw [hml]; exact hl.1) hown (hw _ mm_M_50) ⟨Nat.le_of_ble_eq_true rfl, Nat.le_of_ble_eq_true rfl, Nat.le_of_ble_eq_true rfl, Nat.le_of_ble_eq_true rfl⟩ hP hS d_M_at_32 (fun S1 hA hT H locs hP hS => ?_)
        have hn : S1.1 = nI Vs.length := hA.1
        refine lv_if_eq (tgt := 40) hx hb d_M_at_35 rfl (fun _ => ?_) (fun h9 => absurd (zI_f (by decide)) h9)
        obtain ⟨ka, fa, sa, qa, xa, ya⟩ := hA.2.2.1 a o ga
        have ka : S1.2.2.1 a = o.1 := ka
        have fa : S1.2.2.2.1 a = o.2.1 := fa
        have sa : S1.2.2.2.2.1 a = nI o.2.2.1.length := sa
        have la : o.2.2.1.length ≤ 100 := qa.1
        refine lv_aload_n hx hb d_M_at_40 rfl (lv_at hl 0 rfl) ?_
        refine fx_get hx hb hown (kc_M hK _) hKv 4 (by decide) (hw _ mf_M_19) (fun _ h => h) (hP 0 _ rfl) rfl d_M_at_41 ?_
        refine lv_bipush (v := nI 100) hx hb d_M_at_44 rfl ?_
        refine lv_iload_n hx hb d_M_at_46 rfl (lv_at hl 1 rfl) ?_
        refine lv_imul hx hb d_M_at_47 ?_
        refine fx_ti (y := nI (100 * a)) (pk_mul 100 a) ?_
        refine lv_iload_n hx hb d_M_at_48 rfl (lv_at hl 2 rfl) ?_
        refine lv_iadd hx hb d_M_at_49 ?_
        refine fx_ti (y := nI (100 * a + b)) (nI_add _ _) ?_
        refine fx_iald (j := 100 * a + b) hx hb hKv 0 (hP 4 _ rfl) rfl (rfl) (by omega) (by decide) d_M_at_50 ?_
        exact fx_iret hx hb hr hlk hS.2.2 (Nat.le_of_ble_eq_true rfl) (Nat.le_of_ble_eq_true rfl) d_M_at_51 (⟨by rw [(show so_at Vs (nI a) (nI b) = (0, o.2.2.1.getD b 0, Vs) from by unfold so_at; rw [ta]; dsimp only; rw [if_neg (fun z => z.elim h14 h24), nI_clamp hb1])]; exact congrArg (fun z => Outcome.returned (some (Value.int z))) (xa b hb0), S1, hP, by rw [(show so_at Vs (nI a) (nI b) = (0, o.2.2.1.getD b 0, Vs) from by unfold so_at; rw [ta]; dsimp only; rw [if_neg (fun z => z.elim h14 h24), nI_clamp hb1])]; exact hA, by rw [(show so_at Vs (nI a) (nI b) = (0, o.2.2.1.getD b 0, Vs) from by unfold so_at; rw [ta]; dsimp only; rw [if_neg (fun z => z.elim h14 h24), nI_clamp hb1])]; exact hT⟩)
      · rw [sa] at h24
        have h24 := Int32.not_lt.mp h24
        refine lv_iconst (v := nI 2) hx hb d_M_at_27 rfl ?_
        refine lv_goto (tgt := 32) hx hb d_M_at_28 rfl ?_
        refine m_rThr hI hA (nI 2) hx hfl hK hb (by rw [hml]; exact hl.1) hown (hw _ mm_M_50) ⟨Nat.le_of_ble_eq_true rfl, Nat.le_of_ble_eq_true rfl, Nat.le_of_ble_eq_true rfl, Nat.le_of_ble_eq_true rfl⟩ hP hS d_M_at_32 (fun S1 hA hT H locs hP hS => ?_)
        have hn : S1.1 = nI Vs.length := hA.1
        refine lv_if_eq (tgt := 40) hx hb d_M_at_35 rfl (fun h9 => absurd h9 (by rw [zI_t (by decide)]; decide)) (fun _ => ?_)
        refine lv_iconst (v := nI 0) hx hb d_M_at_38 rfl ?_
        exact fx_iret hx hb hr hlk hS.2.2 (Nat.le_of_ble_eq_true rfl) (Nat.le_of_ble_eq_true rfl) d_M_at_39 (⟨by rw [(show so_at Vs (nI a) i = (2, 0, Vs) from by unfold so_at; rw [ta]; dsimp only; rw [if_pos (Or.inr h24)])]; exact rfl, S1, hP, by rw [(show so_at Vs (nI a) i = (2, 0, Vs) from by unfold so_at; rw [ta]; dsimp only; rw [if_pos (Or.inr h24)])]; exact hA, by rw [(show so_at Vs (nI a) i = (2, 0, Vs) from by unfold so_at; rw [ta]; dsimp only; rw [if_pos (Or.inr h24)])]; exact hT⟩)
  · have h6 := zI_eq0.mp h6
    rw [hn] at h6
    refine lv_iconst (v := nI 1) hx hb d_M_at_9 rfl ?_
    refine lv_goto (tgt := 32) hx hb d_M_at_10 rfl ?_
    refine m_rThr hI hA (nI 1) hx hfl hK hb (by rw [hml]; exact hl.1) hown (hw _ mm_M_50) ⟨Nat.le_of_ble_eq_true rfl, Nat.le_of_ble_eq_true rfl, Nat.le_of_ble_eq_true rfl, Nat.le_of_ble_eq_true rfl⟩ hP hS d_M_at_32 (fun S1 hA hT H locs hP hS => ?_)
    have hn : S1.1 = nI Vs.length := hA.1
    refine lv_if_eq (tgt := 40) hx hb d_M_at_35 rfl (fun h9 => absurd h9 (by rw [zI_t (by decide)]; decide)) (fun _ => ?_)
    refine lv_iconst (v := nI 0) hx hb d_M_at_38 rfl ?_
    exact fx_iret hx hb hr hlk hS.2.2 (Nat.le_of_ble_eq_true rfl) (Nat.le_of_ble_eq_true rfl) d_M_at_39 (⟨by rw [(show so_at Vs v i = (1, 0, Vs) from by unfold so_at; rw [mAbs_none hA h6])]; exact rfl, S1, hP, by rw [(show so_at Vs v i = (1, 0, Vs) from by unfold so_at; rw [mAbs_none hA h6])]; exact hA, by rw [(show so_at Vs v i = (1, 0, Vs) from by unfold so_at; rw [mAbs_none hA h6])]; exact hT⟩)
set_option maxHeartbeats 4000000 in
set_option maxRecDepth 100000 in
theorem ct_M_first (w : Wd) (am : Nat → Nat) (hI : mI am) (Vs : List sV) (v : Int32) : mApi w am y_M_first 2 (rmK 3) [.int v] Vs (so_first Vs v) := by
  intro S hA
  have hn : S.1 = nI Vs.length := hA.1
  have hVl : Vs.length ≤ 64 := hA.2.1
  refine fx_of (ret := some .int) (cc := b_M_first) (fun s hK => hK.1 _ mk_M_first _) (Nat.le_of_ble_eq_true rfl) ?_
  intro p l e s m below meth c hx hfl hK hb hml hr hlk hnt hown hin hP ls hl
  have hw : ∀ z ∈ gw, z.before (.ref (am 0) :: [.int v] : List Value).toArray s = true := fun z hz => hK.1 z hz _
  have hKv := hK.2.1
  have hS : va_S (mA am) s.heap s.heap [] := va_S.rf
  have hP : va_P w.D cls (mw w am S) s.heap := hP
  have hl : lv_has ls 2 [(0, .ref (am 0)), (1, .int v)] := hl
  refine lv_aload_n hx hb d_M_first_0 rfl (lv_at hl 0 rfl) ?_
  refine lv_aload_n hx hb d_M_first_1 rfl (lv_at hl 0 rfl) ?_
  refine lv_iload_n hx hb d_M_first_2 rfl (lv_at hl 1 rfl) ?_
  rw [show (mw w am S) = mw w am (nI Vs.length, S.2) by rw [← hn]] at hP
  refine m_cV (ct_M_isRow w am hI S.2.1 S.2.2.1 S.2.2.2.1 S.2.2.2.2.1 S.2.2.2.2.2.1 S.2.2.2.2.2.2.1 S.2.2.2.2.2.2.2 Vs.length v hVl) hx hfl hK hb (by rw [hml]; exact hl.1) hown (hw _ mm_M_57) (hw _ mk_M_isRow) (hw _ mi_M_isRow) (hw _ mq_M_isRow) (show fx_N y_M_isRow 1 by decide +kernel) rfl ⟨Nat.le_of_ble_eq_true rfl, Nat.le_of_ble_eq_true rfl, Nat.le_of_ble_eq_true rfl, Nat.le_of_ble_eq_true rfl⟩ hP hS d_M_first_3 (fun H locs hP hS => ?_)
  have hP : va_P w.D cls (mw w am S) H := by rw [show mw w am S = mw w am (nI Vs.length, S.2) by rw [← hn]]; exact hP
  refine lv_if_ne (tgt := 13) hx hb d_M_first_6 rfl (fun h6 => ?_) (fun h6 => ?_)
  · have h6 := zI_ne0.mp h6
    obtain ⟨a, o, ea, ha, ga, ta⟩ := mAbs_at hA h6.1.1 h6.1.2
    subst ea
    have ca : (nI a).toNatClampNeg = a := nI_clamp (by omega)
    have n3 : ¬ o.1 = 3 := fun z => h6.2 (by rw [ca]; exact (hA.2.2.1 a o ga).1.trans z)
    have hl : lv_has ls 2 [(0, .ref (am 0)), (1, .int (nI a))] := hl
    obtain ⟨ka, fa, sa, qa, xa, ya⟩ := hA.2.2.1 a o ga
    have ka : S.2.2.1 a = o.1 := ka
    have fa : S.2.2.2.1 a = o.2.1 := fa
    have sa : S.2.2.2.2.1 a = nI o.2.2.1.length := sa
    have la : o.2.2.1.length ≤ 100 := qa.1
    refine lv_aload_n hx hb d_M_first_13 rfl (lv_at hl 0 rfl) ?_
    refine fx_get hx hb hown (kc_M hK _) hKv 3 (by decide) (hw _ mf_M_16) (fun _ h => h) (hP 0 _ rfl) rfl d_M_first_14 ?_
    refine lv_iload_n hx hb d_M_first_17 rfl (lv_at hl 1 rfl) ?_
    refine fx_iald (j := a) hx hb hKv 0 (hP 3 _ rfl) rfl (rfl) (by omega) (by decide) d_M_first_18 ?_
    refine lv_if_ne (tgt := 26) hx hb d_M_first_19 rfl (fun h19 => ?_) (fun h19 => ?_)
    · have h19 : ¬ o.2.2.1.length = 0 := fun z => h19 (by rw [sa, z]; rfl)
      refine lv_iconst (v := nI 0) hx hb d_M_first_26 rfl ?_
      refine m_rThr hI hA (nI 0) hx hfl hK hb (by rw [hml]; exact hl.1) hown (hw _ mm_M_50) ⟨Nat.le_of_ble_eq_true rfl, Nat.le_of_ble_eq_true rfl, Nat.le_of_ble_eq_true rfl, Nat.le_of_ble_eq_true rfl⟩ hP hS d_M_first_27 (fun S1 hA hT H locs hP hS => ?_)
      have hn : S1.1 = nI Vs.length := hA.1
      refine lv_if_eq (tgt := 35) hx hb d_M_first_30 rfl (fun _ => ?_) (fun h9 => absurd (zI_f (by decide)) h9)
      obtain ⟨ka, fa, sa, qa, xa, ya⟩ := hA.2.2.1 a o ga
      have ka : S1.2.2.1 a = o.1 := ka
      have fa : S1.2.2.2.1 a = o.2.1 := fa
      have sa : S1.2.2.2.2.1 a = nI o.2.2.1.length := sa
      have la : o.2.2.1.length ≤ 100 := qa.1
      refine lv_aload_n hx hb d_M_first_35 rfl (lv_at hl 0 rfl) ?_
      refine fx_get hx hb hown (kc_M hK _) hKv 4 (by decide) (hw _ mf_M_19) (fun _ h => h) (hP 0 _ rfl) rfl d_M_first_36 ?_
      refine lv_bipush (v := nI 100) hx hb d_M_first_39 rfl ?_
      refine lv_iload_n hx hb d_M_first_41 rfl (lv_at hl 1 rfl) ?_
      refine lv_imul hx hb d_M_first_42 ?_
      refine fx_ti (y := nI (100 * a)) (pk_mul 100 a) ?_
      refine fx_iald (j := 100 * a + 0) hx hb hKv 0 (hP 4 _ rfl) rfl (rfl) (by omega) (by decide) d_M_first_43 ?_
      exact fx_iret hx hb hr hlk hS.2.2 (Nat.le_of_ble_eq_true rfl) (Nat.le_of_ble_eq_true rfl) d_M_first_44 (⟨by rw [(show so_first Vs (nI a) = (0, o.2.2.1.getD 0 0, Vs) from by unfold so_first; rw [ta]; dsimp only; rw [if_neg n3, if_neg h19])]; exact congrArg (fun z => Outcome.returned (some (Value.int z))) (xa 0 (by omega)), S1, hP, by rw [(show so_first Vs (nI a) = (0, o.2.2.1.getD 0 0, Vs) from by unfold so_first; rw [ta]; dsimp only; rw [if_neg n3, if_neg h19])]; exact hA, by rw [(show so_first Vs (nI a) = (0, o.2.2.1.getD 0 0, Vs) from by unfold so_first; rw [ta]; dsimp only; rw [if_neg n3, if_neg h19])]; exact hT⟩)
    · have h19 : o.2.2.1.length = 0 := by rw [sa] at h19; exact (nI_eq (by omega) (by decide)).mp h19
      refine lv_iconst (v := nI 2) hx hb d_M_first_22 rfl ?_
      refine lv_goto (tgt := 27) hx hb d_M_first_23 rfl ?_
      refine m_rThr hI hA (nI 2) hx hfl hK hb (by rw [hml]; exact hl.1) hown (hw _ mm_M_50) ⟨Nat.le_of_ble_eq_true rfl, Nat.le_of_ble_eq_true rfl, Nat.le_of_ble_eq_true rfl, Nat.le_of_ble_eq_true rfl⟩ hP hS d_M_first_27 (fun S1 hA hT H locs hP hS => ?_)
      have hn : S1.1 = nI Vs.length := hA.1
      refine lv_if_eq (tgt := 35) hx hb d_M_first_30 rfl (fun h9 => absurd h9 (by rw [zI_t (by decide)]; decide)) (fun _ => ?_)
      refine lv_iconst (v := nI 0) hx hb d_M_first_33 rfl ?_
      exact fx_iret hx hb hr hlk hS.2.2 (Nat.le_of_ble_eq_true rfl) (Nat.le_of_ble_eq_true rfl) d_M_first_34 (⟨by rw [(show so_first Vs (nI a) = (2, 0, Vs) from by unfold so_first; rw [ta]; dsimp only; rw [if_neg n3, if_pos h19])]; exact rfl, S1, hP, by rw [(show so_first Vs (nI a) = (2, 0, Vs) from by unfold so_first; rw [ta]; dsimp only; rw [if_neg n3, if_pos h19])]; exact hA, by rw [(show so_first Vs (nI a) = (2, 0, Vs) from by unfold so_first; rw [ta]; dsimp only; rw [if_neg n3, if_pos h19])]; exact hT⟩)
  · have h6 := zI_eq0.mp h6
    have h6 : so_first Vs v = (1, 0, Vs) := by
      by_cases hv : ¬ v < 0 ∧ v < nI Vs.length
      · obtain ⟨a, o, ea, ha, ga, ta⟩ := mAbs_at hA hv.1 hv.2
        have o3 : o.1 = 3 := Decidable.byContradiction (fun z => h6 ⟨hv, by rw [ea, nI_clamp (by omega)]; intro y; exact z ((hA.2.2.1 a o ga).1.symm.trans y)⟩)
        unfold so_first; rw [ta]; dsimp only; rw [if_pos o3]
      · unfold so_first; rw [mAbs_none hA hv]
    refine lv_iconst (v := nI 1) hx hb d_M_first_9 rfl ?_
    refine lv_goto (tgt := 27) hx hb d_M_first_10 rfl ?_
    refine m_rThr hI hA (nI 1) hx hfl hK hb (by rw [hml]; exact hl.1) hown (hw _ mm_M_50) ⟨Nat.le_of_ble_eq_true rfl, Nat.le_of_ble_eq_true rfl, Nat.le_of_ble_eq_true rfl, Nat.le_of_ble_eq_true rfl⟩ hP hS d_M_first_27 (fun S1 hA hT H locs hP hS => ?_)
    have hn : S1.1 = nI Vs.length := hA.1
    refine lv_if_eq (tgt := 35) hx hb d_M_first_30 rfl (fun h9 => absurd h9 (by rw [zI_t (by decide)]; decide)) (fun _ => ?_)
    refine lv_iconst (v := nI 0) hx hb d_M_first_33 rfl ?_
    exact fx_iret hx hb hr hlk hS.2.2 (Nat.le_of_ble_eq_true rfl) (Nat.le_of_ble_eq_true rfl) d_M_first_34 (⟨by rw [(show so_first Vs v = (1, 0, Vs) from h6)]; exact rfl, S1, hP, by rw [(show so_first Vs v = (1, 0, Vs) from h6)]; exact hA, by rw [(show so_first Vs v = (1, 0, Vs) from h6)]; exact hT⟩)
end
section
set_option maxHeartbeats 4000000 in
set_option maxRecDepth 100000 in
theorem ct_M_rest (w : Wd) (am : Nat → Nat) (hI : mI am) (Vs : List sV) (v : Int32) : mApi w am y_M_rest 3 (rmK 3) [.int v] Vs (so_rest Vs v) := by
  intro S hA
  have hn : S.1 = nI Vs.length := hA.1
  have hVl : Vs.length ≤ 64 := hA.2.1
  refine fx_of (ret := some .int) (cc := b_M_rest) (fun s hK => hK.1 _ mk_M_rest _) (Nat.le_of_ble_eq_true rfl) ?_
  intro p l e s m below meth c hx hfl hK hb hml hr hlk hnt hown hin hP ls hl
  have hw : ∀ z ∈ gw, z.before (.ref (am 0) :: [.int v] : List Value).toArray s = true := fun z hz => hK.1 z hz _
  have hKv := hK.2.1
  have hS : va_S (mA am) s.heap s.heap [] := va_S.rf
  have hP : va_P w.D cls (mw w am S) s.heap := hP
  have hl : lv_has ls 3 [(0, .ref (am 0)), (1, .int v)] := hl
  refine lv_aload_n hx hb d_M_rest_0 rfl (lv_at hl 0 rfl) ?_
  refine lv_aload_n hx hb d_M_rest_1 rfl (lv_at hl 0 rfl) ?_
  refine lv_iload_n hx hb d_M_rest_2 rfl (lv_at hl 1 rfl) ?_
  rw [show (mw w am S) = mw w am (nI Vs.length, S.2) by rw [← hn]] at hP
  refine m_cV (ct_M_isRow w am hI S.2.1 S.2.2.1 S.2.2.2.1 S.2.2.2.2.1 S.2.2.2.2.2.1 S.2.2.2.2.2.2.1 S.2.2.2.2.2.2.2 Vs.length v hVl) hx hfl hK hb (by rw [hml]; exact hl.1) hown (hw _ mm_M_57) (hw _ mk_M_isRow) (hw _ mi_M_isRow) (hw _ mq_M_isRow) (show fx_N y_M_isRow 1 by decide +kernel) rfl ⟨Nat.le_of_ble_eq_true rfl, Nat.le_of_ble_eq_true rfl, Nat.le_of_ble_eq_true rfl, Nat.le_of_ble_eq_true rfl⟩ hP hS d_M_rest_3 (fun H locs hP hS => ?_)
  have hP : va_P w.D cls (mw w am S) H := by rw [show mw w am S = mw w am (nI Vs.length, S.2) by rw [← hn]]; exact hP
  refine lv_if_ne (tgt := 13) hx hb d_M_rest_6 rfl (fun h6 => ?_) (fun h6 => ?_)
  · have h6 := zI_ne0.mp h6
    obtain ⟨a, o, ea, ha, ga, ta⟩ := mAbs_at hA h6.1.1 h6.1.2
    subst ea
    have ca : (nI a).toNatClampNeg = a := nI_clamp (by omega)
    have n3 : ¬ o.1 = 3 := fun z => h6.2 (by rw [ca]; exact (hA.2.2.1 a o ga).1.trans z)
    have hl : lv_has ls 3 [(0, .ref (am 0)), (1, .int (nI a))] := hl
    obtain ⟨ka, fa, sa, qa, xa, ya⟩ := hA.2.2.1 a o ga
    have ka : S.2.2.1 a = o.1 := ka
    have fa : S.2.2.2.1 a = o.2.1 := fa
    have sa : S.2.2.2.2.1 a = nI o.2.2.1.length := sa
    have la : o.2.2.1.length ≤ 100 := qa.1
    refine lv_aload_n hx hb d_M_rest_13 rfl (lv_at hl 0 rfl) ?_
    refine m_cV (ct_M_isFull w am hI S.1 S.2.1 S.2.2.1 S.2.2.2.1 S.2.2.2.2.1 S.2.2.2.2.2.1 S.2.2.2.2.2.2.1 S.2.2.2.2.2.2.2) hx hfl hK hb (by rw [hml]; exact hl.1) hown (hw _ mm_M_46) (hw _ mk_M_isFull) (hw _ mi_M_isFull) (hw _ mq_M_isFull) (show fx_N y_M_isFull 0 by decide +kernel) rfl ⟨Nat.le_of_ble_eq_true rfl, Nat.le_of_ble_eq_true rfl, Nat.le_of_ble_eq_true rfl, Nat.le_of_ble_eq_true rfl⟩ hP hS d_M_rest_14 (fun H locs hP hS => ?_)
    have hP : va_P w.D cls (mw w am S) H := hP
    refine lv_if_eq (tgt := 24) hx hb d_M_rest_17 rfl (fun h17 => ?_) (fun h17 => ?_)
    · have h17 : ¬ 64 ≤ Vs.length := fun z => zI_eq0.mp h17 (by rw [hn]; exact nI_le z (by omega))
      refine lv_aload_n hx hb d_M_rest_24 rfl (lv_at hl 0 rfl) ?_
      refine fx_get hx hb hown (kc_M hK _) hKv 3 (by decide) (hw _ mf_M_16) (fun _ h => h) (hP 0 _ rfl) rfl d_M_rest_25 ?_
      refine lv_iload_n hx hb d_M_rest_28 rfl (lv_at hl 1 rfl) ?_
      refine fx_iald (j := a) hx hb hKv 0 (hP 3 _ rfl) rfl (rfl) (by omega) (by decide) d_M_rest_29 ?_
      refine lv_if_ne (tgt := 37) hx hb d_M_rest_30 rfl (fun h30 => ?_) (fun h30 => ?_)
      · have h30 : ¬ o.2.2.1.length = 0 := fun z => h30 (by rw [sa, z]; rfl)
        refine lv_iconst (v := nI 0) hx hb d_M_rest_37 rfl ?_
        refine m_rThr hI hA (nI 0) hx hfl hK hb (by rw [hml]; exact hl.1) hown (hw _ mm_M_50) ⟨Nat.le_of_ble_eq_true rfl, Nat.le_of_ble_eq_true rfl, Nat.le_of_ble_eq_true rfl, Nat.le_of_ble_eq_true rfl⟩ hP hS d_M_rest_38 (fun S1 hA hT H locs hP hS => ?_)
        have hn : S1.1 = nI Vs.length := hA.1
        refine lv_if_eq (tgt := 46) hx hb d_M_rest_41 rfl (fun _ => ?_) (fun h9 => absurd (zI_f (by decide)) h9)
        obtain ⟨ka, fa, sa, qa, xa, ya⟩ := hA.2.2.1 a o ga
        have ka : S1.2.2.1 a = o.1 := ka
        have fa : S1.2.2.2.1 a = o.2.1 := fa
        have sa : S1.2.2.2.2.1 a = nI o.2.2.1.length := sa
        have la : o.2.2.1.length ≤ 100 := qa.1
        refine lv_aload_n hx hb d_M_rest_46 rfl (lv_at hl 0 rfl) ?_
        refine lv_aload_n hx hb d_M_rest_47 rfl (lv_at hl 0 rfl) ?_
        refine fx_get hx hb hown (kc_M hK _) hKv 1 (by decide) (hw _ mf_M_7) (fun _ h => h) (hP 0 _ rfl) rfl d_M_rest_48 ?_
        refine lv_iload_n hx hb d_M_rest_51 rfl (lv_at hl 1 rfl) ?_
        refine fx_iald (j := a) hx hb hKv 0 (hP 1 _ rfl) rfl (rfl) (by omega) (by decide) d_M_rest_52 ?_
        refine fx_ti (y := o.1) (ka) ?_
        refine lv_aload_n hx hb d_M_rest_53 rfl (lv_at hl 0 rfl) ?_
        refine fx_get hx hb hown (kc_M hK _) hKv 2 (by decide) (hw _ mf_M_13) (fun _ h => h) (hP 0 _ rfl) rfl d_M_rest_54 ?_
        refine lv_iload_n hx hb d_M_rest_57 rfl (lv_at hl 1 rfl) ?_
        refine fx_iald (j := a) hx hb hKv 0 (hP 2 _ rfl) rfl (rfl) (by omega) (by decide) d_M_rest_58 ?_
        refine fx_ti (y := o.2.1) (fa) ?_
        refine m_rCreate hI hA (by omega) (o.1) (o.2.1) hx hfl hK hb (by rw [hml]; exact hl.1) hown (hw _ mm_M_53) ⟨Nat.le_of_ble_eq_true rfl, Nat.le_of_ble_eq_true rfl, Nat.le_of_ble_eq_true rfl, Nat.le_of_ble_eq_true rfl⟩ hP hS d_M_rest_59 (fun S2 hB hT1 H locs hP hS => ?_)
        have hT := hT1.trans hT
        refine lv_istore_n hx hb d_M_rest_62 rfl hl (by decide) rfl (fun ls hl => ?_)
        have hl : lv_has ls 3 [(2, .int (nI Vs.length)), (0, .ref (am 0)), (1, .int (nI a))] := hl
        obtain ⟨ka, fa, sa, qa, xa, ya⟩ := hB.2.2.1 a o ga
        have ka : S2.2.2.1 a = o.1 := ka
        have fa : S2.2.2.2.1 a = o.2.1 := fa
        have sa : S2.2.2.2.2.1 a = nI o.2.2.1.length := sa
        have la : o.2.2.1.length ≤ 100 := qa.1
        refine lv_aload_n hx hb d_M_rest_63 rfl (lv_at hl 1 rfl) ?_
        refine lv_iload_n hx hb d_M_rest_64 rfl (lv_at hl 2 rfl) ?_
        refine lv_iconst (v := nI 1) hx hb d_M_rest_65 rfl ?_
        refine lv_aload_n hx hb d_M_rest_66 rfl (lv_at hl 1 rfl) ?_
        refine fx_get hx hb hown (kc_M hK _) hKv 3 (by decide) (hw _ mf_M_16) (fun _ h => h) (hP 0 _ rfl) rfl d_M_rest_67 ?_
        refine lv_iload_n hx hb d_M_rest_70 rfl (lv_at hl 2 rfl) ?_
        refine fx_iald (j := a) hx hb hKv 0 (hP 3 _ rfl) rfl (rfl) (by omega) (by decide) d_M_rest_71 ?_
        refine fx_ti (y := nI o.2.2.1.length) (sa) ?_
        refine m_rAll hI hB (o := o) ga (by omega) (Nat.le_refl _) (by show 0 + (o.2.2.1.length - 1) ≤ 100; omega) (fun z => z) hx hfl hK hb (by rw [hml]; exact hl.1) hown (hw _ mm_M_63) ⟨Nat.le_of_ble_eq_true rfl, Nat.le_of_ble_eq_true rfl, Nat.le_of_ble_eq_true rfl, Nat.le_of_ble_eq_true rfl⟩ hP hS d_M_rest_72 (fun S3 hB hT1 H locs hP hS => ?_)
        have hT := hT1.trans hT
        have hF : mAbs S3 (Vs ++ [(o.1, o.2.1, o.2.2.1.drop 1, o.2.2.2)]) := by have := mB_done hB o.2.2.2 (fun z => absurd z n3) qa.2.2; simp only [List.nil_append, sv_cut_all] at this; exact this
        refine lv_iload_n hx hb d_M_rest_75 rfl (lv_at hl 0 rfl) ?_
        exact fx_iret hx hb hr hlk hS.2.2 (Nat.le_of_ble_eq_true rfl) (Nat.le_of_ble_eq_true rfl) d_M_rest_76 (⟨by rw [(show so_rest Vs (nI a) = sv_new Vs (o.1, o.2.1, o.2.2.1.drop 1, o.2.2.2) from by unfold so_rest; rw [ta]; dsimp only; rw [if_neg n3, if_neg h17, if_neg h30])]; exact rfl, S3, hP, by rw [(show so_rest Vs (nI a) = sv_new Vs (o.1, o.2.1, o.2.2.1.drop 1, o.2.2.2) from by unfold so_rest; rw [ta]; dsimp only; rw [if_neg n3, if_neg h17, if_neg h30])]; exact hF, by rw [(show so_rest Vs (nI a) = sv_new Vs (o.1, o.2.1, o.2.2.1.drop 1, o.2.2.2) from by unfold so_rest; rw [ta]; dsimp only; rw [if_neg n3, if_neg h17, if_neg h30])]; exact hT⟩)
      · have h30 : o.2.2.1.length = 0 := by rw [sa] at h30; exact (nI_eq (by omega) (by decide)).mp h30
        refine lv_iconst (v := nI 3) hx hb d_M_rest_33 rfl ?_
        refine lv_goto (tgt := 38) hx hb d_M_rest_34 rfl ?_
        refine m_rThr hI hA (nI 3) hx hfl hK hb (by rw [hml]; exact hl.1) hown (hw _ mm_M_50) ⟨Nat.le_of_ble_eq_true rfl, Nat.le_of_ble_eq_true rfl, Nat.le_of_ble_eq_true rfl, Nat.le_of_ble_eq_true rfl⟩ hP hS d_M_rest_38 (fun S1 hA hT H locs hP hS => ?_)
        have hn : S1.1 = nI Vs.length := hA.1
        refine lv_if_eq (tgt := 46) hx hb d_M_rest_41 rfl (fun h9 => absurd h9 (by rw [zI_t (by decide)]; decide)) (fun _ => ?_)
        refine lv_iconst (v := nI 0) hx hb d_M_rest_44 rfl ?_
        exact fx_iret hx hb hr hlk hS.2.2 (Nat.le_of_ble_eq_true rfl) (Nat.le_of_ble_eq_true rfl) d_M_rest_45 (⟨by rw [(show so_rest Vs (nI a) = (3, 0, Vs) from by unfold so_rest; rw [ta]; dsimp only; rw [if_neg n3, if_neg h17, if_pos h30])]; exact rfl, S1, hP, by rw [(show so_rest Vs (nI a) = (3, 0, Vs) from by unfold so_rest; rw [ta]; dsimp only; rw [if_neg n3, if_neg h17, if_pos h30])]; exact hA, by rw [(show so_rest Vs (nI a) = (3, 0, Vs) from by unfold so_rest; rw [ta]; dsimp only; rw [if_neg n3, if_neg h17, if_pos h30])]; exact hT⟩)
    · have h17 : 64 ≤ Vs.length := by have := zI_ne0.mp h17; rw [hn] at this; exact (nI_leI (by decide) (by omega)).mp this
      refine lv_iconst (v := nI 2) hx hb d_M_rest_20 rfl ?_
      refine lv_goto (tgt := 38) hx hb d_M_rest_21 rfl ?_
      refine m_rThr hI hA (nI 2) hx hfl hK hb (by rw [hml]; exact hl.1) hown (hw _ mm_M_50) ⟨Nat.le_of_ble_eq_true rfl, Nat.le_of_ble_eq_true rfl, Nat.le_of_ble_eq_true rfl, Nat.le_of_ble_eq_true rfl⟩ hP hS d_M_rest_38 (fun S1 hA hT H locs hP hS => ?_)
      have hn : S1.1 = nI Vs.length := hA.1
      refine lv_if_eq (tgt := 46) hx hb d_M_rest_41 rfl (fun h9 => absurd h9 (by rw [zI_t (by decide)]; decide)) (fun _ => ?_)
      refine lv_iconst (v := nI 0) hx hb d_M_rest_44 rfl ?_
      exact fx_iret hx hb hr hlk hS.2.2 (Nat.le_of_ble_eq_true rfl) (Nat.le_of_ble_eq_true rfl) d_M_rest_45 (⟨by rw [(show so_rest Vs (nI a) = (2, 0, Vs) from by unfold so_rest; rw [ta]; dsimp only; rw [if_neg n3, if_pos h17])]; exact rfl, S1, hP, by rw [(show so_rest Vs (nI a) = (2, 0, Vs) from by unfold so_rest; rw [ta]; dsimp only; rw [if_neg n3, if_pos h17])]; exact hA, by rw [(show so_rest Vs (nI a) = (2, 0, Vs) from by unfold so_rest; rw [ta]; dsimp only; rw [if_neg n3, if_pos h17])]; exact hT⟩)
  · have h6 := zI_eq0.mp h6
    have h6 : so_rest Vs v = (1, 0, Vs) := by
      by_cases hv : ¬ v < 0 ∧ v < nI Vs.length
      · obtain ⟨a, o, ea, ha, ga, ta⟩ := mAbs_at hA hv.1 hv.2
        have o3 : o.1 = 3 := Decidable.byContradiction (fun z => h6 ⟨hv, by rw [ea, nI_clamp (by omega)]; intro y; exact z ((hA.2.2.1 a o ga).1.symm.trans y)⟩)
        unfold so_rest; rw [ta]; dsimp only; rw [if_pos o3]
      · unfold so_rest; rw [mAbs_none hA hv]
    refine lv_iconst (v := nI 1) hx hb d_M_rest_9 rfl ?_
    refine lv_goto (tgt := 38) hx hb d_M_rest_10 rfl ?_
    refine m_rThr hI hA (nI 1) hx hfl hK hb (by rw [hml]; exact hl.1) hown (hw _ mm_M_50) ⟨Nat.le_of_ble_eq_true rfl, Nat.le_of_ble_eq_true rfl, Nat.le_of_ble_eq_true rfl, Nat.le_of_ble_eq_true rfl⟩ hP hS d_M_rest_38 (fun S1 hA hT H locs hP hS => ?_)
    have hn : S1.1 = nI Vs.length := hA.1
    refine lv_if_eq (tgt := 46) hx hb d_M_rest_41 rfl (fun h9 => absurd h9 (by rw [zI_t (by decide)]; decide)) (fun _ => ?_)
    refine lv_iconst (v := nI 0) hx hb d_M_rest_44 rfl ?_
    exact fx_iret hx hb hr hlk hS.2.2 (Nat.le_of_ble_eq_true rfl) (Nat.le_of_ble_eq_true rfl) d_M_rest_45 (⟨by rw [(show so_rest Vs v = (1, 0, Vs) from h6)]; exact rfl, S1, hP, by rw [(show so_rest Vs v = (1, 0, Vs) from h6)]; exact hA, by rw [(show so_rest Vs v = (1, 0, Vs) from h6)]; exact hT⟩)
set_option maxHeartbeats 4000000 in
set_option maxRecDepth 100000 in
theorem ct_M_add (w : Wd) (am : Nat → Nat) (hI : mI am) (Vs : List sV) (v x : Int32) : mApi w am y_M_add 5 (rmK 3) [.int v, .int x] Vs (so_add Vs v x) := by
  intro S hA
  have hn : S.1 = nI Vs.length := hA.1
  have hVl : Vs.length ≤ 64 := hA.2.1
  refine fx_of (ret := some .int) (cc := b_M_add) (fun s hK => hK.1 _ mk_M_add _) (Nat.le_of_ble_eq_true rfl) ?_
  intro p l e s m below meth c hx hfl hK hb hml hr hlk hnt hown hin hP ls hl
  have hw : ∀ z ∈ gw, z.before (.ref (am 0) :: [.int v, .int x] : List Value).toArray s = true := fun z hz => hK.1 z hz _
  have hKv := hK.2.1
  have hS : va_S (mA am) s.heap s.heap [] := va_S.rf
  have hP : va_P w.D cls (mw w am S) s.heap := hP
  have hl : lv_has ls 5 [(0, .ref (am 0)), (1, .int v), (2, .int x)] := hl
  refine lv_aload_n hx hb d_M_add_0 rfl (lv_at hl 0 rfl) ?_
  refine lv_aload_n hx hb d_M_add_1 rfl (lv_at hl 0 rfl) ?_
  refine lv_iload_n hx hb d_M_add_2 rfl (lv_at hl 1 rfl) ?_
  rw [show (mw w am S) = mw w am (nI Vs.length, S.2) by rw [← hn]] at hP
  refine m_cV (ct_M_isRow w am hI S.2.1 S.2.2.1 S.2.2.2.1 S.2.2.2.2.1 S.2.2.2.2.2.1 S.2.2.2.2.2.2.1 S.2.2.2.2.2.2.2 Vs.length v hVl) hx hfl hK hb (by rw [hml]; exact hl.1) hown (hw _ mm_M_57) (hw _ mk_M_isRow) (hw _ mi_M_isRow) (hw _ mq_M_isRow) (show fx_N y_M_isRow 1 by decide +kernel) rfl ⟨Nat.le_of_ble_eq_true rfl, Nat.le_of_ble_eq_true rfl, Nat.le_of_ble_eq_true rfl, Nat.le_of_ble_eq_true rfl⟩ hP hS d_M_add_3 (fun H locs hP hS => ?_)
  have hP : va_P w.D cls (mw w am S) H := by rw [show mw w am S = mw w am (nI Vs.length, S.2) by rw [← hn]]; exact hP
  refine lv_if_ne (tgt := 13) hx hb d_M_add_6 rfl (fun h6 => ?_) (fun h6 => ?_)
  · have h6 := zI_ne0.mp h6
    obtain ⟨a, o, ea, ha, ga, ta⟩ := mAbs_at hA h6.1.1 h6.1.2
    subst ea
    have ca : (nI a).toNatClampNeg = a := nI_clamp (by omega)
    have n3 : ¬ o.1 = 3 := fun z => h6.2 (by rw [ca]; exact (hA.2.2.1 a o ga).1.trans z)
    have hl : lv_has ls 5 [(0, .ref (am 0)), (1, .int (nI a)), (2, .int x)] := hl
    obtain ⟨ka, fa, sa, qa, xa, ya⟩ := hA.2.2.1 a o ga
    have ka : S.2.2.1 a = o.1 := ka
    have fa : S.2.2.2.1 a = o.2.1 := fa
    have sa : S.2.2.2.2.1 a = nI o.2.2.1.length := sa
    have la : o.2.2.1.length ≤ 100 := qa.1
    refine lv_aload_n hx hb d_M_add_13 rfl (lv_at hl 0 rfl) ?_
    refine m_cV (ct_M_isFull w am hI S.1 S.2.1 S.2.2.1 S.2.2.2.1 S.2.2.2.2.1 S.2.2.2.2.2.1 S.2.2.2.2.2.2.1 S.2.2.2.2.2.2.2) hx hfl hK hb (by rw [hml]; exact hl.1) hown (hw _ mm_M_46) (hw _ mk_M_isFull) (hw _ mi_M_isFull) (hw _ mq_M_isFull) (show fx_N y_M_isFull 0 by decide +kernel) rfl ⟨Nat.le_of_ble_eq_true rfl, Nat.le_of_ble_eq_true rfl, Nat.le_of_ble_eq_true rfl, Nat.le_of_ble_eq_true rfl⟩ hP hS d_M_add_14 (fun H locs hP hS => ?_)
    have hP : va_P w.D cls (mw w am S) H := hP
    refine lv_if_ne (tgt := 31) hx hb d_M_add_17 rfl (fun h17 => ?_) (fun h17 => ?_)
    · have h17 : 64 ≤ Vs.length := by have := zI_ne0.mp h17; rw [hn] at this; exact (nI_leI (by decide) (by omega)).mp this
      refine lv_iconst (v := nI 2) hx hb d_M_add_31 rfl ?_
      refine lv_goto (tgt := 36) hx hb d_M_add_32 rfl ?_
      refine m_rThr hI hA (nI 2) hx hfl hK hb (by rw [hml]; exact hl.1) hown (hw _ mm_M_50) ⟨Nat.le_of_ble_eq_true rfl, Nat.le_of_ble_eq_true rfl, Nat.le_of_ble_eq_true rfl, Nat.le_of_ble_eq_true rfl⟩ hP hS d_M_add_36 (fun S1 hA hT H locs hP hS => ?_)
      have hn : S1.1 = nI Vs.length := hA.1
      refine lv_if_eq (tgt := 44) hx hb d_M_add_39 rfl (fun h9 => absurd h9 (by rw [zI_t (by decide)]; decide)) (fun _ => ?_)
      refine lv_iconst (v := nI 0) hx hb d_M_add_42 rfl ?_
      exact fx_iret hx hb hr hlk hS.2.2 (Nat.le_of_ble_eq_true rfl) (Nat.le_of_ble_eq_true rfl) d_M_add_43 (⟨by rw [(show so_add Vs (nI a) x = (2, 0, Vs) from by unfold so_add; rw [ta]; dsimp only; rw [if_neg n3, if_pos (Or.inl h17)])]; exact rfl, S1, hP, by rw [(show so_add Vs (nI a) x = (2, 0, Vs) from by unfold so_add; rw [ta]; dsimp only; rw [if_neg n3, if_pos (Or.inl h17)])]; exact hA, by rw [(show so_add Vs (nI a) x = (2, 0, Vs) from by unfold so_add; rw [ta]; dsimp only; rw [if_neg n3, if_pos (Or.inl h17)])]; exact hT⟩)
    · have h17 : ¬ 64 ≤ Vs.length := fun z => zI_eq0.mp h17 (by rw [hn]; exact nI_le z (by omega))
      refine lv_aload_n hx hb d_M_add_20 rfl (lv_at hl 0 rfl) ?_
      refine fx_get hx hb hown (kc_M hK _) hKv 3 (by decide) (hw _ mf_M_16) (fun _ h => h) (hP 0 _ rfl) rfl d_M_add_21 ?_
      refine lv_iload_n hx hb d_M_add_24 rfl (lv_at hl 1 rfl) ?_
      refine fx_iald (j := a) hx hb hKv 0 (hP 3 _ rfl) rfl (rfl) (by omega) (by decide) d_M_add_25 ?_
      refine lv_bipush (v := nI 100) hx hb d_M_add_26 rfl ?_
      refine lv_icmp_lt (tgt := 35) hx hb d_M_add_28 rfl (fun h28 => ?_) (fun h28 => ?_)
      · have h28 : o.2.2.1.length < 100 := by rw [sa] at h28; exact (nI_ltI (by omega) (by decide)).mp h28
        refine lv_iconst (v := nI 0) hx hb d_M_add_35 rfl ?_
        refine m_rThr hI hA (nI 0) hx hfl hK hb (by rw [hml]; exact hl.1) hown (hw _ mm_M_50) ⟨Nat.le_of_ble_eq_true rfl, Nat.le_of_ble_eq_true rfl, Nat.le_of_ble_eq_true rfl, Nat.le_of_ble_eq_true rfl⟩ hP hS d_M_add_36 (fun S1 hA hT H locs hP hS => ?_)
        have hn : S1.1 = nI Vs.length := hA.1
        refine lv_if_eq (tgt := 44) hx hb d_M_add_39 rfl (fun _ => ?_) (fun h9 => absurd (zI_f (by decide)) h9)
        obtain ⟨ka, fa, sa, qa, xa, ya⟩ := hA.2.2.1 a o ga
        have ka : S1.2.2.1 a = o.1 := ka
        have fa : S1.2.2.2.1 a = o.2.1 := fa
        have sa : S1.2.2.2.2.1 a = nI o.2.2.1.length := sa
        have la : o.2.2.1.length ≤ 100 := qa.1
        refine lv_aload_n hx hb d_M_add_44 rfl (lv_at hl 0 rfl) ?_
        refine lv_aload_n hx hb d_M_add_45 rfl (lv_at hl 0 rfl) ?_
        refine fx_get hx hb hown (kc_M hK _) hKv 1 (by decide) (hw _ mf_M_7) (fun _ h => h) (hP 0 _ rfl) rfl d_M_add_46 ?_
        refine lv_iload_n hx hb d_M_add_49 rfl (lv_at hl 1 rfl) ?_
        refine fx_iald (j := a) hx hb hKv 0 (hP 1 _ rfl) rfl (rfl) (by omega) (by decide) d_M_add_50 ?_
        refine fx_ti (y := o.1) (ka) ?_
        refine lv_aload_n hx hb d_M_add_51 rfl (lv_at hl 0 rfl) ?_
        refine fx_get hx hb hown (kc_M hK _) hKv 2 (by decide) (hw _ mf_M_13) (fun _ h => h) (hP 0 _ rfl) rfl d_M_add_52 ?_
        refine lv_iload_n hx hb d_M_add_55 rfl (lv_at hl 1 rfl) ?_
        refine fx_iald (j := a) hx hb hKv 0 (hP 2 _ rfl) rfl (rfl) (by omega) (by decide) d_M_add_56 ?_
        refine fx_ti (y := o.2.1) (fa) ?_
        refine m_rCreate hI hA (by omega) (o.1) (o.2.1) hx hfl hK hb (by rw [hml]; exact hl.1) hown (hw _ mm_M_53) ⟨Nat.le_of_ble_eq_true rfl, Nat.le_of_ble_eq_true rfl, Nat.le_of_ble_eq_true rfl, Nat.le_of_ble_eq_true rfl⟩ hP hS d_M_add_57 (fun S2 hB hT1 H locs hP hS => ?_)
        have hT := hT1.trans hT
        refine lv_istore_n hx hb d_M_add_60 rfl hl (by decide) rfl (fun ls hl => ?_)
        have hl : lv_has ls 5 [(3, .int (nI Vs.length)), (0, .ref (am 0)), (1, .int (nI a)), (2, .int x)] := hl
        obtain ⟨ka, fa, sa, qa, xa, ya⟩ := hB.2.2.1 a o ga
        have ka : S2.2.2.1 a = o.1 := ka
        have fa : S2.2.2.2.1 a = o.2.1 := fa
        have sa : S2.2.2.2.2.1 a = nI o.2.2.1.length := sa
        have la : o.2.2.1.length ≤ 100 := qa.1
        refine lv_aload_n hx hb d_M_add_61 rfl (lv_at hl 1 rfl) ?_
        refine fx_get hx hb hown (kc_M hK _) hKv 1 (by decide) (hw _ mf_M_7) (fun _ h => h) (hP 0 _ rfl) rfl d_M_add_62 ?_
        refine lv_iload_n hx hb d_M_add_65 rfl (lv_at hl 2 rfl) ?_
        refine fx_iald (j := a) hx hb hKv 0 (hP 1 _ rfl) rfl (rfl) (by omega) (by decide) d_M_add_66 ?_
        refine lv_iconst (v := nI 1) hx hb d_M_add_67 rfl ?_
        refine lv_icmp_ne (tgt := 80) hx hb d_M_add_68 rfl (fun h68 => ?_) (fun h68 => ?_)
        · have h68 : ¬ o.1 = 1 := by rw [ka] at h68; exact h68
          refine lv_aload_n hx hb d_M_add_80 rfl (lv_at hl 1 rfl) ?_
          refine fx_get hx hb hown (kc_M hK _) hKv 1 (by decide) (hw _ mf_M_7) (fun _ h => h) (hP 0 _ rfl) rfl d_M_add_81 ?_
          refine lv_iload_n hx hb d_M_add_84 rfl (lv_at hl 2 rfl) ?_
          refine fx_iald (j := a) hx hb hKv 0 (hP 1 _ rfl) rfl (rfl) (by omega) (by decide) d_M_add_85 ?_
          refine lv_iconst (v := nI 2) hx hb d_M_add_86 rfl ?_
          refine lv_icmp_ne (tgt := 94) hx hb d_M_add_87 rfl (fun h87 => ?_) (fun h87 => ?_)
          · have h87 : ¬ o.1 = 2 := by rw [ka] at h87; exact h87
            refine lv_aload_n hx hb d_M_add_94 rfl (lv_at hl 1 rfl) ?_
            refine fx_get hx hb hown (kc_M hK _) hKv 3 (by decide) (hw _ mf_M_16) (fun _ h => h) (hP 0 _ rfl) rfl d_M_add_95 ?_
            refine lv_iload_n hx hb d_M_add_98 rfl (lv_at hl 2 rfl) ?_
            refine fx_iald (j := a) hx hb hKv 0 (hP 3 _ rfl) rfl (rfl) (by omega) (by decide) d_M_add_99 ?_
            refine fx_ti (y := nI o.2.2.1.length) (sa) ?_
            have hp : sv_plc o x = o.2.2.1.length := by unfold sv_plc; rw [if_neg h87, if_neg h68]
            have hPl : o.2.2.1.length ≤ o.2.2.1.length := Nat.le_refl _
            refine lv_istore hx hb d_M_add_100 hl (by decide) rfl (fun ls hl => ?_)
            have hl : lv_has ls 5 [(4, .int (nI o.2.2.1.length)), (3, .int (nI Vs.length)), (0, .ref (am 0)), (1, .int (nI a)), (2, .int x)] := hl
            refine lv_aload_n hx hb d_M_add_102 rfl (lv_at hl 2 rfl) ?_
            refine lv_iload_n hx hb d_M_add_103 rfl (lv_at hl 3 rfl) ?_
            refine lv_iconst (v := nI 0) hx hb d_M_add_104 rfl ?_
            refine lv_iload hx hb d_M_add_105 (lv_at hl 0 rfl) ?_
            refine m_rAll hI hB (o := o) ga (Nat.zero_le _) (hPl) (by show 0 + (o.2.2.1.length - 0) ≤ 100; omega) (fun z => z) hx hfl hK hb (by rw [hml]; exact hl.1) hown (hw _ mm_M_63) ⟨Nat.le_of_ble_eq_true rfl, Nat.le_of_ble_eq_true rfl, Nat.le_of_ble_eq_true rfl, Nat.le_of_ble_eq_true rfl⟩ hP hS d_M_add_107 (fun S3 hB hT1 H locs hP hS => ?_)
            have hT := hT1.trans hT
            simp only [List.nil_append, sv_cut_0] at hB
            refine lv_aload_n hx hb d_M_add_110 rfl (lv_at hl 2 rfl) ?_
            refine lv_iconst (v := nI 0) hx hb d_M_add_111 rfl ?_
            refine lv_iload_n hx hb d_M_add_112 rfl (lv_at hl 4 rfl) ?_
            refine m_rPut hI hB (by rw [List.length_take]; omega) (nI 0) x hx hfl hK hb (by rw [hml]; exact hl.1) hown (hw _ mm_M_42) ⟨Nat.le_of_ble_eq_true rfl, Nat.le_of_ble_eq_true rfl, Nat.le_of_ble_eq_true rfl, Nat.le_of_ble_eq_true rfl⟩ hP hS d_M_add_113 (fun S4 hB hT1 H locs hP hS => ?_)
            have hT := hT1.trans hT
            refine lv_aload_n hx hb d_M_add_116 rfl (lv_at hl 2 rfl) ?_
            refine lv_iload_n hx hb d_M_add_117 rfl (lv_at hl 3 rfl) ?_
            refine lv_iload hx hb d_M_add_118 (lv_at hl 0 rfl) ?_
            refine lv_aload_n hx hb d_M_add_120 rfl (lv_at hl 2 rfl) ?_
            refine fx_get hx hb hown (kc_M hK _) hKv 3 (by decide) (hw _ mf_M_16) (fun _ h => h) (hP 0 _ rfl) rfl d_M_add_121 ?_
            refine lv_iload_n hx hb d_M_add_124 rfl (lv_at hl 3 rfl) ?_
            refine fx_iald (j := a) hx hb hKv 0 (hP 3 _ rfl) rfl (rfl) (by omega) (by decide) d_M_add_125 ?_
            obtain ⟨ka, fa, sa, qa, xa, ya⟩ := hB.2.2.1 a o ga
            have ka : S4.2.2.1 a = o.1 := ka
            have fa : S4.2.2.2.1 a = o.2.1 := fa
            have sa : S4.2.2.2.2.1 a = nI o.2.2.1.length := sa
            have la : o.2.2.1.length ≤ 100 := qa.1
            refine fx_ti (y := nI o.2.2.1.length) (sa) ?_
            refine m_rAll hI hB (o := o) ga (hPl) (Nat.le_refl _) (by simp only [List.length_append, List.length_take, List.length_singleton]; omega) (fun z => z) hx hfl hK hb (by rw [hml]; exact hl.1) hown (hw _ mm_M_63) ⟨Nat.le_of_ble_eq_true rfl, Nat.le_of_ble_eq_true rfl, Nat.le_of_ble_eq_true rfl, Nat.le_of_ble_eq_true rfl⟩ hP hS d_M_add_126 (fun S5 hB hT1 H locs hP hS => ?_)
            have hT := hT1.trans hT
            have hF : mAbs S5 (Vs ++ [(o.1, o.2.1, sv_ins o.2.2.1 (o.2.2.1.length) x, o.2.2.2)]) := by have := mB_done hB o.2.2.2 (fun z => absurd z n3) qa.2.2; simp only [sv_cut_all, List.append_assoc, List.singleton_append] at this; exact this
            refine lv_iload_n hx hb d_M_add_129 rfl (lv_at hl 1 rfl) ?_
            exact fx_iret hx hb hr hlk hS.2.2 (Nat.le_of_ble_eq_true rfl) (Nat.le_of_ble_eq_true rfl) d_M_add_130 (⟨by rw [(show so_add Vs (nI a) x = sv_new Vs (o.1, o.2.1, sv_ins o.2.2.1 (o.2.2.1.length) x, o.2.2.2) from by unfold so_add; rw [ta]; dsimp only; rw [if_neg n3, if_neg (fun z => z.elim h17 (by omega)), hp])]; exact rfl, S5, hP, by rw [(show so_add Vs (nI a) x = sv_new Vs (o.1, o.2.1, sv_ins o.2.2.1 (o.2.2.1.length) x, o.2.2.2) from by unfold so_add; rw [ta]; dsimp only; rw [if_neg n3, if_neg (fun z => z.elim h17 (by omega)), hp])]; exact hF, by rw [(show so_add Vs (nI a) x = sv_new Vs (o.1, o.2.1, sv_ins o.2.2.1 (o.2.2.1.length) x, o.2.2.2) from by unfold so_add; rw [ta]; dsimp only; rw [if_neg n3, if_neg (fun z => z.elim h17 (by omega)), hp])]; exact hT⟩)
          · have h87 : o.1 = 2 := by rw [ka] at h87; exact h87
            have hp : sv_plc o x = 0 := by unfold sv_plc; rw [if_pos h87]
            have hPl : 0 ≤ o.2.2.1.length := Nat.zero_le _
            refine lv_iconst (v := nI 0) hx hb d_M_add_90 rfl ?_
            refine lv_goto (tgt := 100) hx hb d_M_add_91 rfl ?_
            refine lv_istore hx hb d_M_add_100 hl (by decide) rfl (fun ls hl => ?_)
            have hl : lv_has ls 5 [(4, .int (nI 0)), (3, .int (nI Vs.length)), (0, .ref (am 0)), (1, .int (nI a)), (2, .int x)] := hl
            refine lv_aload_n hx hb d_M_add_102 rfl (lv_at hl 2 rfl) ?_
            refine lv_iload_n hx hb d_M_add_103 rfl (lv_at hl 3 rfl) ?_
            refine lv_iconst (v := nI 0) hx hb d_M_add_104 rfl ?_
            refine lv_iload hx hb d_M_add_105 (lv_at hl 0 rfl) ?_
            refine m_rAll hI hB (o := o) ga (Nat.zero_le _) (hPl) (by show 0 + (0 - 0) ≤ 100; omega) (fun z => z) hx hfl hK hb (by rw [hml]; exact hl.1) hown (hw _ mm_M_63) ⟨Nat.le_of_ble_eq_true rfl, Nat.le_of_ble_eq_true rfl, Nat.le_of_ble_eq_true rfl, Nat.le_of_ble_eq_true rfl⟩ hP hS d_M_add_107 (fun S3 hB hT1 H locs hP hS => ?_)
            have hT := hT1.trans hT
            simp only [List.nil_append, sv_cut_0] at hB
            refine lv_aload_n hx hb d_M_add_110 rfl (lv_at hl 2 rfl) ?_
            refine lv_iconst (v := nI 0) hx hb d_M_add_111 rfl ?_
            refine lv_iload_n hx hb d_M_add_112 rfl (lv_at hl 4 rfl) ?_
            refine m_rPut hI hB (by rw [List.length_take]; omega) (nI 0) x hx hfl hK hb (by rw [hml]; exact hl.1) hown (hw _ mm_M_42) ⟨Nat.le_of_ble_eq_true rfl, Nat.le_of_ble_eq_true rfl, Nat.le_of_ble_eq_true rfl, Nat.le_of_ble_eq_true rfl⟩ hP hS d_M_add_113 (fun S4 hB hT1 H locs hP hS => ?_)
            have hT := hT1.trans hT
            refine lv_aload_n hx hb d_M_add_116 rfl (lv_at hl 2 rfl) ?_
            refine lv_iload_n hx hb d_M_add_117 rfl (lv_at hl 3 rfl) ?_
            refine lv_iload hx hb d_M_add_118 (lv_at hl 0 rfl) ?_
            refine lv_aload_n hx hb d_M_add_120 rfl (lv_at hl 2 rfl) ?_
            refine fx_get hx hb hown (kc_M hK _) hKv 3 (by decide) (hw _ mf_M_16) (fun _ h => h) (hP 0 _ rfl) rfl d_M_add_121 ?_
            refine lv_iload_n hx hb d_M_add_124 rfl (lv_at hl 3 rfl) ?_
            refine fx_iald (j := a) hx hb hKv 0 (hP 3 _ rfl) rfl (rfl) (by omega) (by decide) d_M_add_125 ?_
            obtain ⟨ka, fa, sa, qa, xa, ya⟩ := hB.2.2.1 a o ga
            have ka : S4.2.2.1 a = o.1 := ka
            have fa : S4.2.2.2.1 a = o.2.1 := fa
            have sa : S4.2.2.2.2.1 a = nI o.2.2.1.length := sa
            have la : o.2.2.1.length ≤ 100 := qa.1
            refine fx_ti (y := nI o.2.2.1.length) (sa) ?_
            refine m_rAll hI hB (o := o) ga (hPl) (Nat.le_refl _) (by simp only [List.length_append, List.length_take, List.length_singleton]; omega) (fun z => z) hx hfl hK hb (by rw [hml]; exact hl.1) hown (hw _ mm_M_63) ⟨Nat.le_of_ble_eq_true rfl, Nat.le_of_ble_eq_true rfl, Nat.le_of_ble_eq_true rfl, Nat.le_of_ble_eq_true rfl⟩ hP hS d_M_add_126 (fun S5 hB hT1 H locs hP hS => ?_)
            have hT := hT1.trans hT
            have hF : mAbs S5 (Vs ++ [(o.1, o.2.1, sv_ins o.2.2.1 (0) x, o.2.2.2)]) := by have := mB_done hB o.2.2.2 (fun z => absurd z n3) qa.2.2; simp only [sv_cut_all, List.append_assoc, List.singleton_append] at this; exact this
            refine lv_iload_n hx hb d_M_add_129 rfl (lv_at hl 1 rfl) ?_
            exact fx_iret hx hb hr hlk hS.2.2 (Nat.le_of_ble_eq_true rfl) (Nat.le_of_ble_eq_true rfl) d_M_add_130 (⟨by rw [(show so_add Vs (nI a) x = sv_new Vs (o.1, o.2.1, sv_ins o.2.2.1 (0) x, o.2.2.2) from by unfold so_add; rw [ta]; dsimp only; rw [if_neg n3, if_neg (fun z => z.elim h17 (by omega)), hp])]; exact rfl, S5, hP, by rw [(show so_add Vs (nI a) x = sv_new Vs (o.1, o.2.1, sv_ins o.2.2.1 (0) x, o.2.2.2) from by unfold so_add; rw [ta]; dsimp only; rw [if_neg n3, if_neg (fun z => z.elim h17 (by omega)), hp])]; exact hF, by rw [(show so_add Vs (nI a) x = sv_new Vs (o.1, o.2.1, sv_ins o.2.2.1 (0) x, o.2.2.2) from by unfold so_add; rw [ta]; dsimp only; rw [if_neg n3, if_neg (fun z => z.elim h17 (by omega)), hp])]; exact hT⟩)
        · have h68 : o.1 = 1 := by rw [ka] at h68; exact h68
          refine lv_aload_n hx hb d_M_add_71 rfl (lv_at hl 1 rfl) ?_
          refine lv_iload_n hx hb d_M_add_72 rfl (lv_at hl 2 rfl) ?_
          refine lv_iload_n hx hb d_M_add_73 rfl (lv_at hl 3 rfl) ?_
          have hp : sv_plc o x = sv_cb o.2.2.1 x := by unfold sv_plc; rw [if_neg (by rw [h68]; decide), if_pos h68]
          have hPl : sv_cb o.2.2.1 x ≤ o.2.2.1.length := sv_cb_le _ _
          refine m_cV (ct_M_below w am hI S2.1 S2.2.1 S2.2.2.1 S2.2.2.2.1 S2.2.2.2.2.1 S2.2.2.2.2.2.1 S2.2.2.2.2.2.2.1 S2.2.2.2.2.2.2.2 a o.2.2.1 x (by omega) la sa xa) hx hfl hK hb (by rw [hml]; exact hl.1) hown (hw _ mm_M_60) (hw _ mk_M_below) (hw _ mi_M_below) (hw _ mq_M_below) (show fx_N y_M_below 2 by decide +kernel) rfl ⟨Nat.le_of_ble_eq_true rfl, Nat.le_of_ble_eq_true rfl, Nat.le_of_ble_eq_true rfl, Nat.le_of_ble_eq_true rfl⟩ hP hS d_M_add_74 (fun H locs hP hS => ?_)
          have hP : va_P w.D cls (mw w am S2) H := hP
          refine lv_goto (tgt := 100) hx hb d_M_add_77 rfl ?_
          refine lv_istore hx hb d_M_add_100 hl (by decide) rfl (fun ls hl => ?_)
          have hl : lv_has ls 5 [(4, .int (nI (sv_cb o.2.2.1 x))), (3, .int (nI Vs.length)), (0, .ref (am 0)), (1, .int (nI a)), (2, .int x)] := hl
          refine lv_aload_n hx hb d_M_add_102 rfl (lv_at hl 2 rfl) ?_
          refine lv_iload_n hx hb d_M_add_103 rfl (lv_at hl 3 rfl) ?_
          refine lv_iconst (v := nI 0) hx hb d_M_add_104 rfl ?_
          refine lv_iload hx hb d_M_add_105 (lv_at hl 0 rfl) ?_
          refine m_rAll hI hB (o := o) ga (Nat.zero_le _) (hPl) (by show 0 + (sv_cb o.2.2.1 x - 0) ≤ 100; omega) (fun z => z) hx hfl hK hb (by rw [hml]; exact hl.1) hown (hw _ mm_M_63) ⟨Nat.le_of_ble_eq_true rfl, Nat.le_of_ble_eq_true rfl, Nat.le_of_ble_eq_true rfl, Nat.le_of_ble_eq_true rfl⟩ hP hS d_M_add_107 (fun S3 hB hT1 H locs hP hS => ?_)
          have hT := hT1.trans hT
          simp only [List.nil_append, sv_cut_0] at hB
          refine lv_aload_n hx hb d_M_add_110 rfl (lv_at hl 2 rfl) ?_
          refine lv_iconst (v := nI 0) hx hb d_M_add_111 rfl ?_
          refine lv_iload_n hx hb d_M_add_112 rfl (lv_at hl 4 rfl) ?_
          refine m_rPut hI hB (by rw [List.length_take]; omega) (nI 0) x hx hfl hK hb (by rw [hml]; exact hl.1) hown (hw _ mm_M_42) ⟨Nat.le_of_ble_eq_true rfl, Nat.le_of_ble_eq_true rfl, Nat.le_of_ble_eq_true rfl, Nat.le_of_ble_eq_true rfl⟩ hP hS d_M_add_113 (fun S4 hB hT1 H locs hP hS => ?_)
          have hT := hT1.trans hT
          refine lv_aload_n hx hb d_M_add_116 rfl (lv_at hl 2 rfl) ?_
          refine lv_iload_n hx hb d_M_add_117 rfl (lv_at hl 3 rfl) ?_
          refine lv_iload hx hb d_M_add_118 (lv_at hl 0 rfl) ?_
          refine lv_aload_n hx hb d_M_add_120 rfl (lv_at hl 2 rfl) ?_
          refine fx_get hx hb hown (kc_M hK _) hKv 3 (by decide) (hw _ mf_M_16) (fun _ h => h) (hP 0 _ rfl) rfl d_M_add_121 ?_
          refine lv_iload_n hx hb d_M_add_124 rfl (lv_at hl 3 rfl) ?_
          refine fx_iald (j := a) hx hb hKv 0 (hP 3 _ rfl) rfl (rfl) (by omega) (by decide) d_M_add_125 ?_
          obtain ⟨ka, fa, sa, qa, xa, ya⟩ := hB.2.2.1 a o ga
          have ka : S4.2.2.1 a = o.1 := ka
          have fa : S4.2.2.2.1 a = o.2.1 := fa
          have sa : S4.2.2.2.2.1 a = nI o.2.2.1.length := sa
          have la : o.2.2.1.length ≤ 100 := qa.1
          refine fx_ti (y := nI o.2.2.1.length) (sa) ?_
          refine m_rAll hI hB (o := o) ga (hPl) (Nat.le_refl _) (by simp only [List.length_append, List.length_take, List.length_singleton]; omega) (fun z => z) hx hfl hK hb (by rw [hml]; exact hl.1) hown (hw _ mm_M_63) ⟨Nat.le_of_ble_eq_true rfl, Nat.le_of_ble_eq_true rfl, Nat.le_of_ble_eq_true rfl, Nat.le_of_ble_eq_true rfl⟩ hP hS d_M_add_126 (fun S5 hB hT1 H locs hP hS => ?_)
          have hT := hT1.trans hT
          have hF : mAbs S5 (Vs ++ [(o.1, o.2.1, sv_ins o.2.2.1 (sv_cb o.2.2.1 x) x, o.2.2.2)]) := by have := mB_done hB o.2.2.2 (fun z => absurd z n3) qa.2.2; simp only [sv_cut_all, List.append_assoc, List.singleton_append] at this; exact this
          refine lv_iload_n hx hb d_M_add_129 rfl (lv_at hl 1 rfl) ?_
          exact fx_iret hx hb hr hlk hS.2.2 (Nat.le_of_ble_eq_true rfl) (Nat.le_of_ble_eq_true rfl) d_M_add_130 (⟨by rw [(show so_add Vs (nI a) x = sv_new Vs (o.1, o.2.1, sv_ins o.2.2.1 (sv_cb o.2.2.1 x) x, o.2.2.2) from by unfold so_add; rw [ta]; dsimp only; rw [if_neg n3, if_neg (fun z => z.elim h17 (by omega)), hp])]; exact rfl, S5, hP, by rw [(show so_add Vs (nI a) x = sv_new Vs (o.1, o.2.1, sv_ins o.2.2.1 (sv_cb o.2.2.1 x) x, o.2.2.2) from by unfold so_add; rw [ta]; dsimp only; rw [if_neg n3, if_neg (fun z => z.elim h17 (by omega)), hp])]; exact hF, by rw [(show so_add Vs (nI a) x = sv_new Vs (o.1, o.2.1, sv_ins o.2.2.1 (sv_cb o.2.2.1 x) x, o.2.2.2) from by unfold so_add; rw [ta]; dsimp only; rw [if_neg n3, if_neg (fun z => z.elim h17 (by omega)), hp])]; exact hT⟩)
      · have h28 : 100 ≤ o.2.2.1.length := by rw [sa] at h28; exact Nat.not_lt.mp (fun z => h28 (nI_lt z (by decide)))
        refine lv_iconst (v := nI 2) hx hb d_M_add_31 rfl ?_
        refine lv_goto (tgt := 36) hx hb d_M_add_32 rfl ?_
        refine m_rThr hI hA (nI 2) hx hfl hK hb (by rw [hml]; exact hl.1) hown (hw _ mm_M_50) ⟨Nat.le_of_ble_eq_true rfl, Nat.le_of_ble_eq_true rfl, Nat.le_of_ble_eq_true rfl, Nat.le_of_ble_eq_true rfl⟩ hP hS d_M_add_36 (fun S1 hA hT H locs hP hS => ?_)
        have hn : S1.1 = nI Vs.length := hA.1
        refine lv_if_eq (tgt := 44) hx hb d_M_add_39 rfl (fun h9 => absurd h9 (by rw [zI_t (by decide)]; decide)) (fun _ => ?_)
        refine lv_iconst (v := nI 0) hx hb d_M_add_42 rfl ?_
        exact fx_iret hx hb hr hlk hS.2.2 (Nat.le_of_ble_eq_true rfl) (Nat.le_of_ble_eq_true rfl) d_M_add_43 (⟨by rw [(show so_add Vs (nI a) x = (2, 0, Vs) from by unfold so_add; rw [ta]; dsimp only; rw [if_neg n3, if_pos (Or.inr h28)])]; exact rfl, S1, hP, by rw [(show so_add Vs (nI a) x = (2, 0, Vs) from by unfold so_add; rw [ta]; dsimp only; rw [if_neg n3, if_pos (Or.inr h28)])]; exact hA, by rw [(show so_add Vs (nI a) x = (2, 0, Vs) from by unfold so_add; rw [ta]; dsimp only; rw [if_neg n3, if_pos (Or.inr h28)])]; exact hT⟩)
  · have h6 := zI_eq0.mp h6
    have h6 : so_add Vs v x = (1, 0, Vs) := by
      by_cases hv : ¬ v < 0 ∧ v < nI Vs.length
      · obtain ⟨a, o, ea, ha, ga, ta⟩ := mAbs_at hA hv.1 hv.2
        have o3 : o.1 = 3 := Decidable.byContradiction (fun z => h6 ⟨hv, by rw [ea, nI_clamp (by omega)]; intro y; exact z ((hA.2.2.1 a o ga).1.symm.trans y)⟩)
        unfold so_add; rw [ta]; dsimp only; rw [if_pos o3]
      · unfold so_add; rw [mAbs_none hA hv]
    refine lv_iconst (v := nI 1) hx hb d_M_add_9 rfl ?_
    refine lv_goto (tgt := 36) hx hb d_M_add_10 rfl ?_
    refine m_rThr hI hA (nI 1) hx hfl hK hb (by rw [hml]; exact hl.1) hown (hw _ mm_M_50) ⟨Nat.le_of_ble_eq_true rfl, Nat.le_of_ble_eq_true rfl, Nat.le_of_ble_eq_true rfl, Nat.le_of_ble_eq_true rfl⟩ hP hS d_M_add_36 (fun S1 hA hT H locs hP hS => ?_)
    have hn : S1.1 = nI Vs.length := hA.1
    refine lv_if_eq (tgt := 44) hx hb d_M_add_39 rfl (fun h9 => absurd h9 (by rw [zI_t (by decide)]; decide)) (fun _ => ?_)
    refine lv_iconst (v := nI 0) hx hb d_M_add_42 rfl ?_
    exact fx_iret hx hb hr hlk hS.2.2 (Nat.le_of_ble_eq_true rfl) (Nat.le_of_ble_eq_true rfl) d_M_add_43 (⟨by rw [(show so_add Vs v x = (1, 0, Vs) from h6)]; exact rfl, S1, hP, by rw [(show so_add Vs v x = (1, 0, Vs) from h6)]; exact hA, by rw [(show so_add Vs v x = (1, 0, Vs) from h6)]; exact hT⟩)
end
section
set_option maxHeartbeats 4000000 in
set_option maxRecDepth 100000 in
theorem ct_M_update (w : Wd) (am : Nat → Nat) (hI : mI am) (Vs : List sV) (v i x : Int32) : mApi w am y_M_update 6 (rmK 3) [.int v, .int i, .int x] Vs (so_update Vs v i x) := by
  intro S hA
  have hn : S.1 = nI Vs.length := hA.1
  have hVl : Vs.length ≤ 64 := hA.2.1
  refine fx_of (ret := some .int) (cc := b_M_update) (fun s hK => hK.1 _ mk_M_update _) (Nat.le_of_ble_eq_true rfl) ?_
  intro p l e s m below meth c hx hfl hK hb hml hr hlk hnt hown hin hP ls hl
  have hw : ∀ z ∈ gw, z.before (.ref (am 0) :: [.int v, .int i, .int x] : List Value).toArray s = true := fun z hz => hK.1 z hz _
  have hKv := hK.2.1
  have hS : va_S (mA am) s.heap s.heap [] := va_S.rf
  have hP : va_P w.D cls (mw w am S) s.heap := hP
  have hl : lv_has ls 6 [(0, .ref (am 0)), (1, .int v), (2, .int i), (3, .int x)] := hl
  refine lv_aload_n hx hb d_M_update_0 rfl (lv_at hl 0 rfl) ?_
  refine lv_iload_n hx hb d_M_update_1 rfl (lv_at hl 1 rfl) ?_
  refine m_cV (ct_M_is w am hI S.1 S.2.1 S.2.2.1 S.2.2.2.1 S.2.2.2.2.1 S.2.2.2.2.2.1 S.2.2.2.2.2.2.1 S.2.2.2.2.2.2.2 v) hx hfl hK hb (by rw [hml]; exact hl.1) hown (hw _ mm_M_35) (hw _ mk_M_is) (hw _ mi_M_is) (hw _ mq_M_is) (show fx_N y_M_is 1 by decide +kernel) rfl ⟨Nat.le_of_ble_eq_true rfl, Nat.le_of_ble_eq_true rfl, Nat.le_of_ble_eq_true rfl, Nat.le_of_ble_eq_true rfl⟩ hP hS d_M_update_2 (fun H locs hP hS => ?_)
  have hP : va_P w.D cls (mw w am S) H := hP
  refine lv_if_eq (tgt := 22) hx hb d_M_update_5 rfl (fun h5 => ?_) (fun h5 => ?_)
  · have h5 := zI_eq0.mp h5
    rw [hn] at h5
    have hz : so_update Vs v i x = (1, 0, Vs) := by unfold so_update; rw [mAbs_none hA h5]
    refine lv_iconst (v := nI 0) hx hb d_M_update_22 rfl ?_
    refine lv_istore hx hb d_M_update_23 hl (by decide) rfl (fun ls hl => ?_)
    have hl : lv_has ls 6 [(4, .int (nI 0)), (0, .ref (am 0)), (1, .int v), (2, .int i), (3, .int x)] := hl
    refine lv_aload_n hx hb d_M_update_25 rfl (lv_at hl 1 rfl) ?_
    refine lv_iload hx hb d_M_update_26 (lv_at hl 0 rfl) ?_
    refine lv_if_ne (tgt := 35) hx hb d_M_update_28 rfl (fun h9 => absurd rfl h9) (fun _ => ?_)
    refine lv_iconst (v := nI 1) hx hb d_M_update_31 rfl ?_
    refine lv_goto (tgt := 65) hx hb d_M_update_32 rfl ?_
    refine m_rThr hI hA (nI 1) hx hfl hK hb (by rw [hml]; exact hl.1) hown (hw _ mm_M_50) ⟨Nat.le_of_ble_eq_true rfl, Nat.le_of_ble_eq_true rfl, Nat.le_of_ble_eq_true rfl, Nat.le_of_ble_eq_true rfl⟩ hP hS d_M_update_65 (fun S1 hA hT H locs hP hS => ?_)
    have hn : S1.1 = nI Vs.length := hA.1
    refine lv_if_eq (tgt := 73) hx hb d_M_update_68 rfl (fun h9 => absurd h9 (by rw [zI_t (by decide)]; decide)) (fun _ => ?_)
    refine lv_iconst (v := nI 0) hx hb d_M_update_71 rfl ?_
    exact fx_iret hx hb hr hlk hS.2.2 (Nat.le_of_ble_eq_true rfl) (Nat.le_of_ble_eq_true rfl) d_M_update_72 (⟨by rw [(show so_update Vs v i x = (1, 0, Vs) from hz)]; exact rfl, S1, hP, by rw [(show so_update Vs v i x = (1, 0, Vs) from hz)]; exact hA, by rw [(show so_update Vs v i x = (1, 0, Vs) from hz)]; exact hT⟩)
  · have h5 := zI_ne0.mp h5
    rw [hn] at h5
    obtain ⟨a, o, ea, ha, ga, ta⟩ := mAbs_at hA h5.1 h5.2
    subst ea
    have ca : (nI a).toNatClampNeg = a := nI_clamp (by omega)
    have hl : lv_has ls 6 [(0, .ref (am 0)), (1, .int (nI a)), (2, .int i), (3, .int x)] := hl
    obtain ⟨ka, fa, sa, qa, xa, ya⟩ := hA.2.2.1 a o ga
    have ka : S.2.2.1 a = o.1 := ka
    have fa : S.2.2.2.1 a = o.2.1 := fa
    have sa : S.2.2.2.2.1 a = nI o.2.2.1.length := sa
    have la : o.2.2.1.length ≤ 100 := qa.1
    refine lv_aload_n hx hb d_M_update_8 rfl (lv_at hl 0 rfl) ?_
    refine fx_get hx hb hown (kc_M hK _) hKv 1 (by decide) (hw _ mf_M_7) (fun _ h => h) (hP 0 _ rfl) rfl d_M_update_9 ?_
    refine lv_iload_n hx hb d_M_update_12 rfl (lv_at hl 1 rfl) ?_
    refine fx_iald (j := a) hx hb hKv 0 (hP 1 _ rfl) rfl (rfl) (by omega) (by decide) d_M_update_13 ?_
    refine lv_iconst (v := nI 2) hx hb d_M_update_14 rfl ?_
    refine lv_icmp_ne (tgt := 22) hx hb d_M_update_15 rfl (fun h15 => ?_) (fun h15 => ?_)
    · have n2 : ¬ o.1 = 2 := by rw [ka] at h15; exact h15
      refine lv_iconst (v := nI 0) hx hb d_M_update_22 rfl ?_
      refine lv_istore hx hb d_M_update_23 hl (by decide) rfl (fun ls hl => ?_)
      have hl : lv_has ls 6 [(4, .int (nI 0)), (0, .ref (am 0)), (1, .int (nI a)), (2, .int i), (3, .int x)] := hl
      refine lv_aload_n hx hb d_M_update_25 rfl (lv_at hl 1 rfl) ?_
      refine lv_iload hx hb d_M_update_26 (lv_at hl 0 rfl) ?_
      refine lv_if_ne (tgt := 35) hx hb d_M_update_28 rfl (fun h9 => absurd rfl h9) (fun _ => ?_)
      refine lv_iconst (v := nI 1) hx hb d_M_update_31 rfl ?_
      refine lv_goto (tgt := 65) hx hb d_M_update_32 rfl ?_
      refine m_rThr hI hA (nI 1) hx hfl hK hb (by rw [hml]; exact hl.1) hown (hw _ mm_M_50) ⟨Nat.le_of_ble_eq_true rfl, Nat.le_of_ble_eq_true rfl, Nat.le_of_ble_eq_true rfl, Nat.le_of_ble_eq_true rfl⟩ hP hS d_M_update_65 (fun S1 hA hT H locs hP hS => ?_)
      have hn : S1.1 = nI Vs.length := hA.1
      refine lv_if_eq (tgt := 73) hx hb d_M_update_68 rfl (fun h9 => absurd h9 (by rw [zI_t (by decide)]; decide)) (fun _ => ?_)
      refine lv_iconst (v := nI 0) hx hb d_M_update_71 rfl ?_
      exact fx_iret hx hb hr hlk hS.2.2 (Nat.le_of_ble_eq_true rfl) (Nat.le_of_ble_eq_true rfl) d_M_update_72 (⟨by rw [(show so_update Vs (nI a) i x = (1, 0, Vs) from by unfold so_update; rw [ta]; dsimp only; rw [if_neg n2])]; exact rfl, S1, hP, by rw [(show so_update Vs (nI a) i x = (1, 0, Vs) from by unfold so_update; rw [ta]; dsimp only; rw [if_neg n2])]; exact hA, by rw [(show so_update Vs (nI a) i x = (1, 0, Vs) from by unfold so_update; rw [ta]; dsimp only; rw [if_neg n2])]; exact hT⟩)
    · have n2 : o.1 = 2 := by rw [ka] at h15; exact h15
      refine lv_iconst (v := nI 1) hx hb d_M_update_18 rfl ?_
      refine lv_goto (tgt := 23) hx hb d_M_update_19 rfl ?_
      refine lv_istore hx hb d_M_update_23 hl (by decide) rfl (fun ls hl => ?_)
      have hl : lv_has ls 6 [(4, .int (nI 1)), (0, .ref (am 0)), (1, .int (nI a)), (2, .int i), (3, .int x)] := hl
      refine lv_aload_n hx hb d_M_update_25 rfl (lv_at hl 1 rfl) ?_
      refine lv_iload hx hb d_M_update_26 (lv_at hl 0 rfl) ?_
      refine lv_if_ne (tgt := 35) hx hb d_M_update_28 rfl (fun _ => ?_) (fun h9 => absurd h9 (by decide))
      refine lv_aload_n hx hb d_M_update_35 rfl (lv_at hl 1 rfl) ?_
      refine m_cV (ct_M_isFull w am hI S.1 S.2.1 S.2.2.1 S.2.2.2.1 S.2.2.2.2.1 S.2.2.2.2.2.1 S.2.2.2.2.2.2.1 S.2.2.2.2.2.2.2) hx hfl hK hb (by rw [hml]; exact hl.1) hown (hw _ mm_M_46) (hw _ mk_M_isFull) (hw _ mi_M_isFull) (hw _ mq_M_isFull) (show fx_N y_M_isFull 0 by decide +kernel) rfl ⟨Nat.le_of_ble_eq_true rfl, Nat.le_of_ble_eq_true rfl, Nat.le_of_ble_eq_true rfl, Nat.le_of_ble_eq_true rfl⟩ hP hS d_M_update_36 (fun H locs hP hS => ?_)
      have hP : va_P w.D cls (mw w am S) H := hP
      refine lv_if_eq (tgt := 46) hx hb d_M_update_39 rfl (fun h39 => ?_) (fun h39 => ?_)
      · have h39 : ¬ 64 ≤ Vs.length := fun z => zI_eq0.mp h39 (by rw [hn]; exact nI_le z (by omega))
        refine lv_iload_n hx hb d_M_update_46 rfl (lv_at hl 3 rfl) ?_
        refine lv_if_lt (tgt := 60) hx hb d_M_update_47 rfl (fun h47 => ?_) (fun h47 => ?_)
        · refine lv_iconst (v := nI 3) hx hb d_M_update_60 rfl ?_
          refine lv_goto (tgt := 65) hx hb d_M_update_61 rfl ?_
          refine m_rThr hI hA (nI 3) hx hfl hK hb (by rw [hml]; exact hl.1) hown (hw _ mm_M_50) ⟨Nat.le_of_ble_eq_true rfl, Nat.le_of_ble_eq_true rfl, Nat.le_of_ble_eq_true rfl, Nat.le_of_ble_eq_true rfl⟩ hP hS d_M_update_65 (fun S1 hA hT H locs hP hS => ?_)
          have hn : S1.1 = nI Vs.length := hA.1
          refine lv_if_eq (tgt := 73) hx hb d_M_update_68 rfl (fun h9 => absurd h9 (by rw [zI_t (by decide)]; decide)) (fun _ => ?_)
          refine lv_iconst (v := nI 0) hx hb d_M_update_71 rfl ?_
          exact fx_iret hx hb hr hlk hS.2.2 (Nat.le_of_ble_eq_true rfl) (Nat.le_of_ble_eq_true rfl) d_M_update_72 (⟨by rw [(show so_update Vs (nI a) i x = (3, 0, Vs) from by unfold so_update; rw [ta]; dsimp only; rw [if_pos n2, if_neg h39, if_pos (Or.inl h47)])]; exact rfl, S1, hP, by rw [(show so_update Vs (nI a) i x = (3, 0, Vs) from by unfold so_update; rw [ta]; dsimp only; rw [if_pos n2, if_neg h39, if_pos (Or.inl h47)])]; exact hA, by rw [(show so_update Vs (nI a) i x = (3, 0, Vs) from by unfold so_update; rw [ta]; dsimp only; rw [if_pos n2, if_neg h39, if_pos (Or.inl h47)])]; exact hT⟩)
        · refine lv_iload_n hx hb d_M_update_50 rfl (lv_at hl 3 rfl) ?_
          refine lv_aload_n hx hb d_M_update_51 rfl (lv_at hl 1 rfl) ?_
          refine fx_get hx hb hown (kc_M hK _) hKv 3 (by decide) (hw _ mf_M_16) (fun _ h => h) (hP 0 _ rfl) rfl d_M_update_52 ?_
          refine lv_iload_n hx hb d_M_update_55 rfl (lv_at hl 2 rfl) ?_
          refine fx_iald (j := a) hx hb hKv 0 (hP 3 _ rfl) rfl (rfl) (by omega) (by decide) d_M_update_56 ?_
          refine lv_icmp_lt (tgt := 64) hx hb d_M_update_57 rfl (fun h57 => ?_) (fun h57 => ?_)
          · rw [sa] at h57
            obtain ⟨b, hb1, eb⟩ := nI_of h47
            subst eb
            have hb0 : b < o.2.2.1.length := (nI_ltI hb1 (by omega)).mp h57
            have h57 : ¬ nI o.2.2.1.length ≤ nI b := fun z => absurd h57 (Int32.not_lt.mpr z)
            have hl : lv_has ls 6 [(4, .int (nI 1)), (0, .ref (am 0)), (1, .int (nI a)), (2, .int (nI b)), (3, .int x)] := hl
            refine lv_iconst (v := nI 0) hx hb d_M_update_64 rfl ?_
            refine m_rThr hI hA (nI 0) hx hfl hK hb (by rw [hml]; exact hl.1) hown (hw _ mm_M_50) ⟨Nat.le_of_ble_eq_true rfl, Nat.le_of_ble_eq_true rfl, Nat.le_of_ble_eq_true rfl, Nat.le_of_ble_eq_true rfl⟩ hP hS d_M_update_65 (fun S1 hA hT H locs hP hS => ?_)
            have hn : S1.1 = nI Vs.length := hA.1
            refine lv_if_eq (tgt := 73) hx hb d_M_update_68 rfl (fun _ => ?_) (fun h9 => absurd (zI_f (by decide)) h9)
            obtain ⟨ka, fa, sa, qa, xa, ya⟩ := hA.2.2.1 a o ga
            have ka : S1.2.2.1 a = o.1 := ka
            have fa : S1.2.2.2.1 a = o.2.1 := fa
            have sa : S1.2.2.2.2.1 a = nI o.2.2.1.length := sa
            have la : o.2.2.1.length ≤ 100 := qa.1
            refine lv_aload_n hx hb d_M_update_73 rfl (lv_at hl 1 rfl) ?_
            refine lv_iconst (v := nI 2) hx hb d_M_update_74 rfl ?_
            refine fx_ti (y := o.1) (n2.symm) ?_
            refine lv_aload_n hx hb d_M_update_75 rfl (lv_at hl 1 rfl) ?_
            refine fx_get hx hb hown (kc_M hK _) hKv 2 (by decide) (hw _ mf_M_13) (fun _ h => h) (hP 0 _ rfl) rfl d_M_update_76 ?_
            refine lv_iload_n hx hb d_M_update_79 rfl (lv_at hl 2 rfl) ?_
            refine fx_iald (j := a) hx hb hKv 0 (hP 2 _ rfl) rfl (rfl) (by omega) (by decide) d_M_update_80 ?_
            refine fx_ti (y := o.2.1) (fa) ?_
            refine m_rCreate hI hA (by omega) (o.1) (o.2.1) hx hfl hK hb (by rw [hml]; exact hl.1) hown (hw _ mm_M_53) ⟨Nat.le_of_ble_eq_true rfl, Nat.le_of_ble_eq_true rfl, Nat.le_of_ble_eq_true rfl, Nat.le_of_ble_eq_true rfl⟩ hP hS d_M_update_81 (fun S2 hB hT1 H locs hP hS => ?_)
            have hT := hT1.trans hT
            refine lv_istore hx hb d_M_update_84 hl (by decide) rfl (fun ls hl => ?_)
            have hl : lv_has ls 6 [(5, .int (nI Vs.length)), (4, .int (nI 1)), (0, .ref (am 0)), (1, .int (nI a)), (2, .int (nI b)), (3, .int x)] := hl
            refine lv_aload_n hx hb d_M_update_86 rfl (lv_at hl 2 rfl) ?_
            refine lv_iload_n hx hb d_M_update_87 rfl (lv_at hl 3 rfl) ?_
            refine lv_iconst (v := nI 0) hx hb d_M_update_88 rfl ?_
            refine lv_iload_n hx hb d_M_update_89 rfl (lv_at hl 4 rfl) ?_
            refine m_rAll hI hB (o := o) ga (Nat.zero_le _) (by omega) (by show 0 + (b - 0) ≤ 100; omega) (fun z => z) hx hfl hK hb (by rw [hml]; exact hl.1) hown (hw _ mm_M_63) ⟨Nat.le_of_ble_eq_true rfl, Nat.le_of_ble_eq_true rfl, Nat.le_of_ble_eq_true rfl, Nat.le_of_ble_eq_true rfl⟩ hP hS d_M_update_90 (fun S3 hB hT1 H locs hP hS => ?_)
            have hT := hT1.trans hT
            simp only [List.nil_append, sv_cut_0] at hB
            refine lv_aload_n hx hb d_M_update_93 rfl (lv_at hl 2 rfl) ?_
            refine lv_iconst (v := nI 0) hx hb d_M_update_94 rfl ?_
            refine lv_iload_n hx hb d_M_update_95 rfl (lv_at hl 5 rfl) ?_
            refine m_rPut hI hB (by rw [List.length_take]; omega) (nI 0) x hx hfl hK hb (by rw [hml]; exact hl.1) hown (hw _ mm_M_42) ⟨Nat.le_of_ble_eq_true rfl, Nat.le_of_ble_eq_true rfl, Nat.le_of_ble_eq_true rfl, Nat.le_of_ble_eq_true rfl⟩ hP hS d_M_update_96 (fun S4 hB hT1 H locs hP hS => ?_)
            have hT := hT1.trans hT
            refine lv_aload_n hx hb d_M_update_99 rfl (lv_at hl 2 rfl) ?_
            refine lv_iload_n hx hb d_M_update_100 rfl (lv_at hl 3 rfl) ?_
            refine lv_iload_n hx hb d_M_update_101 rfl (lv_at hl 4 rfl) ?_
            refine lv_iconst (v := nI 1) hx hb d_M_update_102 rfl ?_
            refine lv_iadd hx hb d_M_update_103 ?_
            refine fx_ti (y := nI (b + 1)) (nI_1 b) ?_
            refine lv_aload_n hx hb d_M_update_104 rfl (lv_at hl 2 rfl) ?_
            refine fx_get hx hb hown (kc_M hK _) hKv 3 (by decide) (hw _ mf_M_16) (fun _ h => h) (hP 0 _ rfl) rfl d_M_update_105 ?_
            refine lv_iload_n hx hb d_M_update_108 rfl (lv_at hl 3 rfl) ?_
            refine fx_iald (j := a) hx hb hKv 0 (hP 3 _ rfl) rfl (rfl) (by omega) (by decide) d_M_update_109 ?_
            obtain ⟨ka, fa, sa, qa, xa, ya⟩ := hB.2.2.1 a o ga
            have ka : S4.2.2.1 a = o.1 := ka
            have fa : S4.2.2.2.1 a = o.2.1 := fa
            have sa : S4.2.2.2.2.1 a = nI o.2.2.1.length := sa
            have la : o.2.2.1.length ≤ 100 := qa.1
            refine fx_ti (y := nI o.2.2.1.length) (sa) ?_
            refine m_rAll hI hB (o := o) ga (by omega) (Nat.le_refl _) (by simp only [List.length_append, List.length_take, List.length_singleton]; omega) (fun z => z) hx hfl hK hb (by rw [hml]; exact hl.1) hown (hw _ mm_M_63) ⟨Nat.le_of_ble_eq_true rfl, Nat.le_of_ble_eq_true rfl, Nat.le_of_ble_eq_true rfl, Nat.le_of_ble_eq_true rfl⟩ hP hS d_M_update_110 (fun S5 hB hT1 H locs hP hS => ?_)
            have hT := hT1.trans hT
            have hF : mAbs S5 (Vs ++ [(o.1, o.2.1, o.2.2.1.set b x, o.2.2.2)]) := by have := mB_done hB o.2.2.2 (fun z => absurd (n2.symm.trans z) (by decide)) qa.2.2; simp only [sv_cut_all, List.append_assoc, List.singleton_append, sv_set hb0] at this; exact this
            refine lv_iload hx hb d_M_update_113 (lv_at hl 0 rfl) ?_
            exact fx_iret hx hb hr hlk hS.2.2 (Nat.le_of_ble_eq_true rfl) (Nat.le_of_ble_eq_true rfl) d_M_update_115 (⟨by rw [(show so_update Vs (nI a) (nI b) x = sv_new Vs (o.1, o.2.1, o.2.2.1.set b x, o.2.2.2) from by unfold so_update; rw [ta]; dsimp only; rw [if_pos n2, if_neg h39, if_neg (fun z => z.elim h47 h57), nI_clamp hb1])]; exact rfl, S5, hP, by rw [(show so_update Vs (nI a) (nI b) x = sv_new Vs (o.1, o.2.1, o.2.2.1.set b x, o.2.2.2) from by unfold so_update; rw [ta]; dsimp only; rw [if_pos n2, if_neg h39, if_neg (fun z => z.elim h47 h57), nI_clamp hb1])]; exact hF, by rw [(show so_update Vs (nI a) (nI b) x = sv_new Vs (o.1, o.2.1, o.2.2.1.set b x, o.2.2.2) from by unfold so_update; rw [ta]; dsimp only; rw [if_pos n2, if_neg h39, if_neg (fun z => z.elim h47 h57), nI_clamp hb1])]; exact hT⟩)
          · rw [sa] at h57
            have h57 := Int32.not_lt.mp h57
            refine lv_iconst (v := nI 3) hx hb d_M_update_60 rfl ?_
            refine lv_goto (tgt := 65) hx hb d_M_update_61 rfl ?_
            refine m_rThr hI hA (nI 3) hx hfl hK hb (by rw [hml]; exact hl.1) hown (hw _ mm_M_50) ⟨Nat.le_of_ble_eq_true rfl, Nat.le_of_ble_eq_true rfl, Nat.le_of_ble_eq_true rfl, Nat.le_of_ble_eq_true rfl⟩ hP hS d_M_update_65 (fun S1 hA hT H locs hP hS => ?_)
            have hn : S1.1 = nI Vs.length := hA.1
            refine lv_if_eq (tgt := 73) hx hb d_M_update_68 rfl (fun h9 => absurd h9 (by rw [zI_t (by decide)]; decide)) (fun _ => ?_)
            refine lv_iconst (v := nI 0) hx hb d_M_update_71 rfl ?_
            exact fx_iret hx hb hr hlk hS.2.2 (Nat.le_of_ble_eq_true rfl) (Nat.le_of_ble_eq_true rfl) d_M_update_72 (⟨by rw [(show so_update Vs (nI a) i x = (3, 0, Vs) from by unfold so_update; rw [ta]; dsimp only; rw [if_pos n2, if_neg h39, if_pos (Or.inr h57)])]; exact rfl, S1, hP, by rw [(show so_update Vs (nI a) i x = (3, 0, Vs) from by unfold so_update; rw [ta]; dsimp only; rw [if_pos n2, if_neg h39, if_pos (Or.inr h57)])]; exact hA, by rw [(show so_update Vs (nI a) i x = (3, 0, Vs) from by unfold so_update; rw [ta]; dsimp only; rw [if_pos n2, if_neg h39, if_pos (Or.inr h57)])]; exact hT⟩)
      · have h39 : 64 ≤ Vs.length := by have := zI_ne0.mp h39; rw [hn] at this; exact (nI_leI (by decide) (by omega)).mp this
        refine lv_iconst (v := nI 2) hx hb d_M_update_42 rfl ?_
        refine lv_goto (tgt := 65) hx hb d_M_update_43 rfl ?_
        refine m_rThr hI hA (nI 2) hx hfl hK hb (by rw [hml]; exact hl.1) hown (hw _ mm_M_50) ⟨Nat.le_of_ble_eq_true rfl, Nat.le_of_ble_eq_true rfl, Nat.le_of_ble_eq_true rfl, Nat.le_of_ble_eq_true rfl⟩ hP hS d_M_update_65 (fun S1 hA hT H locs hP hS => ?_)
        have hn : S1.1 = nI Vs.length := hA.1
        refine lv_if_eq (tgt := 73) hx hb d_M_update_68 rfl (fun h9 => absurd h9 (by rw [zI_t (by decide)]; decide)) (fun _ => ?_)
        refine lv_iconst (v := nI 0) hx hb d_M_update_71 rfl ?_
        exact fx_iret hx hb hr hlk hS.2.2 (Nat.le_of_ble_eq_true rfl) (Nat.le_of_ble_eq_true rfl) d_M_update_72 (⟨by rw [(show so_update Vs (nI a) i x = (2, 0, Vs) from by unfold so_update; rw [ta]; dsimp only; rw [if_pos n2, if_pos h39])]; exact rfl, S1, hP, by rw [(show so_update Vs (nI a) i x = (2, 0, Vs) from by unfold so_update; rw [ta]; dsimp only; rw [if_pos n2, if_pos h39])]; exact hA, by rw [(show so_update Vs (nI a) i x = (2, 0, Vs) from by unfold so_update; rw [ta]; dsimp only; rw [if_pos n2, if_pos h39])]; exact hT⟩)
set_option maxHeartbeats 4000000 in
set_option maxRecDepth 100000 in
theorem ct_M_value (w : Wd) (am : Nat → Nat) (hI : mI am) (Vs : List sV) (v key : Int32) : mApi w am y_M_value 5 (rmK 3) [.int v, .int key] Vs (so_value Vs v key) := by
  intro S hA
  have hn : S.1 = nI Vs.length := hA.1
  have hVl : Vs.length ≤ 64 := hA.2.1
  refine fx_of (ret := some .int) (cc := b_M_value) (fun s hK => hK.1 _ mk_M_value _) (Nat.le_of_ble_eq_true rfl) ?_
  intro p l e s m below meth c hx hfl hK hb hml hr hlk hnt hown hin hP ls hl
  have hw : ∀ z ∈ gw, z.before (.ref (am 0) :: [.int v, .int key] : List Value).toArray s = true := fun z hz => hK.1 z hz _
  have hKv := hK.2.1
  have hS : va_S (mA am) s.heap s.heap [] := va_S.rf
  have hP : va_P w.D cls (mw w am S) s.heap := hP
  have hl : lv_has ls 5 [(0, .ref (am 0)), (1, .int v), (2, .int key)] := hl
  refine lv_aload_n hx hb d_M_value_0 rfl (lv_at hl 0 rfl) ?_
  refine lv_iload_n hx hb d_M_value_1 rfl (lv_at hl 1 rfl) ?_
  refine m_cV (ct_M_is w am hI S.1 S.2.1 S.2.2.1 S.2.2.2.1 S.2.2.2.2.1 S.2.2.2.2.2.1 S.2.2.2.2.2.2.1 S.2.2.2.2.2.2.2 v) hx hfl hK hb (by rw [hml]; exact hl.1) hown (hw _ mm_M_35) (hw _ mk_M_is) (hw _ mi_M_is) (hw _ mq_M_is) (show fx_N y_M_is 1 by decide +kernel) rfl ⟨Nat.le_of_ble_eq_true rfl, Nat.le_of_ble_eq_true rfl, Nat.le_of_ble_eq_true rfl, Nat.le_of_ble_eq_true rfl⟩ hP hS d_M_value_2 (fun H locs hP hS => ?_)
  have hP : va_P w.D cls (mw w am S) H := hP
  refine lv_if_eq (tgt := 20) hx hb d_M_value_5 rfl (fun h5 => ?_) (fun h5 => ?_)
  · have h5 := zI_eq0.mp h5
    rw [hn] at h5
    have hz : so_value Vs v key = (1, 0, Vs) := by unfold so_value; rw [mAbs_none hA h5]
    refine lv_iconst (v := nI 0) hx hb d_M_value_20 rfl ?_
    refine lv_istore_n hx hb d_M_value_21 rfl hl (by decide) rfl (fun ls hl => ?_)
    have hl : lv_has ls 5 [(3, .int (nI 0)), (0, .ref (am 0)), (1, .int v), (2, .int key)] := hl
    refine lv_iload_n hx hb d_M_value_22 rfl (lv_at hl 0 rfl) ?_
    refine lv_if_eq (tgt := 35) hx hb d_M_value_23 rfl (fun _ => ?_) (fun h9 => absurd rfl h9)
    refine lv_iconst (v := nI 0) hx hb d_M_value_35 rfl ?_
    refine lv_istore hx hb d_M_value_36 hl (by decide) rfl (fun ls hl => ?_)
    have hl : lv_has ls 5 [(4, .int (nI 0)), (3, .int (nI 0)), (0, .ref (am 0)), (1, .int v), (2, .int key)] := hl
    refine lv_aload_n hx hb d_M_value_38 rfl (lv_at hl 2 rfl) ?_
    refine lv_iload_n hx hb d_M_value_39 rfl (lv_at hl 1 rfl) ?_
    refine lv_if_ne (tgt := 47) hx hb d_M_value_40 rfl (fun h9 => absurd rfl h9) (fun _ => ?_)
    refine lv_iconst (v := nI 1) hx hb d_M_value_43 rfl ?_
    refine lv_goto (tgt := 63) hx hb d_M_value_44 rfl ?_
    refine m_rThr hI hA (nI 1) hx hfl hK hb (by rw [hml]; exact hl.1) hown (hw _ mm_M_50) ⟨Nat.le_of_ble_eq_true rfl, Nat.le_of_ble_eq_true rfl, Nat.le_of_ble_eq_true rfl, Nat.le_of_ble_eq_true rfl⟩ hP hS d_M_value_63 (fun S1 hA hT H locs hP hS => ?_)
    have hn : S1.1 = nI Vs.length := hA.1
    refine lv_if_eq (tgt := 71) hx hb d_M_value_66 rfl (fun h9 => absurd h9 (by rw [zI_t (by decide)]; decide)) (fun _ => ?_)
    refine lv_iconst (v := nI 0) hx hb d_M_value_69 rfl ?_
    exact fx_iret hx hb hr hlk hS.2.2 (Nat.le_of_ble_eq_true rfl) (Nat.le_of_ble_eq_true rfl) d_M_value_70 (⟨by rw [(show so_value Vs v key = (1, 0, Vs) from hz)]; exact rfl, S1, hP, by rw [(show so_value Vs v key = (1, 0, Vs) from hz)]; exact hA, by rw [(show so_value Vs v key = (1, 0, Vs) from hz)]; exact hT⟩)
  · have h5 := zI_ne0.mp h5
    rw [hn] at h5
    obtain ⟨a, o, ea, ha, ga, ta⟩ := mAbs_at hA h5.1 h5.2
    subst ea
    have ca : (nI a).toNatClampNeg = a := nI_clamp (by omega)
    have hl : lv_has ls 5 [(0, .ref (am 0)), (1, .int (nI a)), (2, .int key)] := hl
    obtain ⟨ka, fa, sa, qa, xa, ya⟩ := hA.2.2.1 a o ga
    have ka : S.2.2.1 a = o.1 := ka
    have fa : S.2.2.2.1 a = o.2.1 := fa
    have sa : S.2.2.2.2.1 a = nI o.2.2.1.length := sa
    have la : o.2.2.1.length ≤ 100 := qa.1
    refine lv_aload_n hx hb d_M_value_8 rfl (lv_at hl 0 rfl) ?_
    refine lv_iload_n hx hb d_M_value_9 rfl (lv_at hl 1 rfl) ?_
    refine m_cV (ct_M_isMap w am hI S.1 S.2.1 S.2.2.1 S.2.2.2.1 S.2.2.2.2.1 S.2.2.2.2.2.1 S.2.2.2.2.2.2.1 S.2.2.2.2.2.2.2 a (by omega)) hx hfl hK hb (by rw [hml]; exact hl.1) hown (hw _ mm_M_39) (hw _ mk_M_isMap) (hw _ mi_M_isMap) (hw _ mq_M_isMap) (show fx_N y_M_isMap 1 by decide +kernel) rfl ⟨Nat.le_of_ble_eq_true rfl, Nat.le_of_ble_eq_true rfl, Nat.le_of_ble_eq_true rfl, Nat.le_of_ble_eq_true rfl⟩ hP hS d_M_value_10 (fun H locs hP hS => ?_)
    have hP : va_P w.D cls (mw w am S) H := hP
    refine lv_if_eq (tgt := 20) hx hb d_M_value_13 rfl (fun h13 => ?_) (fun h13 => ?_)
    · have n3 : ¬ o.1 = 3 := fun z => zI_eq0.mp h13 (ka.trans z)
      refine lv_iconst (v := nI 0) hx hb d_M_value_20 rfl ?_
      refine lv_istore_n hx hb d_M_value_21 rfl hl (by decide) rfl (fun ls hl => ?_)
      have hl : lv_has ls 5 [(3, .int (nI 0)), (0, .ref (am 0)), (1, .int (nI a)), (2, .int key)] := hl
      refine lv_iload_n hx hb d_M_value_22 rfl (lv_at hl 0 rfl) ?_
      refine lv_if_eq (tgt := 35) hx hb d_M_value_23 rfl (fun _ => ?_) (fun h9 => absurd rfl h9)
      refine lv_iconst (v := nI 0) hx hb d_M_value_35 rfl ?_
      refine lv_istore hx hb d_M_value_36 hl (by decide) rfl (fun ls hl => ?_)
      have hl : lv_has ls 5 [(4, .int (nI 0)), (3, .int (nI 0)), (0, .ref (am 0)), (1, .int (nI a)), (2, .int key)] := hl
      refine lv_aload_n hx hb d_M_value_38 rfl (lv_at hl 2 rfl) ?_
      refine lv_iload_n hx hb d_M_value_39 rfl (lv_at hl 1 rfl) ?_
      refine lv_if_ne (tgt := 47) hx hb d_M_value_40 rfl (fun h9 => absurd rfl h9) (fun _ => ?_)
      refine lv_iconst (v := nI 1) hx hb d_M_value_43 rfl ?_
      refine lv_goto (tgt := 63) hx hb d_M_value_44 rfl ?_
      refine m_rThr hI hA (nI 1) hx hfl hK hb (by rw [hml]; exact hl.1) hown (hw _ mm_M_50) ⟨Nat.le_of_ble_eq_true rfl, Nat.le_of_ble_eq_true rfl, Nat.le_of_ble_eq_true rfl, Nat.le_of_ble_eq_true rfl⟩ hP hS d_M_value_63 (fun S1 hA hT H locs hP hS => ?_)
      have hn : S1.1 = nI Vs.length := hA.1
      refine lv_if_eq (tgt := 71) hx hb d_M_value_66 rfl (fun h9 => absurd h9 (by rw [zI_t (by decide)]; decide)) (fun _ => ?_)
      refine lv_iconst (v := nI 0) hx hb d_M_value_69 rfl ?_
      exact fx_iret hx hb hr hlk hS.2.2 (Nat.le_of_ble_eq_true rfl) (Nat.le_of_ble_eq_true rfl) d_M_value_70 (⟨by rw [(show so_value Vs (nI a) key = (1, 0, Vs) from by unfold so_value; rw [ta]; dsimp only; rw [if_neg n3])]; exact rfl, S1, hP, by rw [(show so_value Vs (nI a) key = (1, 0, Vs) from by unfold so_value; rw [ta]; dsimp only; rw [if_neg n3])]; exact hA, by rw [(show so_value Vs (nI a) key = (1, 0, Vs) from by unfold so_value; rw [ta]; dsimp only; rw [if_neg n3])]; exact hT⟩)
    · have n3 : o.1 = 3 := ka.symm.trans (zI_ne0.mp h13)
      have hcl : sv_cb o.2.2.2 key ≤ o.2.2.1.length := by rw [← qa.2.1 n3]; exact sv_cb_le _ _
      refine lv_iconst (v := nI 1) hx hb d_M_value_16 rfl ?_
      refine lv_goto (tgt := 21) hx hb d_M_value_17 rfl ?_
      refine lv_istore_n hx hb d_M_value_21 rfl hl (by decide) rfl (fun ls hl => ?_)
      have hl : lv_has ls 5 [(3, .int (nI 1)), (0, .ref (am 0)), (1, .int (nI a)), (2, .int key)] := hl
      refine lv_iload_n hx hb d_M_value_22 rfl (lv_at hl 0 rfl) ?_
      refine lv_if_eq (tgt := 35) hx hb d_M_value_23 rfl (fun h9 => absurd h9 (by decide)) (fun _ => ?_)
      refine lv_aload_n hx hb d_M_value_26 rfl (lv_at hl 1 rfl) ?_
      refine lv_iload_n hx hb d_M_value_27 rfl (lv_at hl 2 rfl) ?_
      refine lv_iload_n hx hb d_M_value_28 rfl (lv_at hl 3 rfl) ?_
      refine m_cV (ct_M_placeOf w am hI S.1 S.2.1 S.2.2.1 S.2.2.2.1 S.2.2.2.2.1 S.2.2.2.2.2.1 S.2.2.2.2.2.2.1 S.2.2.2.2.2.2.2 a o.2.2.2 key (by omega) qa.2.2 (by rw [sa, qa.2.1 n3]) (fun j hj => ya n3 j (by rw [← qa.2.1 n3]; exact hj))) hx hfl hK hb (by rw [hml]; exact hl.1) hown (hw _ mm_M_67) (hw _ mk_M_placeOf) (hw _ mi_M_placeOf) (hw _ mq_M_placeOf) (show fx_N y_M_placeOf 2 by decide +kernel) rfl ⟨Nat.le_of_ble_eq_true rfl, Nat.le_of_ble_eq_true rfl, Nat.le_of_ble_eq_true rfl, Nat.le_of_ble_eq_true rfl⟩ hP hS d_M_value_29 (fun H locs hP hS => ?_)
      have hP : va_P w.D cls (mw w am S) H := hP
      refine lv_goto (tgt := 36) hx hb d_M_value_32 rfl ?_
      refine lv_istore hx hb d_M_value_36 hl (by decide) rfl (fun ls hl => ?_)
      have hl : lv_has ls 5 [(4, .int (nI (sv_cb o.2.2.2 key))), (3, .int (nI 1)), (0, .ref (am 0)), (1, .int (nI a)), (2, .int key)] := hl
      refine lv_aload_n hx hb d_M_value_38 rfl (lv_at hl 2 rfl) ?_
      refine lv_iload_n hx hb d_M_value_39 rfl (lv_at hl 1 rfl) ?_
      refine lv_if_ne (tgt := 47) hx hb d_M_value_40 rfl (fun _ => ?_) (fun h9 => absurd h9 (by decide))
      refine lv_aload_n hx hb d_M_value_47 rfl (lv_at hl 2 rfl) ?_
      refine lv_iload_n hx hb d_M_value_48 rfl (lv_at hl 3 rfl) ?_
      refine lv_iload hx hb d_M_value_49 (lv_at hl 0 rfl) ?_
      refine lv_iload_n hx hb d_M_value_51 rfl (lv_at hl 4 rfl) ?_
      refine m_cV (ct_M_hasAt w am hI S.1 S.2.1 S.2.2.1 S.2.2.2.1 S.2.2.2.2.1 S.2.2.2.2.2.1 S.2.2.2.2.2.2.1 S.2.2.2.2.2.2.2 a (sv_cb o.2.2.2 key) key o.2.2.1.length (by omega) la (Nat.le_trans (sv_cb_le _ _) qa.2.2) sa) hx hfl hK hb (by rw [hml]; exact hl.1) hown (hw _ mm_M_70) (hw _ mk_M_hasAt) (hw _ mi_M_hasAt) (hw _ mq_M_hasAt) (show fx_N y_M_hasAt 3 by decide +kernel) rfl ⟨Nat.le_of_ble_eq_true rfl, Nat.le_of_ble_eq_true rfl, Nat.le_of_ble_eq_true rfl, Nat.le_of_ble_eq_true rfl⟩ hP hS d_M_value_52 (fun H locs hP hS => ?_)
      have hP : va_P w.D cls (mw w am S) H := hP
      refine lv_if_ne (tgt := 62) hx hb d_M_value_55 rfl (fun h55 => ?_) (fun h55 => ?_)
      · have hcb : sv_cb o.2.2.2 key < o.2.2.1.length := (zI_ne0.mp h55).1
        have h55 := (m_has (qa.2.1 n3) (ya n3)).mp (zI_ne0.mp h55)
        refine lv_iconst (v := nI 0) hx hb d_M_value_62 rfl ?_
        refine m_rThr hI hA (nI 0) hx hfl hK hb (by rw [hml]; exact hl.1) hown (hw _ mm_M_50) ⟨Nat.le_of_ble_eq_true rfl, Nat.le_of_ble_eq_true rfl, Nat.le_of_ble_eq_true rfl, Nat.le_of_ble_eq_true rfl⟩ hP hS d_M_value_63 (fun S1 hA hT H locs hP hS => ?_)
        have hn : S1.1 = nI Vs.length := hA.1
        refine lv_if_eq (tgt := 71) hx hb d_M_value_66 rfl (fun _ => ?_) (fun h9 => absurd (zI_f (by decide)) h9)
        obtain ⟨ka, fa, sa, qa, xa, ya⟩ := hA.2.2.1 a o ga
        have ka : S1.2.2.1 a = o.1 := ka
        have fa : S1.2.2.2.1 a = o.2.1 := fa
        have sa : S1.2.2.2.2.1 a = nI o.2.2.1.length := sa
        have la : o.2.2.1.length ≤ 100 := qa.1
        refine lv_aload_n hx hb d_M_value_71 rfl (lv_at hl 2 rfl) ?_
        refine fx_get hx hb hown (kc_M hK _) hKv 4 (by decide) (hw _ mf_M_19) (fun _ h => h) (hP 0 _ rfl) rfl d_M_value_72 ?_
        refine lv_bipush (v := nI 100) hx hb d_M_value_75 rfl ?_
        refine lv_iload_n hx hb d_M_value_77 rfl (lv_at hl 3 rfl) ?_
        refine lv_imul hx hb d_M_value_78 ?_
        refine fx_ti (y := nI (100 * a)) (pk_mul 100 a) ?_
        refine lv_iload hx hb d_M_value_79 (lv_at hl 0 rfl) ?_
        refine lv_iadd hx hb d_M_value_81 ?_
        refine fx_ti (y := nI (100 * a + sv_cb o.2.2.2 key)) (nI_add _ _) ?_
        refine fx_iald (j := 100 * a + sv_cb o.2.2.2 key) hx hb hKv 0 (hP 4 _ rfl) rfl (rfl) (by omega) (by decide) d_M_value_82 ?_
        exact fx_iret hx hb hr hlk hS.2.2 (Nat.le_of_ble_eq_true rfl) (Nat.le_of_ble_eq_true rfl) d_M_value_83 (⟨by rw [(show so_value Vs (nI a) key = (0, o.2.2.1.getD (sv_cb o.2.2.2 key) 0, Vs) from by unfold so_value; rw [ta]; dsimp only; rw [if_pos n3, if_pos h55])]; exact congrArg (fun z => Outcome.returned (some (Value.int z))) (xa _ hcb), S1, hP, by rw [(show so_value Vs (nI a) key = (0, o.2.2.1.getD (sv_cb o.2.2.2 key) 0, Vs) from by unfold so_value; rw [ta]; dsimp only; rw [if_pos n3, if_pos h55])]; exact hA, by rw [(show so_value Vs (nI a) key = (0, o.2.2.1.getD (sv_cb o.2.2.2 key) 0, Vs) from by unfold so_value; rw [ta]; dsimp only; rw [if_pos n3, if_pos h55])]; exact hT⟩)
      · have h55 : ¬ o.2.2.2[sv_cb o.2.2.2 key]? = some key := fun z => zI_eq0.mp h55 ((m_has (qa.2.1 n3) (ya n3)).mpr z)
        refine lv_iconst (v := nI 2) hx hb d_M_value_58 rfl ?_
        refine lv_goto (tgt := 63) hx hb d_M_value_59 rfl ?_
        refine m_rThr hI hA (nI 2) hx hfl hK hb (by rw [hml]; exact hl.1) hown (hw _ mm_M_50) ⟨Nat.le_of_ble_eq_true rfl, Nat.le_of_ble_eq_true rfl, Nat.le_of_ble_eq_true rfl, Nat.le_of_ble_eq_true rfl⟩ hP hS d_M_value_63 (fun S1 hA hT H locs hP hS => ?_)
        have hn : S1.1 = nI Vs.length := hA.1
        refine lv_if_eq (tgt := 71) hx hb d_M_value_66 rfl (fun h9 => absurd h9 (by rw [zI_t (by decide)]; decide)) (fun _ => ?_)
        refine lv_iconst (v := nI 0) hx hb d_M_value_69 rfl ?_
        exact fx_iret hx hb hr hlk hS.2.2 (Nat.le_of_ble_eq_true rfl) (Nat.le_of_ble_eq_true rfl) d_M_value_70 (⟨by rw [(show so_value Vs (nI a) key = (2, 0, Vs) from by unfold so_value; rw [ta]; dsimp only; rw [if_pos n3, if_neg h55])]; exact rfl, S1, hP, by rw [(show so_value Vs (nI a) key = (2, 0, Vs) from by unfold so_value; rw [ta]; dsimp only; rw [if_pos n3, if_neg h55])]; exact hA, by rw [(show so_value Vs (nI a) key = (2, 0, Vs) from by unfold so_value; rw [ta]; dsimp only; rw [if_pos n3, if_neg h55])]; exact hT⟩)
set_option maxHeartbeats 4000000 in
set_option maxRecDepth 100000 in
theorem ct_M_bind (w : Wd) (am : Nat → Nat) (hI : mI am) (Vs : List sV) (v key x : Int32) : mApi w am y_M_bind 8 (rmK 3) [.int v, .int key, .int x] Vs (so_bind Vs v key x) := by
  intro S hA
  have hn : S.1 = nI Vs.length := hA.1
  have hVl : Vs.length ≤ 64 := hA.2.1
  refine fx_of (ret := some .int) (cc := b_M_bind) (fun s hK => hK.1 _ mk_M_bind _) (Nat.le_of_ble_eq_true rfl) ?_
  intro p l e s m below meth c hx hfl hK hb hml hr hlk hnt hown hin hP ls hl
  have hw : ∀ z ∈ gw, z.before (.ref (am 0) :: [.int v, .int key, .int x] : List Value).toArray s = true := fun z hz => hK.1 z hz _
  have hKv := hK.2.1
  have hS : va_S (mA am) s.heap s.heap [] := va_S.rf
  have hP : va_P w.D cls (mw w am S) s.heap := hP
  have hl : lv_has ls 8 [(0, .ref (am 0)), (1, .int v), (2, .int key), (3, .int x)] := hl
  refine lv_aload_n hx hb d_M_bind_0 rfl (lv_at hl 0 rfl) ?_
  refine lv_iload_n hx hb d_M_bind_1 rfl (lv_at hl 1 rfl) ?_
  refine m_cV (ct_M_is w am hI S.1 S.2.1 S.2.2.1 S.2.2.2.1 S.2.2.2.2.1 S.2.2.2.2.2.1 S.2.2.2.2.2.2.1 S.2.2.2.2.2.2.2 v) hx hfl hK hb (by rw [hml]; exact hl.1) hown (hw _ mm_M_35) (hw _ mk_M_is) (hw _ mi_M_is) (hw _ mq_M_is) (show fx_N y_M_is 1 by decide +kernel) rfl ⟨Nat.le_of_ble_eq_true rfl, Nat.le_of_ble_eq_true rfl, Nat.le_of_ble_eq_true rfl, Nat.le_of_ble_eq_true rfl⟩ hP hS d_M_bind_2 (fun H locs hP hS => ?_)
  have hP : va_P w.D cls (mw w am S) H := hP
  refine lv_if_eq (tgt := 31) hx hb d_M_bind_5 rfl (fun h5 => ?_) (fun h5 => ?_)
  · have h5 := zI_eq0.mp h5
    rw [hn] at h5
    have hz : so_bind Vs v key x = (1, 0, Vs) := by unfold so_bind; rw [mAbs_none hA h5]
    refine lv_iconst (v := nI 0) hx hb d_M_bind_31 rfl ?_
    refine lv_istore hx hb d_M_bind_32 hl (by decide) rfl (fun ls hl => ?_)
    have hl : lv_has ls 8 [(4, .int (nI 0)), (0, .ref (am 0)), (1, .int v), (2, .int key), (3, .int x)] := hl
    refine lv_iload hx hb d_M_bind_34 (lv_at hl 0 rfl) ?_
    refine lv_if_eq (tgt := 48) hx hb d_M_bind_36 rfl (fun _ => ?_) (fun h9 => absurd rfl h9)
    refine lv_iconst (v := nI 0) hx hb d_M_bind_48 rfl ?_
    refine lv_istore hx hb d_M_bind_49 hl (by decide) rfl (fun ls hl => ?_)
    have hl : lv_has ls 8 [(5, .int (nI 0)), (4, .int (nI 0)), (0, .ref (am 0)), (1, .int v), (2, .int key), (3, .int x)] := hl
    refine lv_iload hx hb d_M_bind_51 (lv_at hl 1 rfl) ?_
    refine lv_if_eq (tgt := 71) hx hb d_M_bind_53 rfl (fun _ => ?_) (fun h9 => absurd rfl h9)
    refine lv_iconst (v := nI 0) hx hb d_M_bind_71 rfl ?_
    refine lv_istore hx hb d_M_bind_72 hl (by decide) rfl (fun ls hl => ?_)
    have hl : lv_has ls 8 [(6, .int (nI 0)), (5, .int (nI 0)), (4, .int (nI 0)), (0, .ref (am 0)), (1, .int v), (2, .int key), (3, .int x)] := hl
    refine lv_aload_n hx hb d_M_bind_74 rfl (lv_at hl 3 rfl) ?_
    refine lv_iload hx hb d_M_bind_75 (lv_at hl 2 rfl) ?_
    refine lv_if_ne (tgt := 84) hx hb d_M_bind_77 rfl (fun h9 => absurd rfl h9) (fun _ => ?_)
    refine lv_iconst (v := nI 1) hx hb d_M_bind_80 rfl ?_
    refine lv_goto (tgt := 112) hx hb d_M_bind_81 rfl ?_
    refine m_rThr hI hA (nI 1) hx hfl hK hb (by rw [hml]; exact hl.1) hown (hw _ mm_M_50) ⟨Nat.le_of_ble_eq_true rfl, Nat.le_of_ble_eq_true rfl, Nat.le_of_ble_eq_true rfl, Nat.le_of_ble_eq_true rfl⟩ hP hS d_M_bind_112 (fun S1 hA hT H locs hP hS => ?_)
    have hn : S1.1 = nI Vs.length := hA.1
    refine lv_if_eq (tgt := 120) hx hb d_M_bind_115 rfl (fun h9 => absurd h9 (by rw [zI_t (by decide)]; decide)) (fun _ => ?_)
    refine lv_iconst (v := nI 0) hx hb d_M_bind_118 rfl ?_
    exact fx_iret hx hb hr hlk hS.2.2 (Nat.le_of_ble_eq_true rfl) (Nat.le_of_ble_eq_true rfl) d_M_bind_119 (⟨by rw [(show so_bind Vs v key x = (1, 0, Vs) from hz)]; exact rfl, S1, hP, by rw [(show so_bind Vs v key x = (1, 0, Vs) from hz)]; exact hA, by rw [(show so_bind Vs v key x = (1, 0, Vs) from hz)]; exact hT⟩)
  · have h5 := zI_ne0.mp h5
    rw [hn] at h5
    obtain ⟨a, o, ea, ha, ga, ta⟩ := mAbs_at hA h5.1 h5.2
    subst ea
    have ca : (nI a).toNatClampNeg = a := nI_clamp (by omega)
    have hl : lv_has ls 8 [(0, .ref (am 0)), (1, .int (nI a)), (2, .int key), (3, .int x)] := hl
    obtain ⟨ka, fa, sa, qa, xa, ya⟩ := hA.2.2.1 a o ga
    have ka : S.2.2.1 a = o.1 := ka
    have fa : S.2.2.2.1 a = o.2.1 := fa
    have sa : S.2.2.2.2.1 a = nI o.2.2.1.length := sa
    have la : o.2.2.1.length ≤ 100 := qa.1
    refine lv_aload_n hx hb d_M_bind_8 rfl (lv_at hl 0 rfl) ?_
    refine lv_iload_n hx hb d_M_bind_9 rfl (lv_at hl 1 rfl) ?_
    refine m_cV (ct_M_isMap w am hI S.1 S.2.1 S.2.2.1 S.2.2.2.1 S.2.2.2.2.1 S.2.2.2.2.2.1 S.2.2.2.2.2.2.1 S.2.2.2.2.2.2.2 a (by omega)) hx hfl hK hb (by rw [hml]; exact hl.1) hown (hw _ mm_M_39) (hw _ mk_M_isMap) (hw _ mi_M_isMap) (hw _ mq_M_isMap) (show fx_N y_M_isMap 1 by decide +kernel) rfl ⟨Nat.le_of_ble_eq_true rfl, Nat.le_of_ble_eq_true rfl, Nat.le_of_ble_eq_true rfl, Nat.le_of_ble_eq_true rfl⟩ hP hS d_M_bind_10 (fun H locs hP hS => ?_)
    have hP : va_P w.D cls (mw w am S) H := hP
    refine lv_if_eq (tgt := 31) hx hb d_M_bind_13 rfl (fun h13 => ?_) (fun h13 => ?_)
    · have n3 : ¬ o.1 = 3 := fun z => zI_eq0.mp h13 (ka.trans z)
      refine lv_iconst (v := nI 0) hx hb d_M_bind_31 rfl ?_
      refine lv_istore hx hb d_M_bind_32 hl (by decide) rfl (fun ls hl => ?_)
      have hl : lv_has ls 8 [(4, .int (nI 0)), (0, .ref (am 0)), (1, .int (nI a)), (2, .int key), (3, .int x)] := hl
      refine lv_iload hx hb d_M_bind_34 (lv_at hl 0 rfl) ?_
      refine lv_if_eq (tgt := 48) hx hb d_M_bind_36 rfl (fun _ => ?_) (fun h9 => absurd rfl h9)
      refine lv_iconst (v := nI 0) hx hb d_M_bind_48 rfl ?_
      refine lv_istore hx hb d_M_bind_49 hl (by decide) rfl (fun ls hl => ?_)
      have hl : lv_has ls 8 [(5, .int (nI 0)), (4, .int (nI 0)), (0, .ref (am 0)), (1, .int (nI a)), (2, .int key), (3, .int x)] := hl
      refine lv_iload hx hb d_M_bind_51 (lv_at hl 1 rfl) ?_
      refine lv_if_eq (tgt := 71) hx hb d_M_bind_53 rfl (fun _ => ?_) (fun h9 => absurd rfl h9)
      refine lv_iconst (v := nI 0) hx hb d_M_bind_71 rfl ?_
      refine lv_istore hx hb d_M_bind_72 hl (by decide) rfl (fun ls hl => ?_)
      have hl : lv_has ls 8 [(6, .int (nI 0)), (5, .int (nI 0)), (4, .int (nI 0)), (0, .ref (am 0)), (1, .int (nI a)), (2, .int key), (3, .int x)] := hl
      refine lv_aload_n hx hb d_M_bind_74 rfl (lv_at hl 3 rfl) ?_
      refine lv_iload hx hb d_M_bind_75 (lv_at hl 2 rfl) ?_
      refine lv_if_ne (tgt := 84) hx hb d_M_bind_77 rfl (fun h9 => absurd rfl h9) (fun _ => ?_)
      refine lv_iconst (v := nI 1) hx hb d_M_bind_80 rfl ?_
      refine lv_goto (tgt := 112) hx hb d_M_bind_81 rfl ?_
      refine m_rThr hI hA (nI 1) hx hfl hK hb (by rw [hml]; exact hl.1) hown (hw _ mm_M_50) ⟨Nat.le_of_ble_eq_true rfl, Nat.le_of_ble_eq_true rfl, Nat.le_of_ble_eq_true rfl, Nat.le_of_ble_eq_true rfl⟩ hP hS d_M_bind_112 (fun S1 hA hT H locs hP hS => ?_)
      have hn : S1.1 = nI Vs.length := hA.1
      refine lv_if_eq (tgt := 120) hx hb d_M_bind_115 rfl (fun h9 => absurd h9 (by rw [zI_t (by decide)]; decide)) (fun _ => ?_)
      refine lv_iconst (v := nI 0) hx hb d_M_bind_118 rfl ?_
      exact fx_iret hx hb hr hlk hS.2.2 (Nat.le_of_ble_eq_true rfl) (Nat.le_of_ble_eq_true rfl) d_M_bind_119 (⟨by rw [(show so_bind Vs (nI a) key x = (1, 0, Vs) from by unfold so_bind; rw [ta]; dsimp only; rw [if_neg (fun z => n3 z.1)])]; exact rfl, S1, hP, by rw [(show so_bind Vs (nI a) key x = (1, 0, Vs) from by unfold so_bind; rw [ta]; dsimp only; rw [if_neg (fun z => n3 z.1)])]; exact hA, by rw [(show so_bind Vs (nI a) key x = (1, 0, Vs) from by unfold so_bind; rw [ta]; dsimp only; rw [if_neg (fun z => n3 z.1)])]; exact hT⟩)
    · have n3 : o.1 = 3 := ka.symm.trans (zI_ne0.mp h13)
      have hcl : sv_cb o.2.2.2 key ≤ o.2.2.1.length := by rw [← qa.2.1 n3]; exact sv_cb_le _ _
      refine lv_iload_n hx hb d_M_bind_16 rfl (lv_at hl 2 rfl) ?_
      refine lv_if_lt (tgt := 31) hx hb d_M_bind_17 rfl (fun h17 => ?_) (fun h17 => ?_)
      · refine lv_iconst (v := nI 0) hx hb d_M_bind_31 rfl ?_
        refine lv_istore hx hb d_M_bind_32 hl (by decide) rfl (fun ls hl => ?_)
        have hl : lv_has ls 8 [(4, .int (nI 0)), (0, .ref (am 0)), (1, .int (nI a)), (2, .int key), (3, .int x)] := hl
        refine lv_iload hx hb d_M_bind_34 (lv_at hl 0 rfl) ?_
        refine lv_if_eq (tgt := 48) hx hb d_M_bind_36 rfl (fun _ => ?_) (fun h9 => absurd rfl h9)
        refine lv_iconst (v := nI 0) hx hb d_M_bind_48 rfl ?_
        refine lv_istore hx hb d_M_bind_49 hl (by decide) rfl (fun ls hl => ?_)
        have hl : lv_has ls 8 [(5, .int (nI 0)), (4, .int (nI 0)), (0, .ref (am 0)), (1, .int (nI a)), (2, .int key), (3, .int x)] := hl
        refine lv_iload hx hb d_M_bind_51 (lv_at hl 1 rfl) ?_
        refine lv_if_eq (tgt := 71) hx hb d_M_bind_53 rfl (fun _ => ?_) (fun h9 => absurd rfl h9)
        refine lv_iconst (v := nI 0) hx hb d_M_bind_71 rfl ?_
        refine lv_istore hx hb d_M_bind_72 hl (by decide) rfl (fun ls hl => ?_)
        have hl : lv_has ls 8 [(6, .int (nI 0)), (5, .int (nI 0)), (4, .int (nI 0)), (0, .ref (am 0)), (1, .int (nI a)), (2, .int key), (3, .int x)] := hl
        refine lv_aload_n hx hb d_M_bind_74 rfl (lv_at hl 3 rfl) ?_
        refine lv_iload hx hb d_M_bind_75 (lv_at hl 2 rfl) ?_
        refine lv_if_ne (tgt := 84) hx hb d_M_bind_77 rfl (fun h9 => absurd rfl h9) (fun _ => ?_)
        refine lv_iconst (v := nI 1) hx hb d_M_bind_80 rfl ?_
        refine lv_goto (tgt := 112) hx hb d_M_bind_81 rfl ?_
        refine m_rThr hI hA (nI 1) hx hfl hK hb (by rw [hml]; exact hl.1) hown (hw _ mm_M_50) ⟨Nat.le_of_ble_eq_true rfl, Nat.le_of_ble_eq_true rfl, Nat.le_of_ble_eq_true rfl, Nat.le_of_ble_eq_true rfl⟩ hP hS d_M_bind_112 (fun S1 hA hT H locs hP hS => ?_)
        have hn : S1.1 = nI Vs.length := hA.1
        refine lv_if_eq (tgt := 120) hx hb d_M_bind_115 rfl (fun h9 => absurd h9 (by rw [zI_t (by decide)]; decide)) (fun _ => ?_)
        refine lv_iconst (v := nI 0) hx hb d_M_bind_118 rfl ?_
        exact fx_iret hx hb hr hlk hS.2.2 (Nat.le_of_ble_eq_true rfl) (Nat.le_of_ble_eq_true rfl) d_M_bind_119 (⟨by rw [(show so_bind Vs (nI a) key x = (1, 0, Vs) from by unfold so_bind; rw [ta]; dsimp only; rw [if_neg (fun z => absurd h17 (Int32.not_lt.mpr z.2.1))])]; exact rfl, S1, hP, by rw [(show so_bind Vs (nI a) key x = (1, 0, Vs) from by unfold so_bind; rw [ta]; dsimp only; rw [if_neg (fun z => absurd h17 (Int32.not_lt.mpr z.2.1))])]; exact hA, by rw [(show so_bind Vs (nI a) key x = (1, 0, Vs) from by unfold so_bind; rw [ta]; dsimp only; rw [if_neg (fun z => absurd h17 (Int32.not_lt.mpr z.2.1))])]; exact hT⟩)
      · refine lv_iload_n hx hb d_M_bind_20 rfl (lv_at hl 2 rfl) ?_
        refine lv_sipush (v := nI 255) hx hb d_M_bind_21 rfl ?_
        refine lv_icmp_gt (tgt := 31) hx hb d_M_bind_24 rfl (fun h24 => ?_) (fun h24 => ?_)
        · refine lv_iconst (v := nI 0) hx hb d_M_bind_31 rfl ?_
          refine lv_istore hx hb d_M_bind_32 hl (by decide) rfl (fun ls hl => ?_)
          have hl : lv_has ls 8 [(4, .int (nI 0)), (0, .ref (am 0)), (1, .int (nI a)), (2, .int key), (3, .int x)] := hl
          refine lv_iload hx hb d_M_bind_34 (lv_at hl 0 rfl) ?_
          refine lv_if_eq (tgt := 48) hx hb d_M_bind_36 rfl (fun _ => ?_) (fun h9 => absurd rfl h9)
          refine lv_iconst (v := nI 0) hx hb d_M_bind_48 rfl ?_
          refine lv_istore hx hb d_M_bind_49 hl (by decide) rfl (fun ls hl => ?_)
          have hl : lv_has ls 8 [(5, .int (nI 0)), (4, .int (nI 0)), (0, .ref (am 0)), (1, .int (nI a)), (2, .int key), (3, .int x)] := hl
          refine lv_iload hx hb d_M_bind_51 (lv_at hl 1 rfl) ?_
          refine lv_if_eq (tgt := 71) hx hb d_M_bind_53 rfl (fun _ => ?_) (fun h9 => absurd rfl h9)
          refine lv_iconst (v := nI 0) hx hb d_M_bind_71 rfl ?_
          refine lv_istore hx hb d_M_bind_72 hl (by decide) rfl (fun ls hl => ?_)
          have hl : lv_has ls 8 [(6, .int (nI 0)), (5, .int (nI 0)), (4, .int (nI 0)), (0, .ref (am 0)), (1, .int (nI a)), (2, .int key), (3, .int x)] := hl
          refine lv_aload_n hx hb d_M_bind_74 rfl (lv_at hl 3 rfl) ?_
          refine lv_iload hx hb d_M_bind_75 (lv_at hl 2 rfl) ?_
          refine lv_if_ne (tgt := 84) hx hb d_M_bind_77 rfl (fun h9 => absurd rfl h9) (fun _ => ?_)
          refine lv_iconst (v := nI 1) hx hb d_M_bind_80 rfl ?_
          refine lv_goto (tgt := 112) hx hb d_M_bind_81 rfl ?_
          refine m_rThr hI hA (nI 1) hx hfl hK hb (by rw [hml]; exact hl.1) hown (hw _ mm_M_50) ⟨Nat.le_of_ble_eq_true rfl, Nat.le_of_ble_eq_true rfl, Nat.le_of_ble_eq_true rfl, Nat.le_of_ble_eq_true rfl⟩ hP hS d_M_bind_112 (fun S1 hA hT H locs hP hS => ?_)
          have hn : S1.1 = nI Vs.length := hA.1
          refine lv_if_eq (tgt := 120) hx hb d_M_bind_115 rfl (fun h9 => absurd h9 (by rw [zI_t (by decide)]; decide)) (fun _ => ?_)
          refine lv_iconst (v := nI 0) hx hb d_M_bind_118 rfl ?_
          exact fx_iret hx hb hr hlk hS.2.2 (Nat.le_of_ble_eq_true rfl) (Nat.le_of_ble_eq_true rfl) d_M_bind_119 (⟨by rw [(show so_bind Vs (nI a) key x = (1, 0, Vs) from by unfold so_bind; rw [ta]; dsimp only; rw [if_neg (fun z => absurd h24 (Int32.not_lt.mpr z.2.2))])]; exact rfl, S1, hP, by rw [(show so_bind Vs (nI a) key x = (1, 0, Vs) from by unfold so_bind; rw [ta]; dsimp only; rw [if_neg (fun z => absurd h24 (Int32.not_lt.mpr z.2.2))])]; exact hA, by rw [(show so_bind Vs (nI a) key x = (1, 0, Vs) from by unfold so_bind; rw [ta]; dsimp only; rw [if_neg (fun z => absurd h24 (Int32.not_lt.mpr z.2.2))])]; exact hT⟩)
        · refine lv_iconst (v := nI 1) hx hb d_M_bind_27 rfl ?_
          refine lv_goto (tgt := 32) hx hb d_M_bind_28 rfl ?_
          refine lv_istore hx hb d_M_bind_32 hl (by decide) rfl (fun ls hl => ?_)
          have hl : lv_has ls 8 [(4, .int (nI 1)), (0, .ref (am 0)), (1, .int (nI a)), (2, .int key), (3, .int x)] := hl
          refine lv_iload hx hb d_M_bind_34 (lv_at hl 0 rfl) ?_
          refine lv_if_eq (tgt := 48) hx hb d_M_bind_36 rfl (fun h9 => absurd h9 (by decide)) (fun _ => ?_)
          refine lv_aload_n hx hb d_M_bind_39 rfl (lv_at hl 1 rfl) ?_
          refine lv_iload_n hx hb d_M_bind_40 rfl (lv_at hl 2 rfl) ?_
          refine lv_iload_n hx hb d_M_bind_41 rfl (lv_at hl 3 rfl) ?_
          refine m_cV (ct_M_placeOf w am hI S.1 S.2.1 S.2.2.1 S.2.2.2.1 S.2.2.2.2.1 S.2.2.2.2.2.1 S.2.2.2.2.2.2.1 S.2.2.2.2.2.2.2 a o.2.2.2 key (by omega) qa.2.2 (by rw [sa, qa.2.1 n3]) (fun j hj => ya n3 j (by rw [← qa.2.1 n3]; exact hj))) hx hfl hK hb (by rw [hml]; exact hl.1) hown (hw _ mm_M_67) (hw _ mk_M_placeOf) (hw _ mi_M_placeOf) (hw _ mq_M_placeOf) (show fx_N y_M_placeOf 2 by decide +kernel) rfl ⟨Nat.le_of_ble_eq_true rfl, Nat.le_of_ble_eq_true rfl, Nat.le_of_ble_eq_true rfl, Nat.le_of_ble_eq_true rfl⟩ hP hS d_M_bind_42 (fun H locs hP hS => ?_)
          have hP : va_P w.D cls (mw w am S) H := hP
          refine lv_goto (tgt := 49) hx hb d_M_bind_45 rfl ?_
          refine lv_istore hx hb d_M_bind_49 hl (by decide) rfl (fun ls hl => ?_)
          have hl : lv_has ls 8 [(5, .int (nI (sv_cb o.2.2.2 key))), (4, .int (nI 1)), (0, .ref (am 0)), (1, .int (nI a)), (2, .int key), (3, .int x)] := hl
          refine lv_iload hx hb d_M_bind_51 (lv_at hl 1 rfl) ?_
          refine lv_if_eq (tgt := 71) hx hb d_M_bind_53 rfl (fun h9 => absurd h9 (by decide)) (fun _ => ?_)
          refine lv_aload_n hx hb d_M_bind_56 rfl (lv_at hl 2 rfl) ?_
          refine lv_iload_n hx hb d_M_bind_57 rfl (lv_at hl 3 rfl) ?_
          refine lv_iload hx hb d_M_bind_58 (lv_at hl 0 rfl) ?_
          refine lv_iload_n hx hb d_M_bind_60 rfl (lv_at hl 4 rfl) ?_
          refine m_cV (ct_M_hasAt w am hI S.1 S.2.1 S.2.2.1 S.2.2.2.1 S.2.2.2.2.1 S.2.2.2.2.2.1 S.2.2.2.2.2.2.1 S.2.2.2.2.2.2.2 a (sv_cb o.2.2.2 key) key o.2.2.1.length (by omega) la (Nat.le_trans (sv_cb_le _ _) qa.2.2) sa) hx hfl hK hb (by rw [hml]; exact hl.1) hown (hw _ mm_M_70) (hw _ mk_M_hasAt) (hw _ mi_M_hasAt) (hw _ mq_M_hasAt) (show fx_N y_M_hasAt 3 by decide +kernel) rfl ⟨Nat.le_of_ble_eq_true rfl, Nat.le_of_ble_eq_true rfl, Nat.le_of_ble_eq_true rfl, Nat.le_of_ble_eq_true rfl⟩ hP hS d_M_bind_61 (fun H locs hP hS => ?_)
          have hP : va_P w.D cls (mw w am S) H := hP
          refine lv_if_eq (tgt := 71) hx hb d_M_bind_64 rfl (fun h64 => ?_) (fun h64 => ?_)
          · have h64 : ¬ o.2.2.2[sv_cb o.2.2.2 key]? = some key := fun z => zI_eq0.mp h64 ((m_has (qa.2.1 n3) (ya n3)).mpr z)
            refine lv_iconst (v := nI 0) hx hb d_M_bind_71 rfl ?_
            refine lv_istore hx hb d_M_bind_72 hl (by decide) rfl (fun ls hl => ?_)
            have hl : lv_has ls 8 [(6, .int (nI 0)), (5, .int (nI (sv_cb o.2.2.2 key))), (4, .int (nI 1)), (0, .ref (am 0)), (1, .int (nI a)), (2, .int key), (3, .int x)] := hl
            refine lv_aload_n hx hb d_M_bind_74 rfl (lv_at hl 3 rfl) ?_
            refine lv_iload hx hb d_M_bind_75 (lv_at hl 2 rfl) ?_
            refine lv_if_ne (tgt := 84) hx hb d_M_bind_77 rfl (fun _ => ?_) (fun h9 => absurd h9 (by decide))
            refine lv_aload_n hx hb d_M_bind_84 rfl (lv_at hl 3 rfl) ?_
            refine m_cV (ct_M_isFull w am hI S.1 S.2.1 S.2.2.1 S.2.2.2.1 S.2.2.2.2.1 S.2.2.2.2.2.1 S.2.2.2.2.2.2.1 S.2.2.2.2.2.2.2) hx hfl hK hb (by rw [hml]; exact hl.1) hown (hw _ mm_M_46) (hw _ mk_M_isFull) (hw _ mi_M_isFull) (hw _ mq_M_isFull) (show fx_N y_M_isFull 0 by decide +kernel) rfl ⟨Nat.le_of_ble_eq_true rfl, Nat.le_of_ble_eq_true rfl, Nat.le_of_ble_eq_true rfl, Nat.le_of_ble_eq_true rfl⟩ hP hS d_M_bind_85 (fun H locs hP hS => ?_)
            have hP : va_P w.D cls (mw w am S) H := hP
            refine lv_if_ne (tgt := 107) hx hb d_M_bind_88 rfl (fun h88 => ?_) (fun h88 => ?_)
            · have h88 : 64 ≤ Vs.length := by have := zI_ne0.mp h88; rw [hn] at this; exact (nI_leI (by decide) (by omega)).mp this
              refine lv_iconst (v := nI 2) hx hb d_M_bind_107 rfl ?_
              refine lv_goto (tgt := 112) hx hb d_M_bind_108 rfl ?_
              refine m_rThr hI hA (nI 2) hx hfl hK hb (by rw [hml]; exact hl.1) hown (hw _ mm_M_50) ⟨Nat.le_of_ble_eq_true rfl, Nat.le_of_ble_eq_true rfl, Nat.le_of_ble_eq_true rfl, Nat.le_of_ble_eq_true rfl⟩ hP hS d_M_bind_112 (fun S1 hA hT H locs hP hS => ?_)
              have hn : S1.1 = nI Vs.length := hA.1
              refine lv_if_eq (tgt := 120) hx hb d_M_bind_115 rfl (fun h9 => absurd h9 (by rw [zI_t (by decide)]; decide)) (fun _ => ?_)
              refine lv_iconst (v := nI 0) hx hb d_M_bind_118 rfl ?_
              exact fx_iret hx hb hr hlk hS.2.2 (Nat.le_of_ble_eq_true rfl) (Nat.le_of_ble_eq_true rfl) d_M_bind_119 (⟨by rw [(show so_bind Vs (nI a) key x = (2, 0, Vs) from by unfold so_bind; rw [ta]; dsimp only; rw [if_pos ⟨n3, Int32.not_lt.mp h17, Int32.not_lt.mp h24⟩, if_neg h64, if_pos (Or.inl h88)])]; exact rfl, S1, hP, by rw [(show so_bind Vs (nI a) key x = (2, 0, Vs) from by unfold so_bind; rw [ta]; dsimp only; rw [if_pos ⟨n3, Int32.not_lt.mp h17, Int32.not_lt.mp h24⟩, if_neg h64, if_pos (Or.inl h88)])]; exact hA, by rw [(show so_bind Vs (nI a) key x = (2, 0, Vs) from by unfold so_bind; rw [ta]; dsimp only; rw [if_pos ⟨n3, Int32.not_lt.mp h17, Int32.not_lt.mp h24⟩, if_neg h64, if_pos (Or.inl h88)])]; exact hT⟩)
            · have h88 : ¬ 64 ≤ Vs.length := fun z => zI_eq0.mp h88 (by rw [hn]; exact nI_le z (by omega))
              refine lv_iload hx hb d_M_bind_91 (lv_at hl 0 rfl) ?_
              refine lv_if_ne (tgt := 111) hx hb d_M_bind_93 rfl (fun h9 => absurd rfl h9) (fun _ => ?_)
              refine lv_aload_n hx hb d_M_bind_96 rfl (lv_at hl 3 rfl) ?_
              refine fx_get hx hb hown (kc_M hK _) hKv 3 (by decide) (hw _ mf_M_16) (fun _ h => h) (hP 0 _ rfl) rfl d_M_bind_97 ?_
              refine lv_iload_n hx hb d_M_bind_100 rfl (lv_at hl 4 rfl) ?_
              refine fx_iald (j := a) hx hb hKv 0 (hP 3 _ rfl) rfl (rfl) (by omega) (by decide) d_M_bind_101 ?_
              refine lv_bipush (v := nI 100) hx hb d_M_bind_102 rfl ?_
              refine lv_icmp_lt (tgt := 111) hx hb d_M_bind_104 rfl (fun h104 => ?_) (fun h104 => ?_)
              · have h104 : o.2.2.1.length < 100 := by rw [sa] at h104; exact (nI_ltI (by omega) (by decide)).mp h104
                refine lv_iconst (v := nI 0) hx hb d_M_bind_111 rfl ?_
                refine m_rThr hI hA (nI 0) hx hfl hK hb (by rw [hml]; exact hl.1) hown (hw _ mm_M_50) ⟨Nat.le_of_ble_eq_true rfl, Nat.le_of_ble_eq_true rfl, Nat.le_of_ble_eq_true rfl, Nat.le_of_ble_eq_true rfl⟩ hP hS d_M_bind_112 (fun S1 hA hT H locs hP hS => ?_)
                have hn : S1.1 = nI Vs.length := hA.1
                refine lv_if_eq (tgt := 120) hx hb d_M_bind_115 rfl (fun _ => ?_) (fun h9 => absurd (zI_f (by decide)) h9)
                obtain ⟨ka, fa, sa, qa, xa, ya⟩ := hA.2.2.1 a o ga
                have ka : S1.2.2.1 a = o.1 := ka
                have fa : S1.2.2.2.1 a = o.2.1 := fa
                have sa : S1.2.2.2.2.1 a = nI o.2.2.1.length := sa
                have la : o.2.2.1.length ≤ 100 := qa.1
                refine lv_aload_n hx hb d_M_bind_120 rfl (lv_at hl 3 rfl) ?_
                refine lv_iconst (v := nI 3) hx hb d_M_bind_121 rfl ?_
                refine fx_ti (y := o.1) (n3.symm) ?_
                refine lv_aload_n hx hb d_M_bind_122 rfl (lv_at hl 3 rfl) ?_
                refine fx_get hx hb hown (kc_M hK _) hKv 2 (by decide) (hw _ mf_M_13) (fun _ h => h) (hP 0 _ rfl) rfl d_M_bind_123 ?_
                refine lv_iload_n hx hb d_M_bind_126 rfl (lv_at hl 4 rfl) ?_
                refine fx_iald (j := a) hx hb hKv 0 (hP 2 _ rfl) rfl (rfl) (by omega) (by decide) d_M_bind_127 ?_
                refine fx_ti (y := o.2.1) (fa) ?_
                refine m_rCreate hI hA (by omega) (o.1) (o.2.1) hx hfl hK hb (by rw [hml]; exact hl.1) hown (hw _ mm_M_53) ⟨Nat.le_of_ble_eq_true rfl, Nat.le_of_ble_eq_true rfl, Nat.le_of_ble_eq_true rfl, Nat.le_of_ble_eq_true rfl⟩ hP hS d_M_bind_128 (fun S2 hB hT1 H locs hP hS => ?_)
                have hT := hT1.trans hT
                refine lv_istore hx hb d_M_bind_131 hl (by decide) rfl (fun ls hl => ?_)
                have hl : lv_has ls 8 [(7, .int (nI Vs.length)), (6, .int (nI 0)), (5, .int (nI (sv_cb o.2.2.2 key))), (4, .int (nI 1)), (0, .ref (am 0)), (1, .int (nI a)), (2, .int key), (3, .int x)] := hl
                refine lv_aload_n hx hb d_M_bind_133 rfl (lv_at hl 4 rfl) ?_
                refine lv_iload_n hx hb d_M_bind_134 rfl (lv_at hl 5 rfl) ?_
                refine lv_iconst (v := nI 0) hx hb d_M_bind_135 rfl ?_
                refine lv_iload hx hb d_M_bind_136 (lv_at hl 2 rfl) ?_
                refine m_rAll hI hB (o := o) ga (Nat.zero_le _) (hcl) (by show 0 + (sv_cb o.2.2.2 key - 0) ≤ 100; omega) (fun z => z) hx hfl hK hb (by rw [hml]; exact hl.1) hown (hw _ mm_M_63) ⟨Nat.le_of_ble_eq_true rfl, Nat.le_of_ble_eq_true rfl, Nat.le_of_ble_eq_true rfl, Nat.le_of_ble_eq_true rfl⟩ hP hS d_M_bind_138 (fun S3 hB hT1 H locs hP hS => ?_)
                have hT := hT1.trans hT
                simp only [List.nil_append, sv_cut_0] at hB
                refine lv_aload_n hx hb d_M_bind_141 rfl (lv_at hl 4 rfl) ?_
                refine lv_iload_n hx hb d_M_bind_142 rfl (lv_at hl 6 rfl) ?_
                refine lv_iload_n hx hb d_M_bind_143 rfl (lv_at hl 7 rfl) ?_
                refine m_rPut hI hB (by rw [List.length_take]; omega) key x hx hfl hK hb (by rw [hml]; exact hl.1) hown (hw _ mm_M_42) ⟨Nat.le_of_ble_eq_true rfl, Nat.le_of_ble_eq_true rfl, Nat.le_of_ble_eq_true rfl, Nat.le_of_ble_eq_true rfl⟩ hP hS d_M_bind_144 (fun S4 hB hT1 H locs hP hS => ?_)
                have hT := hT1.trans hT
                refine lv_aload_n hx hb d_M_bind_147 rfl (lv_at hl 4 rfl) ?_
                refine lv_iload_n hx hb d_M_bind_148 rfl (lv_at hl 5 rfl) ?_
                refine lv_iload hx hb d_M_bind_149 (lv_at hl 1 rfl) ?_
                refine lv_if_eq (tgt := 161) hx hb d_M_bind_151 rfl (fun _ => ?_) (fun h9 => absurd rfl h9)
                refine lv_iload hx hb d_M_bind_161 (lv_at hl 2 rfl) ?_
                refine lv_aload_n hx hb d_M_bind_163 rfl (lv_at hl 4 rfl) ?_
                refine fx_get hx hb hown (kc_M hK _) hKv 3 (by decide) (hw _ mf_M_16) (fun _ h => h) (hP 0 _ rfl) rfl d_M_bind_164 ?_
                refine lv_iload_n hx hb d_M_bind_167 rfl (lv_at hl 5 rfl) ?_
                refine fx_iald (j := a) hx hb hKv 0 (hP 3 _ rfl) rfl (rfl) (by omega) (by decide) d_M_bind_168 ?_
                obtain ⟨ka, fa, sa, qa, xa, ya⟩ := hB.2.2.1 a o ga
                have ka : S4.2.2.1 a = o.1 := ka
                have fa : S4.2.2.2.1 a = o.2.1 := fa
                have sa : S4.2.2.2.2.1 a = nI o.2.2.1.length := sa
                have la : o.2.2.1.length ≤ 100 := qa.1
                refine fx_ti (y := nI o.2.2.1.length) (sa) ?_
                refine m_rAll hI hB (o := o) ga (by omega) (Nat.le_refl _) (by simp only [List.length_append, List.length_take, List.length_singleton]; omega) (fun _ => n3) hx hfl hK hb (by rw [hml]; exact hl.1) hown (hw _ mm_M_63) ⟨Nat.le_of_ble_eq_true rfl, Nat.le_of_ble_eq_true rfl, Nat.le_of_ble_eq_true rfl, Nat.le_of_ble_eq_true rfl⟩ hP hS d_M_bind_169 (fun S5 hB hT1 H locs hP hS => ?_)
                have hT := hT1.trans hT
                have hF : mAbs S5 (Vs ++ [(o.1, o.2.1, sv_ins o.2.2.1 (sv_cb o.2.2.2 key) x, sv_ins o.2.2.2 (sv_cb o.2.2.2 key) key)]) := by have := mB_done hB (sv_ins o.2.2.2 (sv_cb o.2.2.2 key) key) (fun z => by rw [← qa.2.1 n3]; simp only [sv_cut_all, List.append_assoc, List.singleton_append]; rfl) (by rw [sv_ins_length (sv_cb_le _ _), qa.2.1 n3]; omega); simp only [sv_cut_all, List.append_assoc, List.singleton_append] at this; exact this
                refine lv_iload hx hb d_M_bind_172 (lv_at hl 0 rfl) ?_
                exact fx_iret hx hb hr hlk hS.2.2 (Nat.le_of_ble_eq_true rfl) (Nat.le_of_ble_eq_true rfl) d_M_bind_174 (⟨by rw [(show so_bind Vs (nI a) key x = sv_new Vs (o.1, o.2.1, sv_ins o.2.2.1 (sv_cb o.2.2.2 key) x, sv_ins o.2.2.2 (sv_cb o.2.2.2 key) key) from by unfold so_bind; rw [ta]; dsimp only; rw [if_pos ⟨n3, Int32.not_lt.mp h17, Int32.not_lt.mp h24⟩, if_neg h64, if_neg (fun z => z.elim h88 (by omega))])]; exact rfl, S5, hP, by rw [(show so_bind Vs (nI a) key x = sv_new Vs (o.1, o.2.1, sv_ins o.2.2.1 (sv_cb o.2.2.2 key) x, sv_ins o.2.2.2 (sv_cb o.2.2.2 key) key) from by unfold so_bind; rw [ta]; dsimp only; rw [if_pos ⟨n3, Int32.not_lt.mp h17, Int32.not_lt.mp h24⟩, if_neg h64, if_neg (fun z => z.elim h88 (by omega))])]; exact hF, by rw [(show so_bind Vs (nI a) key x = sv_new Vs (o.1, o.2.1, sv_ins o.2.2.1 (sv_cb o.2.2.2 key) x, sv_ins o.2.2.2 (sv_cb o.2.2.2 key) key) from by unfold so_bind; rw [ta]; dsimp only; rw [if_pos ⟨n3, Int32.not_lt.mp h17, Int32.not_lt.mp h24⟩, if_neg h64, if_neg (fun z => z.elim h88 (by omega))])]; exact hT⟩)
              · have h104 : 100 ≤ o.2.2.1.length := by rw [sa] at h104; exact Nat.not_lt.mp (fun z => h104 (nI_lt z (by decide)))
                refine lv_iconst (v := nI 2) hx hb d_M_bind_107 rfl ?_
                refine lv_goto (tgt := 112) hx hb d_M_bind_108 rfl ?_
                refine m_rThr hI hA (nI 2) hx hfl hK hb (by rw [hml]; exact hl.1) hown (hw _ mm_M_50) ⟨Nat.le_of_ble_eq_true rfl, Nat.le_of_ble_eq_true rfl, Nat.le_of_ble_eq_true rfl, Nat.le_of_ble_eq_true rfl⟩ hP hS d_M_bind_112 (fun S1 hA hT H locs hP hS => ?_)
                have hn : S1.1 = nI Vs.length := hA.1
                refine lv_if_eq (tgt := 120) hx hb d_M_bind_115 rfl (fun h9 => absurd h9 (by rw [zI_t (by decide)]; decide)) (fun _ => ?_)
                refine lv_iconst (v := nI 0) hx hb d_M_bind_118 rfl ?_
                exact fx_iret hx hb hr hlk hS.2.2 (Nat.le_of_ble_eq_true rfl) (Nat.le_of_ble_eq_true rfl) d_M_bind_119 (⟨by rw [(show so_bind Vs (nI a) key x = (2, 0, Vs) from by unfold so_bind; rw [ta]; dsimp only; rw [if_pos ⟨n3, Int32.not_lt.mp h17, Int32.not_lt.mp h24⟩, if_neg h64, if_pos (Or.inr h104)])]; exact rfl, S1, hP, by rw [(show so_bind Vs (nI a) key x = (2, 0, Vs) from by unfold so_bind; rw [ta]; dsimp only; rw [if_pos ⟨n3, Int32.not_lt.mp h17, Int32.not_lt.mp h24⟩, if_neg h64, if_pos (Or.inr h104)])]; exact hA, by rw [(show so_bind Vs (nI a) key x = (2, 0, Vs) from by unfold so_bind; rw [ta]; dsimp only; rw [if_pos ⟨n3, Int32.not_lt.mp h17, Int32.not_lt.mp h24⟩, if_neg h64, if_pos (Or.inr h104)])]; exact hT⟩)
          · have hcb : sv_cb o.2.2.2 key < o.2.2.1.length := (zI_ne0.mp h64).1
            have h64 := (m_has (qa.2.1 n3) (ya n3)).mp (zI_ne0.mp h64)
            refine lv_iconst (v := nI 1) hx hb d_M_bind_67 rfl ?_
            refine lv_goto (tgt := 72) hx hb d_M_bind_68 rfl ?_
            refine lv_istore hx hb d_M_bind_72 hl (by decide) rfl (fun ls hl => ?_)
            have hl : lv_has ls 8 [(6, .int (nI 1)), (5, .int (nI (sv_cb o.2.2.2 key))), (4, .int (nI 1)), (0, .ref (am 0)), (1, .int (nI a)), (2, .int key), (3, .int x)] := hl
            refine lv_aload_n hx hb d_M_bind_74 rfl (lv_at hl 3 rfl) ?_
            refine lv_iload hx hb d_M_bind_75 (lv_at hl 2 rfl) ?_
            refine lv_if_ne (tgt := 84) hx hb d_M_bind_77 rfl (fun _ => ?_) (fun h9 => absurd h9 (by decide))
            refine lv_aload_n hx hb d_M_bind_84 rfl (lv_at hl 3 rfl) ?_
            refine m_cV (ct_M_isFull w am hI S.1 S.2.1 S.2.2.1 S.2.2.2.1 S.2.2.2.2.1 S.2.2.2.2.2.1 S.2.2.2.2.2.2.1 S.2.2.2.2.2.2.2) hx hfl hK hb (by rw [hml]; exact hl.1) hown (hw _ mm_M_46) (hw _ mk_M_isFull) (hw _ mi_M_isFull) (hw _ mq_M_isFull) (show fx_N y_M_isFull 0 by decide +kernel) rfl ⟨Nat.le_of_ble_eq_true rfl, Nat.le_of_ble_eq_true rfl, Nat.le_of_ble_eq_true rfl, Nat.le_of_ble_eq_true rfl⟩ hP hS d_M_bind_85 (fun H locs hP hS => ?_)
            have hP : va_P w.D cls (mw w am S) H := hP
            refine lv_if_ne (tgt := 107) hx hb d_M_bind_88 rfl (fun h88 => ?_) (fun h88 => ?_)
            · have h88 : 64 ≤ Vs.length := by have := zI_ne0.mp h88; rw [hn] at this; exact (nI_leI (by decide) (by omega)).mp this
              refine lv_iconst (v := nI 2) hx hb d_M_bind_107 rfl ?_
              refine lv_goto (tgt := 112) hx hb d_M_bind_108 rfl ?_
              refine m_rThr hI hA (nI 2) hx hfl hK hb (by rw [hml]; exact hl.1) hown (hw _ mm_M_50) ⟨Nat.le_of_ble_eq_true rfl, Nat.le_of_ble_eq_true rfl, Nat.le_of_ble_eq_true rfl, Nat.le_of_ble_eq_true rfl⟩ hP hS d_M_bind_112 (fun S1 hA hT H locs hP hS => ?_)
              have hn : S1.1 = nI Vs.length := hA.1
              refine lv_if_eq (tgt := 120) hx hb d_M_bind_115 rfl (fun h9 => absurd h9 (by rw [zI_t (by decide)]; decide)) (fun _ => ?_)
              refine lv_iconst (v := nI 0) hx hb d_M_bind_118 rfl ?_
              exact fx_iret hx hb hr hlk hS.2.2 (Nat.le_of_ble_eq_true rfl) (Nat.le_of_ble_eq_true rfl) d_M_bind_119 (⟨by rw [(show so_bind Vs (nI a) key x = (2, 0, Vs) from by unfold so_bind; rw [ta]; dsimp only; rw [if_pos ⟨n3, Int32.not_lt.mp h17, Int32.not_lt.mp h24⟩, if_pos h64, if_pos h88])]; exact rfl, S1, hP, by rw [(show so_bind Vs (nI a) key x = (2, 0, Vs) from by unfold so_bind; rw [ta]; dsimp only; rw [if_pos ⟨n3, Int32.not_lt.mp h17, Int32.not_lt.mp h24⟩, if_pos h64, if_pos h88])]; exact hA, by rw [(show so_bind Vs (nI a) key x = (2, 0, Vs) from by unfold so_bind; rw [ta]; dsimp only; rw [if_pos ⟨n3, Int32.not_lt.mp h17, Int32.not_lt.mp h24⟩, if_pos h64, if_pos h88])]; exact hT⟩)
            · have h88 : ¬ 64 ≤ Vs.length := fun z => zI_eq0.mp h88 (by rw [hn]; exact nI_le z (by omega))
              refine lv_iload hx hb d_M_bind_91 (lv_at hl 0 rfl) ?_
              refine lv_if_ne (tgt := 111) hx hb d_M_bind_93 rfl (fun _ => ?_) (fun h9 => absurd h9 (by decide))
              refine lv_iconst (v := nI 0) hx hb d_M_bind_111 rfl ?_
              refine m_rThr hI hA (nI 0) hx hfl hK hb (by rw [hml]; exact hl.1) hown (hw _ mm_M_50) ⟨Nat.le_of_ble_eq_true rfl, Nat.le_of_ble_eq_true rfl, Nat.le_of_ble_eq_true rfl, Nat.le_of_ble_eq_true rfl⟩ hP hS d_M_bind_112 (fun S1 hA hT H locs hP hS => ?_)
              have hn : S1.1 = nI Vs.length := hA.1
              refine lv_if_eq (tgt := 120) hx hb d_M_bind_115 rfl (fun _ => ?_) (fun h9 => absurd (zI_f (by decide)) h9)
              obtain ⟨ka, fa, sa, qa, xa, ya⟩ := hA.2.2.1 a o ga
              have ka : S1.2.2.1 a = o.1 := ka
              have fa : S1.2.2.2.1 a = o.2.1 := fa
              have sa : S1.2.2.2.2.1 a = nI o.2.2.1.length := sa
              have la : o.2.2.1.length ≤ 100 := qa.1
              refine lv_aload_n hx hb d_M_bind_120 rfl (lv_at hl 3 rfl) ?_
              refine lv_iconst (v := nI 3) hx hb d_M_bind_121 rfl ?_
              refine fx_ti (y := o.1) (n3.symm) ?_
              refine lv_aload_n hx hb d_M_bind_122 rfl (lv_at hl 3 rfl) ?_
              refine fx_get hx hb hown (kc_M hK _) hKv 2 (by decide) (hw _ mf_M_13) (fun _ h => h) (hP 0 _ rfl) rfl d_M_bind_123 ?_
              refine lv_iload_n hx hb d_M_bind_126 rfl (lv_at hl 4 rfl) ?_
              refine fx_iald (j := a) hx hb hKv 0 (hP 2 _ rfl) rfl (rfl) (by omega) (by decide) d_M_bind_127 ?_
              refine fx_ti (y := o.2.1) (fa) ?_
              refine m_rCreate hI hA (by omega) (o.1) (o.2.1) hx hfl hK hb (by rw [hml]; exact hl.1) hown (hw _ mm_M_53) ⟨Nat.le_of_ble_eq_true rfl, Nat.le_of_ble_eq_true rfl, Nat.le_of_ble_eq_true rfl, Nat.le_of_ble_eq_true rfl⟩ hP hS d_M_bind_128 (fun S2 hB hT1 H locs hP hS => ?_)
              have hT := hT1.trans hT
              refine lv_istore hx hb d_M_bind_131 hl (by decide) rfl (fun ls hl => ?_)
              have hl : lv_has ls 8 [(7, .int (nI Vs.length)), (6, .int (nI 1)), (5, .int (nI (sv_cb o.2.2.2 key))), (4, .int (nI 1)), (0, .ref (am 0)), (1, .int (nI a)), (2, .int key), (3, .int x)] := hl
              refine lv_aload_n hx hb d_M_bind_133 rfl (lv_at hl 4 rfl) ?_
              refine lv_iload_n hx hb d_M_bind_134 rfl (lv_at hl 5 rfl) ?_
              refine lv_iconst (v := nI 0) hx hb d_M_bind_135 rfl ?_
              refine lv_iload hx hb d_M_bind_136 (lv_at hl 2 rfl) ?_
              refine m_rAll hI hB (o := o) ga (Nat.zero_le _) (hcl) (by show 0 + (sv_cb o.2.2.2 key - 0) ≤ 100; omega) (fun z => z) hx hfl hK hb (by rw [hml]; exact hl.1) hown (hw _ mm_M_63) ⟨Nat.le_of_ble_eq_true rfl, Nat.le_of_ble_eq_true rfl, Nat.le_of_ble_eq_true rfl, Nat.le_of_ble_eq_true rfl⟩ hP hS d_M_bind_138 (fun S3 hB hT1 H locs hP hS => ?_)
              have hT := hT1.trans hT
              simp only [List.nil_append, sv_cut_0] at hB
              refine lv_aload_n hx hb d_M_bind_141 rfl (lv_at hl 4 rfl) ?_
              refine lv_iload_n hx hb d_M_bind_142 rfl (lv_at hl 6 rfl) ?_
              refine lv_iload_n hx hb d_M_bind_143 rfl (lv_at hl 7 rfl) ?_
              refine m_rPut hI hB (by rw [List.length_take]; omega) key x hx hfl hK hb (by rw [hml]; exact hl.1) hown (hw _ mm_M_42) ⟨Nat.le_of_ble_eq_true rfl, Nat.le_of_ble_eq_true rfl, Nat.le_of_ble_eq_true rfl, Nat.le_of_ble_eq_true rfl⟩ hP hS d_M_bind_144 (fun S4 hB hT1 H locs hP hS => ?_)
              have hT := hT1.trans hT
              refine lv_aload_n hx hb d_M_bind_147 rfl (lv_at hl 4 rfl) ?_
              refine lv_iload_n hx hb d_M_bind_148 rfl (lv_at hl 5 rfl) ?_
              refine lv_iload hx hb d_M_bind_149 (lv_at hl 1 rfl) ?_
              refine lv_if_eq (tgt := 161) hx hb d_M_bind_151 rfl (fun h9 => absurd h9 (by decide)) (fun _ => ?_)
              refine lv_iload hx hb d_M_bind_154 (lv_at hl 2 rfl) ?_
              refine lv_iconst (v := nI 1) hx hb d_M_bind_156 rfl ?_
              refine lv_iadd hx hb d_M_bind_157 ?_
              refine fx_ti (y := nI (sv_cb o.2.2.2 key + 1)) (nI_1 _) ?_
              refine lv_goto (tgt := 163) hx hb d_M_bind_158 rfl ?_
              refine lv_aload_n hx hb d_M_bind_163 rfl (lv_at hl 4 rfl) ?_
              refine fx_get hx hb hown (kc_M hK _) hKv 3 (by decide) (hw _ mf_M_16) (fun _ h => h) (hP 0 _ rfl) rfl d_M_bind_164 ?_
              refine lv_iload_n hx hb d_M_bind_167 rfl (lv_at hl 5 rfl) ?_
              refine fx_iald (j := a) hx hb hKv 0 (hP 3 _ rfl) rfl (rfl) (by omega) (by decide) d_M_bind_168 ?_
              obtain ⟨ka, fa, sa, qa, xa, ya⟩ := hB.2.2.1 a o ga
              have ka : S4.2.2.1 a = o.1 := ka
              have fa : S4.2.2.2.1 a = o.2.1 := fa
              have sa : S4.2.2.2.2.1 a = nI o.2.2.1.length := sa
              have la : o.2.2.1.length ≤ 100 := qa.1
              refine fx_ti (y := nI o.2.2.1.length) (sa) ?_
              refine m_rAll hI hB (o := o) ga (by omega) (Nat.le_refl _) (by simp only [List.length_append, List.length_take, List.length_singleton]; omega) (fun _ => n3) hx hfl hK hb (by rw [hml]; exact hl.1) hown (hw _ mm_M_63) ⟨Nat.le_of_ble_eq_true rfl, Nat.le_of_ble_eq_true rfl, Nat.le_of_ble_eq_true rfl, Nat.le_of_ble_eq_true rfl⟩ hP hS d_M_bind_169 (fun S5 hB hT1 H locs hP hS => ?_)
              have hT := hT1.trans hT
              have hF : mAbs S5 (Vs ++ [(o.1, o.2.1, o.2.2.1.set (sv_cb o.2.2.2 key) x, o.2.2.2)]) := by have := mB_done hB o.2.2.2 (fun z => by rw [← qa.2.1 n3]; simp only [sv_cut_all, List.append_assoc, List.singleton_append]; exact (sv_same h64).symm) qa.2.2; simp only [sv_cut_all, List.append_assoc, List.singleton_append, sv_set hcb] at this; exact this
              refine lv_iload hx hb d_M_bind_172 (lv_at hl 0 rfl) ?_
              exact fx_iret hx hb hr hlk hS.2.2 (Nat.le_of_ble_eq_true rfl) (Nat.le_of_ble_eq_true rfl) d_M_bind_174 (⟨by rw [(show so_bind Vs (nI a) key x = sv_new Vs (o.1, o.2.1, o.2.2.1.set (sv_cb o.2.2.2 key) x, o.2.2.2) from by unfold so_bind; rw [ta]; dsimp only; rw [if_pos ⟨n3, Int32.not_lt.mp h17, Int32.not_lt.mp h24⟩, if_pos h64, if_neg h88])]; exact rfl, S5, hP, by rw [(show so_bind Vs (nI a) key x = sv_new Vs (o.1, o.2.1, o.2.2.1.set (sv_cb o.2.2.2 key) x, o.2.2.2) from by unfold so_bind; rw [ta]; dsimp only; rw [if_pos ⟨n3, Int32.not_lt.mp h17, Int32.not_lt.mp h24⟩, if_pos h64, if_neg h88])]; exact hF, by rw [(show so_bind Vs (nI a) key x = sv_new Vs (o.1, o.2.1, o.2.2.1.set (sv_cb o.2.2.2 key) x, o.2.2.2) from by unfold so_bind; rw [ta]; dsimp only; rw [if_pos ⟨n3, Int32.not_lt.mp h17, Int32.not_lt.mp h24⟩, if_pos h64, if_neg h88])]; exact hT⟩)
set_option maxHeartbeats 4000000 in
set_option maxRecDepth 100000 in
theorem ct_M_empty (w : Wd) (am : Nat → Nat) (hI : mI am) (Vs : List sV) (k f : Int32) : mApi w am y_M_empty 5 (rmK 3) [.int k, .int f] Vs (so_empty Vs k f) := by
  intro S hA
  have hn : S.1 = nI Vs.length := hA.1
  have hVl : Vs.length ≤ 64 := hA.2.1
  refine fx_of (ret := some .int) (cc := b_M_empty) (fun s hK => hK.1 _ mk_M_empty _) (Nat.le_of_ble_eq_true rfl) ?_
  intro p l e s m below meth c hx hfl hK hb hml hr hlk hnt hown hin hP ls hl
  have hw : ∀ z ∈ gw, z.before (.ref (am 0) :: [.int k, .int f] : List Value).toArray s = true := fun z hz => hK.1 z hz _
  have hKv := hK.2.1
  have hS : va_S (mA am) s.heap s.heap [] := va_S.rf
  have hP : va_P w.D cls (mw w am S) s.heap := hP
  have hl : lv_has ls 5 [(0, .ref (am 0)), (1, .int k), (2, .int f)] := hl
  refine lv_iload_n hx hb d_M_empty_0 rfl (lv_at hl 1 rfl) ?_
  refine lv_iconst (v := nI 2) hx hb d_M_empty_1 rfl ?_
  refine lv_icmp_ge (tgt := 9) hx hb d_M_empty_2 rfl (fun h2 => ?_) (fun h2 => ?_)
  · refine lv_iload_n hx hb d_M_empty_9 rfl (lv_at hl 1 rfl) ?_
    refine lv_iconst (v := nI 4) hx hb d_M_empty_10 rfl ?_
    refine lv_icmp_ge (tgt := 18) hx hb d_M_empty_11 rfl (fun h11 => ?_) (fun h11 => ?_)
    · refine lv_iconst (v := nI 0) hx hb d_M_empty_18 rfl ?_
      have hm : (if k < 2 then (2 : Int32) else if k < 4 then 1 else 0) = nI 0 := by rw [if_neg (c := k < 2) (Int32.not_lt.mpr h2), if_neg (c := k < 4) (Int32.not_lt.mpr h11)]; rfl
      refine lv_istore_n hx hb d_M_empty_19 rfl hl (by decide) rfl (fun ls hl => ?_)
      have hl : lv_has ls 5 [(3, .int (nI 0)), (0, .ref (am 0)), (1, .int k), (2, .int f)] := hl
      refine lv_iload_n hx hb d_M_empty_20 rfl (lv_at hl 2 rfl) ?_
      refine lv_if_lt (tgt := 42) hx hb d_M_empty_21 rfl (fun h21 => ?_) (fun h21 => ?_)
      · refine lv_iconst (v := nI 0) hx hb d_M_empty_42 rfl ?_
        refine lv_istore hx hb d_M_empty_43 hl (by decide) rfl (fun ls hl => ?_)
        have hl : lv_has ls 5 [(4, .int (nI 0)), (3, .int (nI 0)), (0, .ref (am 0)), (1, .int k), (2, .int f)] := hl
        refine lv_aload_n hx hb d_M_empty_45 rfl (lv_at hl 2 rfl) ?_
        refine lv_iload hx hb d_M_empty_46 (lv_at hl 0 rfl) ?_
        refine lv_if_ne (tgt := 55) hx hb d_M_empty_48 rfl (fun h9 => absurd rfl h9) (fun _ => ?_)
        refine lv_iconst (v := nI 1) hx hb d_M_empty_51 rfl ?_
        refine lv_goto (tgt := 67) hx hb d_M_empty_52 rfl ?_
        refine m_rThr hI hA (nI 1) hx hfl hK hb (by rw [hml]; exact hl.1) hown (hw _ mm_M_50) ⟨Nat.le_of_ble_eq_true rfl, Nat.le_of_ble_eq_true rfl, Nat.le_of_ble_eq_true rfl, Nat.le_of_ble_eq_true rfl⟩ hP hS d_M_empty_67 (fun S1 hA hT H locs hP hS => ?_)
        have hn : S1.1 = nI Vs.length := hA.1
        refine lv_if_eq (tgt := 75) hx hb d_M_empty_70 rfl (fun h9 => absurd h9 (by rw [zI_t (by decide)]; decide)) (fun _ => ?_)
        refine lv_iconst (v := nI 0) hx hb d_M_empty_73 rfl ?_
        exact fx_iret hx hb hr hlk hS.2.2 (Nat.le_of_ble_eq_true rfl) (Nat.le_of_ble_eq_true rfl) d_M_empty_74 (⟨by rw [(show so_empty Vs k f = (1, 0, Vs) from by unfold so_empty; rw [if_neg (fun z => absurd h21 (Int32.not_lt.mpr z.1))])]; exact rfl, S1, hP, by rw [(show so_empty Vs k f = (1, 0, Vs) from by unfold so_empty; rw [if_neg (fun z => absurd h21 (Int32.not_lt.mpr z.1))])]; exact hA, by rw [(show so_empty Vs k f = (1, 0, Vs) from by unfold so_empty; rw [if_neg (fun z => absurd h21 (Int32.not_lt.mpr z.1))])]; exact hT⟩)
      · refine lv_iload_n hx hb d_M_empty_24 rfl (lv_at hl 2 rfl) ?_
        refine lv_iconst (v := nI 4) hx hb d_M_empty_25 rfl ?_
        refine lv_icmp_gt (tgt := 42) hx hb d_M_empty_26 rfl (fun h26 => ?_) (fun h26 => ?_)
        · refine lv_iconst (v := nI 0) hx hb d_M_empty_42 rfl ?_
          refine lv_istore hx hb d_M_empty_43 hl (by decide) rfl (fun ls hl => ?_)
          have hl : lv_has ls 5 [(4, .int (nI 0)), (3, .int (nI 0)), (0, .ref (am 0)), (1, .int k), (2, .int f)] := hl
          refine lv_aload_n hx hb d_M_empty_45 rfl (lv_at hl 2 rfl) ?_
          refine lv_iload hx hb d_M_empty_46 (lv_at hl 0 rfl) ?_
          refine lv_if_ne (tgt := 55) hx hb d_M_empty_48 rfl (fun h9 => absurd rfl h9) (fun _ => ?_)
          refine lv_iconst (v := nI 1) hx hb d_M_empty_51 rfl ?_
          refine lv_goto (tgt := 67) hx hb d_M_empty_52 rfl ?_
          refine m_rThr hI hA (nI 1) hx hfl hK hb (by rw [hml]; exact hl.1) hown (hw _ mm_M_50) ⟨Nat.le_of_ble_eq_true rfl, Nat.le_of_ble_eq_true rfl, Nat.le_of_ble_eq_true rfl, Nat.le_of_ble_eq_true rfl⟩ hP hS d_M_empty_67 (fun S1 hA hT H locs hP hS => ?_)
          have hn : S1.1 = nI Vs.length := hA.1
          refine lv_if_eq (tgt := 75) hx hb d_M_empty_70 rfl (fun h9 => absurd h9 (by rw [zI_t (by decide)]; decide)) (fun _ => ?_)
          refine lv_iconst (v := nI 0) hx hb d_M_empty_73 rfl ?_
          exact fx_iret hx hb hr hlk hS.2.2 (Nat.le_of_ble_eq_true rfl) (Nat.le_of_ble_eq_true rfl) d_M_empty_74 (⟨by rw [(show so_empty Vs k f = (1, 0, Vs) from by unfold so_empty; rw [if_neg (fun z => absurd z.2.1 (Int32.not_le.mpr h26))])]; exact rfl, S1, hP, by rw [(show so_empty Vs k f = (1, 0, Vs) from by unfold so_empty; rw [if_neg (fun z => absurd z.2.1 (Int32.not_le.mpr h26))])]; exact hA, by rw [(show so_empty Vs k f = (1, 0, Vs) from by unfold so_empty; rw [if_neg (fun z => absurd z.2.1 (Int32.not_le.mpr h26))])]; exact hT⟩)
        · refine lv_iload_n hx hb d_M_empty_29 rfl (lv_at hl 3 rfl) ?_
          refine lv_if_lt (tgt := 42) hx hb d_M_empty_30 rfl (fun h30 => ?_) (fun h30 => ?_)
          · refine lv_iconst (v := nI 0) hx hb d_M_empty_42 rfl ?_
            refine lv_istore hx hb d_M_empty_43 hl (by decide) rfl (fun ls hl => ?_)
            have hl : lv_has ls 5 [(4, .int (nI 0)), (3, .int (nI 0)), (0, .ref (am 0)), (1, .int k), (2, .int f)] := hl
            refine lv_aload_n hx hb d_M_empty_45 rfl (lv_at hl 2 rfl) ?_
            refine lv_iload hx hb d_M_empty_46 (lv_at hl 0 rfl) ?_
            refine lv_if_ne (tgt := 55) hx hb d_M_empty_48 rfl (fun h9 => absurd rfl h9) (fun _ => ?_)
            refine lv_iconst (v := nI 1) hx hb d_M_empty_51 rfl ?_
            refine lv_goto (tgt := 67) hx hb d_M_empty_52 rfl ?_
            refine m_rThr hI hA (nI 1) hx hfl hK hb (by rw [hml]; exact hl.1) hown (hw _ mm_M_50) ⟨Nat.le_of_ble_eq_true rfl, Nat.le_of_ble_eq_true rfl, Nat.le_of_ble_eq_true rfl, Nat.le_of_ble_eq_true rfl⟩ hP hS d_M_empty_67 (fun S1 hA hT H locs hP hS => ?_)
            have hn : S1.1 = nI Vs.length := hA.1
            refine lv_if_eq (tgt := 75) hx hb d_M_empty_70 rfl (fun h9 => absurd h9 (by rw [zI_t (by decide)]; decide)) (fun _ => ?_)
            refine lv_iconst (v := nI 0) hx hb d_M_empty_73 rfl ?_
            exact fx_iret hx hb hr hlk hS.2.2 (Nat.le_of_ble_eq_true rfl) (Nat.le_of_ble_eq_true rfl) d_M_empty_74 (⟨by rw [(show so_empty Vs k f = (1, 0, Vs) from by unfold so_empty; rw [if_neg (fun z => absurd h30 (Int32.not_lt.mpr z.2.2.1))])]; exact rfl, S1, hP, by rw [(show so_empty Vs k f = (1, 0, Vs) from by unfold so_empty; rw [if_neg (fun z => absurd h30 (Int32.not_lt.mpr z.2.2.1))])]; exact hA, by rw [(show so_empty Vs k f = (1, 0, Vs) from by unfold so_empty; rw [if_neg (fun z => absurd h30 (Int32.not_lt.mpr z.2.2.1))])]; exact hT⟩)
          · refine lv_iload_n hx hb d_M_empty_33 rfl (lv_at hl 3 rfl) ?_
            refine lv_iload_n hx hb d_M_empty_34 rfl (lv_at hl 0 rfl) ?_
            refine lv_icmp_gt (tgt := 42) hx hb d_M_empty_35 rfl (fun h35 => ?_) (fun h35 => ?_)
            · refine lv_iconst (v := nI 0) hx hb d_M_empty_42 rfl ?_
              refine lv_istore hx hb d_M_empty_43 hl (by decide) rfl (fun ls hl => ?_)
              have hl : lv_has ls 5 [(4, .int (nI 0)), (3, .int (nI 0)), (0, .ref (am 0)), (1, .int k), (2, .int f)] := hl
              refine lv_aload_n hx hb d_M_empty_45 rfl (lv_at hl 2 rfl) ?_
              refine lv_iload hx hb d_M_empty_46 (lv_at hl 0 rfl) ?_
              refine lv_if_ne (tgt := 55) hx hb d_M_empty_48 rfl (fun h9 => absurd rfl h9) (fun _ => ?_)
              refine lv_iconst (v := nI 1) hx hb d_M_empty_51 rfl ?_
              refine lv_goto (tgt := 67) hx hb d_M_empty_52 rfl ?_
              refine m_rThr hI hA (nI 1) hx hfl hK hb (by rw [hml]; exact hl.1) hown (hw _ mm_M_50) ⟨Nat.le_of_ble_eq_true rfl, Nat.le_of_ble_eq_true rfl, Nat.le_of_ble_eq_true rfl, Nat.le_of_ble_eq_true rfl⟩ hP hS d_M_empty_67 (fun S1 hA hT H locs hP hS => ?_)
              have hn : S1.1 = nI Vs.length := hA.1
              refine lv_if_eq (tgt := 75) hx hb d_M_empty_70 rfl (fun h9 => absurd h9 (by rw [zI_t (by decide)]; decide)) (fun _ => ?_)
              refine lv_iconst (v := nI 0) hx hb d_M_empty_73 rfl ?_
              exact fx_iret hx hb hr hlk hS.2.2 (Nat.le_of_ble_eq_true rfl) (Nat.le_of_ble_eq_true rfl) d_M_empty_74 (⟨by rw [(show so_empty Vs k f = (1, 0, Vs) from by unfold so_empty; rw [hm, if_neg (fun z => absurd z.2.2.2 (Int32.not_le.mpr h35))])]; exact rfl, S1, hP, by rw [(show so_empty Vs k f = (1, 0, Vs) from by unfold so_empty; rw [hm, if_neg (fun z => absurd z.2.2.2 (Int32.not_le.mpr h35))])]; exact hA, by rw [(show so_empty Vs k f = (1, 0, Vs) from by unfold so_empty; rw [hm, if_neg (fun z => absurd z.2.2.2 (Int32.not_le.mpr h35))])]; exact hT⟩)
            · refine lv_iconst (v := nI 1) hx hb d_M_empty_38 rfl ?_
              refine lv_goto (tgt := 43) hx hb d_M_empty_39 rfl ?_
              refine lv_istore hx hb d_M_empty_43 hl (by decide) rfl (fun ls hl => ?_)
              have hl : lv_has ls 5 [(4, .int (nI 1)), (3, .int (nI 0)), (0, .ref (am 0)), (1, .int k), (2, .int f)] := hl
              refine lv_aload_n hx hb d_M_empty_45 rfl (lv_at hl 2 rfl) ?_
              refine lv_iload hx hb d_M_empty_46 (lv_at hl 0 rfl) ?_
              refine lv_if_ne (tgt := 55) hx hb d_M_empty_48 rfl (fun _ => ?_) (fun h9 => absurd h9 (by decide))
              refine lv_aload_n hx hb d_M_empty_55 rfl (lv_at hl 2 rfl) ?_
              refine m_cV (ct_M_isFull w am hI S.1 S.2.1 S.2.2.1 S.2.2.2.1 S.2.2.2.2.1 S.2.2.2.2.2.1 S.2.2.2.2.2.2.1 S.2.2.2.2.2.2.2) hx hfl hK hb (by rw [hml]; exact hl.1) hown (hw _ mm_M_46) (hw _ mk_M_isFull) (hw _ mi_M_isFull) (hw _ mq_M_isFull) (show fx_N y_M_isFull 0 by decide +kernel) rfl ⟨Nat.le_of_ble_eq_true rfl, Nat.le_of_ble_eq_true rfl, Nat.le_of_ble_eq_true rfl, Nat.le_of_ble_eq_true rfl⟩ hP hS d_M_empty_56 (fun H locs hP hS => ?_)
              have hP : va_P w.D cls (mw w am S) H := hP
              refine lv_if_eq (tgt := 66) hx hb d_M_empty_59 rfl (fun h59 => ?_) (fun h59 => ?_)
              · have h59 : ¬ 64 ≤ Vs.length := fun z => zI_eq0.mp h59 (by rw [hn]; exact nI_le z (by omega))
                refine lv_iconst (v := nI 0) hx hb d_M_empty_66 rfl ?_
                refine m_rThr hI hA (nI 0) hx hfl hK hb (by rw [hml]; exact hl.1) hown (hw _ mm_M_50) ⟨Nat.le_of_ble_eq_true rfl, Nat.le_of_ble_eq_true rfl, Nat.le_of_ble_eq_true rfl, Nat.le_of_ble_eq_true rfl⟩ hP hS d_M_empty_67 (fun S1 hA hT H locs hP hS => ?_)
                have hn : S1.1 = nI Vs.length := hA.1
                refine lv_if_eq (tgt := 75) hx hb d_M_empty_70 rfl (fun _ => ?_) (fun h9 => absurd (zI_f (by decide)) h9)
                refine lv_aload_n hx hb d_M_empty_75 rfl (lv_at hl 2 rfl) ?_
                refine lv_iload_n hx hb d_M_empty_76 rfl (lv_at hl 3 rfl) ?_
                refine lv_iload_n hx hb d_M_empty_77 rfl (lv_at hl 4 rfl) ?_
                refine m_rCreate hI hA (by omega) k f hx hfl hK hb (by rw [hml]; exact hl.1) hown (hw _ mm_M_53) ⟨Nat.le_of_ble_eq_true rfl, Nat.le_of_ble_eq_true rfl, Nat.le_of_ble_eq_true rfl, Nat.le_of_ble_eq_true rfl⟩ hP hS d_M_empty_78 (fun S2 hB hT1 H locs hP hS => ?_)
                have hT := hT1.trans hT
                have hF : mAbs S2 (Vs ++ [(k, f, [], [])]) := mB_done hB [] (fun _ => rfl) (Nat.zero_le _)
                exact fx_iret hx hb hr hlk hS.2.2 (Nat.le_of_ble_eq_true rfl) (Nat.le_of_ble_eq_true rfl) d_M_empty_81 (⟨by rw [(show so_empty Vs k f = sv_new Vs (k, f, [], []) from by unfold so_empty; rw [hm, if_pos ⟨Int32.not_lt.mp h21, Int32.not_lt.mp h26, Int32.not_lt.mp h30, Int32.not_lt.mp h35⟩, if_neg h59])]; exact rfl, S2, hP, by rw [(show so_empty Vs k f = sv_new Vs (k, f, [], []) from by unfold so_empty; rw [hm, if_pos ⟨Int32.not_lt.mp h21, Int32.not_lt.mp h26, Int32.not_lt.mp h30, Int32.not_lt.mp h35⟩, if_neg h59])]; exact hF, by rw [(show so_empty Vs k f = sv_new Vs (k, f, [], []) from by unfold so_empty; rw [hm, if_pos ⟨Int32.not_lt.mp h21, Int32.not_lt.mp h26, Int32.not_lt.mp h30, Int32.not_lt.mp h35⟩, if_neg h59])]; exact hT⟩)
              · have h59 : 64 ≤ Vs.length := by have := zI_ne0.mp h59; rw [hn] at this; exact (nI_leI (by decide) (by omega)).mp this
                refine lv_iconst (v := nI 2) hx hb d_M_empty_62 rfl ?_
                refine lv_goto (tgt := 67) hx hb d_M_empty_63 rfl ?_
                refine m_rThr hI hA (nI 2) hx hfl hK hb (by rw [hml]; exact hl.1) hown (hw _ mm_M_50) ⟨Nat.le_of_ble_eq_true rfl, Nat.le_of_ble_eq_true rfl, Nat.le_of_ble_eq_true rfl, Nat.le_of_ble_eq_true rfl⟩ hP hS d_M_empty_67 (fun S1 hA hT H locs hP hS => ?_)
                have hn : S1.1 = nI Vs.length := hA.1
                refine lv_if_eq (tgt := 75) hx hb d_M_empty_70 rfl (fun h9 => absurd h9 (by rw [zI_t (by decide)]; decide)) (fun _ => ?_)
                refine lv_iconst (v := nI 0) hx hb d_M_empty_73 rfl ?_
                exact fx_iret hx hb hr hlk hS.2.2 (Nat.le_of_ble_eq_true rfl) (Nat.le_of_ble_eq_true rfl) d_M_empty_74 (⟨by rw [(show so_empty Vs k f = (2, 0, Vs) from by unfold so_empty; rw [hm, if_pos ⟨Int32.not_lt.mp h21, Int32.not_lt.mp h26, Int32.not_lt.mp h30, Int32.not_lt.mp h35⟩, if_pos h59])]; exact rfl, S1, hP, by rw [(show so_empty Vs k f = (2, 0, Vs) from by unfold so_empty; rw [hm, if_pos ⟨Int32.not_lt.mp h21, Int32.not_lt.mp h26, Int32.not_lt.mp h30, Int32.not_lt.mp h35⟩, if_pos h59])]; exact hA, by rw [(show so_empty Vs k f = (2, 0, Vs) from by unfold so_empty; rw [hm, if_pos ⟨Int32.not_lt.mp h21, Int32.not_lt.mp h26, Int32.not_lt.mp h30, Int32.not_lt.mp h35⟩, if_pos h59])]; exact hT⟩)
    · refine lv_iconst (v := nI 1) hx hb d_M_empty_14 rfl ?_
      refine lv_goto (tgt := 19) hx hb d_M_empty_15 rfl ?_
      have hm : (if k < 2 then (2 : Int32) else if k < 4 then 1 else 0) = nI 1 := by rw [if_neg (c := k < 2) (Int32.not_lt.mpr h2), if_pos (c := k < 4) (Int32.not_le.mp h11)]; rfl
      refine lv_istore_n hx hb d_M_empty_19 rfl hl (by decide) rfl (fun ls hl => ?_)
      have hl : lv_has ls 5 [(3, .int (nI 1)), (0, .ref (am 0)), (1, .int k), (2, .int f)] := hl
      refine lv_iload_n hx hb d_M_empty_20 rfl (lv_at hl 2 rfl) ?_
      refine lv_if_lt (tgt := 42) hx hb d_M_empty_21 rfl (fun h21 => ?_) (fun h21 => ?_)
      · refine lv_iconst (v := nI 0) hx hb d_M_empty_42 rfl ?_
        refine lv_istore hx hb d_M_empty_43 hl (by decide) rfl (fun ls hl => ?_)
        have hl : lv_has ls 5 [(4, .int (nI 0)), (3, .int (nI 1)), (0, .ref (am 0)), (1, .int k), (2, .int f)] := hl
        refine lv_aload_n hx hb d_M_empty_45 rfl (lv_at hl 2 rfl) ?_
        refine lv_iload hx hb d_M_empty_46 (lv_at hl 0 rfl) ?_
        refine lv_if_ne (tgt := 55) hx hb d_M_empty_48 rfl (fun h9 => absurd rfl h9) (fun _ => ?_)
        refine lv_iconst (v := nI 1) hx hb d_M_empty_51 rfl ?_
        refine lv_goto (tgt := 67) hx hb d_M_empty_52 rfl ?_
        refine m_rThr hI hA (nI 1) hx hfl hK hb (by rw [hml]; exact hl.1) hown (hw _ mm_M_50) ⟨Nat.le_of_ble_eq_true rfl, Nat.le_of_ble_eq_true rfl, Nat.le_of_ble_eq_true rfl, Nat.le_of_ble_eq_true rfl⟩ hP hS d_M_empty_67 (fun S1 hA hT H locs hP hS => ?_)
        have hn : S1.1 = nI Vs.length := hA.1
        refine lv_if_eq (tgt := 75) hx hb d_M_empty_70 rfl (fun h9 => absurd h9 (by rw [zI_t (by decide)]; decide)) (fun _ => ?_)
        refine lv_iconst (v := nI 0) hx hb d_M_empty_73 rfl ?_
        exact fx_iret hx hb hr hlk hS.2.2 (Nat.le_of_ble_eq_true rfl) (Nat.le_of_ble_eq_true rfl) d_M_empty_74 (⟨by rw [(show so_empty Vs k f = (1, 0, Vs) from by unfold so_empty; rw [if_neg (fun z => absurd h21 (Int32.not_lt.mpr z.1))])]; exact rfl, S1, hP, by rw [(show so_empty Vs k f = (1, 0, Vs) from by unfold so_empty; rw [if_neg (fun z => absurd h21 (Int32.not_lt.mpr z.1))])]; exact hA, by rw [(show so_empty Vs k f = (1, 0, Vs) from by unfold so_empty; rw [if_neg (fun z => absurd h21 (Int32.not_lt.mpr z.1))])]; exact hT⟩)
      · refine lv_iload_n hx hb d_M_empty_24 rfl (lv_at hl 2 rfl) ?_
        refine lv_iconst (v := nI 4) hx hb d_M_empty_25 rfl ?_
        refine lv_icmp_gt (tgt := 42) hx hb d_M_empty_26 rfl (fun h26 => ?_) (fun h26 => ?_)
        · refine lv_iconst (v := nI 0) hx hb d_M_empty_42 rfl ?_
          refine lv_istore hx hb d_M_empty_43 hl (by decide) rfl (fun ls hl => ?_)
          have hl : lv_has ls 5 [(4, .int (nI 0)), (3, .int (nI 1)), (0, .ref (am 0)), (1, .int k), (2, .int f)] := hl
          refine lv_aload_n hx hb d_M_empty_45 rfl (lv_at hl 2 rfl) ?_
          refine lv_iload hx hb d_M_empty_46 (lv_at hl 0 rfl) ?_
          refine lv_if_ne (tgt := 55) hx hb d_M_empty_48 rfl (fun h9 => absurd rfl h9) (fun _ => ?_)
          refine lv_iconst (v := nI 1) hx hb d_M_empty_51 rfl ?_
          refine lv_goto (tgt := 67) hx hb d_M_empty_52 rfl ?_
          refine m_rThr hI hA (nI 1) hx hfl hK hb (by rw [hml]; exact hl.1) hown (hw _ mm_M_50) ⟨Nat.le_of_ble_eq_true rfl, Nat.le_of_ble_eq_true rfl, Nat.le_of_ble_eq_true rfl, Nat.le_of_ble_eq_true rfl⟩ hP hS d_M_empty_67 (fun S1 hA hT H locs hP hS => ?_)
          have hn : S1.1 = nI Vs.length := hA.1
          refine lv_if_eq (tgt := 75) hx hb d_M_empty_70 rfl (fun h9 => absurd h9 (by rw [zI_t (by decide)]; decide)) (fun _ => ?_)
          refine lv_iconst (v := nI 0) hx hb d_M_empty_73 rfl ?_
          exact fx_iret hx hb hr hlk hS.2.2 (Nat.le_of_ble_eq_true rfl) (Nat.le_of_ble_eq_true rfl) d_M_empty_74 (⟨by rw [(show so_empty Vs k f = (1, 0, Vs) from by unfold so_empty; rw [if_neg (fun z => absurd z.2.1 (Int32.not_le.mpr h26))])]; exact rfl, S1, hP, by rw [(show so_empty Vs k f = (1, 0, Vs) from by unfold so_empty; rw [if_neg (fun z => absurd z.2.1 (Int32.not_le.mpr h26))])]; exact hA, by rw [(show so_empty Vs k f = (1, 0, Vs) from by unfold so_empty; rw [if_neg (fun z => absurd z.2.1 (Int32.not_le.mpr h26))])]; exact hT⟩)
        · refine lv_iload_n hx hb d_M_empty_29 rfl (lv_at hl 3 rfl) ?_
          refine lv_if_lt (tgt := 42) hx hb d_M_empty_30 rfl (fun h30 => ?_) (fun h30 => ?_)
          · refine lv_iconst (v := nI 0) hx hb d_M_empty_42 rfl ?_
            refine lv_istore hx hb d_M_empty_43 hl (by decide) rfl (fun ls hl => ?_)
            have hl : lv_has ls 5 [(4, .int (nI 0)), (3, .int (nI 1)), (0, .ref (am 0)), (1, .int k), (2, .int f)] := hl
            refine lv_aload_n hx hb d_M_empty_45 rfl (lv_at hl 2 rfl) ?_
            refine lv_iload hx hb d_M_empty_46 (lv_at hl 0 rfl) ?_
            refine lv_if_ne (tgt := 55) hx hb d_M_empty_48 rfl (fun h9 => absurd rfl h9) (fun _ => ?_)
            refine lv_iconst (v := nI 1) hx hb d_M_empty_51 rfl ?_
            refine lv_goto (tgt := 67) hx hb d_M_empty_52 rfl ?_
            refine m_rThr hI hA (nI 1) hx hfl hK hb (by rw [hml]; exact hl.1) hown (hw _ mm_M_50) ⟨Nat.le_of_ble_eq_true rfl, Nat.le_of_ble_eq_true rfl, Nat.le_of_ble_eq_true rfl, Nat.le_of_ble_eq_true rfl⟩ hP hS d_M_empty_67 (fun S1 hA hT H locs hP hS => ?_)
            have hn : S1.1 = nI Vs.length := hA.1
            refine lv_if_eq (tgt := 75) hx hb d_M_empty_70 rfl (fun h9 => absurd h9 (by rw [zI_t (by decide)]; decide)) (fun _ => ?_)
            refine lv_iconst (v := nI 0) hx hb d_M_empty_73 rfl ?_
            exact fx_iret hx hb hr hlk hS.2.2 (Nat.le_of_ble_eq_true rfl) (Nat.le_of_ble_eq_true rfl) d_M_empty_74 (⟨by rw [(show so_empty Vs k f = (1, 0, Vs) from by unfold so_empty; rw [if_neg (fun z => absurd h30 (Int32.not_lt.mpr z.2.2.1))])]; exact rfl, S1, hP, by rw [(show so_empty Vs k f = (1, 0, Vs) from by unfold so_empty; rw [if_neg (fun z => absurd h30 (Int32.not_lt.mpr z.2.2.1))])]; exact hA, by rw [(show so_empty Vs k f = (1, 0, Vs) from by unfold so_empty; rw [if_neg (fun z => absurd h30 (Int32.not_lt.mpr z.2.2.1))])]; exact hT⟩)
          · refine lv_iload_n hx hb d_M_empty_33 rfl (lv_at hl 3 rfl) ?_
            refine lv_iload_n hx hb d_M_empty_34 rfl (lv_at hl 0 rfl) ?_
            refine lv_icmp_gt (tgt := 42) hx hb d_M_empty_35 rfl (fun h35 => ?_) (fun h35 => ?_)
            · refine lv_iconst (v := nI 0) hx hb d_M_empty_42 rfl ?_
              refine lv_istore hx hb d_M_empty_43 hl (by decide) rfl (fun ls hl => ?_)
              have hl : lv_has ls 5 [(4, .int (nI 0)), (3, .int (nI 1)), (0, .ref (am 0)), (1, .int k), (2, .int f)] := hl
              refine lv_aload_n hx hb d_M_empty_45 rfl (lv_at hl 2 rfl) ?_
              refine lv_iload hx hb d_M_empty_46 (lv_at hl 0 rfl) ?_
              refine lv_if_ne (tgt := 55) hx hb d_M_empty_48 rfl (fun h9 => absurd rfl h9) (fun _ => ?_)
              refine lv_iconst (v := nI 1) hx hb d_M_empty_51 rfl ?_
              refine lv_goto (tgt := 67) hx hb d_M_empty_52 rfl ?_
              refine m_rThr hI hA (nI 1) hx hfl hK hb (by rw [hml]; exact hl.1) hown (hw _ mm_M_50) ⟨Nat.le_of_ble_eq_true rfl, Nat.le_of_ble_eq_true rfl, Nat.le_of_ble_eq_true rfl, Nat.le_of_ble_eq_true rfl⟩ hP hS d_M_empty_67 (fun S1 hA hT H locs hP hS => ?_)
              have hn : S1.1 = nI Vs.length := hA.1
              refine lv_if_eq (tgt := 75) hx hb d_M_empty_70 rfl (fun h9 => absurd h9 (by rw [zI_t (by decide)]; decide)) (fun _ => ?_)
              refine lv_iconst (v := nI 0) hx hb d_M_empty_73 rfl ?_
              exact fx_iret hx hb hr hlk hS.2.2 (Nat.le_of_ble_eq_true rfl) (Nat.le_of_ble_eq_true rfl) d_M_empty_74 (⟨by rw [(show so_empty Vs k f = (1, 0, Vs) from by unfold so_empty; rw [hm, if_neg (fun z => absurd z.2.2.2 (Int32.not_le.mpr h35))])]; exact rfl, S1, hP, by rw [(show so_empty Vs k f = (1, 0, Vs) from by unfold so_empty; rw [hm, if_neg (fun z => absurd z.2.2.2 (Int32.not_le.mpr h35))])]; exact hA, by rw [(show so_empty Vs k f = (1, 0, Vs) from by unfold so_empty; rw [hm, if_neg (fun z => absurd z.2.2.2 (Int32.not_le.mpr h35))])]; exact hT⟩)
            · refine lv_iconst (v := nI 1) hx hb d_M_empty_38 rfl ?_
              refine lv_goto (tgt := 43) hx hb d_M_empty_39 rfl ?_
              refine lv_istore hx hb d_M_empty_43 hl (by decide) rfl (fun ls hl => ?_)
              have hl : lv_has ls 5 [(4, .int (nI 1)), (3, .int (nI 1)), (0, .ref (am 0)), (1, .int k), (2, .int f)] := hl
              refine lv_aload_n hx hb d_M_empty_45 rfl (lv_at hl 2 rfl) ?_
              refine lv_iload hx hb d_M_empty_46 (lv_at hl 0 rfl) ?_
              refine lv_if_ne (tgt := 55) hx hb d_M_empty_48 rfl (fun _ => ?_) (fun h9 => absurd h9 (by decide))
              refine lv_aload_n hx hb d_M_empty_55 rfl (lv_at hl 2 rfl) ?_
              refine m_cV (ct_M_isFull w am hI S.1 S.2.1 S.2.2.1 S.2.2.2.1 S.2.2.2.2.1 S.2.2.2.2.2.1 S.2.2.2.2.2.2.1 S.2.2.2.2.2.2.2) hx hfl hK hb (by rw [hml]; exact hl.1) hown (hw _ mm_M_46) (hw _ mk_M_isFull) (hw _ mi_M_isFull) (hw _ mq_M_isFull) (show fx_N y_M_isFull 0 by decide +kernel) rfl ⟨Nat.le_of_ble_eq_true rfl, Nat.le_of_ble_eq_true rfl, Nat.le_of_ble_eq_true rfl, Nat.le_of_ble_eq_true rfl⟩ hP hS d_M_empty_56 (fun H locs hP hS => ?_)
              have hP : va_P w.D cls (mw w am S) H := hP
              refine lv_if_eq (tgt := 66) hx hb d_M_empty_59 rfl (fun h59 => ?_) (fun h59 => ?_)
              · have h59 : ¬ 64 ≤ Vs.length := fun z => zI_eq0.mp h59 (by rw [hn]; exact nI_le z (by omega))
                refine lv_iconst (v := nI 0) hx hb d_M_empty_66 rfl ?_
                refine m_rThr hI hA (nI 0) hx hfl hK hb (by rw [hml]; exact hl.1) hown (hw _ mm_M_50) ⟨Nat.le_of_ble_eq_true rfl, Nat.le_of_ble_eq_true rfl, Nat.le_of_ble_eq_true rfl, Nat.le_of_ble_eq_true rfl⟩ hP hS d_M_empty_67 (fun S1 hA hT H locs hP hS => ?_)
                have hn : S1.1 = nI Vs.length := hA.1
                refine lv_if_eq (tgt := 75) hx hb d_M_empty_70 rfl (fun _ => ?_) (fun h9 => absurd (zI_f (by decide)) h9)
                refine lv_aload_n hx hb d_M_empty_75 rfl (lv_at hl 2 rfl) ?_
                refine lv_iload_n hx hb d_M_empty_76 rfl (lv_at hl 3 rfl) ?_
                refine lv_iload_n hx hb d_M_empty_77 rfl (lv_at hl 4 rfl) ?_
                refine m_rCreate hI hA (by omega) k f hx hfl hK hb (by rw [hml]; exact hl.1) hown (hw _ mm_M_53) ⟨Nat.le_of_ble_eq_true rfl, Nat.le_of_ble_eq_true rfl, Nat.le_of_ble_eq_true rfl, Nat.le_of_ble_eq_true rfl⟩ hP hS d_M_empty_78 (fun S2 hB hT1 H locs hP hS => ?_)
                have hT := hT1.trans hT
                have hF : mAbs S2 (Vs ++ [(k, f, [], [])]) := mB_done hB [] (fun _ => rfl) (Nat.zero_le _)
                exact fx_iret hx hb hr hlk hS.2.2 (Nat.le_of_ble_eq_true rfl) (Nat.le_of_ble_eq_true rfl) d_M_empty_81 (⟨by rw [(show so_empty Vs k f = sv_new Vs (k, f, [], []) from by unfold so_empty; rw [hm, if_pos ⟨Int32.not_lt.mp h21, Int32.not_lt.mp h26, Int32.not_lt.mp h30, Int32.not_lt.mp h35⟩, if_neg h59])]; exact rfl, S2, hP, by rw [(show so_empty Vs k f = sv_new Vs (k, f, [], []) from by unfold so_empty; rw [hm, if_pos ⟨Int32.not_lt.mp h21, Int32.not_lt.mp h26, Int32.not_lt.mp h30, Int32.not_lt.mp h35⟩, if_neg h59])]; exact hF, by rw [(show so_empty Vs k f = sv_new Vs (k, f, [], []) from by unfold so_empty; rw [hm, if_pos ⟨Int32.not_lt.mp h21, Int32.not_lt.mp h26, Int32.not_lt.mp h30, Int32.not_lt.mp h35⟩, if_neg h59])]; exact hT⟩)
              · have h59 : 64 ≤ Vs.length := by have := zI_ne0.mp h59; rw [hn] at this; exact (nI_leI (by decide) (by omega)).mp this
                refine lv_iconst (v := nI 2) hx hb d_M_empty_62 rfl ?_
                refine lv_goto (tgt := 67) hx hb d_M_empty_63 rfl ?_
                refine m_rThr hI hA (nI 2) hx hfl hK hb (by rw [hml]; exact hl.1) hown (hw _ mm_M_50) ⟨Nat.le_of_ble_eq_true rfl, Nat.le_of_ble_eq_true rfl, Nat.le_of_ble_eq_true rfl, Nat.le_of_ble_eq_true rfl⟩ hP hS d_M_empty_67 (fun S1 hA hT H locs hP hS => ?_)
                have hn : S1.1 = nI Vs.length := hA.1
                refine lv_if_eq (tgt := 75) hx hb d_M_empty_70 rfl (fun h9 => absurd h9 (by rw [zI_t (by decide)]; decide)) (fun _ => ?_)
                refine lv_iconst (v := nI 0) hx hb d_M_empty_73 rfl ?_
                exact fx_iret hx hb hr hlk hS.2.2 (Nat.le_of_ble_eq_true rfl) (Nat.le_of_ble_eq_true rfl) d_M_empty_74 (⟨by rw [(show so_empty Vs k f = (2, 0, Vs) from by unfold so_empty; rw [hm, if_pos ⟨Int32.not_lt.mp h21, Int32.not_lt.mp h26, Int32.not_lt.mp h30, Int32.not_lt.mp h35⟩, if_pos h59])]; exact rfl, S1, hP, by rw [(show so_empty Vs k f = (2, 0, Vs) from by unfold so_empty; rw [hm, if_pos ⟨Int32.not_lt.mp h21, Int32.not_lt.mp h26, Int32.not_lt.mp h30, Int32.not_lt.mp h35⟩, if_pos h59])]; exact hA, by rw [(show so_empty Vs k f = (2, 0, Vs) from by unfold so_empty; rw [hm, if_pos ⟨Int32.not_lt.mp h21, Int32.not_lt.mp h26, Int32.not_lt.mp h30, Int32.not_lt.mp h35⟩, if_pos h59])]; exact hT⟩)
  · refine lv_iconst (v := nI 2) hx hb d_M_empty_5 rfl ?_
    refine lv_goto (tgt := 19) hx hb d_M_empty_6 rfl ?_
    have hm : (if k < 2 then (2 : Int32) else if k < 4 then 1 else 0) = nI 2 := by rw [if_pos (c := k < 2) (Int32.not_le.mp h2)]; rfl
    refine lv_istore_n hx hb d_M_empty_19 rfl hl (by decide) rfl (fun ls hl => ?_)
    have hl : lv_has ls 5 [(3, .int (nI 2)), (0, .ref (am 0)), (1, .int k), (2, .int f)] := hl
    refine lv_iload_n hx hb d_M_empty_20 rfl (lv_at hl 2 rfl) ?_
    refine lv_if_lt (tgt := 42) hx hb d_M_empty_21 rfl (fun h21 => ?_) (fun h21 => ?_)
    · refine lv_iconst (v := nI 0) hx hb d_M_empty_42 rfl ?_
      refine lv_istore hx hb d_M_empty_43 hl (by decide) rfl (fun ls hl => ?_)
      have hl : lv_has ls 5 [(4, .int (nI 0)), (3, .int (nI 2)), (0, .ref (am 0)), (1, .int k), (2, .int f)] := hl
      refine lv_aload_n hx hb d_M_empty_45 rfl (lv_at hl 2 rfl) ?_
      refine lv_iload hx hb d_M_empty_46 (lv_at hl 0 rfl) ?_
      refine lv_if_ne (tgt := 55) hx hb d_M_empty_48 rfl (fun h9 => absurd rfl h9) (fun _ => ?_)
      refine lv_iconst (v := nI 1) hx hb d_M_empty_51 rfl ?_
      refine lv_goto (tgt := 67) hx hb d_M_empty_52 rfl ?_
      refine m_rThr hI hA (nI 1) hx hfl hK hb (by rw [hml]; exact hl.1) hown (hw _ mm_M_50) ⟨Nat.le_of_ble_eq_true rfl, Nat.le_of_ble_eq_true rfl, Nat.le_of_ble_eq_true rfl, Nat.le_of_ble_eq_true rfl⟩ hP hS d_M_empty_67 (fun S1 hA hT H locs hP hS => ?_)
      have hn : S1.1 = nI Vs.length := hA.1
      refine lv_if_eq (tgt := 75) hx hb d_M_empty_70 rfl (fun h9 => absurd h9 (by rw [zI_t (by decide)]; decide)) (fun _ => ?_)
      refine lv_iconst (v := nI 0) hx hb d_M_empty_73 rfl ?_
      exact fx_iret hx hb hr hlk hS.2.2 (Nat.le_of_ble_eq_true rfl) (Nat.le_of_ble_eq_true rfl) d_M_empty_74 (⟨by rw [(show so_empty Vs k f = (1, 0, Vs) from by unfold so_empty; rw [if_neg (fun z => absurd h21 (Int32.not_lt.mpr z.1))])]; exact rfl, S1, hP, by rw [(show so_empty Vs k f = (1, 0, Vs) from by unfold so_empty; rw [if_neg (fun z => absurd h21 (Int32.not_lt.mpr z.1))])]; exact hA, by rw [(show so_empty Vs k f = (1, 0, Vs) from by unfold so_empty; rw [if_neg (fun z => absurd h21 (Int32.not_lt.mpr z.1))])]; exact hT⟩)
    · refine lv_iload_n hx hb d_M_empty_24 rfl (lv_at hl 2 rfl) ?_
      refine lv_iconst (v := nI 4) hx hb d_M_empty_25 rfl ?_
      refine lv_icmp_gt (tgt := 42) hx hb d_M_empty_26 rfl (fun h26 => ?_) (fun h26 => ?_)
      · refine lv_iconst (v := nI 0) hx hb d_M_empty_42 rfl ?_
        refine lv_istore hx hb d_M_empty_43 hl (by decide) rfl (fun ls hl => ?_)
        have hl : lv_has ls 5 [(4, .int (nI 0)), (3, .int (nI 2)), (0, .ref (am 0)), (1, .int k), (2, .int f)] := hl
        refine lv_aload_n hx hb d_M_empty_45 rfl (lv_at hl 2 rfl) ?_
        refine lv_iload hx hb d_M_empty_46 (lv_at hl 0 rfl) ?_
        refine lv_if_ne (tgt := 55) hx hb d_M_empty_48 rfl (fun h9 => absurd rfl h9) (fun _ => ?_)
        refine lv_iconst (v := nI 1) hx hb d_M_empty_51 rfl ?_
        refine lv_goto (tgt := 67) hx hb d_M_empty_52 rfl ?_
        refine m_rThr hI hA (nI 1) hx hfl hK hb (by rw [hml]; exact hl.1) hown (hw _ mm_M_50) ⟨Nat.le_of_ble_eq_true rfl, Nat.le_of_ble_eq_true rfl, Nat.le_of_ble_eq_true rfl, Nat.le_of_ble_eq_true rfl⟩ hP hS d_M_empty_67 (fun S1 hA hT H locs hP hS => ?_)
        have hn : S1.1 = nI Vs.length := hA.1
        refine lv_if_eq (tgt := 75) hx hb d_M_empty_70 rfl (fun h9 => absurd h9 (by rw [zI_t (by decide)]; decide)) (fun _ => ?_)
        refine lv_iconst (v := nI 0) hx hb d_M_empty_73 rfl ?_
        exact fx_iret hx hb hr hlk hS.2.2 (Nat.le_of_ble_eq_true rfl) (Nat.le_of_ble_eq_true rfl) d_M_empty_74 (⟨by rw [(show so_empty Vs k f = (1, 0, Vs) from by unfold so_empty; rw [if_neg (fun z => absurd z.2.1 (Int32.not_le.mpr h26))])]; exact rfl, S1, hP, by rw [(show so_empty Vs k f = (1, 0, Vs) from by unfold so_empty; rw [if_neg (fun z => absurd z.2.1 (Int32.not_le.mpr h26))])]; exact hA, by rw [(show so_empty Vs k f = (1, 0, Vs) from by unfold so_empty; rw [if_neg (fun z => absurd z.2.1 (Int32.not_le.mpr h26))])]; exact hT⟩)
      · refine lv_iload_n hx hb d_M_empty_29 rfl (lv_at hl 3 rfl) ?_
        refine lv_if_lt (tgt := 42) hx hb d_M_empty_30 rfl (fun h30 => ?_) (fun h30 => ?_)
        · refine lv_iconst (v := nI 0) hx hb d_M_empty_42 rfl ?_
          refine lv_istore hx hb d_M_empty_43 hl (by decide) rfl (fun ls hl => ?_)
          have hl : lv_has ls 5 [(4, .int (nI 0)), (3, .int (nI 2)), (0, .ref (am 0)), (1, .int k), (2, .int f)] := hl
          refine lv_aload_n hx hb d_M_empty_45 rfl (lv_at hl 2 rfl) ?_
          refine lv_iload hx hb d_M_empty_46 (lv_at hl 0 rfl) ?_
          refine lv_if_ne (tgt := 55) hx hb d_M_empty_48 rfl (fun h9 => absurd rfl h9) (fun _ => ?_)
          refine lv_iconst (v := nI 1) hx hb d_M_empty_51 rfl ?_
          refine lv_goto (tgt := 67) hx hb d_M_empty_52 rfl ?_
          refine m_rThr hI hA (nI 1) hx hfl hK hb (by rw [hml]; exact hl.1) hown (hw _ mm_M_50) ⟨Nat.le_of_ble_eq_true rfl, Nat.le_of_ble_eq_true rfl, Nat.le_of_ble_eq_true rfl, Nat.le_of_ble_eq_true rfl⟩ hP hS d_M_empty_67 (fun S1 hA hT H locs hP hS => ?_)
          have hn : S1.1 = nI Vs.length := hA.1
          refine lv_if_eq (tgt := 75) hx hb d_M_empty_70 rfl (fun h9 => absurd h9 (by rw [zI_t (by decide)]; decide)) (fun _ => ?_)
          refine lv_iconst (v := nI 0) hx hb d_M_empty_73 rfl ?_
          exact fx_iret hx hb hr hlk hS.2.2 (Nat.le_of_ble_eq_true rfl) (Nat.le_of_ble_eq_true rfl) d_M_empty_74 (⟨by rw [(show so_empty Vs k f = (1, 0, Vs) from by unfold so_empty; rw [if_neg (fun z => absurd h30 (Int32.not_lt.mpr z.2.2.1))])]; exact rfl, S1, hP, by rw [(show so_empty Vs k f = (1, 0, Vs) from by unfold so_empty; rw [if_neg (fun z => absurd h30 (Int32.not_lt.mpr z.2.2.1))])]; exact hA, by rw [(show so_empty Vs k f = (1, 0, Vs) from by unfold so_empty; rw [if_neg (fun z => absurd h30 (Int32.not_lt.mpr z.2.2.1))])]; exact hT⟩)
        · refine lv_iload_n hx hb d_M_empty_33 rfl (lv_at hl 3 rfl) ?_
          refine lv_iload_n hx hb d_M_empty_34 rfl (lv_at hl 0 rfl) ?_
          refine lv_icmp_gt (tgt := 42) hx hb d_M_empty_35 rfl (fun h35 => ?_) (fun h35 => ?_)
          · refine lv_iconst (v := nI 0) hx hb d_M_empty_42 rfl ?_
            refine lv_istore hx hb d_M_empty_43 hl (by decide) rfl (fun ls hl => ?_)
            have hl : lv_has ls 5 [(4, .int (nI 0)), (3, .int (nI 2)), (0, .ref (am 0)), (1, .int k), (2, .int f)] := hl
            refine lv_aload_n hx hb d_M_empty_45 rfl (lv_at hl 2 rfl) ?_
            refine lv_iload hx hb d_M_empty_46 (lv_at hl 0 rfl) ?_
            refine lv_if_ne (tgt := 55) hx hb d_M_empty_48 rfl (fun h9 => absurd rfl h9) (fun _ => ?_)
            refine lv_iconst (v := nI 1) hx hb d_M_empty_51 rfl ?_
            refine lv_goto (tgt := 67) hx hb d_M_empty_52 rfl ?_
            refine m_rThr hI hA (nI 1) hx hfl hK hb (by rw [hml]; exact hl.1) hown (hw _ mm_M_50) ⟨Nat.le_of_ble_eq_true rfl, Nat.le_of_ble_eq_true rfl, Nat.le_of_ble_eq_true rfl, Nat.le_of_ble_eq_true rfl⟩ hP hS d_M_empty_67 (fun S1 hA hT H locs hP hS => ?_)
            have hn : S1.1 = nI Vs.length := hA.1
            refine lv_if_eq (tgt := 75) hx hb d_M_empty_70 rfl (fun h9 => absurd h9 (by rw [zI_t (by decide)]; decide)) (fun _ => ?_)
            refine lv_iconst (v := nI 0) hx hb d_M_empty_73 rfl ?_
            exact fx_iret hx hb hr hlk hS.2.2 (Nat.le_of_ble_eq_true rfl) (Nat.le_of_ble_eq_true rfl) d_M_empty_74 (⟨by rw [(show so_empty Vs k f = (1, 0, Vs) from by unfold so_empty; rw [hm, if_neg (fun z => absurd z.2.2.2 (Int32.not_le.mpr h35))])]; exact rfl, S1, hP, by rw [(show so_empty Vs k f = (1, 0, Vs) from by unfold so_empty; rw [hm, if_neg (fun z => absurd z.2.2.2 (Int32.not_le.mpr h35))])]; exact hA, by rw [(show so_empty Vs k f = (1, 0, Vs) from by unfold so_empty; rw [hm, if_neg (fun z => absurd z.2.2.2 (Int32.not_le.mpr h35))])]; exact hT⟩)
          · refine lv_iconst (v := nI 1) hx hb d_M_empty_38 rfl ?_
            refine lv_goto (tgt := 43) hx hb d_M_empty_39 rfl ?_
            refine lv_istore hx hb d_M_empty_43 hl (by decide) rfl (fun ls hl => ?_)
            have hl : lv_has ls 5 [(4, .int (nI 1)), (3, .int (nI 2)), (0, .ref (am 0)), (1, .int k), (2, .int f)] := hl
            refine lv_aload_n hx hb d_M_empty_45 rfl (lv_at hl 2 rfl) ?_
            refine lv_iload hx hb d_M_empty_46 (lv_at hl 0 rfl) ?_
            refine lv_if_ne (tgt := 55) hx hb d_M_empty_48 rfl (fun _ => ?_) (fun h9 => absurd h9 (by decide))
            refine lv_aload_n hx hb d_M_empty_55 rfl (lv_at hl 2 rfl) ?_
            refine m_cV (ct_M_isFull w am hI S.1 S.2.1 S.2.2.1 S.2.2.2.1 S.2.2.2.2.1 S.2.2.2.2.2.1 S.2.2.2.2.2.2.1 S.2.2.2.2.2.2.2) hx hfl hK hb (by rw [hml]; exact hl.1) hown (hw _ mm_M_46) (hw _ mk_M_isFull) (hw _ mi_M_isFull) (hw _ mq_M_isFull) (show fx_N y_M_isFull 0 by decide +kernel) rfl ⟨Nat.le_of_ble_eq_true rfl, Nat.le_of_ble_eq_true rfl, Nat.le_of_ble_eq_true rfl, Nat.le_of_ble_eq_true rfl⟩ hP hS d_M_empty_56 (fun H locs hP hS => ?_)
            have hP : va_P w.D cls (mw w am S) H := hP
            refine lv_if_eq (tgt := 66) hx hb d_M_empty_59 rfl (fun h59 => ?_) (fun h59 => ?_)
            · have h59 : ¬ 64 ≤ Vs.length := fun z => zI_eq0.mp h59 (by rw [hn]; exact nI_le z (by omega))
              refine lv_iconst (v := nI 0) hx hb d_M_empty_66 rfl ?_
              refine m_rThr hI hA (nI 0) hx hfl hK hb (by rw [hml]; exact hl.1) hown (hw _ mm_M_50) ⟨Nat.le_of_ble_eq_true rfl, Nat.le_of_ble_eq_true rfl, Nat.le_of_ble_eq_true rfl, Nat.le_of_ble_eq_true rfl⟩ hP hS d_M_empty_67 (fun S1 hA hT H locs hP hS => ?_)
              have hn : S1.1 = nI Vs.length := hA.1
              refine lv_if_eq (tgt := 75) hx hb d_M_empty_70 rfl (fun _ => ?_) (fun h9 => absurd (zI_f (by decide)) h9)
              refine lv_aload_n hx hb d_M_empty_75 rfl (lv_at hl 2 rfl) ?_
              refine lv_iload_n hx hb d_M_empty_76 rfl (lv_at hl 3 rfl) ?_
              refine lv_iload_n hx hb d_M_empty_77 rfl (lv_at hl 4 rfl) ?_
              refine m_rCreate hI hA (by omega) k f hx hfl hK hb (by rw [hml]; exact hl.1) hown (hw _ mm_M_53) ⟨Nat.le_of_ble_eq_true rfl, Nat.le_of_ble_eq_true rfl, Nat.le_of_ble_eq_true rfl, Nat.le_of_ble_eq_true rfl⟩ hP hS d_M_empty_78 (fun S2 hB hT1 H locs hP hS => ?_)
              have hT := hT1.trans hT
              have hF : mAbs S2 (Vs ++ [(k, f, [], [])]) := mB_done hB [] (fun _ => rfl) (Nat.zero_le _)
              exact fx_iret hx hb hr hlk hS.2.2 (Nat.le_of_ble_eq_true rfl) (Nat.le_of_ble_eq_true rfl) d_M_empty_81 (⟨by rw [(show so_empty Vs k f = sv_new Vs (k, f, [], []) from by unfold so_empty; rw [hm, if_pos ⟨Int32.not_lt.mp h21, Int32.not_lt.mp h26, Int32.not_lt.mp h30, Int32.not_lt.mp h35⟩, if_neg h59])]; exact rfl, S2, hP, by rw [(show so_empty Vs k f = sv_new Vs (k, f, [], []) from by unfold so_empty; rw [hm, if_pos ⟨Int32.not_lt.mp h21, Int32.not_lt.mp h26, Int32.not_lt.mp h30, Int32.not_lt.mp h35⟩, if_neg h59])]; exact hF, by rw [(show so_empty Vs k f = sv_new Vs (k, f, [], []) from by unfold so_empty; rw [hm, if_pos ⟨Int32.not_lt.mp h21, Int32.not_lt.mp h26, Int32.not_lt.mp h30, Int32.not_lt.mp h35⟩, if_neg h59])]; exact hT⟩)
            · have h59 : 64 ≤ Vs.length := by have := zI_ne0.mp h59; rw [hn] at this; exact (nI_leI (by decide) (by omega)).mp this
              refine lv_iconst (v := nI 2) hx hb d_M_empty_62 rfl ?_
              refine lv_goto (tgt := 67) hx hb d_M_empty_63 rfl ?_
              refine m_rThr hI hA (nI 2) hx hfl hK hb (by rw [hml]; exact hl.1) hown (hw _ mm_M_50) ⟨Nat.le_of_ble_eq_true rfl, Nat.le_of_ble_eq_true rfl, Nat.le_of_ble_eq_true rfl, Nat.le_of_ble_eq_true rfl⟩ hP hS d_M_empty_67 (fun S1 hA hT H locs hP hS => ?_)
              have hn : S1.1 = nI Vs.length := hA.1
              refine lv_if_eq (tgt := 75) hx hb d_M_empty_70 rfl (fun h9 => absurd h9 (by rw [zI_t (by decide)]; decide)) (fun _ => ?_)
              refine lv_iconst (v := nI 0) hx hb d_M_empty_73 rfl ?_
              exact fx_iret hx hb hr hlk hS.2.2 (Nat.le_of_ble_eq_true rfl) (Nat.le_of_ble_eq_true rfl) d_M_empty_74 (⟨by rw [(show so_empty Vs k f = (2, 0, Vs) from by unfold so_empty; rw [hm, if_pos ⟨Int32.not_lt.mp h21, Int32.not_lt.mp h26, Int32.not_lt.mp h30, Int32.not_lt.mp h35⟩, if_pos h59])]; exact rfl, S1, hP, by rw [(show so_empty Vs k f = (2, 0, Vs) from by unfold so_empty; rw [hm, if_pos ⟨Int32.not_lt.mp h21, Int32.not_lt.mp h26, Int32.not_lt.mp h30, Int32.not_lt.mp h35⟩, if_pos h59])]; exact hA, by rw [(show so_empty Vs k f = (2, 0, Vs) from by unfold so_empty; rw [hm, if_pos ⟨Int32.not_lt.mp h21, Int32.not_lt.mp h26, Int32.not_lt.mp h30, Int32.not_lt.mp h35⟩, if_pos h59])]; exact hT⟩)
end
section
def sv_bs : Nat → Nat → Nat
  | 0, _ => 0
  | k + 1, t => t % 2 + sv_bs k (t / 2)
theorem sv_bs_0 : ∀ k, sv_bs k 0 = 0
  | 0 => rfl
  | k + 1 => by show 0 % 2 + sv_bs k (0 / 2) = 0; rw [show (0 : Nat) / 2 = 0 from rfl, sv_bs_0 k]
theorem sv_bs_7 : ∀ n, n < 101 → sv_bs 7 n = sv_bit n := by decide +kernel
set_option maxHeartbeats 4000000 in
set_option maxRecDepth 100000 in
theorem ct_M_bits (w : Wd) (n : Nat) (hn : n ≤ 100) : fx_C (KT w) y_M_bits 3 (rmK 0) [.int (nI n)] (fun _ => True) (fun H o H' => o = .returned (some (.int (nI (sv_bit n)))) ∧ H' = H) (fun _ _ => False) := by
  refine fx_of (ret := some .int) (cc := b_M_bits) (fun s hK => hK.1 _ mk_M_bits _) (Nat.le_of_ble_eq_true rfl) ?_
  intro p l e s m below meth c hx hfl hK hb hml hr hlk hnt hown hin hpre ls hl
  have hl : lv_has ls 3 [(0, .int (nI n))] := hl
  refine lv_iconst (v := nI 0) hx hb d_M_bits_0 rfl ?_
  refine lv_istore_n hx hb d_M_bits_1 rfl hl (by decide) rfl (fun ls hl => ?_)
  have hl : lv_has ls 3 [(1, .int (nI 0)), (0, .int (nI n))] := hl
  refine lv_iload_n hx hb d_M_bits_2 rfl (lv_at hl 1 rfl) ?_
  refine lv_istore_n hx hb d_M_bits_3 rfl hl (by decide) rfl (fun ls hl => ?_)
  have hl : lv_has ls 3 [(2, .int (nI n)), (1, .int (nI 0)), (0, .int (nI n))] := hl
  refine fx_gen (fun Q0 hQ0 => ?_)
  have loop : ∀ (k t c0 : Nat), t < 2 ^ k → k ≤ 7 → c0 + sv_bs k t = sv_bit n → t ≤ 100 → ∀ (ls : Array Slot), lv_has ls 3 [(2, .int (nI t)), (1, .int (nI c0)), (0, .int (nI n))] → W p l e (rmK 0) s m ([.int (nI n)] : List Value).toArray below meth c s.heap [] 0 0 Q0 (F0 m 4 ls []) := by
    intro k
    induction k with
    | zero =>
      intro t c0 ht hk hs htl ls hl
      have ht0 : t = 0 := by omega
      subst ht0
      rw [hQ0]
      refine lv_iload_n hx hb d_M_bits_4 rfl (lv_at hl 0 rfl) ?_
      refine lv_if_le (tgt := 21) hx hb d_M_bits_5 rfl (fun _ => ?_) (fun h9 => absurd (by decide) h9)
      refine lv_iload_n hx hb d_M_bits_21 rfl (lv_at hl 1 rfl) ?_
      exact fx_iret hx hb hr hlk (fun q hq => by cases hq) (Nat.le_of_ble_eq_true rfl) (Nat.le_of_ble_eq_true rfl) d_M_bits_22 (⟨by rw [← hs]; rfl, rfl⟩)
    | succ k ih =>
      intro t c0 ht hk hs htl ls hl
      refine lv_iload_n hx hb d_M_bits_4 rfl (lv_at hl 0 rfl) ?_
      refine lv_if_le (tgt := 21) hx hb d_M_bits_5 rfl (fun h5 => ?_) (fun h5 => ?_)
      · have ht0 : t = 0 := Nat.le_zero.mp ((nI_leI (by omega) (by decide)).mp h5)
        rw [ht0, sv_bs_0] at hs
        rw [hQ0]
        refine lv_iload_n hx hb d_M_bits_21 rfl (lv_at hl 1 rfl) ?_
        exact fx_iret hx hb hr hlk (fun q hq => by cases hq) (Nat.le_of_ble_eq_true rfl) (Nat.le_of_ble_eq_true rfl) d_M_bits_22 (⟨by rw [← hs]; rfl, rfl⟩)
      · refine lv_iload_n hx hb d_M_bits_8 rfl (lv_at hl 1 rfl) ?_
        refine lv_iload_n hx hb d_M_bits_9 rfl (lv_at hl 0 rfl) ?_
        refine lv_iconst (v := nI 2) hx hb d_M_bits_10 rfl ?_
        refine lv_irem hx hb d_M_bits_11 (by decide) ?_
        refine fx_ti (y := nI (t % 2)) (pk_rem (by omega) (by decide) (by decide)) ?_
        refine lv_iadd hx hb d_M_bits_12 ?_
        refine fx_ti (y := nI (c0 + t % 2)) (nI_add _ _) ?_
        refine lv_istore_n hx hb d_M_bits_13 rfl hl (by decide) rfl (fun ls hl => ?_)
        have hl : lv_has ls 3 [(1, .int (nI (c0 + t % 2))), (2, .int (nI t)), (0, .int (nI n))] := hl
        refine lv_iload_n hx hb d_M_bits_14 rfl (lv_at hl 1 rfl) ?_
        refine lv_iconst (v := nI 2) hx hb d_M_bits_15 rfl ?_
        refine lv_idiv hx hb d_M_bits_16 (by decide) ?_
        refine fx_ti (y := nI (t / 2)) (pk_div (by omega) (by decide) (by decide)) ?_
        refine lv_istore_n hx hb d_M_bits_17 rfl hl (by decide) rfl (fun ls hl => ?_)
        have hl : lv_has ls 3 [(2, .int (nI (t / 2))), (1, .int (nI (c0 + t % 2))), (0, .int (nI n))] := hl
        refine lv_goto (tgt := 4) hx hb d_M_bits_18 rfl ?_
        have hp : (2 : Nat) ^ (k + 1) = 2 * 2 ^ k := Nat.pow_succ'
        have hs2 : c0 + (t % 2 + sv_bs k (t / 2)) = sv_bit n := hs
        exact ih (t / 2) (c0 + t % 2) (by omega) (by omega) (by omega) (by omega) ls hl
  exact loop 7 n 0 (by omega) (by decide) (by rw [Nat.zero_add]; exact sv_bs_7 n (by omega)) hn ls hl
set_option maxHeartbeats 4000000 in
set_option maxRecDepth 100000 in
theorem ct_M_parts (w : Wd) (am : Nat → Nat) (hI : mI am) (Vs : List sV) (v : Int32) : mApi w am y_M_parts 3 (rmK 3) [.int v] Vs (so_parts Vs v) := by
  intro S hA
  have hn : S.1 = nI Vs.length := hA.1
  have hVl : Vs.length ≤ 64 := hA.2.1
  refine fx_of (ret := some .int) (cc := b_M_parts) (fun s hK => hK.1 _ mk_M_parts _) (Nat.le_of_ble_eq_true rfl) ?_
  intro p l e s m below meth c hx hfl hK hb hml hr hlk hnt hown hin hP ls hl
  have hw : ∀ z ∈ gw, z.before (.ref (am 0) :: [.int v] : List Value).toArray s = true := fun z hz => hK.1 z hz _
  have hKv := hK.2.1
  have hS : va_S (mA am) s.heap s.heap [] := va_S.rf
  have hP : va_P w.D cls (mw w am S) s.heap := hP
  have hl : lv_has ls 3 [(0, .ref (am 0)), (1, .int v)] := hl
  refine lv_aload_n hx hb d_M_parts_0 rfl (lv_at hl 0 rfl) ?_
  refine lv_aload_n hx hb d_M_parts_1 rfl (lv_at hl 0 rfl) ?_
  refine lv_iload_n hx hb d_M_parts_2 rfl (lv_at hl 1 rfl) ?_
  refine m_cV (ct_M_is w am hI S.1 S.2.1 S.2.2.1 S.2.2.2.1 S.2.2.2.2.1 S.2.2.2.2.2.1 S.2.2.2.2.2.2.1 S.2.2.2.2.2.2.2 v) hx hfl hK hb (by rw [hml]; exact hl.1) hown (hw _ mm_M_35) (hw _ mk_M_is) (hw _ mi_M_is) (hw _ mq_M_is) (show fx_N y_M_is 1 by decide +kernel) rfl ⟨Nat.le_of_ble_eq_true rfl, Nat.le_of_ble_eq_true rfl, Nat.le_of_ble_eq_true rfl, Nat.le_of_ble_eq_true rfl⟩ hP hS d_M_parts_3 (fun H locs hP hS => ?_)
  have hP : va_P w.D cls (mw w am S) H := hP
  refine lv_if_eq (tgt := 13) hx hb d_M_parts_6 rfl (fun h6 => ?_) (fun h6 => ?_)
  · have h6 := zI_eq0.mp h6
    rw [hn] at h6
    refine lv_iconst (v := nI 1) hx hb d_M_parts_13 rfl ?_
    refine m_rThr hI hA (nI 1) hx hfl hK hb (by rw [hml]; exact hl.1) hown (hw _ mm_M_50) ⟨Nat.le_of_ble_eq_true rfl, Nat.le_of_ble_eq_true rfl, Nat.le_of_ble_eq_true rfl, Nat.le_of_ble_eq_true rfl⟩ hP hS d_M_parts_14 (fun S1 hA hT H locs hP hS => ?_)
    have hn : S1.1 = nI Vs.length := hA.1
    refine lv_if_eq (tgt := 22) hx hb d_M_parts_17 rfl (fun h9 => absurd h9 (by rw [zI_t (by decide)]; decide)) (fun _ => ?_)
    refine lv_iconst (v := nI 0) hx hb d_M_parts_20 rfl ?_
    exact fx_iret hx hb hr hlk hS.2.2 (Nat.le_of_ble_eq_true rfl) (Nat.le_of_ble_eq_true rfl) d_M_parts_21 (⟨by rw [(show so_parts Vs v = (1, 0, Vs) from by unfold so_parts; rw [mAbs_none hA h6])]; exact rfl, S1, hP, by rw [(show so_parts Vs v = (1, 0, Vs) from by unfold so_parts; rw [mAbs_none hA h6])]; exact hA, by rw [(show so_parts Vs v = (1, 0, Vs) from by unfold so_parts; rw [mAbs_none hA h6])]; exact hT⟩)
  · have h6 := zI_ne0.mp h6
    rw [hn] at h6
    obtain ⟨a, o, ea, ha, ga, ta⟩ := mAbs_at hA h6.1 h6.2
    subst ea
    have ca : (nI a).toNatClampNeg = a := nI_clamp (by omega)
    have hl : lv_has ls 3 [(0, .ref (am 0)), (1, .int (nI a))] := hl
    refine lv_iconst (v := nI 0) hx hb d_M_parts_9 rfl ?_
    refine lv_goto (tgt := 14) hx hb d_M_parts_10 rfl ?_
    refine m_rThr hI hA (nI 0) hx hfl hK hb (by rw [hml]; exact hl.1) hown (hw _ mm_M_50) ⟨Nat.le_of_ble_eq_true rfl, Nat.le_of_ble_eq_true rfl, Nat.le_of_ble_eq_true rfl, Nat.le_of_ble_eq_true rfl⟩ hP hS d_M_parts_14 (fun S1 hA hT H locs hP hS => ?_)
    have hn : S1.1 = nI Vs.length := hA.1
    refine lv_if_eq (tgt := 22) hx hb d_M_parts_17 rfl (fun _ => ?_) (fun h9 => absurd (zI_f (by decide)) h9)
    obtain ⟨ka, fa, sa, qa, xa, ya⟩ := hA.2.2.1 a o ga
    have ka : S1.2.2.1 a = o.1 := ka
    have fa : S1.2.2.2.1 a = o.2.1 := fa
    have sa : S1.2.2.2.2.1 a = nI o.2.2.1.length := sa
    have la : o.2.2.1.length ≤ 100 := qa.1
    refine lv_aload_n hx hb d_M_parts_22 rfl (lv_at hl 0 rfl) ?_
    refine fx_get hx hb hown (kc_M hK _) hKv 1 (by decide) (hw _ mf_M_7) (fun _ h => h) (hP 0 _ rfl) rfl d_M_parts_23 ?_
    refine lv_iload_n hx hb d_M_parts_26 rfl (lv_at hl 1 rfl) ?_
    refine fx_iald (j := a) hx hb hKv 0 (hP 1 _ rfl) rfl (rfl) (by omega) (by decide) d_M_parts_27 ?_
    refine lv_iconst (v := nI 2) hx hb d_M_parts_28 rfl ?_
    refine lv_icmp_ne (tgt := 53) hx hb d_M_parts_29 rfl (fun h29 => ?_) (fun h29 => ?_)
    · have h29 : ¬ o.1 = 2 := by rw [ka] at h29; exact h29
      refine lv_aload_n hx hb d_M_parts_53 rfl (lv_at hl 0 rfl) ?_
      refine fx_get hx hb hown (kc_M hK _) hKv 1 (by decide) (hw _ mf_M_7) (fun _ h => h) (hP 0 _ rfl) rfl d_M_parts_54 ?_
      refine lv_iload_n hx hb d_M_parts_57 rfl (lv_at hl 1 rfl) ?_
      refine fx_iald (j := a) hx hb hKv 0 (hP 1 _ rfl) rfl (rfl) (by omega) (by decide) d_M_parts_58 ?_
      refine lv_iconst (v := nI 1) hx hb d_M_parts_59 rfl ?_
      refine lv_icmp_eq (tgt := 73) hx hb d_M_parts_60 rfl (fun h60 => ?_) (fun h60 => ?_)
      · have h60 : o.1 = 1 := by rw [ka] at h60; exact h60
        refine lv_aload_n hx hb d_M_parts_73 rfl (lv_at hl 0 rfl) ?_
        refine fx_get hx hb hown (kc_M hK _) hKv 2 (by decide) (hw _ mf_M_13) (fun _ h => h) (hP 0 _ rfl) rfl d_M_parts_74 ?_
        refine lv_iload_n hx hb d_M_parts_77 rfl (lv_at hl 1 rfl) ?_
        refine fx_iald (j := a) hx hb hKv 0 (hP 2 _ rfl) rfl (rfl) (by omega) (by decide) d_M_parts_78 ?_
        refine lv_iconst (v := nI 1) hx hb d_M_parts_79 rfl ?_
        refine lv_icmp_ne (tgt := 87) hx hb d_M_parts_80 rfl (fun h80 => ?_) (fun h80 => ?_)
        · have h80 : ¬ o.2.1 = 1 := by rw [fa] at h80; exact h80
          refine lv_iconst (v := nI 0) hx hb d_M_parts_87 rfl ?_
          refine lv_istore_n hx hb d_M_parts_88 rfl hl (by decide) rfl (fun ls hl => ?_)
          have hl : lv_has ls 3 [(2, .int (nI 0)), (0, .ref (am 0)), (1, .int (nI a))] := hl
          refine lv_iload_n hx hb d_M_parts_89 rfl (lv_at hl 0 rfl) ?_
          refine lv_if_eq (tgt := 105) hx hb d_M_parts_90 rfl (fun _ => ?_) (fun h9 => absurd rfl h9)
          refine lv_aload_n hx hb d_M_parts_105 rfl (lv_at hl 1 rfl) ?_
          refine fx_get hx hb hown (kc_M hK _) hKv 3 (by decide) (hw _ mf_M_16) (fun _ h => h) (hP 0 _ rfl) rfl d_M_parts_106 ?_
          refine lv_iload_n hx hb d_M_parts_109 rfl (lv_at hl 2 rfl) ?_
          refine fx_iald (j := a) hx hb hKv 0 (hP 3 _ rfl) rfl (rfl) (by omega) (by decide) d_M_parts_110 ?_
          refine lv_if_le (tgt := 118) hx hb d_M_parts_111 rfl (fun h111 => ?_) (fun h111 => ?_)
          · have h111 : ¬ 0 < o.2.2.1.length := by rw [sa] at h111; exact Nat.not_lt.mpr ((nI_leI (by omega) (by decide)).mp h111)
            refine lv_iconst (v := nI 0) hx hb d_M_parts_118 rfl ?_
            exact fx_iret hx hb hr hlk hS.2.2 (Nat.le_of_ble_eq_true rfl) (Nat.le_of_ble_eq_true rfl) d_M_parts_119 (⟨by rw [(show so_parts Vs (nI a) = (0, nI (sv_prt o), Vs) from by unfold so_parts; rw [ta])]; exact congrArg (fun z => Outcome.returned (some (Value.int z))) (by unfold sv_prt; rw [if_neg (fun z => h29 z.1), if_neg (fun z => h80 z.2), if_neg h111]), S1, hP, by rw [(show so_parts Vs (nI a) = (0, nI (sv_prt o), Vs) from by unfold so_parts; rw [ta])]; exact hA, by rw [(show so_parts Vs (nI a) = (0, nI (sv_prt o), Vs) from by unfold so_parts; rw [ta])]; exact hT⟩)
          · have h111 : 0 < o.2.2.1.length := Nat.pos_of_ne_zero (fun z => h111 (by rw [sa, z]; decide))
            refine lv_iconst (v := nI 1) hx hb d_M_parts_114 rfl ?_
            refine lv_goto (tgt := 119) hx hb d_M_parts_115 rfl ?_
            exact fx_iret hx hb hr hlk hS.2.2 (Nat.le_of_ble_eq_true rfl) (Nat.le_of_ble_eq_true rfl) d_M_parts_119 (⟨by rw [(show so_parts Vs (nI a) = (0, nI (sv_prt o), Vs) from by unfold so_parts; rw [ta])]; exact congrArg (fun z => Outcome.returned (some (Value.int z))) (by unfold sv_prt; rw [if_neg (fun z => h29 z.1), if_neg (fun z => h80 z.2), if_pos h111]), S1, hP, by rw [(show so_parts Vs (nI a) = (0, nI (sv_prt o), Vs) from by unfold so_parts; rw [ta])]; exact hA, by rw [(show so_parts Vs (nI a) = (0, nI (sv_prt o), Vs) from by unfold so_parts; rw [ta])]; exact hT⟩)
        · have h80 : o.2.1 = 1 := by rw [fa] at h80; exact h80
          refine lv_iconst (v := nI 1) hx hb d_M_parts_83 rfl ?_
          refine lv_goto (tgt := 88) hx hb d_M_parts_84 rfl ?_
          refine lv_istore_n hx hb d_M_parts_88 rfl hl (by decide) rfl (fun ls hl => ?_)
          have hl : lv_has ls 3 [(2, .int (nI 1)), (0, .ref (am 0)), (1, .int (nI a))] := hl
          refine lv_iload_n hx hb d_M_parts_89 rfl (lv_at hl 0 rfl) ?_
          refine lv_if_eq (tgt := 105) hx hb d_M_parts_90 rfl (fun h9 => absurd h9 (by decide)) (fun _ => ?_)
          refine lv_aload_n hx hb d_M_parts_93 rfl (lv_at hl 1 rfl) ?_
          refine fx_get hx hb hown (kc_M hK _) hKv 3 (by decide) (hw _ mf_M_16) (fun _ h => h) (hP 0 _ rfl) rfl d_M_parts_94 ?_
          refine lv_iload_n hx hb d_M_parts_97 rfl (lv_at hl 2 rfl) ?_
          refine fx_iald (j := a) hx hb hKv 0 (hP 3 _ rfl) rfl (rfl) (by omega) (by decide) d_M_parts_98 ?_
          refine fx_ti (y := nI o.2.2.1.length) (sa) ?_
          refine fx_cS KT_moved (ct_M_bits w o.2.2.1.length la) hx hfl hK hb (by rw [hml]; exact hl.1) hown (hw _ mm_M_74) (fx_Y.code (hw _ mk_M_bits)) (hw _ ms_M_bits) (hw _ mn_M) (show fx_N y_M_bits 1 by decide +kernel) rfl ⟨Nat.le_of_ble_eq_true rfl, Nat.le_of_ble_eq_true rfl, Nat.le_of_ble_eq_true rfl, Nat.le_of_ble_eq_true rfl⟩ trivial d_M_parts_99 hS.2.2 (fun q h => h.elim) (fun v H1 locs hq hF hL => ?_) (fun x H1 locs hq _ _ => by cases hq.1)
          obtain ⟨hv, hH⟩ := hq
          cases hv
          rw [hH]
          have hS : va_S (mA am) s.heap H locs := ⟨hS.1, hS.2.1, hL⟩
          refine lv_goto (tgt := 119) hx hb d_M_parts_102 rfl ?_
          exact fx_iret hx hb hr hlk hS.2.2 (Nat.le_of_ble_eq_true rfl) (Nat.le_of_ble_eq_true rfl) d_M_parts_119 (⟨by rw [(show so_parts Vs (nI a) = (0, nI (sv_prt o), Vs) from by unfold so_parts; rw [ta])]; exact congrArg (fun z => Outcome.returned (some (Value.int z))) (by unfold sv_prt; rw [if_neg (fun z => h29 z.1), if_pos ⟨Or.inl h60, h80⟩]), S1, hP, by rw [(show so_parts Vs (nI a) = (0, nI (sv_prt o), Vs) from by unfold so_parts; rw [ta])]; exact hA, by rw [(show so_parts Vs (nI a) = (0, nI (sv_prt o), Vs) from by unfold so_parts; rw [ta])]; exact hT⟩)
      · have h60 : ¬ o.1 = 1 := by rw [ka] at h60; exact h60
        refine lv_aload_n hx hb d_M_parts_63 rfl (lv_at hl 0 rfl) ?_
        refine fx_get hx hb hown (kc_M hK _) hKv 1 (by decide) (hw _ mf_M_7) (fun _ h => h) (hP 0 _ rfl) rfl d_M_parts_64 ?_
        refine lv_iload_n hx hb d_M_parts_67 rfl (lv_at hl 1 rfl) ?_
        refine fx_iald (j := a) hx hb hKv 0 (hP 1 _ rfl) rfl (rfl) (by omega) (by decide) d_M_parts_68 ?_
        refine lv_iconst (v := nI 2) hx hb d_M_parts_69 rfl ?_
        refine lv_icmp_ne (tgt := 87) hx hb d_M_parts_70 rfl (fun h70 => ?_) (fun h70 => ?_)
        · have h70 : ¬ o.1 = 2 := by rw [ka] at h70; exact h70
          refine lv_iconst (v := nI 0) hx hb d_M_parts_87 rfl ?_
          refine lv_istore_n hx hb d_M_parts_88 rfl hl (by decide) rfl (fun ls hl => ?_)
          have hl : lv_has ls 3 [(2, .int (nI 0)), (0, .ref (am 0)), (1, .int (nI a))] := hl
          refine lv_iload_n hx hb d_M_parts_89 rfl (lv_at hl 0 rfl) ?_
          refine lv_if_eq (tgt := 105) hx hb d_M_parts_90 rfl (fun _ => ?_) (fun h9 => absurd rfl h9)
          refine lv_aload_n hx hb d_M_parts_105 rfl (lv_at hl 1 rfl) ?_
          refine fx_get hx hb hown (kc_M hK _) hKv 3 (by decide) (hw _ mf_M_16) (fun _ h => h) (hP 0 _ rfl) rfl d_M_parts_106 ?_
          refine lv_iload_n hx hb d_M_parts_109 rfl (lv_at hl 2 rfl) ?_
          refine fx_iald (j := a) hx hb hKv 0 (hP 3 _ rfl) rfl (rfl) (by omega) (by decide) d_M_parts_110 ?_
          refine lv_if_le (tgt := 118) hx hb d_M_parts_111 rfl (fun h111 => ?_) (fun h111 => ?_)
          · have h111 : ¬ 0 < o.2.2.1.length := by rw [sa] at h111; exact Nat.not_lt.mpr ((nI_leI (by omega) (by decide)).mp h111)
            refine lv_iconst (v := nI 0) hx hb d_M_parts_118 rfl ?_
            exact fx_iret hx hb hr hlk hS.2.2 (Nat.le_of_ble_eq_true rfl) (Nat.le_of_ble_eq_true rfl) d_M_parts_119 (⟨by rw [(show so_parts Vs (nI a) = (0, nI (sv_prt o), Vs) from by unfold so_parts; rw [ta])]; exact congrArg (fun z => Outcome.returned (some (Value.int z))) (by unfold sv_prt; rw [if_neg (fun z => h29 z.1), if_neg (fun z => z.1.elim h60 h70), if_neg h111]), S1, hP, by rw [(show so_parts Vs (nI a) = (0, nI (sv_prt o), Vs) from by unfold so_parts; rw [ta])]; exact hA, by rw [(show so_parts Vs (nI a) = (0, nI (sv_prt o), Vs) from by unfold so_parts; rw [ta])]; exact hT⟩)
          · have h111 : 0 < o.2.2.1.length := Nat.pos_of_ne_zero (fun z => h111 (by rw [sa, z]; decide))
            refine lv_iconst (v := nI 1) hx hb d_M_parts_114 rfl ?_
            refine lv_goto (tgt := 119) hx hb d_M_parts_115 rfl ?_
            exact fx_iret hx hb hr hlk hS.2.2 (Nat.le_of_ble_eq_true rfl) (Nat.le_of_ble_eq_true rfl) d_M_parts_119 (⟨by rw [(show so_parts Vs (nI a) = (0, nI (sv_prt o), Vs) from by unfold so_parts; rw [ta])]; exact congrArg (fun z => Outcome.returned (some (Value.int z))) (by unfold sv_prt; rw [if_neg (fun z => h29 z.1), if_neg (fun z => z.1.elim h60 h70), if_pos h111]), S1, hP, by rw [(show so_parts Vs (nI a) = (0, nI (sv_prt o), Vs) from by unfold so_parts; rw [ta])]; exact hA, by rw [(show so_parts Vs (nI a) = (0, nI (sv_prt o), Vs) from by unfold so_parts; rw [ta])]; exact hT⟩)
        · have h70 : o.1 = 2 := by rw [ka] at h70; exact h70
          refine lv_aload_n hx hb d_M_parts_73 rfl (lv_at hl 0 rfl) ?_
          refine fx_get hx hb hown (kc_M hK _) hKv 2 (by decide) (hw _ mf_M_13) (fun _ h => h) (hP 0 _ rfl) rfl d_M_parts_74 ?_
          refine lv_iload_n hx hb d_M_parts_77 rfl (lv_at hl 1 rfl) ?_
          refine fx_iald (j := a) hx hb hKv 0 (hP 2 _ rfl) rfl (rfl) (by omega) (by decide) d_M_parts_78 ?_
          refine lv_iconst (v := nI 1) hx hb d_M_parts_79 rfl ?_
          refine lv_icmp_ne (tgt := 87) hx hb d_M_parts_80 rfl (fun h80 => ?_) (fun h80 => ?_)
          · have h80 : ¬ o.2.1 = 1 := by rw [fa] at h80; exact h80
            refine lv_iconst (v := nI 0) hx hb d_M_parts_87 rfl ?_
            refine lv_istore_n hx hb d_M_parts_88 rfl hl (by decide) rfl (fun ls hl => ?_)
            have hl : lv_has ls 3 [(2, .int (nI 0)), (0, .ref (am 0)), (1, .int (nI a))] := hl
            refine lv_iload_n hx hb d_M_parts_89 rfl (lv_at hl 0 rfl) ?_
            refine lv_if_eq (tgt := 105) hx hb d_M_parts_90 rfl (fun _ => ?_) (fun h9 => absurd rfl h9)
            refine lv_aload_n hx hb d_M_parts_105 rfl (lv_at hl 1 rfl) ?_
            refine fx_get hx hb hown (kc_M hK _) hKv 3 (by decide) (hw _ mf_M_16) (fun _ h => h) (hP 0 _ rfl) rfl d_M_parts_106 ?_
            refine lv_iload_n hx hb d_M_parts_109 rfl (lv_at hl 2 rfl) ?_
            refine fx_iald (j := a) hx hb hKv 0 (hP 3 _ rfl) rfl (rfl) (by omega) (by decide) d_M_parts_110 ?_
            refine lv_if_le (tgt := 118) hx hb d_M_parts_111 rfl (fun h111 => ?_) (fun h111 => ?_)
            · have h111 : ¬ 0 < o.2.2.1.length := by rw [sa] at h111; exact Nat.not_lt.mpr ((nI_leI (by omega) (by decide)).mp h111)
              refine lv_iconst (v := nI 0) hx hb d_M_parts_118 rfl ?_
              exact fx_iret hx hb hr hlk hS.2.2 (Nat.le_of_ble_eq_true rfl) (Nat.le_of_ble_eq_true rfl) d_M_parts_119 (⟨by rw [(show so_parts Vs (nI a) = (0, nI (sv_prt o), Vs) from by unfold so_parts; rw [ta])]; exact congrArg (fun z => Outcome.returned (some (Value.int z))) (by unfold sv_prt; rw [if_neg (fun z => h29 z.1), if_neg (fun z => h80 z.2), if_neg h111]), S1, hP, by rw [(show so_parts Vs (nI a) = (0, nI (sv_prt o), Vs) from by unfold so_parts; rw [ta])]; exact hA, by rw [(show so_parts Vs (nI a) = (0, nI (sv_prt o), Vs) from by unfold so_parts; rw [ta])]; exact hT⟩)
            · have h111 : 0 < o.2.2.1.length := Nat.pos_of_ne_zero (fun z => h111 (by rw [sa, z]; decide))
              refine lv_iconst (v := nI 1) hx hb d_M_parts_114 rfl ?_
              refine lv_goto (tgt := 119) hx hb d_M_parts_115 rfl ?_
              exact fx_iret hx hb hr hlk hS.2.2 (Nat.le_of_ble_eq_true rfl) (Nat.le_of_ble_eq_true rfl) d_M_parts_119 (⟨by rw [(show so_parts Vs (nI a) = (0, nI (sv_prt o), Vs) from by unfold so_parts; rw [ta])]; exact congrArg (fun z => Outcome.returned (some (Value.int z))) (by unfold sv_prt; rw [if_neg (fun z => h29 z.1), if_neg (fun z => h80 z.2), if_pos h111]), S1, hP, by rw [(show so_parts Vs (nI a) = (0, nI (sv_prt o), Vs) from by unfold so_parts; rw [ta])]; exact hA, by rw [(show so_parts Vs (nI a) = (0, nI (sv_prt o), Vs) from by unfold so_parts; rw [ta])]; exact hT⟩)
          · have h80 : o.2.1 = 1 := by rw [fa] at h80; exact h80
            refine lv_iconst (v := nI 1) hx hb d_M_parts_83 rfl ?_
            refine lv_goto (tgt := 88) hx hb d_M_parts_84 rfl ?_
            refine lv_istore_n hx hb d_M_parts_88 rfl hl (by decide) rfl (fun ls hl => ?_)
            have hl : lv_has ls 3 [(2, .int (nI 1)), (0, .ref (am 0)), (1, .int (nI a))] := hl
            refine lv_iload_n hx hb d_M_parts_89 rfl (lv_at hl 0 rfl) ?_
            refine lv_if_eq (tgt := 105) hx hb d_M_parts_90 rfl (fun h9 => absurd h9 (by decide)) (fun _ => ?_)
            refine lv_aload_n hx hb d_M_parts_93 rfl (lv_at hl 1 rfl) ?_
            refine fx_get hx hb hown (kc_M hK _) hKv 3 (by decide) (hw _ mf_M_16) (fun _ h => h) (hP 0 _ rfl) rfl d_M_parts_94 ?_
            refine lv_iload_n hx hb d_M_parts_97 rfl (lv_at hl 2 rfl) ?_
            refine fx_iald (j := a) hx hb hKv 0 (hP 3 _ rfl) rfl (rfl) (by omega) (by decide) d_M_parts_98 ?_
            refine fx_ti (y := nI o.2.2.1.length) (sa) ?_
            refine fx_cS KT_moved (ct_M_bits w o.2.2.1.length la) hx hfl hK hb (by rw [hml]; exact hl.1) hown (hw _ mm_M_74) (fx_Y.code (hw _ mk_M_bits)) (hw _ ms_M_bits) (hw _ mn_M) (show fx_N y_M_bits 1 by decide +kernel) rfl ⟨Nat.le_of_ble_eq_true rfl, Nat.le_of_ble_eq_true rfl, Nat.le_of_ble_eq_true rfl, Nat.le_of_ble_eq_true rfl⟩ trivial d_M_parts_99 hS.2.2 (fun q h => h.elim) (fun v H1 locs hq hF hL => ?_) (fun x H1 locs hq _ _ => by cases hq.1)
            obtain ⟨hv, hH⟩ := hq
            cases hv
            rw [hH]
            have hS : va_S (mA am) s.heap H locs := ⟨hS.1, hS.2.1, hL⟩
            refine lv_goto (tgt := 119) hx hb d_M_parts_102 rfl ?_
            exact fx_iret hx hb hr hlk hS.2.2 (Nat.le_of_ble_eq_true rfl) (Nat.le_of_ble_eq_true rfl) d_M_parts_119 (⟨by rw [(show so_parts Vs (nI a) = (0, nI (sv_prt o), Vs) from by unfold so_parts; rw [ta])]; exact congrArg (fun z => Outcome.returned (some (Value.int z))) (by unfold sv_prt; rw [if_neg (fun z => h29 z.1), if_pos ⟨Or.inr h70, h80⟩]), S1, hP, by rw [(show so_parts Vs (nI a) = (0, nI (sv_prt o), Vs) from by unfold so_parts; rw [ta])]; exact hA, by rw [(show so_parts Vs (nI a) = (0, nI (sv_prt o), Vs) from by unfold so_parts; rw [ta])]; exact hT⟩)
    · have h29 : o.1 = 2 := by rw [ka] at h29; exact h29
      refine lv_aload_n hx hb d_M_parts_32 rfl (lv_at hl 0 rfl) ?_
      refine fx_get hx hb hown (kc_M hK _) hKv 2 (by decide) (hw _ mf_M_13) (fun _ h => h) (hP 0 _ rfl) rfl d_M_parts_33 ?_
      refine lv_iload_n hx hb d_M_parts_36 rfl (lv_at hl 1 rfl) ?_
      refine fx_iald (j := a) hx hb hKv 0 (hP 2 _ rfl) rfl (rfl) (by omega) (by decide) d_M_parts_37 ?_
      refine lv_if_ne (tgt := 53) hx hb d_M_parts_38 rfl (fun h38 => ?_) (fun h38 => ?_)
      · have h38 : ¬ o.2.1 = 0 := by rw [fa] at h38; exact h38
        refine lv_aload_n hx hb d_M_parts_53 rfl (lv_at hl 0 rfl) ?_
        refine fx_get hx hb hown (kc_M hK _) hKv 1 (by decide) (hw _ mf_M_7) (fun _ h => h) (hP 0 _ rfl) rfl d_M_parts_54 ?_
        refine lv_iload_n hx hb d_M_parts_57 rfl (lv_at hl 1 rfl) ?_
        refine fx_iald (j := a) hx hb hKv 0 (hP 1 _ rfl) rfl (rfl) (by omega) (by decide) d_M_parts_58 ?_
        refine lv_iconst (v := nI 1) hx hb d_M_parts_59 rfl ?_
        refine lv_icmp_eq (tgt := 73) hx hb d_M_parts_60 rfl (fun h60 => ?_) (fun h60 => ?_)
        · have h60 : o.1 = 1 := by rw [ka] at h60; exact h60
          refine lv_aload_n hx hb d_M_parts_73 rfl (lv_at hl 0 rfl) ?_
          refine fx_get hx hb hown (kc_M hK _) hKv 2 (by decide) (hw _ mf_M_13) (fun _ h => h) (hP 0 _ rfl) rfl d_M_parts_74 ?_
          refine lv_iload_n hx hb d_M_parts_77 rfl (lv_at hl 1 rfl) ?_
          refine fx_iald (j := a) hx hb hKv 0 (hP 2 _ rfl) rfl (rfl) (by omega) (by decide) d_M_parts_78 ?_
          refine lv_iconst (v := nI 1) hx hb d_M_parts_79 rfl ?_
          refine lv_icmp_ne (tgt := 87) hx hb d_M_parts_80 rfl (fun h80 => ?_) (fun h80 => ?_)
          · have h80 : ¬ o.2.1 = 1 := by rw [fa] at h80; exact h80
            refine lv_iconst (v := nI 0) hx hb d_M_parts_87 rfl ?_
            refine lv_istore_n hx hb d_M_parts_88 rfl hl (by decide) rfl (fun ls hl => ?_)
            have hl : lv_has ls 3 [(2, .int (nI 0)), (0, .ref (am 0)), (1, .int (nI a))] := hl
            refine lv_iload_n hx hb d_M_parts_89 rfl (lv_at hl 0 rfl) ?_
            refine lv_if_eq (tgt := 105) hx hb d_M_parts_90 rfl (fun _ => ?_) (fun h9 => absurd rfl h9)
            refine lv_aload_n hx hb d_M_parts_105 rfl (lv_at hl 1 rfl) ?_
            refine fx_get hx hb hown (kc_M hK _) hKv 3 (by decide) (hw _ mf_M_16) (fun _ h => h) (hP 0 _ rfl) rfl d_M_parts_106 ?_
            refine lv_iload_n hx hb d_M_parts_109 rfl (lv_at hl 2 rfl) ?_
            refine fx_iald (j := a) hx hb hKv 0 (hP 3 _ rfl) rfl (rfl) (by omega) (by decide) d_M_parts_110 ?_
            refine lv_if_le (tgt := 118) hx hb d_M_parts_111 rfl (fun h111 => ?_) (fun h111 => ?_)
            · have h111 : ¬ 0 < o.2.2.1.length := by rw [sa] at h111; exact Nat.not_lt.mpr ((nI_leI (by omega) (by decide)).mp h111)
              refine lv_iconst (v := nI 0) hx hb d_M_parts_118 rfl ?_
              exact fx_iret hx hb hr hlk hS.2.2 (Nat.le_of_ble_eq_true rfl) (Nat.le_of_ble_eq_true rfl) d_M_parts_119 (⟨by rw [(show so_parts Vs (nI a) = (0, nI (sv_prt o), Vs) from by unfold so_parts; rw [ta])]; exact congrArg (fun z => Outcome.returned (some (Value.int z))) (by unfold sv_prt; rw [if_neg (fun z => h38 z.2), if_neg (fun z => h80 z.2), if_neg h111]), S1, hP, by rw [(show so_parts Vs (nI a) = (0, nI (sv_prt o), Vs) from by unfold so_parts; rw [ta])]; exact hA, by rw [(show so_parts Vs (nI a) = (0, nI (sv_prt o), Vs) from by unfold so_parts; rw [ta])]; exact hT⟩)
            · have h111 : 0 < o.2.2.1.length := Nat.pos_of_ne_zero (fun z => h111 (by rw [sa, z]; decide))
              refine lv_iconst (v := nI 1) hx hb d_M_parts_114 rfl ?_
              refine lv_goto (tgt := 119) hx hb d_M_parts_115 rfl ?_
              exact fx_iret hx hb hr hlk hS.2.2 (Nat.le_of_ble_eq_true rfl) (Nat.le_of_ble_eq_true rfl) d_M_parts_119 (⟨by rw [(show so_parts Vs (nI a) = (0, nI (sv_prt o), Vs) from by unfold so_parts; rw [ta])]; exact congrArg (fun z => Outcome.returned (some (Value.int z))) (by unfold sv_prt; rw [if_neg (fun z => h38 z.2), if_neg (fun z => h80 z.2), if_pos h111]), S1, hP, by rw [(show so_parts Vs (nI a) = (0, nI (sv_prt o), Vs) from by unfold so_parts; rw [ta])]; exact hA, by rw [(show so_parts Vs (nI a) = (0, nI (sv_prt o), Vs) from by unfold so_parts; rw [ta])]; exact hT⟩)
          · have h80 : o.2.1 = 1 := by rw [fa] at h80; exact h80
            refine lv_iconst (v := nI 1) hx hb d_M_parts_83 rfl ?_
            refine lv_goto (tgt := 88) hx hb d_M_parts_84 rfl ?_
            refine lv_istore_n hx hb d_M_parts_88 rfl hl (by decide) rfl (fun ls hl => ?_)
            have hl : lv_has ls 3 [(2, .int (nI 1)), (0, .ref (am 0)), (1, .int (nI a))] := hl
            refine lv_iload_n hx hb d_M_parts_89 rfl (lv_at hl 0 rfl) ?_
            refine lv_if_eq (tgt := 105) hx hb d_M_parts_90 rfl (fun h9 => absurd h9 (by decide)) (fun _ => ?_)
            refine lv_aload_n hx hb d_M_parts_93 rfl (lv_at hl 1 rfl) ?_
            refine fx_get hx hb hown (kc_M hK _) hKv 3 (by decide) (hw _ mf_M_16) (fun _ h => h) (hP 0 _ rfl) rfl d_M_parts_94 ?_
            refine lv_iload_n hx hb d_M_parts_97 rfl (lv_at hl 2 rfl) ?_
            refine fx_iald (j := a) hx hb hKv 0 (hP 3 _ rfl) rfl (rfl) (by omega) (by decide) d_M_parts_98 ?_
            refine fx_ti (y := nI o.2.2.1.length) (sa) ?_
            refine fx_cS KT_moved (ct_M_bits w o.2.2.1.length la) hx hfl hK hb (by rw [hml]; exact hl.1) hown (hw _ mm_M_74) (fx_Y.code (hw _ mk_M_bits)) (hw _ ms_M_bits) (hw _ mn_M) (show fx_N y_M_bits 1 by decide +kernel) rfl ⟨Nat.le_of_ble_eq_true rfl, Nat.le_of_ble_eq_true rfl, Nat.le_of_ble_eq_true rfl, Nat.le_of_ble_eq_true rfl⟩ trivial d_M_parts_99 hS.2.2 (fun q h => h.elim) (fun v H1 locs hq hF hL => ?_) (fun x H1 locs hq _ _ => by cases hq.1)
            obtain ⟨hv, hH⟩ := hq
            cases hv
            rw [hH]
            have hS : va_S (mA am) s.heap H locs := ⟨hS.1, hS.2.1, hL⟩
            refine lv_goto (tgt := 119) hx hb d_M_parts_102 rfl ?_
            exact fx_iret hx hb hr hlk hS.2.2 (Nat.le_of_ble_eq_true rfl) (Nat.le_of_ble_eq_true rfl) d_M_parts_119 (⟨by rw [(show so_parts Vs (nI a) = (0, nI (sv_prt o), Vs) from by unfold so_parts; rw [ta])]; exact congrArg (fun z => Outcome.returned (some (Value.int z))) (by unfold sv_prt; rw [if_neg (fun z => h38 z.2), if_pos ⟨Or.inl h60, h80⟩]), S1, hP, by rw [(show so_parts Vs (nI a) = (0, nI (sv_prt o), Vs) from by unfold so_parts; rw [ta])]; exact hA, by rw [(show so_parts Vs (nI a) = (0, nI (sv_prt o), Vs) from by unfold so_parts; rw [ta])]; exact hT⟩)
        · have h60 : ¬ o.1 = 1 := by rw [ka] at h60; exact h60
          refine lv_aload_n hx hb d_M_parts_63 rfl (lv_at hl 0 rfl) ?_
          refine fx_get hx hb hown (kc_M hK _) hKv 1 (by decide) (hw _ mf_M_7) (fun _ h => h) (hP 0 _ rfl) rfl d_M_parts_64 ?_
          refine lv_iload_n hx hb d_M_parts_67 rfl (lv_at hl 1 rfl) ?_
          refine fx_iald (j := a) hx hb hKv 0 (hP 1 _ rfl) rfl (rfl) (by omega) (by decide) d_M_parts_68 ?_
          refine lv_iconst (v := nI 2) hx hb d_M_parts_69 rfl ?_
          refine lv_icmp_ne (tgt := 87) hx hb d_M_parts_70 rfl (fun h70 => ?_) (fun h70 => ?_)
          · have h70 : ¬ o.1 = 2 := by rw [ka] at h70; exact h70
            refine lv_iconst (v := nI 0) hx hb d_M_parts_87 rfl ?_
            refine lv_istore_n hx hb d_M_parts_88 rfl hl (by decide) rfl (fun ls hl => ?_)
            have hl : lv_has ls 3 [(2, .int (nI 0)), (0, .ref (am 0)), (1, .int (nI a))] := hl
            refine lv_iload_n hx hb d_M_parts_89 rfl (lv_at hl 0 rfl) ?_
            refine lv_if_eq (tgt := 105) hx hb d_M_parts_90 rfl (fun _ => ?_) (fun h9 => absurd rfl h9)
            refine lv_aload_n hx hb d_M_parts_105 rfl (lv_at hl 1 rfl) ?_
            refine fx_get hx hb hown (kc_M hK _) hKv 3 (by decide) (hw _ mf_M_16) (fun _ h => h) (hP 0 _ rfl) rfl d_M_parts_106 ?_
            refine lv_iload_n hx hb d_M_parts_109 rfl (lv_at hl 2 rfl) ?_
            refine fx_iald (j := a) hx hb hKv 0 (hP 3 _ rfl) rfl (rfl) (by omega) (by decide) d_M_parts_110 ?_
            refine lv_if_le (tgt := 118) hx hb d_M_parts_111 rfl (fun h111 => ?_) (fun h111 => ?_)
            · have h111 : ¬ 0 < o.2.2.1.length := by rw [sa] at h111; exact Nat.not_lt.mpr ((nI_leI (by omega) (by decide)).mp h111)
              refine lv_iconst (v := nI 0) hx hb d_M_parts_118 rfl ?_
              exact fx_iret hx hb hr hlk hS.2.2 (Nat.le_of_ble_eq_true rfl) (Nat.le_of_ble_eq_true rfl) d_M_parts_119 (⟨by rw [(show so_parts Vs (nI a) = (0, nI (sv_prt o), Vs) from by unfold so_parts; rw [ta])]; exact congrArg (fun z => Outcome.returned (some (Value.int z))) (by unfold sv_prt; rw [if_neg (fun z => h38 z.2), if_neg (fun z => z.1.elim h60 h70), if_neg h111]), S1, hP, by rw [(show so_parts Vs (nI a) = (0, nI (sv_prt o), Vs) from by unfold so_parts; rw [ta])]; exact hA, by rw [(show so_parts Vs (nI a) = (0, nI (sv_prt o), Vs) from by unfold so_parts; rw [ta])]; exact hT⟩)
            · have h111 : 0 < o.2.2.1.length := Nat.pos_of_ne_zero (fun z => h111 (by rw [sa, z]; decide))
              refine lv_iconst (v := nI 1) hx hb d_M_parts_114 rfl ?_
              refine lv_goto (tgt := 119) hx hb d_M_parts_115 rfl ?_
              exact fx_iret hx hb hr hlk hS.2.2 (Nat.le_of_ble_eq_true rfl) (Nat.le_of_ble_eq_true rfl) d_M_parts_119 (⟨by rw [(show so_parts Vs (nI a) = (0, nI (sv_prt o), Vs) from by unfold so_parts; rw [ta])]; exact congrArg (fun z => Outcome.returned (some (Value.int z))) (by unfold sv_prt; rw [if_neg (fun z => h38 z.2), if_neg (fun z => z.1.elim h60 h70), if_pos h111]), S1, hP, by rw [(show so_parts Vs (nI a) = (0, nI (sv_prt o), Vs) from by unfold so_parts; rw [ta])]; exact hA, by rw [(show so_parts Vs (nI a) = (0, nI (sv_prt o), Vs) from by unfold so_parts; rw [ta])]; exact hT⟩)
          · have h70 : o.1 = 2 := by rw [ka] at h70; exact h70
            refine lv_aload_n hx hb d_M_parts_73 rfl (lv_at hl 0 rfl) ?_
            refine fx_get hx hb hown (kc_M hK _) hKv 2 (by decide) (hw _ mf_M_13) (fun _ h => h) (hP 0 _ rfl) rfl d_M_parts_74 ?_
            refine lv_iload_n hx hb d_M_parts_77 rfl (lv_at hl 1 rfl) ?_
            refine fx_iald (j := a) hx hb hKv 0 (hP 2 _ rfl) rfl (rfl) (by omega) (by decide) d_M_parts_78 ?_
            refine lv_iconst (v := nI 1) hx hb d_M_parts_79 rfl ?_
            refine lv_icmp_ne (tgt := 87) hx hb d_M_parts_80 rfl (fun h80 => ?_) (fun h80 => ?_)
            · have h80 : ¬ o.2.1 = 1 := by rw [fa] at h80; exact h80
              refine lv_iconst (v := nI 0) hx hb d_M_parts_87 rfl ?_
              refine lv_istore_n hx hb d_M_parts_88 rfl hl (by decide) rfl (fun ls hl => ?_)
              have hl : lv_has ls 3 [(2, .int (nI 0)), (0, .ref (am 0)), (1, .int (nI a))] := hl
              refine lv_iload_n hx hb d_M_parts_89 rfl (lv_at hl 0 rfl) ?_
              refine lv_if_eq (tgt := 105) hx hb d_M_parts_90 rfl (fun _ => ?_) (fun h9 => absurd rfl h9)
              refine lv_aload_n hx hb d_M_parts_105 rfl (lv_at hl 1 rfl) ?_
              refine fx_get hx hb hown (kc_M hK _) hKv 3 (by decide) (hw _ mf_M_16) (fun _ h => h) (hP 0 _ rfl) rfl d_M_parts_106 ?_
              refine lv_iload_n hx hb d_M_parts_109 rfl (lv_at hl 2 rfl) ?_
              refine fx_iald (j := a) hx hb hKv 0 (hP 3 _ rfl) rfl (rfl) (by omega) (by decide) d_M_parts_110 ?_
              refine lv_if_le (tgt := 118) hx hb d_M_parts_111 rfl (fun h111 => ?_) (fun h111 => ?_)
              · have h111 : ¬ 0 < o.2.2.1.length := by rw [sa] at h111; exact Nat.not_lt.mpr ((nI_leI (by omega) (by decide)).mp h111)
                refine lv_iconst (v := nI 0) hx hb d_M_parts_118 rfl ?_
                exact fx_iret hx hb hr hlk hS.2.2 (Nat.le_of_ble_eq_true rfl) (Nat.le_of_ble_eq_true rfl) d_M_parts_119 (⟨by rw [(show so_parts Vs (nI a) = (0, nI (sv_prt o), Vs) from by unfold so_parts; rw [ta])]; exact congrArg (fun z => Outcome.returned (some (Value.int z))) (by unfold sv_prt; rw [if_neg (fun z => h38 z.2), if_neg (fun z => h80 z.2), if_neg h111]), S1, hP, by rw [(show so_parts Vs (nI a) = (0, nI (sv_prt o), Vs) from by unfold so_parts; rw [ta])]; exact hA, by rw [(show so_parts Vs (nI a) = (0, nI (sv_prt o), Vs) from by unfold so_parts; rw [ta])]; exact hT⟩)
              · have h111 : 0 < o.2.2.1.length := Nat.pos_of_ne_zero (fun z => h111 (by rw [sa, z]; decide))
                refine lv_iconst (v := nI 1) hx hb d_M_parts_114 rfl ?_
                refine lv_goto (tgt := 119) hx hb d_M_parts_115 rfl ?_
                exact fx_iret hx hb hr hlk hS.2.2 (Nat.le_of_ble_eq_true rfl) (Nat.le_of_ble_eq_true rfl) d_M_parts_119 (⟨by rw [(show so_parts Vs (nI a) = (0, nI (sv_prt o), Vs) from by unfold so_parts; rw [ta])]; exact congrArg (fun z => Outcome.returned (some (Value.int z))) (by unfold sv_prt; rw [if_neg (fun z => h38 z.2), if_neg (fun z => h80 z.2), if_pos h111]), S1, hP, by rw [(show so_parts Vs (nI a) = (0, nI (sv_prt o), Vs) from by unfold so_parts; rw [ta])]; exact hA, by rw [(show so_parts Vs (nI a) = (0, nI (sv_prt o), Vs) from by unfold so_parts; rw [ta])]; exact hT⟩)
            · have h80 : o.2.1 = 1 := by rw [fa] at h80; exact h80
              refine lv_iconst (v := nI 1) hx hb d_M_parts_83 rfl ?_
              refine lv_goto (tgt := 88) hx hb d_M_parts_84 rfl ?_
              refine lv_istore_n hx hb d_M_parts_88 rfl hl (by decide) rfl (fun ls hl => ?_)
              have hl : lv_has ls 3 [(2, .int (nI 1)), (0, .ref (am 0)), (1, .int (nI a))] := hl
              refine lv_iload_n hx hb d_M_parts_89 rfl (lv_at hl 0 rfl) ?_
              refine lv_if_eq (tgt := 105) hx hb d_M_parts_90 rfl (fun h9 => absurd h9 (by decide)) (fun _ => ?_)
              refine lv_aload_n hx hb d_M_parts_93 rfl (lv_at hl 1 rfl) ?_
              refine fx_get hx hb hown (kc_M hK _) hKv 3 (by decide) (hw _ mf_M_16) (fun _ h => h) (hP 0 _ rfl) rfl d_M_parts_94 ?_
              refine lv_iload_n hx hb d_M_parts_97 rfl (lv_at hl 2 rfl) ?_
              refine fx_iald (j := a) hx hb hKv 0 (hP 3 _ rfl) rfl (rfl) (by omega) (by decide) d_M_parts_98 ?_
              refine fx_ti (y := nI o.2.2.1.length) (sa) ?_
              refine fx_cS KT_moved (ct_M_bits w o.2.2.1.length la) hx hfl hK hb (by rw [hml]; exact hl.1) hown (hw _ mm_M_74) (fx_Y.code (hw _ mk_M_bits)) (hw _ ms_M_bits) (hw _ mn_M) (show fx_N y_M_bits 1 by decide +kernel) rfl ⟨Nat.le_of_ble_eq_true rfl, Nat.le_of_ble_eq_true rfl, Nat.le_of_ble_eq_true rfl, Nat.le_of_ble_eq_true rfl⟩ trivial d_M_parts_99 hS.2.2 (fun q h => h.elim) (fun v H1 locs hq hF hL => ?_) (fun x H1 locs hq _ _ => by cases hq.1)
              obtain ⟨hv, hH⟩ := hq
              cases hv
              rw [hH]
              have hS : va_S (mA am) s.heap H locs := ⟨hS.1, hS.2.1, hL⟩
              refine lv_goto (tgt := 119) hx hb d_M_parts_102 rfl ?_
              exact fx_iret hx hb hr hlk hS.2.2 (Nat.le_of_ble_eq_true rfl) (Nat.le_of_ble_eq_true rfl) d_M_parts_119 (⟨by rw [(show so_parts Vs (nI a) = (0, nI (sv_prt o), Vs) from by unfold so_parts; rw [ta])]; exact congrArg (fun z => Outcome.returned (some (Value.int z))) (by unfold sv_prt; rw [if_neg (fun z => h38 z.2), if_pos ⟨Or.inr h70, h80⟩]), S1, hP, by rw [(show so_parts Vs (nI a) = (0, nI (sv_prt o), Vs) from by unfold so_parts; rw [ta])]; exact hA, by rw [(show so_parts Vs (nI a) = (0, nI (sv_prt o), Vs) from by unfold so_parts; rw [ta])]; exact hT⟩)
      · have h38 : o.2.1 = 0 := by rw [fa] at h38; exact h38
        refine lv_aload_n hx hb d_M_parts_41 rfl (lv_at hl 0 rfl) ?_
        refine fx_get hx hb hown (kc_M hK _) hKv 7 (by decide) (hw _ mf_M_25) (fun _ h => h) (hP 0 _ rfl) rfl d_M_parts_42 ?_
        refine lv_aload_n hx hb d_M_parts_45 rfl (lv_at hl 0 rfl) ?_
        refine fx_get hx hb hown (kc_M hK _) hKv 3 (by decide) (hw _ mf_M_16) (fun _ h => h) (hP 0 _ rfl) rfl d_M_parts_46 ?_
        refine lv_iload_n hx hb d_M_parts_49 rfl (lv_at hl 1 rfl) ?_
        refine fx_iald (j := a) hx hb hKv 0 (hP 3 _ rfl) rfl (rfl) (by omega) (by decide) d_M_parts_50 ?_
        refine fx_iald (j := o.2.2.1.length) hx hb hKv 0 (hP 6 _ rfl) rfl (sa) (by omega) (by decide) d_M_parts_51 ?_
        exact fx_iret hx hb hr hlk hS.2.2 (Nat.le_of_ble_eq_true rfl) (Nat.le_of_ble_eq_true rfl) d_M_parts_52 (⟨by rw [(show so_parts Vs (nI a) = (0, nI (sv_prt o), Vs) from by unfold so_parts; rw [ta])]; exact congrArg (fun z => Outcome.returned (some (Value.int z))) (by unfold sv_prt; rw [if_pos ⟨h29, h38⟩]; exact hA.2.2.2 _ la), S1, hP, by rw [(show so_parts Vs (nI a) = (0, nI (sv_prt o), Vs) from by unfold so_parts; rw [ta])]; exact hA, by rw [(show so_parts Vs (nI a) = (0, nI (sv_prt o), Vs) from by unfold so_parts; rw [ta])]; exact hT⟩)
end
section
theorem sv_drop_cons {xs : List Int32} {i : Nat} (h : i < xs.length) : xs.drop i = xs.getD i 0 :: xs.drop (i + 1) := by
  rw [List.drop_eq_getElem_cons h, List.getD_eq_getElem?_getD, List.getElem?_eq_getElem h]
  rfl
theorem sv_drop_get (xs : List Int32) (i : Nat) : (xs.drop i).getD 0 0 = xs.getD i 0 := by
  simp only [List.getD_eq_getElem?_getD, List.getElem?_drop, Nat.add_zero]
theorem mg_l {n i j : Nat} {xs ys out T : List Int32} (hi : i < xs.length) (hc : j = ys.length ∨ xs.getD i 0 ≤ ys.getD j 0) (h : out ++ sv_mg (n + 1) (xs.drop i) (ys.drop j) = T) : (out ++ [xs.getD i 0]) ++ sv_mg n (xs.drop (i + 1)) (ys.drop j) = T := by
  rw [sv_drop_cons hi, sv_mg_left (hc.imp (fun z => by rw [z, List.drop_length]) (fun z => by rw [sv_drop_get]; exact z))] at h
  rw [List.append_assoc]
  exact h
theorem mg_r {n i j : Nat} {xs ys out T : List Int32} (hj : j < ys.length) (hc : i = xs.length ∨ ¬ xs.getD i 0 ≤ ys.getD j 0) (h : out ++ sv_mg (n + 1) (xs.drop i) (ys.drop j) = T) : (out ++ [ys.getD j 0]) ++ sv_mg n (xs.drop i) (ys.drop (j + 1)) = T := by
  rw [sv_drop_cons hj, sv_mg_right (hc.imp (fun z => by rw [z, List.drop_length]) (fun z => by rw [sv_drop_get]; exact z))] at h
  rw [List.append_assoc]
  exact h
set_option maxHeartbeats 4000000 in
set_option maxRecDepth 100000 in
theorem ct_M_join (w : Wd) (am : Nat → Nat) (hI : mI am) (Vs : List sV) (v u : Int32) : mApi w am y_M_join 8 (rmK 3) [.int v, .int u] Vs (so_join Vs v u) := by
  intro S hA
  have hn : S.1 = nI Vs.length := hA.1
  have hVl : Vs.length ≤ 64 := hA.2.1
  refine fx_of (ret := some .int) (cc := b_M_join) (fun s hK => hK.1 _ mk_M_join _) (Nat.le_of_ble_eq_true rfl) ?_
  intro p l e s m below meth c hx hfl hK hb hml hr hlk hnt hown hin hP ls hl
  have hw : ∀ z ∈ gw, z.before (.ref (am 0) :: [.int v, .int u] : List Value).toArray s = true := fun z hz => hK.1 z hz _
  have hKv := hK.2.1
  have hS : va_S (mA am) s.heap s.heap [] := va_S.rf
  have hP : va_P w.D cls (mw w am S) s.heap := hP
  have hl : lv_has ls 8 [(0, .ref (am 0)), (1, .int v), (2, .int u)] := hl
  refine lv_aload_n hx hb d_M_join_0 rfl (lv_at hl 0 rfl) ?_
  refine lv_iload_n hx hb d_M_join_1 rfl (lv_at hl 1 rfl) ?_
  refine m_cV (ct_M_is w am hI S.1 S.2.1 S.2.2.1 S.2.2.2.1 S.2.2.2.2.1 S.2.2.2.2.2.1 S.2.2.2.2.2.2.1 S.2.2.2.2.2.2.2 v) hx hfl hK hb (by rw [hml]; exact hl.1) hown (hw _ mm_M_35) (hw _ mk_M_is) (hw _ mi_M_is) (hw _ mq_M_is) (show fx_N y_M_is 1 by decide +kernel) rfl ⟨Nat.le_of_ble_eq_true rfl, Nat.le_of_ble_eq_true rfl, Nat.le_of_ble_eq_true rfl, Nat.le_of_ble_eq_true rfl⟩ hP hS d_M_join_2 (fun H locs hP hS => ?_)
  have hP : va_P w.D cls (mw w am S) H := hP
  refine lv_if_eq (tgt := 70) hx hb d_M_join_5 rfl (fun h5 => ?_) (fun h5 => ?_)
  · have h5 := zI_eq0.mp h5
    rw [hn] at h5
    refine lv_iconst (v := nI 0) hx hb d_M_join_70 rfl ?_
    refine lv_istore_n hx hb d_M_join_71 rfl hl (by decide) rfl (fun ls hl => ?_)
    have hl : lv_has ls 8 [(3, .int (nI 0)), (0, .ref (am 0)), (1, .int v), (2, .int u)] := hl
    refine lv_aload_n hx hb d_M_join_72 rfl (lv_at hl 1 rfl) ?_
    refine lv_iload_n hx hb d_M_join_73 rfl (lv_at hl 0 rfl) ?_
    refine lv_if_ne (tgt := 81) hx hb d_M_join_74 rfl (fun h9 => absurd rfl h9) (fun _ => ?_)
    refine lv_iconst (v := nI 1) hx hb d_M_join_77 rfl ?_
    refine lv_goto (tgt := 111) hx hb d_M_join_78 rfl ?_
    refine m_rThr hI hA (nI 1) hx hfl hK hb (by rw [hml]; exact hl.1) hown (hw _ mm_M_50) ⟨Nat.le_of_ble_eq_true rfl, Nat.le_of_ble_eq_true rfl, Nat.le_of_ble_eq_true rfl, Nat.le_of_ble_eq_true rfl⟩ hP hS d_M_join_111 (fun S1 hA hT H locs hP hS => ?_)
    have hn : S1.1 = nI Vs.length := hA.1
    refine lv_if_eq (tgt := 119) hx hb d_M_join_114 rfl (fun h9 => absurd h9 (by rw [zI_t (by decide)]; decide)) (fun _ => ?_)
    refine lv_iconst (v := nI 0) hx hb d_M_join_117 rfl ?_
    exact fx_iret hx hb hr hlk hS.2.2 (Nat.le_of_ble_eq_true rfl) (Nat.le_of_ble_eq_true rfl) d_M_join_118 (⟨by rw [(show so_join Vs v u = (1, 0, Vs) from by unfold so_join; rw [mAbs_none hA h5])]; exact rfl, S1, hP, by rw [(show so_join Vs v u = (1, 0, Vs) from by unfold so_join; rw [mAbs_none hA h5])]; exact hA, by rw [(show so_join Vs v u = (1, 0, Vs) from by unfold so_join; rw [mAbs_none hA h5])]; exact hT⟩)
  · have h5 := zI_ne0.mp h5
    rw [hn] at h5
    obtain ⟨a, o, ea, ha, ga, ta⟩ := mAbs_at hA h5.1 h5.2
    subst ea
    have ca : (nI a).toNatClampNeg = a := nI_clamp (by omega)
    have hl : lv_has ls 8 [(0, .ref (am 0)), (1, .int (nI a)), (2, .int u)] := hl
    refine lv_aload_n hx hb d_M_join_8 rfl (lv_at hl 0 rfl) ?_
    refine lv_iload_n hx hb d_M_join_9 rfl (lv_at hl 2 rfl) ?_
    refine m_cV (ct_M_is w am hI S.1 S.2.1 S.2.2.1 S.2.2.2.1 S.2.2.2.2.1 S.2.2.2.2.2.1 S.2.2.2.2.2.2.1 S.2.2.2.2.2.2.2 u) hx hfl hK hb (by rw [hml]; exact hl.1) hown (hw _ mm_M_35) (hw _ mk_M_is) (hw _ mi_M_is) (hw _ mq_M_is) (show fx_N y_M_is 1 by decide +kernel) rfl ⟨Nat.le_of_ble_eq_true rfl, Nat.le_of_ble_eq_true rfl, Nat.le_of_ble_eq_true rfl, Nat.le_of_ble_eq_true rfl⟩ hP hS d_M_join_10 (fun H locs hP hS => ?_)
    have hP : va_P w.D cls (mw w am S) H := hP
    refine lv_if_eq (tgt := 70) hx hb d_M_join_13 rfl (fun h13 => ?_) (fun h13 => ?_)
    · have h13 := zI_eq0.mp h13
      rw [hn] at h13
      refine lv_iconst (v := nI 0) hx hb d_M_join_70 rfl ?_
      refine lv_istore_n hx hb d_M_join_71 rfl hl (by decide) rfl (fun ls hl => ?_)
      have hl : lv_has ls 8 [(3, .int (nI 0)), (0, .ref (am 0)), (1, .int (nI a)), (2, .int u)] := hl
      refine lv_aload_n hx hb d_M_join_72 rfl (lv_at hl 1 rfl) ?_
      refine lv_iload_n hx hb d_M_join_73 rfl (lv_at hl 0 rfl) ?_
      refine lv_if_ne (tgt := 81) hx hb d_M_join_74 rfl (fun h9 => absurd rfl h9) (fun _ => ?_)
      refine lv_iconst (v := nI 1) hx hb d_M_join_77 rfl ?_
      refine lv_goto (tgt := 111) hx hb d_M_join_78 rfl ?_
      refine m_rThr hI hA (nI 1) hx hfl hK hb (by rw [hml]; exact hl.1) hown (hw _ mm_M_50) ⟨Nat.le_of_ble_eq_true rfl, Nat.le_of_ble_eq_true rfl, Nat.le_of_ble_eq_true rfl, Nat.le_of_ble_eq_true rfl⟩ hP hS d_M_join_111 (fun S1 hA hT H locs hP hS => ?_)
      have hn : S1.1 = nI Vs.length := hA.1
      refine lv_if_eq (tgt := 119) hx hb d_M_join_114 rfl (fun h9 => absurd h9 (by rw [zI_t (by decide)]; decide)) (fun _ => ?_)
      refine lv_iconst (v := nI 0) hx hb d_M_join_117 rfl ?_
      exact fx_iret hx hb hr hlk hS.2.2 (Nat.le_of_ble_eq_true rfl) (Nat.le_of_ble_eq_true rfl) d_M_join_118 (⟨by rw [(show so_join Vs (nI a) u = (1, 0, Vs) from by unfold so_join; rw [ta, mAbs_none hA h13])]; exact rfl, S1, hP, by rw [(show so_join Vs (nI a) u = (1, 0, Vs) from by unfold so_join; rw [ta, mAbs_none hA h13])]; exact hA, by rw [(show so_join Vs (nI a) u = (1, 0, Vs) from by unfold so_join; rw [ta, mAbs_none hA h13])]; exact hT⟩)
    · have h13 := zI_ne0.mp h13
      rw [hn] at h13
      obtain ⟨b, q, eb, hb0, gb, tb⟩ := mAbs_at hA h13.1 h13.2
      subst eb
      have hl : lv_has ls 8 [(0, .ref (am 0)), (1, .int (nI a)), (2, .int (nI b))] := hl
      obtain ⟨ka, fa, sa, qa, xa, ya⟩ := hA.2.2.1 a o ga
      have ka : S.2.2.1 a = o.1 := ka
      have fa : S.2.2.2.1 a = o.2.1 := fa
      have sa : S.2.2.2.2.1 a = nI o.2.2.1.length := sa
      have la : o.2.2.1.length ≤ 100 := qa.1
      obtain ⟨kb, fb, sb, qb, xb, yb⟩ := hA.2.2.1 b q gb
      have kb : S.2.2.1 b = q.1 := kb
      have fb : S.2.2.2.1 b = q.2.1 := fb
      have sb : S.2.2.2.2.1 b = nI q.2.2.1.length := sb
      have lb : q.2.2.1.length ≤ 100 := qb.1
      refine lv_aload_n hx hb d_M_join_16 rfl (lv_at hl 0 rfl) ?_
      refine fx_get hx hb hown (kc_M hK _) hKv 1 (by decide) (hw _ mf_M_7) (fun _ h => h) (hP 0 _ rfl) rfl d_M_join_17 ?_
      refine lv_iload_n hx hb d_M_join_20 rfl (lv_at hl 1 rfl) ?_
      refine fx_iald (j := a) hx hb hKv 0 (hP 1 _ rfl) rfl (rfl) (by omega) (by decide) d_M_join_21 ?_
      refine lv_iconst (v := nI 1) hx hb d_M_join_22 rfl ?_
      refine lv_icmp_eq (tgt := 36) hx hb d_M_join_23 rfl (fun h23 => ?_) (fun h23 => ?_)
      · have h23 : o.1 = 1 := by rw [ka] at h23; exact h23
        refine lv_aload_n hx hb d_M_join_36 rfl (lv_at hl 0 rfl) ?_
        refine fx_get hx hb hown (kc_M hK _) hKv 1 (by decide) (hw _ mf_M_7) (fun _ h => h) (hP 0 _ rfl) rfl d_M_join_37 ?_
        refine lv_iload_n hx hb d_M_join_40 rfl (lv_at hl 1 rfl) ?_
        refine fx_iald (j := a) hx hb hKv 0 (hP 1 _ rfl) rfl (rfl) (by omega) (by decide) d_M_join_41 ?_
        refine lv_aload_n hx hb d_M_join_42 rfl (lv_at hl 0 rfl) ?_
        refine fx_get hx hb hown (kc_M hK _) hKv 1 (by decide) (hw _ mf_M_7) (fun _ h => h) (hP 0 _ rfl) rfl d_M_join_43 ?_
        refine lv_iload_n hx hb d_M_join_46 rfl (lv_at hl 2 rfl) ?_
        refine fx_iald (j := b) hx hb hKv 0 (hP 1 _ rfl) rfl (rfl) (by omega) (by decide) d_M_join_47 ?_
        refine lv_icmp_ne (tgt := 70) hx hb d_M_join_48 rfl (fun h48 => ?_) (fun h48 => ?_)
        · have h48 : ¬ o.1 = q.1 := by rw [ka, kb] at h48; exact h48
          refine lv_iconst (v := nI 0) hx hb d_M_join_70 rfl ?_
          refine lv_istore_n hx hb d_M_join_71 rfl hl (by decide) rfl (fun ls hl => ?_)
          have hl : lv_has ls 8 [(3, .int (nI 0)), (0, .ref (am 0)), (1, .int (nI a)), (2, .int (nI b))] := hl
          refine lv_aload_n hx hb d_M_join_72 rfl (lv_at hl 1 rfl) ?_
          refine lv_iload_n hx hb d_M_join_73 rfl (lv_at hl 0 rfl) ?_
          refine lv_if_ne (tgt := 81) hx hb d_M_join_74 rfl (fun h9 => absurd rfl h9) (fun _ => ?_)
          refine lv_iconst (v := nI 1) hx hb d_M_join_77 rfl ?_
          refine lv_goto (tgt := 111) hx hb d_M_join_78 rfl ?_
          refine m_rThr hI hA (nI 1) hx hfl hK hb (by rw [hml]; exact hl.1) hown (hw _ mm_M_50) ⟨Nat.le_of_ble_eq_true rfl, Nat.le_of_ble_eq_true rfl, Nat.le_of_ble_eq_true rfl, Nat.le_of_ble_eq_true rfl⟩ hP hS d_M_join_111 (fun S1 hA hT H locs hP hS => ?_)
          have hn : S1.1 = nI Vs.length := hA.1
          refine lv_if_eq (tgt := 119) hx hb d_M_join_114 rfl (fun h9 => absurd h9 (by rw [zI_t (by decide)]; decide)) (fun _ => ?_)
          refine lv_iconst (v := nI 0) hx hb d_M_join_117 rfl ?_
          exact fx_iret hx hb hr hlk hS.2.2 (Nat.le_of_ble_eq_true rfl) (Nat.le_of_ble_eq_true rfl) d_M_join_118 (⟨by rw [(show so_join Vs (nI a) (nI b) = (1, 0, Vs) from by unfold so_join; rw [ta, tb]; dsimp only; rw [if_neg (fun z => h48 z.2.1)])]; exact rfl, S1, hP, by rw [(show so_join Vs (nI a) (nI b) = (1, 0, Vs) from by unfold so_join; rw [ta, tb]; dsimp only; rw [if_neg (fun z => h48 z.2.1)])]; exact hA, by rw [(show so_join Vs (nI a) (nI b) = (1, 0, Vs) from by unfold so_join; rw [ta, tb]; dsimp only; rw [if_neg (fun z => h48 z.2.1)])]; exact hT⟩)
        · have h48 : o.1 = q.1 := by rw [ka, kb] at h48; exact h48
          refine lv_aload_n hx hb d_M_join_51 rfl (lv_at hl 0 rfl) ?_
          refine fx_get hx hb hown (kc_M hK _) hKv 2 (by decide) (hw _ mf_M_13) (fun _ h => h) (hP 0 _ rfl) rfl d_M_join_52 ?_
          refine lv_iload_n hx hb d_M_join_55 rfl (lv_at hl 1 rfl) ?_
          refine fx_iald (j := a) hx hb hKv 0 (hP 2 _ rfl) rfl (rfl) (by omega) (by decide) d_M_join_56 ?_
          refine lv_aload_n hx hb d_M_join_57 rfl (lv_at hl 0 rfl) ?_
          refine fx_get hx hb hown (kc_M hK _) hKv 2 (by decide) (hw _ mf_M_13) (fun _ h => h) (hP 0 _ rfl) rfl d_M_join_58 ?_
          refine lv_iload_n hx hb d_M_join_61 rfl (lv_at hl 2 rfl) ?_
          refine fx_iald (j := b) hx hb hKv 0 (hP 2 _ rfl) rfl (rfl) (by omega) (by decide) d_M_join_62 ?_
          refine lv_icmp_ne (tgt := 70) hx hb d_M_join_63 rfl (fun h63 => ?_) (fun h63 => ?_)
          · have h63 : ¬ o.2.1 = q.2.1 := by rw [fa, fb] at h63; exact h63
            refine lv_iconst (v := nI 0) hx hb d_M_join_70 rfl ?_
            refine lv_istore_n hx hb d_M_join_71 rfl hl (by decide) rfl (fun ls hl => ?_)
            have hl : lv_has ls 8 [(3, .int (nI 0)), (0, .ref (am 0)), (1, .int (nI a)), (2, .int (nI b))] := hl
            refine lv_aload_n hx hb d_M_join_72 rfl (lv_at hl 1 rfl) ?_
            refine lv_iload_n hx hb d_M_join_73 rfl (lv_at hl 0 rfl) ?_
            refine lv_if_ne (tgt := 81) hx hb d_M_join_74 rfl (fun h9 => absurd rfl h9) (fun _ => ?_)
            refine lv_iconst (v := nI 1) hx hb d_M_join_77 rfl ?_
            refine lv_goto (tgt := 111) hx hb d_M_join_78 rfl ?_
            refine m_rThr hI hA (nI 1) hx hfl hK hb (by rw [hml]; exact hl.1) hown (hw _ mm_M_50) ⟨Nat.le_of_ble_eq_true rfl, Nat.le_of_ble_eq_true rfl, Nat.le_of_ble_eq_true rfl, Nat.le_of_ble_eq_true rfl⟩ hP hS d_M_join_111 (fun S1 hA hT H locs hP hS => ?_)
            have hn : S1.1 = nI Vs.length := hA.1
            refine lv_if_eq (tgt := 119) hx hb d_M_join_114 rfl (fun h9 => absurd h9 (by rw [zI_t (by decide)]; decide)) (fun _ => ?_)
            refine lv_iconst (v := nI 0) hx hb d_M_join_117 rfl ?_
            exact fx_iret hx hb hr hlk hS.2.2 (Nat.le_of_ble_eq_true rfl) (Nat.le_of_ble_eq_true rfl) d_M_join_118 (⟨by rw [(show so_join Vs (nI a) (nI b) = (1, 0, Vs) from by unfold so_join; rw [ta, tb]; dsimp only; rw [if_neg (fun z => h63 z.2.2)])]; exact rfl, S1, hP, by rw [(show so_join Vs (nI a) (nI b) = (1, 0, Vs) from by unfold so_join; rw [ta, tb]; dsimp only; rw [if_neg (fun z => h63 z.2.2)])]; exact hA, by rw [(show so_join Vs (nI a) (nI b) = (1, 0, Vs) from by unfold so_join; rw [ta, tb]; dsimp only; rw [if_neg (fun z => h63 z.2.2)])]; exact hT⟩)
          · have h63 : o.2.1 = q.2.1 := by rw [fa, fb] at h63; exact h63
            refine lv_iconst (v := nI 1) hx hb d_M_join_66 rfl ?_
            refine lv_goto (tgt := 71) hx hb d_M_join_67 rfl ?_
            refine lv_istore_n hx hb d_M_join_71 rfl hl (by decide) rfl (fun ls hl => ?_)
            have hl : lv_has ls 8 [(3, .int (nI 1)), (0, .ref (am 0)), (1, .int (nI a)), (2, .int (nI b))] := hl
            refine lv_aload_n hx hb d_M_join_72 rfl (lv_at hl 1 rfl) ?_
            refine lv_iload_n hx hb d_M_join_73 rfl (lv_at hl 0 rfl) ?_
            refine lv_if_ne (tgt := 81) hx hb d_M_join_74 rfl (fun _ => ?_) (fun h9 => absurd h9 (by decide))
            refine lv_aload_n hx hb d_M_join_81 rfl (lv_at hl 1 rfl) ?_
            refine m_cV (ct_M_isFull w am hI S.1 S.2.1 S.2.2.1 S.2.2.2.1 S.2.2.2.2.1 S.2.2.2.2.2.1 S.2.2.2.2.2.2.1 S.2.2.2.2.2.2.2) hx hfl hK hb (by rw [hml]; exact hl.1) hown (hw _ mm_M_46) (hw _ mk_M_isFull) (hw _ mi_M_isFull) (hw _ mq_M_isFull) (show fx_N y_M_isFull 0 by decide +kernel) rfl ⟨Nat.le_of_ble_eq_true rfl, Nat.le_of_ble_eq_true rfl, Nat.le_of_ble_eq_true rfl, Nat.le_of_ble_eq_true rfl⟩ hP hS d_M_join_82 (fun H locs hP hS => ?_)
            have hP : va_P w.D cls (mw w am S) H := hP
            refine lv_if_ne (tgt := 106) hx hb d_M_join_85 rfl (fun h85 => ?_) (fun h85 => ?_)
            · have h85 : 64 ≤ Vs.length := by have := zI_ne0.mp h85; rw [hn] at this; exact (nI_leI (by decide) (by omega)).mp this
              refine lv_iconst (v := nI 2) hx hb d_M_join_106 rfl ?_
              refine lv_goto (tgt := 111) hx hb d_M_join_107 rfl ?_
              refine m_rThr hI hA (nI 2) hx hfl hK hb (by rw [hml]; exact hl.1) hown (hw _ mm_M_50) ⟨Nat.le_of_ble_eq_true rfl, Nat.le_of_ble_eq_true rfl, Nat.le_of_ble_eq_true rfl, Nat.le_of_ble_eq_true rfl⟩ hP hS d_M_join_111 (fun S1 hA hT H locs hP hS => ?_)
              have hn : S1.1 = nI Vs.length := hA.1
              refine lv_if_eq (tgt := 119) hx hb d_M_join_114 rfl (fun h9 => absurd h9 (by rw [zI_t (by decide)]; decide)) (fun _ => ?_)
              refine lv_iconst (v := nI 0) hx hb d_M_join_117 rfl ?_
              exact fx_iret hx hb hr hlk hS.2.2 (Nat.le_of_ble_eq_true rfl) (Nat.le_of_ble_eq_true rfl) d_M_join_118 (⟨by rw [(show so_join Vs (nI a) (nI b) = (2, 0, Vs) from by unfold so_join; rw [ta, tb]; dsimp only; rw [if_pos ⟨Or.inl h23, h48, h63⟩, if_pos (Or.inl h85)])]; exact rfl, S1, hP, by rw [(show so_join Vs (nI a) (nI b) = (2, 0, Vs) from by unfold so_join; rw [ta, tb]; dsimp only; rw [if_pos ⟨Or.inl h23, h48, h63⟩, if_pos (Or.inl h85)])]; exact hA, by rw [(show so_join Vs (nI a) (nI b) = (2, 0, Vs) from by unfold so_join; rw [ta, tb]; dsimp only; rw [if_pos ⟨Or.inl h23, h48, h63⟩, if_pos (Or.inl h85)])]; exact hT⟩)
            · have h85 : ¬ 64 ≤ Vs.length := fun z => zI_eq0.mp h85 (by rw [hn]; exact nI_le z (by omega))
              refine lv_aload_n hx hb d_M_join_88 rfl (lv_at hl 1 rfl) ?_
              refine fx_get hx hb hown (kc_M hK _) hKv 3 (by decide) (hw _ mf_M_16) (fun _ h => h) (hP 0 _ rfl) rfl d_M_join_89 ?_
              refine lv_iload_n hx hb d_M_join_92 rfl (lv_at hl 2 rfl) ?_
              refine fx_iald (j := a) hx hb hKv 0 (hP 3 _ rfl) rfl (rfl) (by omega) (by decide) d_M_join_93 ?_
              refine lv_aload_n hx hb d_M_join_94 rfl (lv_at hl 1 rfl) ?_
              refine fx_get hx hb hown (kc_M hK _) hKv 3 (by decide) (hw _ mf_M_16) (fun _ h => h) (hP 0 _ rfl) rfl d_M_join_95 ?_
              refine lv_iload_n hx hb d_M_join_98 rfl (lv_at hl 3 rfl) ?_
              refine fx_iald (j := b) hx hb hKv 0 (hP 3 _ rfl) rfl (rfl) (by omega) (by decide) d_M_join_99 ?_
              refine lv_iadd hx hb d_M_join_100 ?_
              refine fx_ti (y := nI (o.2.2.1.length + q.2.2.1.length)) (by rw [sa, sb]; exact nI_add _ _) ?_
              refine lv_bipush (v := nI 100) hx hb d_M_join_101 rfl ?_
              refine lv_icmp_le (tgt := 110) hx hb d_M_join_103 rfl (fun h103 => ?_) (fun h103 => ?_)
              · have h103 : o.2.2.1.length + q.2.2.1.length ≤ 100 := (nI_leI (by omega) (by decide)).mp h103
                refine lv_iconst (v := nI 0) hx hb d_M_join_110 rfl ?_
                refine m_rThr hI hA (nI 0) hx hfl hK hb (by rw [hml]; exact hl.1) hown (hw _ mm_M_50) ⟨Nat.le_of_ble_eq_true rfl, Nat.le_of_ble_eq_true rfl, Nat.le_of_ble_eq_true rfl, Nat.le_of_ble_eq_true rfl⟩ hP hS d_M_join_111 (fun S1 hA hT H locs hP hS => ?_)
                have hn : S1.1 = nI Vs.length := hA.1
                refine lv_if_eq (tgt := 119) hx hb d_M_join_114 rfl (fun _ => ?_) (fun h9 => absurd (zI_f (by decide)) h9)
                obtain ⟨ka, fa, sa, qa, xa, ya⟩ := hA.2.2.1 a o ga
                have ka : S1.2.2.1 a = o.1 := ka
                have fa : S1.2.2.2.1 a = o.2.1 := fa
                have sa : S1.2.2.2.2.1 a = nI o.2.2.1.length := sa
                have la : o.2.2.1.length ≤ 100 := qa.1
                obtain ⟨kb, fb, sb, qb, xb, yb⟩ := hA.2.2.1 b q gb
                have kb : S1.2.2.1 b = q.1 := kb
                have fb : S1.2.2.2.1 b = q.2.1 := fb
                have sb : S1.2.2.2.2.1 b = nI q.2.2.1.length := sb
                have lb : q.2.2.1.length ≤ 100 := qb.1
                have n3 : ¬ o.1 = 3 := by rw [h23]; decide
                refine lv_aload_n hx hb d_M_join_119 rfl (lv_at hl 1 rfl) ?_
                refine lv_aload_n hx hb d_M_join_120 rfl (lv_at hl 1 rfl) ?_
                refine fx_get hx hb hown (kc_M hK _) hKv 1 (by decide) (hw _ mf_M_7) (fun _ h => h) (hP 0 _ rfl) rfl d_M_join_121 ?_
                refine lv_iload_n hx hb d_M_join_124 rfl (lv_at hl 2 rfl) ?_
                refine fx_iald (j := a) hx hb hKv 0 (hP 1 _ rfl) rfl (rfl) (by omega) (by decide) d_M_join_125 ?_
                refine fx_ti (y := o.1) (ka) ?_
                refine lv_aload_n hx hb d_M_join_126 rfl (lv_at hl 1 rfl) ?_
                refine fx_get hx hb hown (kc_M hK _) hKv 2 (by decide) (hw _ mf_M_13) (fun _ h => h) (hP 0 _ rfl) rfl d_M_join_127 ?_
                refine lv_iload_n hx hb d_M_join_130 rfl (lv_at hl 2 rfl) ?_
                refine fx_iald (j := a) hx hb hKv 0 (hP 2 _ rfl) rfl (rfl) (by omega) (by decide) d_M_join_131 ?_
                refine fx_ti (y := o.2.1) (fa) ?_
                refine m_rCreate hI hA (by omega) (o.1) (o.2.1) hx hfl hK hb (by rw [hml]; exact hl.1) hown (hw _ mm_M_53) ⟨Nat.le_of_ble_eq_true rfl, Nat.le_of_ble_eq_true rfl, Nat.le_of_ble_eq_true rfl, Nat.le_of_ble_eq_true rfl⟩ hP hS d_M_join_132 (fun S2 hB hT1 H locs hP hS => ?_)
                have hT := hT1.trans hT
                refine lv_istore hx hb d_M_join_135 hl (by decide) rfl (fun ls hl => ?_)
                have hl : lv_has ls 8 [(4, .int (nI Vs.length)), (3, .int (nI 1)), (0, .ref (am 0)), (1, .int (nI a)), (2, .int (nI b))] := hl
                obtain ⟨ka, fa, sa, qa, xa, ya⟩ := hB.2.2.1 a o ga
                have ka : S2.2.2.1 a = o.1 := ka
                have fa : S2.2.2.2.1 a = o.2.1 := fa
                have sa : S2.2.2.2.2.1 a = nI o.2.2.1.length := sa
                have la : o.2.2.1.length ≤ 100 := qa.1
                obtain ⟨kb, fb, sb, qb, xb, yb⟩ := hB.2.2.1 b q gb
                have kb : S2.2.2.1 b = q.1 := kb
                have fb : S2.2.2.2.1 b = q.2.1 := fb
                have sb : S2.2.2.2.2.1 b = nI q.2.2.1.length := sb
                have lb : q.2.2.1.length ≤ 100 := qb.1
                refine lv_aload_n hx hb d_M_join_137 rfl (lv_at hl 2 rfl) ?_
                refine fx_get hx hb hown (kc_M hK _) hKv 1 (by decide) (hw _ mf_M_7) (fun _ h => h) (hP 0 _ rfl) rfl d_M_join_138 ?_
                refine lv_iload_n hx hb d_M_join_141 rfl (lv_at hl 3 rfl) ?_
                refine fx_iald (j := a) hx hb hKv 0 (hP 1 _ rfl) rfl (rfl) (by omega) (by decide) d_M_join_142 ?_
                refine lv_iconst (v := nI 4) hx hb d_M_join_143 rfl ?_
                refine lv_icmp_ne (tgt := 174) hx hb d_M_join_144 rfl (fun _ => ?_) (fun h9 => absurd (ka.symm.trans h9) (by rw [h23]; decide))
                refine lv_iconst (v := nI 0) hx hb d_M_join_174 rfl ?_
                refine lv_istore hx hb d_M_join_175 hl (by decide) rfl (fun ls hl => ?_)
                have hl : lv_has ls 8 [(5, .int (nI 0)), (4, .int (nI Vs.length)), (3, .int (nI 1)), (0, .ref (am 0)), (1, .int (nI a)), (2, .int (nI b))] := hl
                refine lv_iconst (v := nI 0) hx hb d_M_join_177 rfl ?_
                refine lv_istore hx hb d_M_join_178 hl (by decide) rfl (fun ls hl => ?_)
                have hl : lv_has ls 8 [(6, .int (nI 0)), (5, .int (nI 0)), (4, .int (nI Vs.length)), (3, .int (nI 1)), (0, .ref (am 0)), (1, .int (nI a)), (2, .int (nI b))] := hl
                refine fx_gen (fun Q0 hQ0 => ?_)
                have loop : ∀ (k i j : Nat), i ≤ o.2.2.1.length → j ≤ q.2.2.1.length → (o.2.2.1.length - i) + (q.2.2.1.length - j) = k → ∀ (S : mS) (out ks : List Int32), mB S Vs o.1 o.2.1 out ks → S.2.1 = nI 0 → out.length = i + j → out ++ sv_mg k (o.2.2.1.drop i) (q.2.2.1.drop j) = sv_mrg o.2.2.1 q.2.2.1 → ∀ (H : Heap) (locs : List Loc) (ls : Array Slot), va_P w.D cls (mw w am S) H → va_S (mA am) s.heap H locs → lv_has ls 8 [(6, .int (nI j)), (5, .int (nI i)), (4, .int (nI Vs.length)), (3, .int (nI 1)), (0, .ref (am 0)), (1, .int (nI a)), (2, .int (nI b))] → W p l e (rmK 3) s m (.ref (am 0) :: [.int (nI a), .int (nI b)] : List Value).toArray below meth c H locs 0 0 Q0 (F0 m 180 ls []) := by
                  intro k
                  induction k with
                  | zero =>
                    intro i j hil hjl hk S out ks hB hT hol hmg H locs ls hP hS hl
                    obtain ⟨ka, fa, sa, qa, xa, ya⟩ := hB.2.2.1 a o ga
                    have ka : S.2.2.1 a = o.1 := ka
                    have fa : S.2.2.2.1 a = o.2.1 := fa
                    have sa : S.2.2.2.2.1 a = nI o.2.2.1.length := sa
                    have la : o.2.2.1.length ≤ 100 := qa.1
                    obtain ⟨kb, fb, sb, qb, xb, yb⟩ := hB.2.2.1 b q gb
                    have kb : S.2.2.1 b = q.1 := kb
                    have fb : S.2.2.2.1 b = q.2.1 := fb
                    have sb : S.2.2.2.2.1 b = nI q.2.2.1.length := sb
                    have lb : q.2.2.1.length ≤ 100 := qb.1
                    have ei : i = o.2.2.1.length := by omega
                    have ej : j = q.2.2.1.length := by omega
                    have hF : mAbs S (Vs ++ [(o.1, o.2.1, sv_mrg o.2.2.1 q.2.2.1, o.2.2.2)]) := by have := mB_done hB o.2.2.2 (fun z => absurd z n3) qa.2.2; rw [← hmg, show sv_mg 0 (o.2.2.1.drop i) (q.2.2.1.drop j) = [] from rfl, List.append_nil]; exact this
                    rw [hQ0]
                    refine lv_iload hx hb d_M_join_180 (lv_at hl 1 rfl) ?_
                    refine lv_aload_n hx hb d_M_join_182 rfl (lv_at hl 4 rfl) ?_
                    refine fx_get hx hb hown (kc_M hK _) hKv 3 (by decide) (hw _ mf_M_16) (fun _ h => h) (hP 0 _ rfl) rfl d_M_join_183 ?_
                    refine lv_iload_n hx hb d_M_join_186 rfl (lv_at hl 5 rfl) ?_
                    refine fx_iald (j := a) hx hb hKv 0 (hP 3 _ rfl) rfl (rfl) (by omega) (by decide) d_M_join_187 ?_
                    refine lv_icmp_lt (tgt := 202) hx hb d_M_join_188 rfl (fun h9 => absurd h9 (by rw [sa, ei]; exact nI_nlt (Nat.le_refl _) (by omega))) (fun _ => ?_)
                    refine lv_iload hx hb d_M_join_191 (lv_at hl 0 rfl) ?_
                    refine lv_aload_n hx hb d_M_join_193 rfl (lv_at hl 4 rfl) ?_
                    refine fx_get hx hb hown (kc_M hK _) hKv 3 (by decide) (hw _ mf_M_16) (fun _ h => h) (hP 0 _ rfl) rfl d_M_join_194 ?_
                    refine lv_iload_n hx hb d_M_join_197 rfl (lv_at hl 6 rfl) ?_
                    refine fx_iald (j := b) hx hb hKv 0 (hP 3 _ rfl) rfl (rfl) (by omega) (by decide) d_M_join_198 ?_
                    refine lv_icmp_ge (tgt := 330) hx hb d_M_join_199 rfl (fun _ => ?_) (fun h9 => absurd (by rw [sb, ej]; exact nI_le (Nat.le_refl _) (by omega)) h9)
                    refine lv_iload hx hb d_M_join_330 (lv_at hl 2 rfl) ?_
                    exact fx_iret hx hb hr hlk hS.2.2 (Nat.le_of_ble_eq_true rfl) (Nat.le_of_ble_eq_true rfl) d_M_join_332 (⟨by rw [(show so_join Vs (nI a) (nI b) = sv_new Vs (o.1, o.2.1, sv_mrg o.2.2.1 q.2.2.1, o.2.2.2) from by unfold so_join; rw [ta, tb]; dsimp only; rw [if_pos ⟨Or.inl h23, h48, h63⟩, if_neg (fun z => z.elim h85 (by omega)), if_neg (by rw [h23]; decide)])]; exact rfl, S, hP, by rw [(show so_join Vs (nI a) (nI b) = sv_new Vs (o.1, o.2.1, sv_mrg o.2.2.1 q.2.2.1, o.2.2.2) from by unfold so_join; rw [ta, tb]; dsimp only; rw [if_pos ⟨Or.inl h23, h48, h63⟩, if_neg (fun z => z.elim h85 (by omega)), if_neg (by rw [h23]; decide)])]; exact hF, by rw [(show so_join Vs (nI a) (nI b) = sv_new Vs (o.1, o.2.1, sv_mrg o.2.2.1 q.2.2.1, o.2.2.2) from by unfold so_join; rw [ta, tb]; dsimp only; rw [if_pos ⟨Or.inl h23, h48, h63⟩, if_neg (fun z => z.elim h85 (by omega)), if_neg (by rw [h23]; decide)])]; exact hT⟩)
                  | succ k ih =>
                    intro i j hil hjl hk S out ks hB hT hol hmg H locs ls hP hS hl
                    obtain ⟨ka, fa, sa, qa, xa, ya⟩ := hB.2.2.1 a o ga
                    have ka : S.2.2.1 a = o.1 := ka
                    have fa : S.2.2.2.1 a = o.2.1 := fa
                    have sa : S.2.2.2.2.1 a = nI o.2.2.1.length := sa
                    have la : o.2.2.1.length ≤ 100 := qa.1
                    obtain ⟨kb, fb, sb, qb, xb, yb⟩ := hB.2.2.1 b q gb
                    have kb : S.2.2.1 b = q.1 := kb
                    have fb : S.2.2.2.1 b = q.2.1 := fb
                    have sb : S.2.2.2.2.1 b = nI q.2.2.1.length := sb
                    have lb : q.2.2.1.length ≤ 100 := qb.1
                    refine lv_iload hx hb d_M_join_180 (lv_at hl 1 rfl) ?_
                    refine lv_aload_n hx hb d_M_join_182 rfl (lv_at hl 4 rfl) ?_
                    refine fx_get hx hb hown (kc_M hK _) hKv 3 (by decide) (hw _ mf_M_16) (fun _ h => h) (hP 0 _ rfl) rfl d_M_join_183 ?_
                    refine lv_iload_n hx hb d_M_join_186 rfl (lv_at hl 5 rfl) ?_
                    refine fx_iald (j := a) hx hb hKv 0 (hP 3 _ rfl) rfl (rfl) (by omega) (by decide) d_M_join_187 ?_
                    refine lv_icmp_lt (tgt := 202) hx hb d_M_join_188 rfl (fun h188 => ?_) (fun h188 => ?_)
                    · have hi : i < o.2.2.1.length := by rw [sa] at h188; exact (nI_ltI (by omega) (by omega)).mp h188
                      refine lv_iload hx hb d_M_join_202 (lv_at hl 0 rfl) ?_
                      refine lv_aload_n hx hb d_M_join_204 rfl (lv_at hl 4 rfl) ?_
                      refine fx_get hx hb hown (kc_M hK _) hKv 3 (by decide) (hw _ mf_M_16) (fun _ h => h) (hP 0 _ rfl) rfl d_M_join_205 ?_
                      refine lv_iload_n hx hb d_M_join_208 rfl (lv_at hl 6 rfl) ?_
                      refine fx_iald (j := b) hx hb hKv 0 (hP 3 _ rfl) rfl (rfl) (by omega) (by decide) d_M_join_209 ?_
                      refine lv_icmp_eq (tgt := 251) hx hb d_M_join_210 rfl (fun h210 => ?_) (fun h210 => ?_)
                      · have hj : j = q.2.2.1.length := by rw [sb] at h210; exact (nI_eq (by omega) (by omega)).mp h210
                        refine lv_iconst (v := nI 1) hx hb d_M_join_251 rfl ?_
                        refine lv_goto (tgt := 256) hx hb d_M_join_252 rfl ?_
                        refine lv_istore hx hb d_M_join_256 hl (by decide) rfl (fun ls hl => ?_)
                        have hl : lv_has ls 8 [(7, .int (nI 1)), (6, .int (nI j)), (5, .int (nI i)), (4, .int (nI Vs.length)), (3, .int (nI 1)), (0, .ref (am 0)), (1, .int (nI a)), (2, .int (nI b))] := hl
                        refine lv_aload_n hx hb d_M_join_258 rfl (lv_at hl 5 rfl) ?_
                        refine lv_iconst (v := nI 0) hx hb d_M_join_259 rfl ?_
                        refine lv_iload hx hb d_M_join_260 (lv_at hl 0 rfl) ?_
                        refine lv_if_eq (tgt := 280) hx hb d_M_join_262 rfl (fun h9 => absurd h9 (by decide)) (fun _ => ?_)
                        refine lv_aload_n hx hb d_M_join_265 rfl (lv_at hl 5 rfl) ?_
                        refine fx_get hx hb hown (kc_M hK _) hKv 4 (by decide) (hw _ mf_M_19) (fun _ h => h) (hP 0 _ rfl) rfl d_M_join_266 ?_
                        refine lv_bipush (v := nI 100) hx hb d_M_join_269 rfl ?_
                        refine lv_iload_n hx hb d_M_join_271 rfl (lv_at hl 6 rfl) ?_
                        refine lv_imul hx hb d_M_join_272 ?_
                        refine fx_ti (y := nI (100 * a)) (pk_mul 100 a) ?_
                        refine lv_iload hx hb d_M_join_273 (lv_at hl 2 rfl) ?_
                        refine lv_iadd hx hb d_M_join_275 ?_
                        refine fx_ti (y := nI (100 * a + i)) (nI_add _ _) ?_
                        refine fx_iald (j := 100 * a + i) hx hb hKv 0 (hP 4 _ rfl) rfl (rfl) (by omega) (by decide) d_M_join_276 ?_
                        refine fx_ti (y := o.2.2.1.getD i 0) (xa i (by omega)) ?_
                        refine lv_goto (tgt := 292) hx hb d_M_join_277 rfl ?_
                        refine m_rPut hI hB (by omega) (nI 0) (o.2.2.1.getD i 0) hx hfl hK hb (by rw [hml]; exact hl.1) hown (hw _ mm_M_42) ⟨Nat.le_of_ble_eq_true rfl, Nat.le_of_ble_eq_true rfl, Nat.le_of_ble_eq_true rfl, Nat.le_of_ble_eq_true rfl⟩ hP hS d_M_join_292 (fun S51 hB hT1 H locs hP hS => ?_)
                        have hT := hT1.trans hT
                        refine lv_iload hx hb d_M_join_295 (lv_at hl 0 rfl) ?_
                        refine lv_if_eq (tgt := 307) hx hb d_M_join_297 rfl (fun h9 => absurd h9 (by decide)) (fun _ => ?_)
                        refine lv_iload hx hb d_M_join_300 (lv_at hl 2 rfl) ?_
                        refine lv_iconst (v := nI 1) hx hb d_M_join_302 rfl ?_
                        refine lv_iadd hx hb d_M_join_303 ?_
                        refine fx_ti (y := nI (i + 1)) (nI_1 i) ?_
                        refine lv_goto (tgt := 309) hx hb d_M_join_304 rfl ?_
                        refine lv_istore hx hb d_M_join_309 hl (by decide) rfl (fun ls hl => ?_)
                        have hl : lv_has ls 8 [(5, .int (nI (i + 1))), (7, .int (nI 1)), (6, .int (nI j)), (4, .int (nI Vs.length)), (3, .int (nI 1)), (0, .ref (am 0)), (1, .int (nI a)), (2, .int (nI b))] := hl
                        refine lv_iload hx hb d_M_join_311 (lv_at hl 1 rfl) ?_
                        refine lv_if_eq (tgt := 321) hx hb d_M_join_313 rfl (fun h9 => absurd h9 (by decide)) (fun _ => ?_)
                        refine lv_iload hx hb d_M_join_316 (lv_at hl 2 rfl) ?_
                        refine lv_goto (tgt := 325) hx hb d_M_join_318 rfl ?_
                        refine lv_istore hx hb d_M_join_325 hl (by decide) rfl (fun ls hl => ?_)
                        have hl : lv_has ls 8 [(6, .int (nI j)), (5, .int (nI (i + 1))), (7, .int (nI 1)), (4, .int (nI Vs.length)), (3, .int (nI 1)), (0, .ref (am 0)), (1, .int (nI a)), (2, .int (nI b))] := hl
                        refine lv_goto (tgt := 180) hx hb d_M_join_327 rfl ?_
                        exact ih (i + 1) j (by omega) hjl (by omega) S51 _ _ hB hT (by rw [List.length_append, hol]; show i + j + 1 = _; omega) (mg_l (by omega) (Or.inl hj) hmg) H locs ls hP hS (lv_sub hl [0, 1, 3, 4, 5, 6, 7] rfl)
                      · have hj : j < q.2.2.1.length := by rw [sb] at h210; exact Nat.lt_of_le_of_ne hjl (fun z => h210 (by rw [z]))
                        refine lv_iload hx hb d_M_join_213 (lv_at hl 1 rfl) ?_
                        refine lv_aload_n hx hb d_M_join_215 rfl (lv_at hl 4 rfl) ?_
                        refine fx_get hx hb hown (kc_M hK _) hKv 3 (by decide) (hw _ mf_M_16) (fun _ h => h) (hP 0 _ rfl) rfl d_M_join_216 ?_
                        refine lv_iload_n hx hb d_M_join_219 rfl (lv_at hl 5 rfl) ?_
                        refine fx_iald (j := a) hx hb hKv 0 (hP 3 _ rfl) rfl (rfl) (by omega) (by decide) d_M_join_220 ?_
                        refine lv_icmp_ge (tgt := 255) hx hb d_M_join_221 rfl (fun h221 => ?_) (fun h221 => ?_)
                        · have hi2 : o.2.2.1.length ≤ i := by rw [sa] at h221; exact (nI_leI (by omega) (by omega)).mp h221
                          exact absurd hi (by omega)
                        · have hi2 : i < o.2.2.1.length := by rw [sa] at h221; exact Nat.not_le.mp (fun z => h221 (nI_le z (by omega)))
                          refine lv_aload_n hx hb d_M_join_224 rfl (lv_at hl 4 rfl) ?_
                          refine fx_get hx hb hown (kc_M hK _) hKv 4 (by decide) (hw _ mf_M_19) (fun _ h => h) (hP 0 _ rfl) rfl d_M_join_225 ?_
                          refine lv_bipush (v := nI 100) hx hb d_M_join_228 rfl ?_
                          refine lv_iload_n hx hb d_M_join_230 rfl (lv_at hl 5 rfl) ?_
                          refine lv_imul hx hb d_M_join_231 ?_
                          refine fx_ti (y := nI (100 * a)) (pk_mul 100 a) ?_
                          refine lv_iload hx hb d_M_join_232 (lv_at hl 1 rfl) ?_
                          refine lv_iadd hx hb d_M_join_234 ?_
                          refine fx_ti (y := nI (100 * a + i)) (nI_add _ _) ?_
                          refine fx_iald (j := 100 * a + i) hx hb hKv 0 (hP 4 _ rfl) rfl (rfl) (by omega) (by decide) d_M_join_235 ?_
                          refine lv_aload_n hx hb d_M_join_236 rfl (lv_at hl 4 rfl) ?_
                          refine fx_get hx hb hown (kc_M hK _) hKv 4 (by decide) (hw _ mf_M_19) (fun _ h => h) (hP 0 _ rfl) rfl d_M_join_237 ?_
                          refine lv_bipush (v := nI 100) hx hb d_M_join_240 rfl ?_
                          refine lv_iload_n hx hb d_M_join_242 rfl (lv_at hl 6 rfl) ?_
                          refine lv_imul hx hb d_M_join_243 ?_
                          refine fx_ti (y := nI (100 * b)) (pk_mul 100 b) ?_
                          refine lv_iload hx hb d_M_join_244 (lv_at hl 0 rfl) ?_
                          refine lv_iadd hx hb d_M_join_246 ?_
                          refine fx_ti (y := nI (100 * b + j)) (nI_add _ _) ?_
                          refine fx_iald (j := 100 * b + j) hx hb hKv 0 (hP 4 _ rfl) rfl (rfl) (by omega) (by decide) d_M_join_247 ?_
                          refine lv_icmp_gt (tgt := 255) hx hb d_M_join_248 rfl (fun h248 => ?_) (fun h248 => ?_)
                          · have h248 : ¬ o.2.2.1.getD i 0 ≤ q.2.2.1.getD j 0 := by rw [xa i hi, xb j hj] at h248; exact Int32.not_le.mpr h248
                            refine lv_iconst (v := nI 0) hx hb d_M_join_255 rfl ?_
                            refine lv_istore hx hb d_M_join_256 hl (by decide) rfl (fun ls hl => ?_)
                            have hl : lv_has ls 8 [(7, .int (nI 0)), (6, .int (nI j)), (5, .int (nI i)), (4, .int (nI Vs.length)), (3, .int (nI 1)), (0, .ref (am 0)), (1, .int (nI a)), (2, .int (nI b))] := hl
                            refine lv_aload_n hx hb d_M_join_258 rfl (lv_at hl 5 rfl) ?_
                            refine lv_iconst (v := nI 0) hx hb d_M_join_259 rfl ?_
                            refine lv_iload hx hb d_M_join_260 (lv_at hl 0 rfl) ?_
                            refine lv_if_eq (tgt := 280) hx hb d_M_join_262 rfl (fun _ => ?_) (fun h9 => absurd rfl h9)
                            refine lv_aload_n hx hb d_M_join_280 rfl (lv_at hl 5 rfl) ?_
                            refine fx_get hx hb hown (kc_M hK _) hKv 4 (by decide) (hw _ mf_M_19) (fun _ h => h) (hP 0 _ rfl) rfl d_M_join_281 ?_
                            refine lv_bipush (v := nI 100) hx hb d_M_join_284 rfl ?_
                            refine lv_iload_n hx hb d_M_join_286 rfl (lv_at hl 7 rfl) ?_
                            refine lv_imul hx hb d_M_join_287 ?_
                            refine fx_ti (y := nI (100 * b)) (pk_mul 100 b) ?_
                            refine lv_iload hx hb d_M_join_288 (lv_at hl 1 rfl) ?_
                            refine lv_iadd hx hb d_M_join_290 ?_
                            refine fx_ti (y := nI (100 * b + j)) (nI_add _ _) ?_
                            refine fx_iald (j := 100 * b + j) hx hb hKv 0 (hP 4 _ rfl) rfl (rfl) (by omega) (by decide) d_M_join_291 ?_
                            refine fx_ti (y := q.2.2.1.getD j 0) (xb j (by omega)) ?_
                            refine m_rPut hI hB (by omega) (nI 0) (q.2.2.1.getD j 0) hx hfl hK hb (by rw [hml]; exact hl.1) hown (hw _ mm_M_42) ⟨Nat.le_of_ble_eq_true rfl, Nat.le_of_ble_eq_true rfl, Nat.le_of_ble_eq_true rfl, Nat.le_of_ble_eq_true rfl⟩ hP hS d_M_join_292 (fun S51 hB hT1 H locs hP hS => ?_)
                            have hT := hT1.trans hT
                            refine lv_iload hx hb d_M_join_295 (lv_at hl 0 rfl) ?_
                            refine lv_if_eq (tgt := 307) hx hb d_M_join_297 rfl (fun _ => ?_) (fun h9 => absurd rfl h9)
                            refine lv_iload hx hb d_M_join_307 (lv_at hl 2 rfl) ?_
                            refine lv_istore hx hb d_M_join_309 hl (by decide) rfl (fun ls hl => ?_)
                            have hl : lv_has ls 8 [(5, .int (nI i)), (7, .int (nI 0)), (6, .int (nI j)), (4, .int (nI Vs.length)), (3, .int (nI 1)), (0, .ref (am 0)), (1, .int (nI a)), (2, .int (nI b))] := hl
                            refine lv_iload hx hb d_M_join_311 (lv_at hl 1 rfl) ?_
                            refine lv_if_eq (tgt := 321) hx hb d_M_join_313 rfl (fun _ => ?_) (fun h9 => absurd rfl h9)
                            refine lv_iload hx hb d_M_join_321 (lv_at hl 2 rfl) ?_
                            refine lv_iconst (v := nI 1) hx hb d_M_join_323 rfl ?_
                            refine lv_iadd hx hb d_M_join_324 ?_
                            refine fx_ti (y := nI (j + 1)) (nI_1 j) ?_
                            refine lv_istore hx hb d_M_join_325 hl (by decide) rfl (fun ls hl => ?_)
                            have hl : lv_has ls 8 [(6, .int (nI (j + 1))), (5, .int (nI i)), (7, .int (nI 0)), (4, .int (nI Vs.length)), (3, .int (nI 1)), (0, .ref (am 0)), (1, .int (nI a)), (2, .int (nI b))] := hl
                            refine lv_goto (tgt := 180) hx hb d_M_join_327 rfl ?_
                            exact ih i (j + 1) hil (by omega) (by omega) S51 _ _ hB hT (by rw [List.length_append, hol]; show i + j + 1 = _; omega) (mg_r (by omega) (Or.inr h248) hmg) H locs ls hP hS (lv_sub hl [0, 1, 3, 4, 5, 6, 7] rfl)
                          · have h248 : o.2.2.1.getD i 0 ≤ q.2.2.1.getD j 0 := by rw [xa i hi, xb j hj] at h248; exact Int32.not_lt.mp h248
                            refine lv_iconst (v := nI 1) hx hb d_M_join_251 rfl ?_
                            refine lv_goto (tgt := 256) hx hb d_M_join_252 rfl ?_
                            refine lv_istore hx hb d_M_join_256 hl (by decide) rfl (fun ls hl => ?_)
                            have hl : lv_has ls 8 [(7, .int (nI 1)), (6, .int (nI j)), (5, .int (nI i)), (4, .int (nI Vs.length)), (3, .int (nI 1)), (0, .ref (am 0)), (1, .int (nI a)), (2, .int (nI b))] := hl
                            refine lv_aload_n hx hb d_M_join_258 rfl (lv_at hl 5 rfl) ?_
                            refine lv_iconst (v := nI 0) hx hb d_M_join_259 rfl ?_
                            refine lv_iload hx hb d_M_join_260 (lv_at hl 0 rfl) ?_
                            refine lv_if_eq (tgt := 280) hx hb d_M_join_262 rfl (fun h9 => absurd h9 (by decide)) (fun _ => ?_)
                            refine lv_aload_n hx hb d_M_join_265 rfl (lv_at hl 5 rfl) ?_
                            refine fx_get hx hb hown (kc_M hK _) hKv 4 (by decide) (hw _ mf_M_19) (fun _ h => h) (hP 0 _ rfl) rfl d_M_join_266 ?_
                            refine lv_bipush (v := nI 100) hx hb d_M_join_269 rfl ?_
                            refine lv_iload_n hx hb d_M_join_271 rfl (lv_at hl 6 rfl) ?_
                            refine lv_imul hx hb d_M_join_272 ?_
                            refine fx_ti (y := nI (100 * a)) (pk_mul 100 a) ?_
                            refine lv_iload hx hb d_M_join_273 (lv_at hl 2 rfl) ?_
                            refine lv_iadd hx hb d_M_join_275 ?_
                            refine fx_ti (y := nI (100 * a + i)) (nI_add _ _) ?_
                            refine fx_iald (j := 100 * a + i) hx hb hKv 0 (hP 4 _ rfl) rfl (rfl) (by omega) (by decide) d_M_join_276 ?_
                            refine fx_ti (y := o.2.2.1.getD i 0) (xa i (by omega)) ?_
                            refine lv_goto (tgt := 292) hx hb d_M_join_277 rfl ?_
                            refine m_rPut hI hB (by omega) (nI 0) (o.2.2.1.getD i 0) hx hfl hK hb (by rw [hml]; exact hl.1) hown (hw _ mm_M_42) ⟨Nat.le_of_ble_eq_true rfl, Nat.le_of_ble_eq_true rfl, Nat.le_of_ble_eq_true rfl, Nat.le_of_ble_eq_true rfl⟩ hP hS d_M_join_292 (fun S51 hB hT1 H locs hP hS => ?_)
                            have hT := hT1.trans hT
                            refine lv_iload hx hb d_M_join_295 (lv_at hl 0 rfl) ?_
                            refine lv_if_eq (tgt := 307) hx hb d_M_join_297 rfl (fun h9 => absurd h9 (by decide)) (fun _ => ?_)
                            refine lv_iload hx hb d_M_join_300 (lv_at hl 2 rfl) ?_
                            refine lv_iconst (v := nI 1) hx hb d_M_join_302 rfl ?_
                            refine lv_iadd hx hb d_M_join_303 ?_
                            refine fx_ti (y := nI (i + 1)) (nI_1 i) ?_
                            refine lv_goto (tgt := 309) hx hb d_M_join_304 rfl ?_
                            refine lv_istore hx hb d_M_join_309 hl (by decide) rfl (fun ls hl => ?_)
                            have hl : lv_has ls 8 [(5, .int (nI (i + 1))), (7, .int (nI 1)), (6, .int (nI j)), (4, .int (nI Vs.length)), (3, .int (nI 1)), (0, .ref (am 0)), (1, .int (nI a)), (2, .int (nI b))] := hl
                            refine lv_iload hx hb d_M_join_311 (lv_at hl 1 rfl) ?_
                            refine lv_if_eq (tgt := 321) hx hb d_M_join_313 rfl (fun h9 => absurd h9 (by decide)) (fun _ => ?_)
                            refine lv_iload hx hb d_M_join_316 (lv_at hl 2 rfl) ?_
                            refine lv_goto (tgt := 325) hx hb d_M_join_318 rfl ?_
                            refine lv_istore hx hb d_M_join_325 hl (by decide) rfl (fun ls hl => ?_)
                            have hl : lv_has ls 8 [(6, .int (nI j)), (5, .int (nI (i + 1))), (7, .int (nI 1)), (4, .int (nI Vs.length)), (3, .int (nI 1)), (0, .ref (am 0)), (1, .int (nI a)), (2, .int (nI b))] := hl
                            refine lv_goto (tgt := 180) hx hb d_M_join_327 rfl ?_
                            exact ih (i + 1) j (by omega) hjl (by omega) S51 _ _ hB hT (by rw [List.length_append, hol]; show i + j + 1 = _; omega) (mg_l (by omega) (Or.inr h248) hmg) H locs ls hP hS (lv_sub hl [0, 1, 3, 4, 5, 6, 7] rfl)
                    · have hi : i = o.2.2.1.length := by rw [sa] at h188; exact Nat.le_antisymm hil (Nat.not_lt.mp (fun z => h188 (nI_lt z (by omega))))
                      refine lv_iload hx hb d_M_join_191 (lv_at hl 0 rfl) ?_
                      refine lv_aload_n hx hb d_M_join_193 rfl (lv_at hl 4 rfl) ?_
                      refine fx_get hx hb hown (kc_M hK _) hKv 3 (by decide) (hw _ mf_M_16) (fun _ h => h) (hP 0 _ rfl) rfl d_M_join_194 ?_
                      refine lv_iload_n hx hb d_M_join_197 rfl (lv_at hl 6 rfl) ?_
                      refine fx_iald (j := b) hx hb hKv 0 (hP 3 _ rfl) rfl (rfl) (by omega) (by decide) d_M_join_198 ?_
                      refine lv_icmp_ge (tgt := 330) hx hb d_M_join_199 rfl (fun h199 => ?_) (fun h199 => ?_)
                      · rw [sb] at h199
                        have h199 := (nI_leI (by omega) (by omega)).mp h199
                        exact absurd hk (by omega)
                      · have hj0 : j < q.2.2.1.length := by rw [sb] at h199; exact Nat.not_le.mp (fun z => h199 (nI_le z (by omega)))
                        refine lv_iload hx hb d_M_join_202 (lv_at hl 0 rfl) ?_
                        refine lv_aload_n hx hb d_M_join_204 rfl (lv_at hl 4 rfl) ?_
                        refine fx_get hx hb hown (kc_M hK _) hKv 3 (by decide) (hw _ mf_M_16) (fun _ h => h) (hP 0 _ rfl) rfl d_M_join_205 ?_
                        refine lv_iload_n hx hb d_M_join_208 rfl (lv_at hl 6 rfl) ?_
                        refine fx_iald (j := b) hx hb hKv 0 (hP 3 _ rfl) rfl (rfl) (by omega) (by decide) d_M_join_209 ?_
                        refine lv_icmp_eq (tgt := 251) hx hb d_M_join_210 rfl (fun h210 => ?_) (fun h210 => ?_)
                        · have hj : j = q.2.2.1.length := by rw [sb] at h210; exact (nI_eq (by omega) (by omega)).mp h210
                          exact absurd hk (by omega)
                        · have hj : j < q.2.2.1.length := by rw [sb] at h210; exact Nat.lt_of_le_of_ne hjl (fun z => h210 (by rw [z]))
                          refine lv_iload hx hb d_M_join_213 (lv_at hl 1 rfl) ?_
                          refine lv_aload_n hx hb d_M_join_215 rfl (lv_at hl 4 rfl) ?_
                          refine fx_get hx hb hown (kc_M hK _) hKv 3 (by decide) (hw _ mf_M_16) (fun _ h => h) (hP 0 _ rfl) rfl d_M_join_216 ?_
                          refine lv_iload_n hx hb d_M_join_219 rfl (lv_at hl 5 rfl) ?_
                          refine fx_iald (j := a) hx hb hKv 0 (hP 3 _ rfl) rfl (rfl) (by omega) (by decide) d_M_join_220 ?_
                          refine lv_icmp_ge (tgt := 255) hx hb d_M_join_221 rfl (fun h221 => ?_) (fun h221 => ?_)
                          · have hi2 : o.2.2.1.length ≤ i := by rw [sa] at h221; exact (nI_leI (by omega) (by omega)).mp h221
                            refine lv_iconst (v := nI 0) hx hb d_M_join_255 rfl ?_
                            refine lv_istore hx hb d_M_join_256 hl (by decide) rfl (fun ls hl => ?_)
                            have hl : lv_has ls 8 [(7, .int (nI 0)), (6, .int (nI j)), (5, .int (nI i)), (4, .int (nI Vs.length)), (3, .int (nI 1)), (0, .ref (am 0)), (1, .int (nI a)), (2, .int (nI b))] := hl
                            refine lv_aload_n hx hb d_M_join_258 rfl (lv_at hl 5 rfl) ?_
                            refine lv_iconst (v := nI 0) hx hb d_M_join_259 rfl ?_
                            refine lv_iload hx hb d_M_join_260 (lv_at hl 0 rfl) ?_
                            refine lv_if_eq (tgt := 280) hx hb d_M_join_262 rfl (fun _ => ?_) (fun h9 => absurd rfl h9)
                            refine lv_aload_n hx hb d_M_join_280 rfl (lv_at hl 5 rfl) ?_
                            refine fx_get hx hb hown (kc_M hK _) hKv 4 (by decide) (hw _ mf_M_19) (fun _ h => h) (hP 0 _ rfl) rfl d_M_join_281 ?_
                            refine lv_bipush (v := nI 100) hx hb d_M_join_284 rfl ?_
                            refine lv_iload_n hx hb d_M_join_286 rfl (lv_at hl 7 rfl) ?_
                            refine lv_imul hx hb d_M_join_287 ?_
                            refine fx_ti (y := nI (100 * b)) (pk_mul 100 b) ?_
                            refine lv_iload hx hb d_M_join_288 (lv_at hl 1 rfl) ?_
                            refine lv_iadd hx hb d_M_join_290 ?_
                            refine fx_ti (y := nI (100 * b + j)) (nI_add _ _) ?_
                            refine fx_iald (j := 100 * b + j) hx hb hKv 0 (hP 4 _ rfl) rfl (rfl) (by omega) (by decide) d_M_join_291 ?_
                            refine fx_ti (y := q.2.2.1.getD j 0) (xb j (by omega)) ?_
                            refine m_rPut hI hB (by omega) (nI 0) (q.2.2.1.getD j 0) hx hfl hK hb (by rw [hml]; exact hl.1) hown (hw _ mm_M_42) ⟨Nat.le_of_ble_eq_true rfl, Nat.le_of_ble_eq_true rfl, Nat.le_of_ble_eq_true rfl, Nat.le_of_ble_eq_true rfl⟩ hP hS d_M_join_292 (fun S51 hB hT1 H locs hP hS => ?_)
                            have hT := hT1.trans hT
                            refine lv_iload hx hb d_M_join_295 (lv_at hl 0 rfl) ?_
                            refine lv_if_eq (tgt := 307) hx hb d_M_join_297 rfl (fun _ => ?_) (fun h9 => absurd rfl h9)
                            refine lv_iload hx hb d_M_join_307 (lv_at hl 2 rfl) ?_
                            refine lv_istore hx hb d_M_join_309 hl (by decide) rfl (fun ls hl => ?_)
                            have hl : lv_has ls 8 [(5, .int (nI i)), (7, .int (nI 0)), (6, .int (nI j)), (4, .int (nI Vs.length)), (3, .int (nI 1)), (0, .ref (am 0)), (1, .int (nI a)), (2, .int (nI b))] := hl
                            refine lv_iload hx hb d_M_join_311 (lv_at hl 1 rfl) ?_
                            refine lv_if_eq (tgt := 321) hx hb d_M_join_313 rfl (fun _ => ?_) (fun h9 => absurd rfl h9)
                            refine lv_iload hx hb d_M_join_321 (lv_at hl 2 rfl) ?_
                            refine lv_iconst (v := nI 1) hx hb d_M_join_323 rfl ?_
                            refine lv_iadd hx hb d_M_join_324 ?_
                            refine fx_ti (y := nI (j + 1)) (nI_1 j) ?_
                            refine lv_istore hx hb d_M_join_325 hl (by decide) rfl (fun ls hl => ?_)
                            have hl : lv_has ls 8 [(6, .int (nI (j + 1))), (5, .int (nI i)), (7, .int (nI 0)), (4, .int (nI Vs.length)), (3, .int (nI 1)), (0, .ref (am 0)), (1, .int (nI a)), (2, .int (nI b))] := hl
                            refine lv_goto (tgt := 180) hx hb d_M_join_327 rfl ?_
                            exact ih i (j + 1) hil (by omega) (by omega) S51 _ _ hB hT (by rw [List.length_append, hol]; show i + j + 1 = _; omega) (mg_r (by omega) (Or.inl hi) hmg) H locs ls hP hS (lv_sub hl [0, 1, 3, 4, 5, 6, 7] rfl)
                          · have hi2 : i < o.2.2.1.length := by rw [sa] at h221; exact Nat.not_le.mp (fun z => h221 (nI_le z (by omega)))
                            exact absurd hi (by omega)
                exact loop (o.2.2.1.length + q.2.2.1.length) 0 0 (Nat.zero_le _) (Nat.zero_le _) rfl S2 _ _ hB hT rfl rfl _ _ ls hP hS hl
              · have h103 : 100 < o.2.2.1.length + q.2.2.1.length := Nat.not_le.mp (fun z => h103 (nI_le z (by decide)))
                refine lv_iconst (v := nI 2) hx hb d_M_join_106 rfl ?_
                refine lv_goto (tgt := 111) hx hb d_M_join_107 rfl ?_
                refine m_rThr hI hA (nI 2) hx hfl hK hb (by rw [hml]; exact hl.1) hown (hw _ mm_M_50) ⟨Nat.le_of_ble_eq_true rfl, Nat.le_of_ble_eq_true rfl, Nat.le_of_ble_eq_true rfl, Nat.le_of_ble_eq_true rfl⟩ hP hS d_M_join_111 (fun S1 hA hT H locs hP hS => ?_)
                have hn : S1.1 = nI Vs.length := hA.1
                refine lv_if_eq (tgt := 119) hx hb d_M_join_114 rfl (fun h9 => absurd h9 (by rw [zI_t (by decide)]; decide)) (fun _ => ?_)
                refine lv_iconst (v := nI 0) hx hb d_M_join_117 rfl ?_
                exact fx_iret hx hb hr hlk hS.2.2 (Nat.le_of_ble_eq_true rfl) (Nat.le_of_ble_eq_true rfl) d_M_join_118 (⟨by rw [(show so_join Vs (nI a) (nI b) = (2, 0, Vs) from by unfold so_join; rw [ta, tb]; dsimp only; rw [if_pos ⟨Or.inl h23, h48, h63⟩, if_pos (Or.inr h103)])]; exact rfl, S1, hP, by rw [(show so_join Vs (nI a) (nI b) = (2, 0, Vs) from by unfold so_join; rw [ta, tb]; dsimp only; rw [if_pos ⟨Or.inl h23, h48, h63⟩, if_pos (Or.inr h103)])]; exact hA, by rw [(show so_join Vs (nI a) (nI b) = (2, 0, Vs) from by unfold so_join; rw [ta, tb]; dsimp only; rw [if_pos ⟨Or.inl h23, h48, h63⟩, if_pos (Or.inr h103)])]; exact hT⟩)
      · have h23 : ¬ o.1 = 1 := by rw [ka] at h23; exact h23
        refine lv_aload_n hx hb d_M_join_26 rfl (lv_at hl 0 rfl) ?_
        refine fx_get hx hb hown (kc_M hK _) hKv 1 (by decide) (hw _ mf_M_7) (fun _ h => h) (hP 0 _ rfl) rfl d_M_join_27 ?_
        refine lv_iload_n hx hb d_M_join_30 rfl (lv_at hl 1 rfl) ?_
        refine fx_iald (j := a) hx hb hKv 0 (hP 1 _ rfl) rfl (rfl) (by omega) (by decide) d_M_join_31 ?_
        refine lv_iconst (v := nI 4) hx hb d_M_join_32 rfl ?_
        refine lv_icmp_ne (tgt := 70) hx hb d_M_join_33 rfl (fun h33 => ?_) (fun h33 => ?_)
        · have h33 : ¬ o.1 = 4 := by rw [ka] at h33; exact h33
          refine lv_iconst (v := nI 0) hx hb d_M_join_70 rfl ?_
          refine lv_istore_n hx hb d_M_join_71 rfl hl (by decide) rfl (fun ls hl => ?_)
          have hl : lv_has ls 8 [(3, .int (nI 0)), (0, .ref (am 0)), (1, .int (nI a)), (2, .int (nI b))] := hl
          refine lv_aload_n hx hb d_M_join_72 rfl (lv_at hl 1 rfl) ?_
          refine lv_iload_n hx hb d_M_join_73 rfl (lv_at hl 0 rfl) ?_
          refine lv_if_ne (tgt := 81) hx hb d_M_join_74 rfl (fun h9 => absurd rfl h9) (fun _ => ?_)
          refine lv_iconst (v := nI 1) hx hb d_M_join_77 rfl ?_
          refine lv_goto (tgt := 111) hx hb d_M_join_78 rfl ?_
          refine m_rThr hI hA (nI 1) hx hfl hK hb (by rw [hml]; exact hl.1) hown (hw _ mm_M_50) ⟨Nat.le_of_ble_eq_true rfl, Nat.le_of_ble_eq_true rfl, Nat.le_of_ble_eq_true rfl, Nat.le_of_ble_eq_true rfl⟩ hP hS d_M_join_111 (fun S1 hA hT H locs hP hS => ?_)
          have hn : S1.1 = nI Vs.length := hA.1
          refine lv_if_eq (tgt := 119) hx hb d_M_join_114 rfl (fun h9 => absurd h9 (by rw [zI_t (by decide)]; decide)) (fun _ => ?_)
          refine lv_iconst (v := nI 0) hx hb d_M_join_117 rfl ?_
          exact fx_iret hx hb hr hlk hS.2.2 (Nat.le_of_ble_eq_true rfl) (Nat.le_of_ble_eq_true rfl) d_M_join_118 (⟨by rw [(show so_join Vs (nI a) (nI b) = (1, 0, Vs) from by unfold so_join; rw [ta, tb]; dsimp only; rw [if_neg (fun z => z.1.elim h23 h33)])]; exact rfl, S1, hP, by rw [(show so_join Vs (nI a) (nI b) = (1, 0, Vs) from by unfold so_join; rw [ta, tb]; dsimp only; rw [if_neg (fun z => z.1.elim h23 h33)])]; exact hA, by rw [(show so_join Vs (nI a) (nI b) = (1, 0, Vs) from by unfold so_join; rw [ta, tb]; dsimp only; rw [if_neg (fun z => z.1.elim h23 h33)])]; exact hT⟩)
        · have h33 : o.1 = 4 := by rw [ka] at h33; exact h33
          refine lv_aload_n hx hb d_M_join_36 rfl (lv_at hl 0 rfl) ?_
          refine fx_get hx hb hown (kc_M hK _) hKv 1 (by decide) (hw _ mf_M_7) (fun _ h => h) (hP 0 _ rfl) rfl d_M_join_37 ?_
          refine lv_iload_n hx hb d_M_join_40 rfl (lv_at hl 1 rfl) ?_
          refine fx_iald (j := a) hx hb hKv 0 (hP 1 _ rfl) rfl (rfl) (by omega) (by decide) d_M_join_41 ?_
          refine lv_aload_n hx hb d_M_join_42 rfl (lv_at hl 0 rfl) ?_
          refine fx_get hx hb hown (kc_M hK _) hKv 1 (by decide) (hw _ mf_M_7) (fun _ h => h) (hP 0 _ rfl) rfl d_M_join_43 ?_
          refine lv_iload_n hx hb d_M_join_46 rfl (lv_at hl 2 rfl) ?_
          refine fx_iald (j := b) hx hb hKv 0 (hP 1 _ rfl) rfl (rfl) (by omega) (by decide) d_M_join_47 ?_
          refine lv_icmp_ne (tgt := 70) hx hb d_M_join_48 rfl (fun h48 => ?_) (fun h48 => ?_)
          · have h48 : ¬ o.1 = q.1 := by rw [ka, kb] at h48; exact h48
            refine lv_iconst (v := nI 0) hx hb d_M_join_70 rfl ?_
            refine lv_istore_n hx hb d_M_join_71 rfl hl (by decide) rfl (fun ls hl => ?_)
            have hl : lv_has ls 8 [(3, .int (nI 0)), (0, .ref (am 0)), (1, .int (nI a)), (2, .int (nI b))] := hl
            refine lv_aload_n hx hb d_M_join_72 rfl (lv_at hl 1 rfl) ?_
            refine lv_iload_n hx hb d_M_join_73 rfl (lv_at hl 0 rfl) ?_
            refine lv_if_ne (tgt := 81) hx hb d_M_join_74 rfl (fun h9 => absurd rfl h9) (fun _ => ?_)
            refine lv_iconst (v := nI 1) hx hb d_M_join_77 rfl ?_
            refine lv_goto (tgt := 111) hx hb d_M_join_78 rfl ?_
            refine m_rThr hI hA (nI 1) hx hfl hK hb (by rw [hml]; exact hl.1) hown (hw _ mm_M_50) ⟨Nat.le_of_ble_eq_true rfl, Nat.le_of_ble_eq_true rfl, Nat.le_of_ble_eq_true rfl, Nat.le_of_ble_eq_true rfl⟩ hP hS d_M_join_111 (fun S1 hA hT H locs hP hS => ?_)
            have hn : S1.1 = nI Vs.length := hA.1
            refine lv_if_eq (tgt := 119) hx hb d_M_join_114 rfl (fun h9 => absurd h9 (by rw [zI_t (by decide)]; decide)) (fun _ => ?_)
            refine lv_iconst (v := nI 0) hx hb d_M_join_117 rfl ?_
            exact fx_iret hx hb hr hlk hS.2.2 (Nat.le_of_ble_eq_true rfl) (Nat.le_of_ble_eq_true rfl) d_M_join_118 (⟨by rw [(show so_join Vs (nI a) (nI b) = (1, 0, Vs) from by unfold so_join; rw [ta, tb]; dsimp only; rw [if_neg (fun z => h48 z.2.1)])]; exact rfl, S1, hP, by rw [(show so_join Vs (nI a) (nI b) = (1, 0, Vs) from by unfold so_join; rw [ta, tb]; dsimp only; rw [if_neg (fun z => h48 z.2.1)])]; exact hA, by rw [(show so_join Vs (nI a) (nI b) = (1, 0, Vs) from by unfold so_join; rw [ta, tb]; dsimp only; rw [if_neg (fun z => h48 z.2.1)])]; exact hT⟩)
          · have h48 : o.1 = q.1 := by rw [ka, kb] at h48; exact h48
            refine lv_aload_n hx hb d_M_join_51 rfl (lv_at hl 0 rfl) ?_
            refine fx_get hx hb hown (kc_M hK _) hKv 2 (by decide) (hw _ mf_M_13) (fun _ h => h) (hP 0 _ rfl) rfl d_M_join_52 ?_
            refine lv_iload_n hx hb d_M_join_55 rfl (lv_at hl 1 rfl) ?_
            refine fx_iald (j := a) hx hb hKv 0 (hP 2 _ rfl) rfl (rfl) (by omega) (by decide) d_M_join_56 ?_
            refine lv_aload_n hx hb d_M_join_57 rfl (lv_at hl 0 rfl) ?_
            refine fx_get hx hb hown (kc_M hK _) hKv 2 (by decide) (hw _ mf_M_13) (fun _ h => h) (hP 0 _ rfl) rfl d_M_join_58 ?_
            refine lv_iload_n hx hb d_M_join_61 rfl (lv_at hl 2 rfl) ?_
            refine fx_iald (j := b) hx hb hKv 0 (hP 2 _ rfl) rfl (rfl) (by omega) (by decide) d_M_join_62 ?_
            refine lv_icmp_ne (tgt := 70) hx hb d_M_join_63 rfl (fun h63 => ?_) (fun h63 => ?_)
            · have h63 : ¬ o.2.1 = q.2.1 := by rw [fa, fb] at h63; exact h63
              refine lv_iconst (v := nI 0) hx hb d_M_join_70 rfl ?_
              refine lv_istore_n hx hb d_M_join_71 rfl hl (by decide) rfl (fun ls hl => ?_)
              have hl : lv_has ls 8 [(3, .int (nI 0)), (0, .ref (am 0)), (1, .int (nI a)), (2, .int (nI b))] := hl
              refine lv_aload_n hx hb d_M_join_72 rfl (lv_at hl 1 rfl) ?_
              refine lv_iload_n hx hb d_M_join_73 rfl (lv_at hl 0 rfl) ?_
              refine lv_if_ne (tgt := 81) hx hb d_M_join_74 rfl (fun h9 => absurd rfl h9) (fun _ => ?_)
              refine lv_iconst (v := nI 1) hx hb d_M_join_77 rfl ?_
              refine lv_goto (tgt := 111) hx hb d_M_join_78 rfl ?_
              refine m_rThr hI hA (nI 1) hx hfl hK hb (by rw [hml]; exact hl.1) hown (hw _ mm_M_50) ⟨Nat.le_of_ble_eq_true rfl, Nat.le_of_ble_eq_true rfl, Nat.le_of_ble_eq_true rfl, Nat.le_of_ble_eq_true rfl⟩ hP hS d_M_join_111 (fun S1 hA hT H locs hP hS => ?_)
              have hn : S1.1 = nI Vs.length := hA.1
              refine lv_if_eq (tgt := 119) hx hb d_M_join_114 rfl (fun h9 => absurd h9 (by rw [zI_t (by decide)]; decide)) (fun _ => ?_)
              refine lv_iconst (v := nI 0) hx hb d_M_join_117 rfl ?_
              exact fx_iret hx hb hr hlk hS.2.2 (Nat.le_of_ble_eq_true rfl) (Nat.le_of_ble_eq_true rfl) d_M_join_118 (⟨by rw [(show so_join Vs (nI a) (nI b) = (1, 0, Vs) from by unfold so_join; rw [ta, tb]; dsimp only; rw [if_neg (fun z => h63 z.2.2)])]; exact rfl, S1, hP, by rw [(show so_join Vs (nI a) (nI b) = (1, 0, Vs) from by unfold so_join; rw [ta, tb]; dsimp only; rw [if_neg (fun z => h63 z.2.2)])]; exact hA, by rw [(show so_join Vs (nI a) (nI b) = (1, 0, Vs) from by unfold so_join; rw [ta, tb]; dsimp only; rw [if_neg (fun z => h63 z.2.2)])]; exact hT⟩)
            · have h63 : o.2.1 = q.2.1 := by rw [fa, fb] at h63; exact h63
              refine lv_iconst (v := nI 1) hx hb d_M_join_66 rfl ?_
              refine lv_goto (tgt := 71) hx hb d_M_join_67 rfl ?_
              refine lv_istore_n hx hb d_M_join_71 rfl hl (by decide) rfl (fun ls hl => ?_)
              have hl : lv_has ls 8 [(3, .int (nI 1)), (0, .ref (am 0)), (1, .int (nI a)), (2, .int (nI b))] := hl
              refine lv_aload_n hx hb d_M_join_72 rfl (lv_at hl 1 rfl) ?_
              refine lv_iload_n hx hb d_M_join_73 rfl (lv_at hl 0 rfl) ?_
              refine lv_if_ne (tgt := 81) hx hb d_M_join_74 rfl (fun _ => ?_) (fun h9 => absurd h9 (by decide))
              refine lv_aload_n hx hb d_M_join_81 rfl (lv_at hl 1 rfl) ?_
              refine m_cV (ct_M_isFull w am hI S.1 S.2.1 S.2.2.1 S.2.2.2.1 S.2.2.2.2.1 S.2.2.2.2.2.1 S.2.2.2.2.2.2.1 S.2.2.2.2.2.2.2) hx hfl hK hb (by rw [hml]; exact hl.1) hown (hw _ mm_M_46) (hw _ mk_M_isFull) (hw _ mi_M_isFull) (hw _ mq_M_isFull) (show fx_N y_M_isFull 0 by decide +kernel) rfl ⟨Nat.le_of_ble_eq_true rfl, Nat.le_of_ble_eq_true rfl, Nat.le_of_ble_eq_true rfl, Nat.le_of_ble_eq_true rfl⟩ hP hS d_M_join_82 (fun H locs hP hS => ?_)
              have hP : va_P w.D cls (mw w am S) H := hP
              refine lv_if_ne (tgt := 106) hx hb d_M_join_85 rfl (fun h85 => ?_) (fun h85 => ?_)
              · have h85 : 64 ≤ Vs.length := by have := zI_ne0.mp h85; rw [hn] at this; exact (nI_leI (by decide) (by omega)).mp this
                refine lv_iconst (v := nI 2) hx hb d_M_join_106 rfl ?_
                refine lv_goto (tgt := 111) hx hb d_M_join_107 rfl ?_
                refine m_rThr hI hA (nI 2) hx hfl hK hb (by rw [hml]; exact hl.1) hown (hw _ mm_M_50) ⟨Nat.le_of_ble_eq_true rfl, Nat.le_of_ble_eq_true rfl, Nat.le_of_ble_eq_true rfl, Nat.le_of_ble_eq_true rfl⟩ hP hS d_M_join_111 (fun S1 hA hT H locs hP hS => ?_)
                have hn : S1.1 = nI Vs.length := hA.1
                refine lv_if_eq (tgt := 119) hx hb d_M_join_114 rfl (fun h9 => absurd h9 (by rw [zI_t (by decide)]; decide)) (fun _ => ?_)
                refine lv_iconst (v := nI 0) hx hb d_M_join_117 rfl ?_
                exact fx_iret hx hb hr hlk hS.2.2 (Nat.le_of_ble_eq_true rfl) (Nat.le_of_ble_eq_true rfl) d_M_join_118 (⟨by rw [(show so_join Vs (nI a) (nI b) = (2, 0, Vs) from by unfold so_join; rw [ta, tb]; dsimp only; rw [if_pos ⟨Or.inr h33, h48, h63⟩, if_pos (Or.inl h85)])]; exact rfl, S1, hP, by rw [(show so_join Vs (nI a) (nI b) = (2, 0, Vs) from by unfold so_join; rw [ta, tb]; dsimp only; rw [if_pos ⟨Or.inr h33, h48, h63⟩, if_pos (Or.inl h85)])]; exact hA, by rw [(show so_join Vs (nI a) (nI b) = (2, 0, Vs) from by unfold so_join; rw [ta, tb]; dsimp only; rw [if_pos ⟨Or.inr h33, h48, h63⟩, if_pos (Or.inl h85)])]; exact hT⟩)
              · have h85 : ¬ 64 ≤ Vs.length := fun z => zI_eq0.mp h85 (by rw [hn]; exact nI_le z (by omega))
                refine lv_aload_n hx hb d_M_join_88 rfl (lv_at hl 1 rfl) ?_
                refine fx_get hx hb hown (kc_M hK _) hKv 3 (by decide) (hw _ mf_M_16) (fun _ h => h) (hP 0 _ rfl) rfl d_M_join_89 ?_
                refine lv_iload_n hx hb d_M_join_92 rfl (lv_at hl 2 rfl) ?_
                refine fx_iald (j := a) hx hb hKv 0 (hP 3 _ rfl) rfl (rfl) (by omega) (by decide) d_M_join_93 ?_
                refine lv_aload_n hx hb d_M_join_94 rfl (lv_at hl 1 rfl) ?_
                refine fx_get hx hb hown (kc_M hK _) hKv 3 (by decide) (hw _ mf_M_16) (fun _ h => h) (hP 0 _ rfl) rfl d_M_join_95 ?_
                refine lv_iload_n hx hb d_M_join_98 rfl (lv_at hl 3 rfl) ?_
                refine fx_iald (j := b) hx hb hKv 0 (hP 3 _ rfl) rfl (rfl) (by omega) (by decide) d_M_join_99 ?_
                refine lv_iadd hx hb d_M_join_100 ?_
                refine fx_ti (y := nI (o.2.2.1.length + q.2.2.1.length)) (by rw [sa, sb]; exact nI_add _ _) ?_
                refine lv_bipush (v := nI 100) hx hb d_M_join_101 rfl ?_
                refine lv_icmp_le (tgt := 110) hx hb d_M_join_103 rfl (fun h103 => ?_) (fun h103 => ?_)
                · have h103 : o.2.2.1.length + q.2.2.1.length ≤ 100 := (nI_leI (by omega) (by decide)).mp h103
                  refine lv_iconst (v := nI 0) hx hb d_M_join_110 rfl ?_
                  refine m_rThr hI hA (nI 0) hx hfl hK hb (by rw [hml]; exact hl.1) hown (hw _ mm_M_50) ⟨Nat.le_of_ble_eq_true rfl, Nat.le_of_ble_eq_true rfl, Nat.le_of_ble_eq_true rfl, Nat.le_of_ble_eq_true rfl⟩ hP hS d_M_join_111 (fun S1 hA hT H locs hP hS => ?_)
                  have hn : S1.1 = nI Vs.length := hA.1
                  refine lv_if_eq (tgt := 119) hx hb d_M_join_114 rfl (fun _ => ?_) (fun h9 => absurd (zI_f (by decide)) h9)
                  obtain ⟨ka, fa, sa, qa, xa, ya⟩ := hA.2.2.1 a o ga
                  have ka : S1.2.2.1 a = o.1 := ka
                  have fa : S1.2.2.2.1 a = o.2.1 := fa
                  have sa : S1.2.2.2.2.1 a = nI o.2.2.1.length := sa
                  have la : o.2.2.1.length ≤ 100 := qa.1
                  obtain ⟨kb, fb, sb, qb, xb, yb⟩ := hA.2.2.1 b q gb
                  have kb : S1.2.2.1 b = q.1 := kb
                  have fb : S1.2.2.2.1 b = q.2.1 := fb
                  have sb : S1.2.2.2.2.1 b = nI q.2.2.1.length := sb
                  have lb : q.2.2.1.length ≤ 100 := qb.1
                  have n3 : ¬ o.1 = 3 := by rw [h33]; decide
                  refine lv_aload_n hx hb d_M_join_119 rfl (lv_at hl 1 rfl) ?_
                  refine lv_aload_n hx hb d_M_join_120 rfl (lv_at hl 1 rfl) ?_
                  refine fx_get hx hb hown (kc_M hK _) hKv 1 (by decide) (hw _ mf_M_7) (fun _ h => h) (hP 0 _ rfl) rfl d_M_join_121 ?_
                  refine lv_iload_n hx hb d_M_join_124 rfl (lv_at hl 2 rfl) ?_
                  refine fx_iald (j := a) hx hb hKv 0 (hP 1 _ rfl) rfl (rfl) (by omega) (by decide) d_M_join_125 ?_
                  refine fx_ti (y := o.1) (ka) ?_
                  refine lv_aload_n hx hb d_M_join_126 rfl (lv_at hl 1 rfl) ?_
                  refine fx_get hx hb hown (kc_M hK _) hKv 2 (by decide) (hw _ mf_M_13) (fun _ h => h) (hP 0 _ rfl) rfl d_M_join_127 ?_
                  refine lv_iload_n hx hb d_M_join_130 rfl (lv_at hl 2 rfl) ?_
                  refine fx_iald (j := a) hx hb hKv 0 (hP 2 _ rfl) rfl (rfl) (by omega) (by decide) d_M_join_131 ?_
                  refine fx_ti (y := o.2.1) (fa) ?_
                  refine m_rCreate hI hA (by omega) (o.1) (o.2.1) hx hfl hK hb (by rw [hml]; exact hl.1) hown (hw _ mm_M_53) ⟨Nat.le_of_ble_eq_true rfl, Nat.le_of_ble_eq_true rfl, Nat.le_of_ble_eq_true rfl, Nat.le_of_ble_eq_true rfl⟩ hP hS d_M_join_132 (fun S2 hB hT1 H locs hP hS => ?_)
                  have hT := hT1.trans hT
                  refine lv_istore hx hb d_M_join_135 hl (by decide) rfl (fun ls hl => ?_)
                  have hl : lv_has ls 8 [(4, .int (nI Vs.length)), (3, .int (nI 1)), (0, .ref (am 0)), (1, .int (nI a)), (2, .int (nI b))] := hl
                  obtain ⟨ka, fa, sa, qa, xa, ya⟩ := hB.2.2.1 a o ga
                  have ka : S2.2.2.1 a = o.1 := ka
                  have fa : S2.2.2.2.1 a = o.2.1 := fa
                  have sa : S2.2.2.2.2.1 a = nI o.2.2.1.length := sa
                  have la : o.2.2.1.length ≤ 100 := qa.1
                  obtain ⟨kb, fb, sb, qb, xb, yb⟩ := hB.2.2.1 b q gb
                  have kb : S2.2.2.1 b = q.1 := kb
                  have fb : S2.2.2.2.1 b = q.2.1 := fb
                  have sb : S2.2.2.2.2.1 b = nI q.2.2.1.length := sb
                  have lb : q.2.2.1.length ≤ 100 := qb.1
                  refine lv_aload_n hx hb d_M_join_137 rfl (lv_at hl 2 rfl) ?_
                  refine fx_get hx hb hown (kc_M hK _) hKv 1 (by decide) (hw _ mf_M_7) (fun _ h => h) (hP 0 _ rfl) rfl d_M_join_138 ?_
                  refine lv_iload_n hx hb d_M_join_141 rfl (lv_at hl 3 rfl) ?_
                  refine fx_iald (j := a) hx hb hKv 0 (hP 1 _ rfl) rfl (rfl) (by omega) (by decide) d_M_join_142 ?_
                  refine lv_iconst (v := nI 4) hx hb d_M_join_143 rfl ?_
                  refine lv_icmp_ne (tgt := 174) hx hb d_M_join_144 rfl (fun h9 => absurd (ka.trans h33) h9) (fun _ => ?_)
                  refine lv_aload_n hx hb d_M_join_147 rfl (lv_at hl 2 rfl) ?_
                  refine lv_iload_n hx hb d_M_join_148 rfl (lv_at hl 3 rfl) ?_
                  refine lv_iconst (v := nI 0) hx hb d_M_join_149 rfl ?_
                  refine lv_aload_n hx hb d_M_join_150 rfl (lv_at hl 2 rfl) ?_
                  refine fx_get hx hb hown (kc_M hK _) hKv 3 (by decide) (hw _ mf_M_16) (fun _ h => h) (hP 0 _ rfl) rfl d_M_join_151 ?_
                  refine lv_iload_n hx hb d_M_join_154 rfl (lv_at hl 3 rfl) ?_
                  refine fx_iald (j := a) hx hb hKv 0 (hP 3 _ rfl) rfl (rfl) (by omega) (by decide) d_M_join_155 ?_
                  refine fx_ti (y := nI o.2.2.1.length) (sa) ?_
                  refine m_rAll hI hB (o := o) ga (Nat.zero_le _) (Nat.le_refl _) (by show 0 + (o.2.2.1.length - 0) ≤ 100; omega) (fun z => z) hx hfl hK hb (by rw [hml]; exact hl.1) hown (hw _ mm_M_63) ⟨Nat.le_of_ble_eq_true rfl, Nat.le_of_ble_eq_true rfl, Nat.le_of_ble_eq_true rfl, Nat.le_of_ble_eq_true rfl⟩ hP hS d_M_join_156 (fun S3 hB hT1 H locs hP hS => ?_)
                  have hT := hT1.trans hT
                  simp only [List.nil_append, sv_cut_all, List.drop_zero] at hB
                  refine lv_aload_n hx hb d_M_join_159 rfl (lv_at hl 2 rfl) ?_
                  refine lv_iload_n hx hb d_M_join_160 rfl (lv_at hl 4 rfl) ?_
                  refine lv_iconst (v := nI 0) hx hb d_M_join_161 rfl ?_
                  refine lv_aload_n hx hb d_M_join_162 rfl (lv_at hl 2 rfl) ?_
                  refine fx_get hx hb hown (kc_M hK _) hKv 3 (by decide) (hw _ mf_M_16) (fun _ h => h) (hP 0 _ rfl) rfl d_M_join_163 ?_
                  refine lv_iload_n hx hb d_M_join_166 rfl (lv_at hl 4 rfl) ?_
                  refine fx_iald (j := b) hx hb hKv 0 (hP 3 _ rfl) rfl (rfl) (by omega) (by decide) d_M_join_167 ?_
                  obtain ⟨kb, fb, sb, qb, xb, yb⟩ := hB.2.2.1 b q gb
                  have kb : S3.2.2.1 b = q.1 := kb
                  have fb : S3.2.2.2.1 b = q.2.1 := fb
                  have sb : S3.2.2.2.2.1 b = nI q.2.2.1.length := sb
                  have lb : q.2.2.1.length ≤ 100 := qb.1
                  refine fx_ti (y := nI q.2.2.1.length) (sb) ?_
                  refine m_rAll hI hB (o := q) gb (Nat.zero_le _) (Nat.le_refl _) (by omega) (fun z => absurd z n3) hx hfl hK hb (by rw [hml]; exact hl.1) hown (hw _ mm_M_63) ⟨Nat.le_of_ble_eq_true rfl, Nat.le_of_ble_eq_true rfl, Nat.le_of_ble_eq_true rfl, Nat.le_of_ble_eq_true rfl⟩ hP hS d_M_join_168 (fun S4 hB hT1 H locs hP hS => ?_)
                  have hT := hT1.trans hT
                  have hF : mAbs S4 (Vs ++ [(o.1, o.2.1, o.2.2.1 ++ q.2.2.1, o.2.2.2)]) := by have := mB_done hB o.2.2.2 (fun z => absurd z n3) qa.2.2; simp only [sv_cut_all, List.drop_zero] at this; exact this
                  refine lv_iload hx hb d_M_join_171 (lv_at hl 0 rfl) ?_
                  exact fx_iret hx hb hr hlk hS.2.2 (Nat.le_of_ble_eq_true rfl) (Nat.le_of_ble_eq_true rfl) d_M_join_173 (⟨by rw [(show so_join Vs (nI a) (nI b) = sv_new Vs (o.1, o.2.1, o.2.2.1 ++ q.2.2.1, o.2.2.2) from by unfold so_join; rw [ta, tb]; dsimp only; rw [if_pos ⟨Or.inr h33, h48, h63⟩, if_neg (fun z => z.elim h85 (by omega)), if_pos h33])]; exact rfl, S4, hP, by rw [(show so_join Vs (nI a) (nI b) = sv_new Vs (o.1, o.2.1, o.2.2.1 ++ q.2.2.1, o.2.2.2) from by unfold so_join; rw [ta, tb]; dsimp only; rw [if_pos ⟨Or.inr h33, h48, h63⟩, if_neg (fun z => z.elim h85 (by omega)), if_pos h33])]; exact hF, by rw [(show so_join Vs (nI a) (nI b) = sv_new Vs (o.1, o.2.1, o.2.2.1 ++ q.2.2.1, o.2.2.2) from by unfold so_join; rw [ta, tb]; dsimp only; rw [if_pos ⟨Or.inr h33, h48, h63⟩, if_neg (fun z => z.elim h85 (by omega)), if_pos h33])]; exact hT⟩)
                · have h103 : 100 < o.2.2.1.length + q.2.2.1.length := Nat.not_le.mp (fun z => h103 (nI_le z (by decide)))
                  refine lv_iconst (v := nI 2) hx hb d_M_join_106 rfl ?_
                  refine lv_goto (tgt := 111) hx hb d_M_join_107 rfl ?_
                  refine m_rThr hI hA (nI 2) hx hfl hK hb (by rw [hml]; exact hl.1) hown (hw _ mm_M_50) ⟨Nat.le_of_ble_eq_true rfl, Nat.le_of_ble_eq_true rfl, Nat.le_of_ble_eq_true rfl, Nat.le_of_ble_eq_true rfl⟩ hP hS d_M_join_111 (fun S1 hA hT H locs hP hS => ?_)
                  have hn : S1.1 = nI Vs.length := hA.1
                  refine lv_if_eq (tgt := 119) hx hb d_M_join_114 rfl (fun h9 => absurd h9 (by rw [zI_t (by decide)]; decide)) (fun _ => ?_)
                  refine lv_iconst (v := nI 0) hx hb d_M_join_117 rfl ?_
                  exact fx_iret hx hb hr hlk hS.2.2 (Nat.le_of_ble_eq_true rfl) (Nat.le_of_ble_eq_true rfl) d_M_join_118 (⟨by rw [(show so_join Vs (nI a) (nI b) = (2, 0, Vs) from by unfold so_join; rw [ta, tb]; dsimp only; rw [if_pos ⟨Or.inr h33, h48, h63⟩, if_pos (Or.inr h103)])]; exact rfl, S1, hP, by rw [(show so_join Vs (nI a) (nI b) = (2, 0, Vs) from by unfold so_join; rw [ta, tb]; dsimp only; rw [if_pos ⟨Or.inr h33, h48, h63⟩, if_pos (Or.inr h103)])]; exact hA, by rw [(show so_join Vs (nI a) (nI b) = (2, 0, Vs) from by unfold so_join; rw [ta, tb]; dsimp only; rw [if_pos ⟨Or.inr h33, h48, h63⟩, if_pos (Or.inr h103)])]; exact hT⟩)
end
section
/-! The JDK's methods that the class uses: contracts of ArrayList's. -/
theorem Low.U {w : Wd} {a : Nat} {H H1 : Heap} (h : Low w H) (hU : fx_U a H H1) (ha : w.H0.size ≤ a) : Low w H1 := ⟨by rw [hU.1]; exact h.1, fun q hq => (hU.2 q (by omega)).trans (h.2 q hq)⟩
theorem Low.G {w : Wd} {H H1 : Heap} (h : Low w H) (hG : fx_G H H1) : Low w H1 := h.tr hG.ex
theorem Low.F {w : Wd} {A : Nat → Prop} {mc : Nat} {H H1 : Heap} (h : Low w H) (hF : fx_F A mc H H1) (hA : ∀ q, q < w.H0.size → ¬ A q) : Low w H1 := ⟨Nat.le_trans h.1 hF.1, fun q hq => (hF.2.2 q (Nat.lt_of_lt_of_le hq h.1) (hA q hq)).trans (h.2 q hq)⟩
theorem kZF {w : Wd} {s : State} (hK : KT w s) : va_Z R_L "FORMS" "[I" (.ref w.FA) (kold w) s w.H0 := hK.2.2.2.2.2.2.2.1
theorem kTF {w : Wd} {s : State} (hK : KT w s) : va_T .int w.FA 5 (fun j => .int (kforms j)) (kold w) s w.H0 := hK.2.2.2.2.2.2.2.2.1
theorem kZE {w : Wd} {s : State} (hK : KT w s) : va_Z R_AL "DEFAULTCAPACITY_EMPTY_ELEMENTDATA" "[Ljava/lang/Object;" (.ref w.E0) (kold w) s w.H0 := hK.2.2.2.2.2.2.2.2.2.1
theorem kTE {w : Wd} {s : State} (hK : KT w s) : va_T (.object "java/lang/Object") w.E0 0 (fun _ => .null) (kold w) s w.H0 := hK.2.2.2.2.2.2.2.2.2.2.1
theorem kMi {w : Wd} {s : State} (hK : KT w s) : va_Mi "[Ljava/lang/Object;" w.mi s := hK.2.2.2.2.2.2.2.2.2.2.2.1
abbrev cO (w : Wd) (a : Nat) (fs : List Value) (H : Heap) : Prop := va_at w.D cls (a, .inr (3, fs)) H
abbrev cQ (w : Wd) (a n : Nat) (f : Nat → Option Nat) (H : Heap) : Prop := va_at w.D cls (a, .inl (w.O, n, .inr (.inr (.inr (.inr f))))) H
theorem kAny {w : Wd} {s : State} (hK : KT w s) {b : Nat} {fs : List Value} {H : Heap} (h : va_at w.D cls (b, .inr (1, fs)) H) : va_Any "java/lang/Object" s H b := by
  refine va_rAny hK.2.1 (fx_one h) (q0 := 0) rfl (show cls[1]? = some (R_V, T_V, 4) from rfl) (fun comp c0 h1 h2 => ?_)
  obtain ⟨c1, t1, f1, f2, f3⟩ := Cond.castable_spec (args := #[]) (hK.2.2.2.2.1.1 (R_V, "java/lang/Object") (by decide))
  have e1 : c0 = c1 := Option.some.inj (h2.symm.trans f1)
  have e2 : comp = t1 := Option.some.inj (h1.symm.trans f2)
  rw [e1, e2]
  exact f3
theorem mq_A_getClass : Cond.selects "[Ljava/lang/Object;" ⟨"java/lang/Object", "getClass", "()Ljava/lang/Class;"⟩ ⟨"java/lang/Object", "getClass", "()Ljava/lang/Class;"⟩ ∈ gw := kT_in (L := [Cond.selects "[Ljava/lang/Object;" ⟨"java/lang/Object", "getClass", "()Ljava/lang/Class;"⟩ ⟨"java/lang/Object", "getClass", "()Ljava/lang/Class;"⟩]) (by decide +kernel) _ (by decide +kernel)
set_option maxHeartbeats 4000000 in
set_option maxRecDepth 100000 in
theorem ct_AC_init (w : Wd) (a : Nat) : fx_C (KT w) y_AC_init 1 (rmK 1) [.ref a] (fun _ => True) (fun _ o _ => o = .returned none) (fun _ _ => False) := by
  refine fx_of (ret := none) (cc := b_AC_init) (fun s hK => hK.1 _ mk_AC_init _) (Nat.le_of_ble_eq_true rfl) ?_
  intro p l e s m below meth c hx hfl hK hb hml hr hlk hnt hown hin hpre ls hl
  have hw : ∀ z ∈ gw, z.before ([.ref a] : List Value).toArray s = true := fun z hz => hK.1 z hz _
  have hKv := hK.2.1
  have hL : ∀ q ∈ ([] : List Loc), (fun _ _ => False) s.heap q.base := fun q hq => by cases hq
  have hl : lv_has ls 1 [(0, .ref a)] := hl
  refine lv_aload_n hx hb d_AC_init_0 rfl (lv_at hl 0 rfl) ?_
  refine W.objInit hx hb hown (hw _ mm_AC_1) (hw _ mi_OJ_init) (hw _ mk_OJ_init) rfl (by rw [hml]; exact hl.1) rfl d_AC_init_1 (Nat.le_of_ble_eq_true rfl) (Nat.le_of_ble_eq_true rfl) ?_
  refine W.eq (g2 := F0 m 4 ls []) rfl ?_
  exact fx_vret hx hb hr hlk hL (Nat.le_of_ble_eq_true rfl) (Nat.le_of_ble_eq_true rfl) d_AC_init_4 (rfl)
set_option maxHeartbeats 4000000 in
set_option maxRecDepth 100000 in
theorem ct_AB_init (w : Wd) (a : Nat) : fx_C (KT w) y_AB_init 1 (rmK 2) [.ref a] (fun H => cO w a [.int 0, .null, .int 0] H) (fun H o H' => o = .returned none ∧ cO w a [.int 0, .null, .int 0] H' ∧ fx_U a H H') (fun _ q => q = a) := by
  refine fx_of (ret := none) (cc := b_AB_init) (fun s hK => hK.1 _ mk_AB_init _) (Nat.le_of_ble_eq_true rfl) ?_
  intro p l e s m below meth c hx hfl hK hb hml hr hlk hnt hown hin hpre ls hl
  have hw : ∀ z ∈ gw, z.before ([.ref a] : List Value).toArray s = true := fun z hz => hK.1 z hz _
  have hKv := hK.2.1
  have hL : ∀ q ∈ ([] : List Loc), (fun _ q => q = a) s.heap q.base := fun q hq => by cases hq
  have hl : lv_has ls 1 [(0, .ref a)] := hl
  refine lv_aload_n hx hb d_AB_init_0 rfl (lv_at hl 0 rfl) ?_
  refine fx_cI (B := (fun _ q => q = a) s.heap) KT_moved (ct_AC_init w a) hx hfl hK hb (by rw [hml]; exact hl.1) hown (hw _ mm_AB_1) (hw _ mk_AC_init) (hw _ mi_AC_init) rfl (show fx_N y_AC_init 0 by decide +kernel) rfl ⟨Nat.le_of_ble_eq_true rfl, Nat.le_of_ble_eq_true rfl, Nat.le_of_ble_eq_true rfl, Nat.le_of_ble_eq_true rfl⟩ (trivial) d_AB_init_1 hL (fun q h => h.elim) (fun v H1 locs hq hF hL => ?_) (fun x H1 locs hq hF hL => by cases hq)
  cases hq
  obtain rfl : H1 = s.heap := hF.same (fun _ _ h => h)
  refine W.eq (g2 := F0 m 4 ls []) rfl ?_
  refine lv_aload_n hx hb d_AB_init_4 rfl (lv_at hl 0 rfl) ?_
  refine lv_iconst (v := nI 0) hx hb d_AB_init_5 rfl ?_
  refine fx_put (B := (fun _ q => q = a) s.heap) hx hb hown (kc_AL hK _) hKv 0 (by decide) (hw _ mf_AB_7) (fun _ h => h) rfl hpre (by simp) rfl rfl hL (rfl) d_AB_init_6 (fun H2 locs hO hU hL => ?_)
  exact fx_vret hx hb hr hlk hL (Nat.le_of_ble_eq_true rfl) (Nat.le_of_ble_eq_true rfl) d_AB_init_9 (⟨rfl, hO, hU⟩)
set_option maxHeartbeats 4000000 in
set_option maxRecDepth 100000 in
theorem ct_AL_init (w : Wd) (a : Nat) (ha : w.H0.size ≤ a) : fx_C (KT w) y_AL_init 1 (rmK 3) [.ref a] (fun H => Low w H ∧ cO w a [.int 0, .null, .int 0] H) (fun H o H' => o = .returned none ∧ cO w a [.int 0, .ref w.E0, .int 0] H' ∧ fx_U a H H') (fun _ q => q = a) := by
  refine fx_of (ret := none) (cc := b_AL_init) (fun s hK => hK.1 _ mk_AL_init _) (Nat.le_of_ble_eq_true rfl) ?_
  intro p l e s m below meth c hx hfl hK hb hml hr hlk hnt hown hin hpre ls hl
  have hw : ∀ z ∈ gw, z.before ([.ref a] : List Value).toArray s = true := fun z hz => hK.1 z hz _
  have hKv := hK.2.1
  have hL : ∀ q ∈ ([] : List Loc), (fun _ q => q = a) s.heap q.base := fun q hq => by cases hq
  have hl : lv_has ls 1 [(0, .ref a)] := hl
  refine lv_aload_n hx hb d_AL_init_0 rfl (lv_at hl 0 rfl) ?_
  refine fx_cI (B := (fun _ q => q = a) s.heap) KT_moved (ct_AB_init w a) hx hfl hK hb (by rw [hml]; exact hl.1) hown (hw _ mm_AL_1) (hw _ mk_AB_init) (hw _ mi_AB_init) rfl (show fx_N y_AB_init 0 by decide +kernel) rfl ⟨Nat.le_of_ble_eq_true rfl, Nat.le_of_ble_eq_true rfl, Nat.le_of_ble_eq_true rfl, Nat.le_of_ble_eq_true rfl⟩ (hpre.2) d_AL_init_1 hL (fun q h => h) (fun v H1 locs hq hF hL => ?_) (fun x H1 locs hq hF hL => by cases hq.1)
  obtain ⟨hv, hO, hU⟩ := hq
  cases hv
  have hLow := hpre.1.U hU ha
  refine W.eq (g2 := F0 m 4 ls []) rfl ?_
  refine lv_aload_n hx hb d_AL_init_4 rfl (lv_at hl 0 rfl) ?_
  refine fx_gets hx hb (kZE hK) hLow.2 hown (hw _ mf_AL_39) (fun _ h => h) d_AL_init_5 ?_
  refine fx_put (B := (fun _ q => q = a) s.heap) hx hb hown (kc_AL hK _) hKv 1 (by decide) (hw _ mf_AL_9) (fun _ h => h) rfl hO (by simp) rfl rfl hL (rfl) d_AL_init_8 (fun H2 locs hO hU2 hL => ?_)
  exact fx_vret hx hb hr hlk hL (Nat.le_of_ble_eq_true rfl) (Nat.le_of_ble_eq_true rfl) d_AL_init_11 (⟨rfl, hO, hU2.1.trans hU.1, fun q h => (hU2.2 q h).trans (hU.2 q h)⟩)
set_option maxHeartbeats 4000000 in
set_option maxRecDepth 100000 in
theorem ct_AL_size (w : Wd) (a : Nat) (mc z : Int32) (r : Value) : fx_C (KT w) y_AL_size 1 (rmK 1) [.ref a] (fun H => cO w a [.int mc, r, .int z] H) (fun _ o _ => o = .returned (some (.int z))) (fun _ _ => False) := by
  refine fx_of (ret := (some (FieldType.int))) (cc := b_AL_size) (fun s hK => hK.1 _ mk_AL_size _) (Nat.le_of_ble_eq_true rfl) ?_
  intro p l e s m below meth c hx hfl hK hb hml hr hlk hnt hown hin hpre ls hl
  have hw : ∀ z ∈ gw, z.before ([.ref a] : List Value).toArray s = true := fun z hz => hK.1 z hz _
  have hKv := hK.2.1
  have hL : ∀ q ∈ ([] : List Loc), (fun _ _ => False) s.heap q.base := fun q hq => by cases hq
  have hl : lv_has ls 1 [(0, .ref a)] := hl
  refine lv_aload_n hx hb d_AL_size_0 rfl (lv_at hl 0 rfl) ?_
  refine fx_get hx hb hown (kc_AL hK _) hKv 2 (by decide) (hw _ mf_AL_48) (fun _ h => h) hpre rfl d_AL_size_1 ?_
  exact fx_iret hx hb hr hlk hL (Nat.le_of_ble_eq_true rfl) (Nat.le_of_ble_eq_true rfl) d_AL_size_4 (rfl)
set_option maxHeartbeats 4000000 in
set_option maxRecDepth 100000 in
theorem ct_MT_min (w : Wd) (x y : Int32) : fx_C (KT w) y_MT_min 2 (rmK 1) [.int x, .int y] (fun _ => True) (fun _ o _ => o = .returned (some (.int (if y < x then y else x)))) (fun _ _ => False) := by
  refine fx_of (ret := (some (FieldType.int))) (cc := b_MT_min) (fun s hK => hK.1 _ mk_MT_min _) (Nat.le_of_ble_eq_true rfl) ?_
  intro p l e s m below meth c hx hfl hK hb hml hr hlk hnt hown hin hpre ls hl
  have hw : ∀ z ∈ gw, z.before ([.int x, .int y] : List Value).toArray s = true := fun z hz => hK.1 z hz _
  have hKv := hK.2.1
  have hL : ∀ q ∈ ([] : List Loc), (fun _ _ => False) s.heap q.base := fun q hq => by cases hq
  have hl : lv_has ls 2 [(0, .int x), (1, .int y)] := hl
  refine lv_iload_n hx hb d_MT_min_0 rfl (lv_at hl 0 rfl) ?_
  refine lv_iload_n hx hb d_MT_min_1 rfl (lv_at hl 1 rfl) ?_
  refine lv_icmp_gt (tgt := 9) hx hb d_MT_min_2 rfl (fun h2 => ?_) (fun h2 => ?_)
  · have hc : y < x := h2
    refine lv_iload_n hx hb d_MT_min_9 rfl (lv_at hl 1 rfl) ?_
    exact fx_iret hx hb hr hlk hL (Nat.le_of_ble_eq_true rfl) (Nat.le_of_ble_eq_true rfl) d_MT_min_10 (by rw [if_pos hc])
  · have hc : ¬ y < x := h2
    refine lv_iload_n hx hb d_MT_min_5 rfl (lv_at hl 0 rfl) ?_
    refine lv_goto (tgt := 10) hx hb d_MT_min_6 rfl ?_
    exact fx_iret hx hb hr hlk hL (Nat.le_of_ble_eq_true rfl) (Nat.le_of_ble_eq_true rfl) d_MT_min_10 (by rw [if_neg hc])
set_option maxHeartbeats 4000000 in
set_option maxRecDepth 100000 in
theorem ct_MT_max (w : Wd) (x y : Int32) : fx_C (KT w) y_MT_max 2 (rmK 1) [.int x, .int y] (fun _ => True) (fun _ o _ => o = .returned (some (.int (if x < y then y else x)))) (fun _ _ => False) := by
  refine fx_of (ret := (some (FieldType.int))) (cc := b_MT_max) (fun s hK => hK.1 _ mk_MT_max _) (Nat.le_of_ble_eq_true rfl) ?_
  intro p l e s m below meth c hx hfl hK hb hml hr hlk hnt hown hin hpre ls hl
  have hw : ∀ z ∈ gw, z.before ([.int x, .int y] : List Value).toArray s = true := fun z hz => hK.1 z hz _
  have hKv := hK.2.1
  have hL : ∀ q ∈ ([] : List Loc), (fun _ _ => False) s.heap q.base := fun q hq => by cases hq
  have hl : lv_has ls 2 [(0, .int x), (1, .int y)] := hl
  refine lv_iload_n hx hb d_MT_max_0 rfl (lv_at hl 0 rfl) ?_
  refine lv_iload_n hx hb d_MT_max_1 rfl (lv_at hl 1 rfl) ?_
  refine lv_icmp_lt (tgt := 9) hx hb d_MT_max_2 rfl (fun h2 => ?_) (fun h2 => ?_)
  · have hc : x < y := h2
    refine lv_iload_n hx hb d_MT_max_9 rfl (lv_at hl 1 rfl) ?_
    exact fx_iret hx hb hr hlk hL (Nat.le_of_ble_eq_true rfl) (Nat.le_of_ble_eq_true rfl) d_MT_max_10 (by rw [if_pos hc])
  · have hc : ¬ x < y := h2
    refine lv_iload_n hx hb d_MT_max_5 rfl (lv_at hl 0 rfl) ?_
    refine lv_goto (tgt := 10) hx hb d_MT_max_6 rfl ?_
    exact fx_iret hx hb hr hlk hL (Nat.le_of_ble_eq_true rfl) (Nat.le_of_ble_eq_true rfl) d_MT_max_10 (by rw [if_neg hc])
set_option maxHeartbeats 4000000 in
set_option maxRecDepth 100000 in
theorem ct_PC_checkIndex (w : Wd) (j n : Nat) (hj : j < n) (hn : n < 2 ^ 31) : fx_C (KT w) y_PC_checkIndex 3 (rmK 1) [.int (nI j), .int (nI n), .null] (fun _ => True) (fun _ o _ => o = .returned (some (.int (nI j)))) (fun _ _ => False) := by
  refine fx_of (ret := (some (FieldType.int))) (cc := b_PC_checkIndex) (fun s hK => hK.1 _ mk_PC_checkIndex _) (Nat.le_of_ble_eq_true rfl) ?_
  intro p l e s m below meth c hx hfl hK hb hml hr hlk hnt hown hin hpre ls hl
  have hw : ∀ z ∈ gw, z.before ([.int (nI j), .int (nI n), .null] : List Value).toArray s = true := fun z hz => hK.1 z hz _
  have hKv := hK.2.1
  have hL : ∀ q ∈ ([] : List Loc), (fun _ _ => False) s.heap q.base := fun q hq => by cases hq
  have hl : lv_has ls 3 [(0, .int (nI j)), (1, .int (nI n)), (2, .null)] := hl
  refine lv_iload_n hx hb d_PC_checkIndex_0 rfl (lv_at hl 0 rfl) ?_
  refine lv_if_lt (tgt := 9) hx hb d_PC_checkIndex_1 rfl (fun h9 => absurd h9 (nI_pos (by omega))) (fun _ => ?_)
  refine lv_iload_n hx hb d_PC_checkIndex_4 rfl (lv_at hl 0 rfl) ?_
  refine lv_iload_n hx hb d_PC_checkIndex_5 rfl (lv_at hl 1 rfl) ?_
  refine lv_icmp_lt (tgt := 16) hx hb d_PC_checkIndex_6 rfl (fun _ => ?_) (fun h9 => absurd (nI_lt hj hn) h9)
  refine lv_iload_n hx hb d_PC_checkIndex_16 rfl (lv_at hl 0 rfl) ?_
  exact fx_iret hx hb hr hlk hL (Nat.le_of_ble_eq_true rfl) (Nat.le_of_ble_eq_true rfl) d_PC_checkIndex_17 (rfl)
set_option maxHeartbeats 4000000 in
set_option maxRecDepth 100000 in
theorem ct_OB_checkIndex (w : Wd) (j n : Nat) (hj : j < n) (hn : n < 2 ^ 31) : fx_C (KT w) y_OB_checkIndex 2 (rmK 2) [.int (nI j), .int (nI n)] (fun _ => True) (fun _ o _ => o = .returned (some (.int (nI j)))) (fun _ _ => False) := by
  refine fx_of (ret := (some (FieldType.int))) (cc := b_OB_checkIndex) (fun s hK => hK.1 _ mk_OB_checkIndex _) (Nat.le_of_ble_eq_true rfl) ?_
  intro p l e s m below meth c hx hfl hK hb hml hr hlk hnt hown hin hpre ls hl
  have hw : ∀ z ∈ gw, z.before ([.int (nI j), .int (nI n)] : List Value).toArray s = true := fun z hz => hK.1 z hz _
  have hKv := hK.2.1
  have hL : ∀ q ∈ ([] : List Loc), (fun _ _ => False) s.heap q.base := fun q hq => by cases hq
  have hl : lv_has ls 2 [(0, .int (nI j)), (1, .int (nI n))] := hl
  refine lv_iload_n hx hb d_OB_checkIndex_0 rfl (lv_at hl 0 rfl) ?_
  refine lv_iload_n hx hb d_OB_checkIndex_1 rfl (lv_at hl 1 rfl) ?_
  refine lv_null hx hb d_OB_checkIndex_2 ?_
  refine fx_cS (B := (fun _ _ => False) s.heap) KT_moved (ct_PC_checkIndex w j n hj hn) hx hfl hK hb (by rw [hml]; exact hl.1) hown (hw _ mm_OB_105) (fx_Y.code (hw _ mk_PC_checkIndex)) (hw _ ms_PC_checkIndex) (hw _ mn_PC) (show fx_N y_PC_checkIndex 3 by decide +kernel) rfl ⟨Nat.le_of_ble_eq_true rfl, Nat.le_of_ble_eq_true rfl, Nat.le_of_ble_eq_true rfl, Nat.le_of_ble_eq_true rfl⟩ (trivial) d_OB_checkIndex_3 hL (fun q h => h) (fun v H1 locs hq hF hL => ?_) (fun x H1 locs hq hF hL => by cases hq)
  cases hq
  obtain rfl : H1 = s.heap := hF.same (fun _ _ h => h)
  refine W.eq (g2 := F0 m 6 ls [.int (nI j)]) rfl ?_
  exact fx_iret hx hb hr hlk hL (Nat.le_of_ble_eq_true rfl) (Nat.le_of_ble_eq_true rfl) d_OB_checkIndex_6 (rfl)
set_option maxHeartbeats 4000000 in
set_option maxRecDepth 100000 in
theorem ct_AL_elementData (w : Wd) (a ar n cap b j : Nat) (mc : Int32) (f : Nat → Option Nat) (hj : j < n) (hf : f j = some b) (hn : n ≤ cap) (hcap : cap ≤ 200) : fx_C (KT w) y_AL_elementData 2 (rmK 1) [.ref a, .int (nI j)] (fun H => cO w a [.int mc, .ref ar, .int (nI n)] H ∧ cQ w ar cap f H) (fun _ o _ => o = .returned (some (.ref b))) (fun _ _ => False) := by
  refine fx_of (ret := (some ((FieldType.object "java/lang/Object")))) (cc := b_AL_elementData) (fun s hK => hK.1 _ mk_AL_elementData _) (Nat.le_of_ble_eq_true rfl) ?_
  intro p l e s m below meth c hx hfl hK hb hml hr hlk hnt hown hin hpre ls hl
  have hw : ∀ z ∈ gw, z.before ([.ref a, .int (nI j)] : List Value).toArray s = true := fun z hz => hK.1 z hz _
  have hKv := hK.2.1
  have hL : ∀ q ∈ ([] : List Loc), (fun _ _ => False) s.heap q.base := fun q hq => by cases hq
  have hl : lv_has ls 2 [(0, .ref a), (1, .int (nI j))] := hl
  refine lv_aload_n hx hb d_AL_elementData_0 rfl (lv_at hl 0 rfl) ?_
  refine fx_get hx hb hown (kc_AL hK _) hKv 1 (by decide) (hw _ mf_AL_9) (fun _ h => h) hpre.1 rfl d_AL_elementData_1 ?_
  refine lv_iload_n hx hb d_AL_elementData_4 rfl (lv_at hl 1 rfl) ?_
  refine fx_aald hx hb hKv 2 hpre.2 rfl rfl (show j < cap by omega) (by omega) d_AL_elementData_5 (fx_tv (y := .ref b) (by rw [hf]; rfl) ?_)
  exact fx_aret hx hb hr (Or.inl ⟨_, rfl⟩) (Or.inr ⟨_, rfl⟩) hlk hL (Nat.le_of_ble_eq_true rfl) (Nat.le_of_ble_eq_true rfl) d_AL_elementData_6 (rfl)
set_option maxHeartbeats 4000000 in
set_option maxRecDepth 100000 in
theorem ct_AL_get (w : Wd) (a ar n cap b j : Nat) (mc : Int32) (f : Nat → Option Nat) (hj : j < n) (hf : f j = some b) (hn : n ≤ cap) (hcap : cap ≤ 200) : fx_C (KT w) y_AL_get 2 (rmK 3) [.ref a, .int (nI j)] (fun H => cO w a [.int mc, .ref ar, .int (nI n)] H ∧ cQ w ar cap f H) (fun _ o _ => o = .returned (some (.ref b))) (fun _ _ => False) := by
  refine fx_of (ret := (some ((FieldType.object "java/lang/Object")))) (cc := b_AL_get) (fun s hK => hK.1 _ mk_AL_get _) (Nat.le_of_ble_eq_true rfl) ?_
  intro p l e s m below meth c hx hfl hK hb hml hr hlk hnt hown hin hpre ls hl
  have hw : ∀ z ∈ gw, z.before ([.ref a, .int (nI j)] : List Value).toArray s = true := fun z hz => hK.1 z hz _
  have hKv := hK.2.1
  have hL : ∀ q ∈ ([] : List Loc), (fun _ _ => False) s.heap q.base := fun q hq => by cases hq
  have hl : lv_has ls 2 [(0, .ref a), (1, .int (nI j))] := hl
  refine lv_iload_n hx hb d_AL_get_0 rfl (lv_at hl 1 rfl) ?_
  refine lv_aload_n hx hb d_AL_get_1 rfl (lv_at hl 0 rfl) ?_
  refine fx_get hx hb hown (kc_AL hK _) hKv 2 (by decide) (hw _ mf_AL_48) (fun _ h => h) hpre.1 rfl d_AL_get_2 ?_
  refine fx_cS (B := (fun _ _ => False) s.heap) KT_moved (ct_OB_checkIndex w j n hj (by omega)) hx hfl hK hb (by rw [hml]; exact hl.1) hown (hw _ mm_AL_118) (fx_Y.code (hw _ mk_OB_checkIndex)) (hw _ ms_OB_checkIndex) (hw _ mn_OB) (show fx_N y_OB_checkIndex 2 by decide +kernel) rfl ⟨Nat.le_of_ble_eq_true rfl, Nat.le_of_ble_eq_true rfl, Nat.le_of_ble_eq_true rfl, Nat.le_of_ble_eq_true rfl⟩ (trivial) d_AL_get_5 hL (fun q h => h) (fun v H1 locs hq hF hL => ?_) (fun x H1 locs hq hF hL => by cases hq)
  cases hq
  obtain rfl : H1 = s.heap := hF.same (fun _ _ h => h)
  refine W.eq (g2 := F0 m 8 ls [.int (nI j)]) rfl ?_
  refine lv_pop hx hb d_AL_get_8 rfl ?_
  refine lv_aload_n hx hb d_AL_get_9 rfl (lv_at hl 0 rfl) ?_
  refine lv_iload_n hx hb d_AL_get_10 rfl (lv_at hl 1 rfl) ?_
  refine fx_cV (B := (fun _ _ => False) s.heap) KT_moved (ct_AL_elementData w a ar n cap b j mc f hj hf hn hcap) hx hfl hK hb (by rw [hml]; exact hl.1) hown (hw _ mm_AL_123) (fx_Y.code (hw _ mk_AL_elementData)) (hw _ mi_AL_elementData) (hw _ mq_AL_elementData) (show fx_N y_AL_elementData 1 by decide +kernel) (va_recv (q0 := 0) hKv (fx_one hpre.1) (show cls[3]? = some (R_AL, T_AL, 3) from rfl) rfl) rfl ⟨Nat.le_of_ble_eq_true rfl, Nat.le_of_ble_eq_true rfl, Nat.le_of_ble_eq_true rfl, Nat.le_of_ble_eq_true rfl⟩ (hpre) d_AL_get_11 hL (fun q h => h) (fun v H1 locs hq hF hL => ?_) (fun x H1 locs hq hF hL => by cases hq)
  cases hq
  obtain rfl : H1 = s.heap := hF.same (fun _ _ h => h)
  refine W.eq (g2 := F0 m 14 ls [.ref b]) rfl ?_
  exact fx_aret hx hb hr (Or.inl ⟨_, rfl⟩) (Or.inr ⟨_, rfl⟩) hlk hL (Nat.le_of_ble_eq_true rfl) (Nat.le_of_ble_eq_true rfl) d_AL_get_14 (rfl)
end
section
/-! ArrayList.add and its growth. -/
abbrev rmG (k : Nat) : Room := { frames := k, cells := 1, slots := 200, locals := 40 * k }
/-- the row of a list: the empty one from the start, or one of its own -/
def cR (w : Wd) (a cap : Nat) (f : Nat → Option Nat) (H : Heap) : Prop := (a = w.E0 ∧ cap = 0) ∨ (0 < cap ∧ w.H0.size ≤ a ∧ cQ w a cap f H)
/-- the elements are versions -/
def cE (w : Wd) (n : Nat) (f : Nat → Option Nat) (H : Heap) : Prop := ∀ z, z < n → ∀ y : Nat, f z = some y → ∃ fs, va_at w.D cls (y, .inr (1, fs)) H
theorem cE.ex {w : Wd} {n : Nat} {f : Nat → Option Nat} {H H' : Heap} (h : cE w n f H) (hx : fx_Ex H H') : cE w n f H' := fun z hz y hy => by obtain ⟨fs, h1⟩ := h z hz y hy; exact ⟨fs, hx.kept h1⟩
theorem kAO {w : Wd} {s : State} (hK : KT w s) : va_AO "java/lang/Object" s := hK.2.2.2.2.1.2.2.2.2
theorem fx_rlen {p : Program} {l : Launch} {e : Env} {R : Room} {s : State} {m : MethodId} {args : Array Value} {below : List Frame} {meth : Method} {c : Code} {H : Heap} {locs : List Loc} {cells slots : Nat} {Q : State → Prop} {cc : ByteArray} {pc : Nat} {ls : Array Slot} {rest : List Value} {w : Wd} {a cap : Nat} {f : Nat → Option Nat}
    (hexec : p.tables.exec = Jvm.exec) (hb : c.code = cc) (hK : KT w s) (hLow : Low w H) (hR : cR w a cap f H) (hdg : decode cc pc = .ok (.arraylength, 1)) (kk : W p l e R s m args below meth c H locs cells slots Q (F0 m (pc + 1) ls (.int (nI cap) :: rest))) : W p l e R s m args below meth c H locs cells slots Q (F0 m pc ls (.ref a :: rest)) := by
  rcases hR with ⟨e1, e2⟩ | ⟨-, -, h⟩
  · subst e2; subst e1
    exact fx_tlen hexec hb (kTE hK) hLow.2 hdg kk
  · exact fx_alen hexec hb hK.2.1 2 h rfl hdg kk
theorem kDc {w : Wd} {s : State} (hK : KT w s) : va_Dc s := hK.2.2.2.2.1.2.2.2.1
set_option maxHeartbeats 4000000 in
set_option maxRecDepth 100000 in
theorem ct_AS_newLength (w : Wd) (n : Nat) (hn : n ≤ 100) : fx_C (KT w) y_AS_newLength 4 (rmK 2) [.int (nI n), .int (nI 1), .int (nI (n / 2))] (fun _ => True) (fun _ o _ => ∃ k, o = .returned (some (.int (nI k))) ∧ n < k ∧ k ≤ n + n / 2 + 1) (fun _ _ => False) := by
  refine fx_of (ret := (some (FieldType.int))) (cc := b_AS_newLength) (fun s hK => hK.1 _ mk_AS_newLength _) (Nat.le_of_ble_eq_true rfl) ?_
  intro p l e s m below meth c hx hfl hK hb hml hr hlk hnt hown hin hpre ls hl
  have hw : ∀ z ∈ gw, z.before ([.int (nI n), .int (nI 1), .int (nI (n / 2))] : List Value).toArray s = true := fun z hz => hK.1 z hz _
  have hKv := hK.2.1
  have hL : ∀ q ∈ ([] : List Loc), (fun _ _ => False) s.heap q.base := fun q hq => by cases hq
  have hl : lv_has ls 4 [(0, .int (nI n)), (1, .int (nI 1)), (2, .int (nI (n / 2)))] := hl
  refine lv_iload_n hx hb d_AS_newLength_0 rfl (lv_at hl 0 rfl) ?_
  refine lv_iload_n hx hb d_AS_newLength_1 rfl (lv_at hl 1 rfl) ?_
  refine lv_iload_n hx hb d_AS_newLength_2 rfl (lv_at hl 2 rfl) ?_
  refine fx_cS (B := (fun _ _ => False) s.heap) KT_moved (ct_MT_max w (nI 1) (nI (n / 2))) hx hfl hK hb (by rw [hml]; exact hl.1) hown (hw _ mm_AS_194) (fx_Y.code (hw _ mk_MT_max)) (hw _ ms_MT_max) (hw _ mn_MT) (show fx_N y_MT_max 2 by decide +kernel) rfl ⟨Nat.le_of_ble_eq_true rfl, Nat.le_of_ble_eq_true rfl, Nat.le_of_ble_eq_true rfl, Nat.le_of_ble_eq_true rfl⟩ (trivial) d_AS_newLength_3 hL (fun q h => h) (fun v H1 locs hq hF hL => ?_) (fun x H1 locs hq hF hL => by cases hq)
  cases hq
  obtain rfl : H1 = s.heap := hF.same (fun _ _ h => h)
  refine W.eq (g2 := F0 m 6 ls [.int (if nI 1 < nI (n / 2) then nI (n / 2) else nI 1), .int (nI n)]) rfl ?_
  obtain ⟨k, hk, hk1, hk2⟩ : ∃ k, (if nI 1 < nI (n / 2) then nI (n / 2) else nI 1) = nI k ∧ 1 ≤ k ∧ k ≤ n / 2 + 1 := by
    by_cases h : nI 1 < nI (n / 2)
    · exact ⟨n / 2, if_pos h, by have := (nI_ltI (by decide) (by omega)).mp h; omega, by omega⟩
    · exact ⟨1, if_neg h, by omega, by omega⟩
  refine fx_ti (y := nI k) (hk) ?_
  refine lv_iadd hx hb d_AS_newLength_6 ?_
  refine fx_ti (y := nI (n + k)) (nI_add n k) ?_
  refine lv_istore_n hx hb d_AS_newLength_7 rfl hl (by decide) rfl (fun ls hl => ?_)
  have hl : lv_has ls 4 [(3, .int (nI (n + k))), (0, .int (nI n)), (1, .int (nI 1)), (2, .int (nI (n / 2)))] := hl
  refine lv_iconst (v := nI 0) hx hb d_AS_newLength_8 rfl ?_
  refine lv_iload_n hx hb d_AS_newLength_9 rfl (lv_at hl 0 rfl) ?_
  refine lv_icmp_ge (tgt := 21) hx hb d_AS_newLength_10 rfl (fun h9 => absurd h9 (nI_ge (by omega) (by omega))) (fun _ => ?_)
  refine lv_iload_n hx hb d_AS_newLength_13 rfl (lv_at hl 0 rfl) ?_
  refine lv_ldc hx hb hown (hw _ mx_AS_200) d_AS_newLength_14 ?_
  refine lv_icmp_gt (tgt := 21) hx hb d_AS_newLength_16 rfl (fun h9 => absurd h9 (nI_nlt (a := 2147483639) (by omega) (by decide))) (fun _ => ?_)
  refine lv_iload_n hx hb d_AS_newLength_19 rfl (lv_at hl 0 rfl) ?_
  exact fx_iret hx hb hr hlk hL (Nat.le_of_ble_eq_true rfl) (Nat.le_of_ble_eq_true rfl) d_AS_newLength_20 (⟨_, rfl, by omega, by omega⟩)
set_option maxHeartbeats 4000000 in
set_option maxRecDepth 100000 in
theorem ct_AR_copyOf3 (w : Wd) (a n k : Nat) (f : Nat → Option Nat) (hnk : n ≤ k) (hk : k ≤ 200) : fx_C (KT w) y_AR_copyOf3 4 (rmG 2) [.ref a, .int (nI k), .ref w.mi] (fun H => cQ w a n f H ∧ cE w n f H) (fun H o H' => ∃ q f', o = .returned (some (.ref q)) ∧ H.size ≤ q ∧ cQ w q k f' H' ∧ ∀ j, j < n → f' j = f j) (fun H q => H.size ≤ q) := by
  refine fx_of (ret := (some ((FieldType.array (FieldType.object "java/lang/Object"))))) (cc := b_AR_copyOf3) (fun s hK => hK.1 _ mk_AR_copyOf3 _) (Nat.le_of_ble_eq_true rfl) ?_
  intro p l e s m below meth c hx hfl hK hb hml hr hlk hnt hown hin hpre ls hl
  have hw : ∀ z ∈ gw, z.before ([.ref a, .int (nI k), .ref w.mi] : List Value).toArray s = true := fun z hz => hK.1 z hz _
  have hKv := hK.2.1
  have hL : ∀ q ∈ ([] : List Loc), (fun H q => H.size ≤ q) s.heap q.base := fun q hq => by cases hq
  have hl : lv_has ls 4 [(0, .ref a), (1, .int (nI k)), (2, .ref w.mi)] := hl
  refine lv_aload_n hx hb d_AR_copyOf3_0 rfl (lv_at hl 2 rfl) ?_
  refine va_ldcM hx hb hown (hw _ mc_AR_110) (kMi hK) d_AR_copyOf3_1 ?_
  refine lv_acmp_ne (rx := some w.mi) (ry := some w.mi) (tgt := 13) hx hb d_AR_copyOf3_3 rfl (fun h => absurd rfl h) (fun _ => ?_)
  refine lv_iload_n hx hb d_AR_copyOf3_6 rfl (lv_at hl 1 rfl) ?_
  refine fx_newO hx hb hown (hw _ mc_AR_2) (kAO hK) hKv 2 rfl rfl (by omega) (Nat.le_of_ble_eq_true rfl) (by show 0 + k ≤ 200; omega) d_AR_copyOf3_7 (fun q H1 hq hO hG => ?_)
  have hA : cQ w a n f H1 := hG.ex.kept hpre.1
  have hE := hpre.2.ex hG.ex
  refine lv_goto (tgt := 24) hx hb d_AR_copyOf3_10 rfl ?_
  refine lv_astore_n hx hb d_AR_copyOf3_24 rfl hl (by decide) rfl (fun ls hl => ?_)
  have hl : lv_has ls 4 [(3, .ref q), (0, .ref a), (1, .int (nI k)), (2, .ref w.mi)] := hl
  refine lv_aload_n hx hb d_AR_copyOf3_25 rfl (lv_at hl 1 rfl) ?_
  refine lv_iconst (v := nI 0) hx hb d_AR_copyOf3_26 rfl ?_
  refine lv_aload_n hx hb d_AR_copyOf3_27 rfl (lv_at hl 0 rfl) ?_
  refine lv_iconst (v := nI 0) hx hb d_AR_copyOf3_28 rfl ?_
  refine lv_aload_n hx hb d_AR_copyOf3_29 rfl (lv_at hl 1 rfl) ?_
  refine fx_alen hx hb hKv 2 hA rfl d_AR_copyOf3_30 ?_
  refine lv_iload_n hx hb d_AR_copyOf3_31 rfl (lv_at hl 2 rfl) ?_
  refine fx_cS (B := (fun H q => H.size ≤ q) s.heap) KT_moved (ct_MT_min w (nI n) (nI k)) hx hfl hK hb (by rw [hml]; exact hl.1) hown (hw _ mm_AR_304) (fx_Y.code (hw _ mk_MT_min)) (hw _ ms_MT_min) (hw _ mn_MT) (show fx_N y_MT_min 2 by decide +kernel) rfl ⟨Nat.le_of_ble_eq_true rfl, Nat.le_of_ble_eq_true rfl, by show (0 + 1) + 0 ≤ 1; omega, by show (0 + k) + 0 ≤ 200; omega⟩ (trivial) d_AR_copyOf3_32 hL (fun q h => h.elim) (fun v H2 locs hq hF hL => ?_) (fun x H2 locs hq hF hL => by cases hq)
  cases hq
  obtain rfl : H2 = H1 := hF.same (fun _ _ h => h)
  refine W.eq (g2 := F0 m 35 ls [.int (if nI k < nI n then nI k else nI n), .int (nI 0), .ref q, .int (nI 0), .ref a]) rfl ?_
  refine fx_ti (y := nI n) (if_neg (nI_nlt hnk (by omega))) ?_
  refine fx_copyO (i := 0) (j := 0) (k := n) (B := (fun H q => H.size ≤ q) s.heap) hx hb (by rw [hml]; exact hl.1) hown (hw _ mm_AR_150) (hw _ mv_SY_arraycopy) (hw _ ms_SY_arraycopy) (hw _ mn_SY) hKv 2 rfl hA hO rfl rfl rfl (by omega) (by omega) ⟨by omega, by omega⟩ (fun z hz y hy => by obtain ⟨fs, h1⟩ := hE z hz y hy; exact kAny hK h1) (Nat.le_of_ble_eq_true rfl) (by decide) hL (show s.heap.size ≤ q by omega) d_AR_copyOf3_35 (fun H3 locs hO hU hL => ?_)
  refine lv_aload_n hx hb d_AR_copyOf3_38 rfl (lv_at hl 0 rfl) ?_
  exact fx_aret hx hb hr (Or.inr ⟨_, rfl⟩) (Or.inr ⟨_, rfl⟩) hlk hL (Nat.le_of_ble_eq_true rfl) (by show 0 + k + 0 ≤ 200; omega) d_AR_copyOf3_39 (⟨q, _, rfl, by omega, hO, fun j hj => by rw [pk_cpy_in (by omega) (by omega)]; congr 1; omega⟩)
set_option maxHeartbeats 4000000 in
set_option maxRecDepth 100000 in
theorem ct_AR_copyOf2 (w : Wd) (a n k : Nat) (f : Nat → Option Nat) (hnk : n ≤ k) (hk : k ≤ 200) : fx_C (KT w) y_AR_copyOf2 2 (rmG 3) [.ref a, .int (nI k)] (fun H => cQ w a n f H ∧ cE w n f H) (fun H o H' => ∃ q f', o = .returned (some (.ref q)) ∧ H.size ≤ q ∧ cQ w q k f' H' ∧ ∀ j, j < n → f' j = f j) (fun H q => H.size ≤ q) := by
  refine fx_of (ret := (some ((FieldType.array (FieldType.object "java/lang/Object"))))) (cc := b_AR_copyOf2) (fun s hK => hK.1 _ mk_AR_copyOf2 _) (Nat.le_of_ble_eq_true rfl) ?_
  intro p l e s m below meth c hx hfl hK hb hml hr hlk hnt hown hin hpre ls hl
  have hw : ∀ z ∈ gw, z.before ([.ref a, .int (nI k)] : List Value).toArray s = true := fun z hz => hK.1 z hz _
  have hKv := hK.2.1
  have hL : ∀ q ∈ ([] : List Loc), (fun H q => H.size ≤ q) s.heap q.base := fun q hq => by cases hq
  have hl : lv_has ls 2 [(0, .ref a), (1, .int (nI k))] := hl
  refine lv_aload_n hx hb d_AR_copyOf2_0 rfl (lv_at hl 0 rfl) ?_
  refine lv_iload_n hx hb d_AR_copyOf2_1 rfl (lv_at hl 1 rfl) ?_
  refine lv_aload_n hx hb d_AR_copyOf2_2 rfl (lv_at hl 0 rfl) ?_
  refine va_getC hx hb (by rw [hml]; exact hl.1.symm) hown (hw _ mm_AR_86) (va_Nw.use rfl (kDc hK)) (hw _ mq_A_getClass) (hw _ mi_OJ_getClass) (hw _ mv_OJ_getClass) (kMi hK) ⟨_, hpre.1, rfl, va_nmO (hKv.2 2 _ rfl).2 (by decide +kernel)⟩ (Nat.le_of_ble_eq_true rfl) (Nat.le_of_ble_eq_true rfl) d_AR_copyOf2_3 ?_
  refine fx_cS (B := (fun H q => H.size ≤ q) s.heap) KT_moved (ct_AR_copyOf3 w a n k f hnk hk) hx hfl hK hb (by rw [hml]; exact hl.1) hown (hw _ mm_AR_300) (fx_Y.code (hw _ mk_AR_copyOf3)) (hw _ ms_AR_copyOf3) (hw _ mn_AR) (show fx_N y_AR_copyOf3 3 by decide +kernel) rfl ⟨Nat.le_of_ble_eq_true rfl, Nat.le_of_ble_eq_true rfl, Nat.le_of_ble_eq_true rfl, Nat.le_of_ble_eq_true rfl⟩ (hpre) d_AR_copyOf2_6 hL (fun q h => h) (fun v H1 locs hq hF hL => ?_) (fun x H1 locs hq hF hL => by obtain ⟨q, f1, hv, -⟩ := hq; cases hv)
  obtain ⟨q, f', hv, hq1, hQ, hf⟩ := hq
  cases hv
  refine W.eq (g2 := F0 m 9 ls [.ref q]) rfl ?_
  exact fx_aret hx hb hr (Or.inr ⟨_, rfl⟩) (Or.inr ⟨_, rfl⟩) hlk hL (Nat.le_of_ble_eq_true rfl) (Nat.le_of_ble_eq_true rfl) d_AR_copyOf2_9 (⟨q, f', rfl, hq1, hQ, hf⟩)
set_option maxHeartbeats 4000000 in
set_option maxRecDepth 100000 in
theorem ct_AL_growI (w : Wd) (a ar n : Nat) (mc : Int32) (f : Nat → Option Nat) (hn : n ≤ 64) (ha : w.H0.size ≤ a) : fx_C (KT w) y_AL_growI 4 (rmG 4) [.ref a, .int (nI (n + 1))] (fun H => Low w H ∧ cO w a [.int mc, .ref ar, .int (nI n)] H ∧ cR w ar n f H ∧ cE w n f H) (fun H o H' => ∃ ar' cap' f', o = .returned (some (.ref ar')) ∧ H.size ≤ ar' ∧ cQ w ar' cap' f' H' ∧ cO w a [.int mc, .ref ar', .int (nI n)] H' ∧ n < cap' ∧ cap' ≤ 200 ∧ ∀ j, j < n → f' j = f j) (fun H q => q = a ∨ H.size ≤ q) := by
  refine fx_of (ret := (some ((FieldType.array (FieldType.object "java/lang/Object"))))) (cc := b_AL_growI) (fun s hK => hK.1 _ mk_AL_growI _) (Nat.le_of_ble_eq_true rfl) ?_
  intro p l e s m below meth c hx hfl hK hb hml hr hlk hnt hown hin hpre ls hl
  have hw : ∀ z ∈ gw, z.before ([.ref a, .int (nI (n + 1))] : List Value).toArray s = true := fun z hz => hK.1 z hz _
  have hKv := hK.2.1
  have hL : ∀ q ∈ ([] : List Loc), (fun H q => q = a ∨ H.size ≤ q) s.heap q.base := fun q hq => by cases hq
  obtain ⟨hLow, hO, hR, hE⟩ := hpre
  have hla := hO.lt
  rcases hR with ⟨e1, e2⟩ | ⟨hz, hr1, hQ⟩
  have hl : lv_has ls 4 [(0, .ref a), (1, .int (nI (n + 1)))] := hl
  · subst e2
    subst e1
    refine lv_aload_n hx hb d_AL_growI_0 rfl (lv_at hl 0 rfl) ?_
    refine fx_get hx hb hown (kc_AL hK _) hKv 1 (by decide) (hw _ mf_AL_9) (fun _ h => h) hO rfl d_AL_growI_1 ?_
    refine fx_tlen hx hb (kTE hK) hLow.2 d_AL_growI_4 ?_
    refine lv_istore_n hx hb d_AL_growI_5 rfl hl (by decide) rfl (fun ls hl => ?_)
    have hl : lv_has ls 4 [(2, .int (nI 0)), (0, .ref a), (1, .int (nI (0 + 1)))] := hl
    refine lv_iload_n hx hb d_AL_growI_6 rfl (lv_at hl 0 rfl) ?_
    refine lv_if_gt (tgt := 20) hx hb d_AL_growI_7 rfl (fun h9 => absurd h9 (by decide)) (fun _ => ?_)
    refine lv_aload_n hx hb d_AL_growI_10 rfl (lv_at hl 1 rfl) ?_
    refine fx_get hx hb hown (kc_AL hK _) hKv 1 (by decide) (hw _ mf_AL_9) (fun _ h => h) hO rfl d_AL_growI_11 ?_
    refine fx_gets hx hb (kZE hK) hLow.2 hown (hw _ mf_AL_39) (fun _ h => h) d_AL_growI_14 ?_
    refine lv_acmp_eq (rx := some w.E0) (ry := some w.E0) (tgt := 45) hx hb d_AL_growI_17 rfl (fun _ => ?_) (fun h => absurd rfl h)
    refine lv_aload_n hx hb d_AL_growI_45 rfl (lv_at hl 1 rfl) ?_
    refine lv_bipush (v := nI 10) hx hb d_AL_growI_46 rfl ?_
    refine lv_iload_n hx hb d_AL_growI_48 rfl (lv_at hl 2 rfl) ?_
    refine fx_cS (B := (fun H q => q = a ∨ H.size ≤ q) s.heap) KT_moved (ct_MT_max w (nI 10) (nI (0 + 1))) hx hfl hK hb (by rw [hml]; exact hl.1) hown (hw _ mm_AL_79) (fx_Y.code (hw _ mk_MT_max)) (hw _ ms_MT_max) (hw _ mn_MT) (show fx_N y_MT_max 2 by decide +kernel) rfl ⟨Nat.le_of_ble_eq_true rfl, Nat.le_of_ble_eq_true rfl, Nat.le_of_ble_eq_true rfl, Nat.le_of_ble_eq_true rfl⟩ (trivial) d_AL_growI_49 hL (fun q h => h.elim) (fun v H1 locs hq hF hL => ?_) (fun x H1 locs hq hF hL => by cases hq)
    cases hq
    obtain rfl : H1 = s.heap := hF.same (fun _ _ h => h)
    refine W.eq (g2 := F0 m 52 ls [.int (if nI 10 < nI (0 + 1) then nI (0 + 1) else nI 10), .ref a]) rfl ?_
    refine fx_ti (y := nI 10) (by decide) ?_
    refine fx_newO hx hb hown (hw _ mc_AL_7) (kAO hK) hKv 2 rfl rfl (by decide) (Nat.le_of_ble_eq_true rfl) (Nat.le_of_ble_eq_true rfl) d_AL_growI_52 (fun q H1 hq hQ hG => ?_)
    have hO := hG.ex.kept hO
    refine lv_dup_x1 hx hb d_AL_growI_55 rfl rfl ?_
    refine fx_put (B := (fun H q => q = a ∨ H.size ≤ q) s.heap) hx hb hown (kc_AL hK _) hKv 1 (by decide) (hw _ mf_AL_9) (fun _ h => h) rfl hO (by simp) rfl rfl hL (Or.inl rfl) d_AL_growI_56 (fun H2 locs hO hU hL => ?_)
    exact fx_aret hx hb hr (Or.inr ⟨_, rfl⟩) (Or.inr ⟨_, rfl⟩) hlk hL (Nat.le_of_ble_eq_true rfl) (Nat.le_of_ble_eq_true rfl) d_AL_growI_59 (⟨q, 10, _, rfl, by omega, hU.kept hQ (by show q ≠ a; omega), hO, by decide, by decide, fun j hj => absurd hj (Nat.not_lt_zero _)⟩)
  · refine lv_aload_n hx hb d_AL_growI_0 rfl (lv_at hl 0 rfl) ?_
    refine fx_get hx hb hown (kc_AL hK _) hKv 1 (by decide) (hw _ mf_AL_9) (fun _ h => h) hO rfl d_AL_growI_1 ?_
    refine fx_alen hx hb hKv 2 hQ rfl d_AL_growI_4 ?_
    refine lv_istore_n hx hb d_AL_growI_5 rfl hl (by decide) rfl (fun ls hl => ?_)
    have hl : lv_has ls 4 [(2, .int (nI n)), (0, .ref a), (1, .int (nI (n + 1)))] := hl
    refine lv_iload_n hx hb d_AL_growI_6 rfl (lv_at hl 0 rfl) ?_
    refine lv_if_gt (tgt := 20) hx hb d_AL_growI_7 rfl (fun _ => ?_) (fun h9 => absurd (nI_lt (a := 0) (by omega) (by omega)) h9)
    refine lv_iload_n hx hb d_AL_growI_20 rfl (lv_at hl 0 rfl) ?_
    refine lv_iload_n hx hb d_AL_growI_21 rfl (lv_at hl 2 rfl) ?_
    refine lv_iload_n hx hb d_AL_growI_22 rfl (lv_at hl 0 rfl) ?_
    refine lv_isub hx hb d_AL_growI_23 ?_
    refine fx_ti (y := nI 1) (by rw [pk_sub (by omega)]; congr 1; omega) ?_
    refine lv_iload_n hx hb d_AL_growI_24 rfl (lv_at hl 0 rfl) ?_
    refine lv_iconst (v := nI 1) hx hb d_AL_growI_25 rfl ?_
    refine lv_ishr hx hb d_AL_growI_26 ?_
    refine fx_ti (y := nI (n / 2)) (pk_shrN (by omega) _ 1 (by decide)) ?_
    refine fx_cS (B := (fun H q => q = a ∨ H.size ≤ q) s.heap) KT_moved (ct_AS_newLength w n (by omega)) hx hfl hK hb (by rw [hml]; exact hl.1) hown (hw _ mm_AL_73) (fx_Y.code (hw _ mk_AS_newLength)) (hw _ ms_AS_newLength) (hw _ mn_AS) (show fx_N y_AS_newLength 3 by decide +kernel) rfl ⟨Nat.le_of_ble_eq_true rfl, Nat.le_of_ble_eq_true rfl, Nat.le_of_ble_eq_true rfl, Nat.le_of_ble_eq_true rfl⟩ (trivial) d_AL_growI_27 hL (fun q h => h.elim) (fun v H1 locs hq hF hL => ?_) (fun x H1 locs hq hF hL => by obtain ⟨k, hv, -⟩ := hq; cases hv)
    obtain ⟨k, hv, hk1, hk2⟩ := hq
    cases hv
    obtain rfl : H1 = s.heap := hF.same (fun _ _ h => h)
    refine W.eq (g2 := F0 m 30 ls [.int (nI k)]) rfl ?_
    refine lv_istore_n hx hb d_AL_growI_30 rfl hl (by decide) rfl (fun ls hl => ?_)
    have hl : lv_has ls 4 [(3, .int (nI k)), (2, .int (nI n)), (0, .ref a), (1, .int (nI (n + 1)))] := hl
    refine lv_aload_n hx hb d_AL_growI_31 rfl (lv_at hl 2 rfl) ?_
    refine lv_aload_n hx hb d_AL_growI_32 rfl (lv_at hl 2 rfl) ?_
    refine fx_get hx hb hown (kc_AL hK _) hKv 1 (by decide) (hw _ mf_AL_9) (fun _ h => h) hO rfl d_AL_growI_33 ?_
    refine lv_iload_n hx hb d_AL_growI_36 rfl (lv_at hl 0 rfl) ?_
    refine fx_cS (B := (fun H q => q = a ∨ H.size ≤ q) s.heap) KT_moved (ct_AR_copyOf2 w ar n k f (by omega) (by omega)) hx hfl hK hb (by rw [hml]; exact hl.1) hown (hw _ mm_AL_66) (fx_Y.code (hw _ mk_AR_copyOf2)) (hw _ ms_AR_copyOf2) (hw _ mn_AR) (show fx_N y_AR_copyOf2 2 by decide +kernel) rfl ⟨Nat.le_of_ble_eq_true rfl, Nat.le_of_ble_eq_true rfl, Nat.le_of_ble_eq_true rfl, Nat.le_of_ble_eq_true rfl⟩ (⟨hQ, hE⟩) d_AL_growI_37 hL (fun q h => Or.inr h) (fun v H1 locs hq hF hL => ?_) (fun x H1 locs hq hF hL => by obtain ⟨q, f1, hv, -⟩ := hq; cases hv)
    obtain ⟨q, f', hv, hq1, hQ1, hf⟩ := hq
    cases hv
    have hx1 : fx_Ex s.heap H1 := hF.ex (fun q h => Nat.not_le.mpr h)
    have hO := hx1.kept hO
    refine W.eq (g2 := F0 m 40 ls [.ref q, .ref a]) rfl ?_
    refine lv_dup_x1 hx hb d_AL_growI_40 rfl rfl ?_
    refine fx_put (B := (fun H q => q = a ∨ H.size ≤ q) s.heap) hx hb hown (kc_AL hK _) hKv 1 (by decide) (hw _ mf_AL_9) (fun _ h => h) rfl hO (by simp) rfl rfl hL (Or.inl rfl) d_AL_growI_41 (fun H2 locs hO hU hL => ?_)
    exact fx_aret hx hb hr (Or.inr ⟨_, rfl⟩) (Or.inr ⟨_, rfl⟩) hlk hL (Nat.le_of_ble_eq_true rfl) (Nat.le_of_ble_eq_true rfl) d_AL_growI_44 (⟨q, k, f', rfl, hq1, hU.kept hQ1 (Nat.ne_of_gt (Nat.lt_of_lt_of_le hla hq1)), hO, by omega, by omega, hf⟩)
set_option maxHeartbeats 4000000 in
set_option maxRecDepth 100000 in
theorem ct_AL_grow (w : Wd) (a ar n : Nat) (mc : Int32) (f : Nat → Option Nat) (hn : n ≤ 64) (ha : w.H0.size ≤ a) : fx_C (KT w) y_AL_grow 1 (rmG 5) [.ref a] (fun H => Low w H ∧ cO w a [.int mc, .ref ar, .int (nI n)] H ∧ cR w ar n f H ∧ cE w n f H) (fun H o H' => ∃ ar' cap' f', o = .returned (some (.ref ar')) ∧ H.size ≤ ar' ∧ cQ w ar' cap' f' H' ∧ cO w a [.int mc, .ref ar', .int (nI n)] H' ∧ n < cap' ∧ cap' ≤ 200 ∧ ∀ j, j < n → f' j = f j) (fun H q => q = a ∨ H.size ≤ q) := by
  refine fx_of (ret := (some ((FieldType.array (FieldType.object "java/lang/Object"))))) (cc := b_AL_grow) (fun s hK => hK.1 _ mk_AL_grow _) (Nat.le_of_ble_eq_true rfl) ?_
  intro p l e s m below meth c hx hfl hK hb hml hr hlk hnt hown hin hpre ls hl
  have hw : ∀ z ∈ gw, z.before ([.ref a] : List Value).toArray s = true := fun z hz => hK.1 z hz _
  have hKv := hK.2.1
  have hL : ∀ q ∈ ([] : List Loc), (fun H q => q = a ∨ H.size ≤ q) s.heap q.base := fun q hq => by cases hq
  have hl : lv_has ls 1 [(0, .ref a)] := hl
  refine lv_aload_n hx hb d_AL_grow_0 rfl (lv_at hl 0 rfl) ?_
  refine lv_aload_n hx hb d_AL_grow_1 rfl (lv_at hl 0 rfl) ?_
  refine fx_get hx hb hown (kc_AL hK _) hKv 2 (by decide) (hw _ mf_AL_48) (fun _ h => h) hpre.2.1 rfl d_AL_grow_2 ?_
  refine lv_iconst (v := nI 1) hx hb d_AL_grow_5 rfl ?_
  refine lv_iadd hx hb d_AL_grow_6 ?_
  refine fx_ti (y := nI (n + 1)) (nI_add n 1) ?_
  refine fx_cV (B := (fun H q => q = a ∨ H.size ≤ q) s.heap) KT_moved (ct_AL_growI w a ar n mc f hn ha) hx hfl hK hb (by rw [hml]; exact hl.1) hown (hw _ mm_AL_69) (fx_Y.code (hw _ mk_AL_growI)) (hw _ mi_AL_growI) (hw _ mq_AL_growI) (show fx_N y_AL_growI 1 by decide +kernel) (va_recv (q0 := 0) hKv (fx_one hpre.2.1) (show cls[3]? = some (R_AL, T_AL, 3) from rfl) rfl) rfl ⟨Nat.le_of_ble_eq_true rfl, Nat.le_of_ble_eq_true rfl, Nat.le_of_ble_eq_true rfl, Nat.le_of_ble_eq_true rfl⟩ (hpre) d_AL_grow_7 hL (fun q h => h) (fun v H1 locs hq hF hL => ?_) (fun x H1 locs hq hF hL => by obtain ⟨q, k, f1, hv, -⟩ := hq; cases hv)
  obtain ⟨ar', cap', f', hv, hq⟩ := hq
  cases hv
  refine W.eq (g2 := F0 m 10 ls [.ref ar']) rfl ?_
  exact fx_aret hx hb hr (Or.inr ⟨_, rfl⟩) (Or.inr ⟨_, rfl⟩) hlk hL (Nat.le_of_ble_eq_true rfl) (Nat.le_of_ble_eq_true rfl) d_AL_grow_10 (⟨ar', cap', f', rfl, hq⟩)
set_option maxHeartbeats 4000000 in
set_option maxRecDepth 100000 in
theorem ct_AL_add3 (w : Wd) (a b ar n cap : Nat) (mc : Int32) (f : Nat → Option Nat) (fb : List Value) (hn : n ≤ 63) (hnc : n ≤ cap) (hcap : cap ≤ 200) (ha : w.H0.size ≤ a) (hne : a ≠ ar) (hba : b ≠ a) (hEa : ∀ z, z < n → ∀ y : Nat, f z = some y → y ≠ a) : fx_C (KT w) y_AL_add3 4 (rmG 6) [.ref a, .ref b, .ref ar, .int (nI n)] (fun H => Low w H ∧ cO w a [.int mc, .ref ar, .int (nI n)] H ∧ cR w ar cap f H ∧ cE w n f H ∧ va_at w.D cls (b, .inr (1, fb)) H) (fun H o H' => ∃ ar' cap' f', o = .returned none ∧ cO w a [.int mc, .ref ar', .int (nI (n + 1))] H' ∧ cQ w ar' cap' f' H' ∧ n < cap' ∧ cap' ≤ 200 ∧ w.H0.size ≤ ar' ∧ (ar' = ar ∨ H.size ≤ ar') ∧ a ≠ ar' ∧ f' n = some b ∧ ∀ j, j < n → f' j = f j) (fun H q => q = a ∨ (q = ar ∧ w.H0.size ≤ ar) ∨ H.size ≤ q) := by
  refine fx_of (ret := none) (cc := b_AL_add3) (fun s hK => hK.1 _ mk_AL_add3 _) (Nat.le_of_ble_eq_true rfl) ?_
  intro p l e s m below meth c hx hfl hK hb hml hr hlk hnt hown hin hpre ls hl
  have hw : ∀ z ∈ gw, z.before ([.ref a, .ref b, .ref ar, .int (nI n)] : List Value).toArray s = true := fun z hz => hK.1 z hz _
  have hKv := hK.2.1
  have hL : ∀ q ∈ ([] : List Loc), (fun H q => q = a ∨ (q = ar ∧ w.H0.size ≤ ar) ∨ H.size ≤ q) s.heap q.base := fun q hq => by cases hq
  obtain ⟨hLow, hO, hR, hE, hB⟩ := hpre
  have hla := hO.lt
  have hl : lv_has ls 4 [(0, .ref a), (1, .ref b), (2, .ref ar), (3, .int (nI n))] := hl
  refine lv_iload_n hx hb d_AL_add3_0 rfl (lv_at hl 3 rfl) ?_
  refine lv_aload_n hx hb d_AL_add3_1 rfl (lv_at hl 2 rfl) ?_
  refine fx_rlen hx hb hK hLow hR d_AL_add3_2 ?_
  refine lv_icmp_ne (tgt := 11) hx hb d_AL_add3_3 rfl (fun h3 => ?_) (fun h3 => ?_)
  · have hlt : n < cap := by have : ¬ n = cap := fun z => h3 (by rw [z]); omega
    obtain ⟨hr1, hQ⟩ : w.H0.size ≤ ar ∧ cQ w ar cap f s.heap := by rcases hR with ⟨-, e2⟩ | ⟨-, h1, h2⟩; exact absurd e2 (by omega); exact ⟨h1, h2⟩
    have hin1 : (fun H q => q = a ∨ (q = ar ∧ w.H0.size ≤ ar) ∨ H.size ≤ q) s.heap ar := Or.inr (Or.inl ⟨rfl, hr1⟩)
    have hna := hne
    have hor : ar = ar ∨ s.heap.size ≤ ar := Or.inl rfl
    refine lv_aload_n hx hb d_AL_add3_11 rfl (lv_at hl 2 rfl) ?_
    refine lv_iload_n hx hb d_AL_add3_12 rfl (lv_at hl 3 rfl) ?_
    refine lv_aload_n hx hb d_AL_add3_13 rfl (lv_at hl 1 rfl) ?_
    refine fx_aast (B := (fun H q => q = a ∨ (q = ar ∧ w.H0.size ≤ ar) ∨ H.size ≤ q) s.heap) hx hb hKv 2 hQ rfl (kAny hK hB) rfl (show n < cap by omega) (by omega) hL hin1 d_AL_add3_14 (fun H2 locs hQ hU hL => ?_)
    have hO := hU.kept hO (hna)
    refine lv_aload_n hx hb d_AL_add3_15 rfl (lv_at hl 0 rfl) ?_
    refine lv_iload_n hx hb d_AL_add3_16 rfl (lv_at hl 3 rfl) ?_
    refine lv_iconst (v := nI 1) hx hb d_AL_add3_17 rfl ?_
    refine lv_iadd hx hb d_AL_add3_18 ?_
    refine fx_ti (y := nI (n + 1)) (nI_add n 1) ?_
    refine fx_put (B := (fun H q => q = a ∨ (q = ar ∧ w.H0.size ≤ ar) ∨ H.size ≤ q) s.heap) hx hb hown (kc_AL hK _) hKv 2 (by decide) (hw _ mf_AL_48) (fun _ h => h) rfl hO (by simp) rfl rfl hL (Or.inl rfl) d_AL_add3_19 (fun H3 locs hO hU2 hL => ?_)
    exact fx_vret hx hb hr hlk hL (Nat.le_of_ble_eq_true rfl) (Nat.le_of_ble_eq_true rfl) d_AL_add3_22 (⟨ar, cap, _, rfl, hO, hU2.kept hQ (Ne.symm hna), by omega, by omega, by omega, hor, hna, if_pos rfl, fun j hj => (if_neg (by omega)).trans (rfl)⟩)
  · have hnc : n = cap := (nI_eq (by omega) (by omega)).mp h3
    rw [← hnc] at hR
    refine lv_aload_n hx hb d_AL_add3_6 rfl (lv_at hl 0 rfl) ?_
    refine fx_cV (B := (fun H q => q = a ∨ (q = ar ∧ w.H0.size ≤ ar) ∨ H.size ≤ q) s.heap) KT_moved (ct_AL_grow w a ar n mc f (by omega) ha) hx hfl hK hb (by rw [hml]; exact hl.1) hown (hw _ mm_AL_129) (fx_Y.code (hw _ mk_AL_grow)) (hw _ mi_AL_grow) (hw _ mq_AL_grow) (show fx_N y_AL_grow 0 by decide +kernel) (va_recv (q0 := 0) hKv (fx_one hO) (show cls[3]? = some (R_AL, T_AL, 3) from rfl) rfl) rfl ⟨Nat.le_of_ble_eq_true rfl, Nat.le_of_ble_eq_true rfl, Nat.le_of_ble_eq_true rfl, Nat.le_of_ble_eq_true rfl⟩ (⟨hLow, hO, hR, hE⟩) d_AL_add3_7 hL (fun q h => h.elim Or.inl (fun h => Or.inr (Or.inr h))) (fun v H1 locs hq hF hL => ?_) (fun x H1 locs hq hF hL => by obtain ⟨q, k, f1, hv, -⟩ := hq; cases hv)
    obtain ⟨ar', cap', f', hv, hq1, hQ, hO, hc1, hc2, hf⟩ := hq
    cases hv
    have hLs := hLow.1
    have hor : ar' = ar ∨ s.heap.size ≤ ar' := Or.inr hq1
    have hna : a ≠ ar' := Nat.ne_of_lt (Nat.lt_of_lt_of_le hla hq1)
    have hin1 : (fun H q => q = a ∨ (q = ar ∧ w.H0.size ≤ ar) ∨ H.size ≤ q) s.heap ar' := Or.inr (Or.inr hq1)
    have hB := hB.kept (hF.2.2 b hB.lt (fun z => z.elim hba (fun z => absurd hB.lt (Nat.not_lt.mpr z))))
    refine W.eq (g2 := F0 m 10 ls [(.ref ar')]) rfl ?_
    refine lv_astore_n hx hb d_AL_add3_10 rfl hl (by decide) rfl (fun ls hl => ?_)
    have hl : lv_has ls 4 [(2, (.ref ar')), (0, .ref a), (1, .ref b), (3, .int (nI n))] := hl
    refine lv_aload_n hx hb d_AL_add3_11 rfl (lv_at hl 0 rfl) ?_
    refine lv_iload_n hx hb d_AL_add3_12 rfl (lv_at hl 3 rfl) ?_
    refine lv_aload_n hx hb d_AL_add3_13 rfl (lv_at hl 2 rfl) ?_
    refine fx_aast (B := (fun H q => q = a ∨ (q = ar ∧ w.H0.size ≤ ar) ∨ H.size ≤ q) s.heap) hx hb hKv 2 hQ rfl (kAny hK hB) rfl (show n < cap' by omega) (by omega) hL hin1 d_AL_add3_14 (fun H2 locs hQ hU hL => ?_)
    have hO := hU.kept hO (hna)
    refine lv_aload_n hx hb d_AL_add3_15 rfl (lv_at hl 1 rfl) ?_
    refine lv_iload_n hx hb d_AL_add3_16 rfl (lv_at hl 3 rfl) ?_
    refine lv_iconst (v := nI 1) hx hb d_AL_add3_17 rfl ?_
    refine lv_iadd hx hb d_AL_add3_18 ?_
    refine fx_ti (y := nI (n + 1)) (nI_add n 1) ?_
    refine fx_put (B := (fun H q => q = a ∨ (q = ar ∧ w.H0.size ≤ ar) ∨ H.size ≤ q) s.heap) hx hb hown (kc_AL hK _) hKv 2 (by decide) (hw _ mf_AL_48) (fun _ h => h) rfl hO (by simp) rfl rfl hL (Or.inl rfl) d_AL_add3_19 (fun H3 locs hO hU2 hL => ?_)
    exact fx_vret hx hb hr hlk hL (Nat.le_of_ble_eq_true rfl) (Nat.le_of_ble_eq_true rfl) d_AL_add3_22 (⟨ar', cap', _, rfl, hO, hU2.kept hQ (Ne.symm hna), by omega, by omega, by omega, hor, hna, if_pos rfl, fun j hj => (if_neg (by omega)).trans (hf j hj)⟩)
set_option maxHeartbeats 4000000 in
set_option maxRecDepth 100000 in
theorem ct_AL_add (w : Wd) (a b ar n cap : Nat) (mc : Int32) (f : Nat → Option Nat) (fb : List Value) (hn : n ≤ 63) (hnc : n ≤ cap) (hcap : cap ≤ 200) (ha : w.H0.size ≤ a) (hne : a ≠ ar) (hba : b ≠ a) (hEa : ∀ z, z < n → ∀ y : Nat, f z = some y → y ≠ a) : fx_C (KT w) y_AL_add 2 (rmG 7) [.ref a, .ref b] (fun H => Low w H ∧ cO w a [.int mc, .ref ar, .int (nI n)] H ∧ cR w ar cap f H ∧ cE w n f H ∧ va_at w.D cls (b, .inr (1, fb)) H) (fun H o H' => ∃ ar' cap' f', o = .returned (some (.int 1)) ∧ cO w a [.int (mc + nI 1), .ref ar', .int (nI (n + 1))] H' ∧ cQ w ar' cap' f' H' ∧ n < cap' ∧ cap' ≤ 200 ∧ w.H0.size ≤ ar' ∧ (ar' = ar ∨ H.size ≤ ar') ∧ a ≠ ar' ∧ f' n = some b ∧ ∀ j, j < n → f' j = f j) (fun H q => q = a ∨ (q = ar ∧ w.H0.size ≤ ar) ∨ H.size ≤ q) := by
  refine fx_of (ret := (some (FieldType.boolean))) (cc := b_AL_add) (fun s hK => hK.1 _ mk_AL_add _) (Nat.le_of_ble_eq_true rfl) ?_
  intro p l e s m below meth c hx hfl hK hb hml hr hlk hnt hown hin hpre ls hl
  have hw : ∀ z ∈ gw, z.before ([.ref a, .ref b] : List Value).toArray s = true := fun z hz => hK.1 z hz _
  have hKv := hK.2.1
  have hL : ∀ q ∈ ([] : List Loc), (fun H q => q = a ∨ (q = ar ∧ w.H0.size ≤ ar) ∨ H.size ≤ q) s.heap q.base := fun q hq => by cases hq
  obtain ⟨hLow, hO, hR, hE, hB⟩ := hpre
  have hla := hO.lt
  have hLs := hLow.1
  have hl : lv_has ls 2 [(0, .ref a), (1, .ref b)] := hl
  refine lv_aload_n hx hb d_AL_add_0 rfl (lv_at hl 0 rfl) ?_
  refine lv_dup hx hb d_AL_add_1 rfl ?_
  refine fx_get hx hb hown (kc_AL hK _) hKv 0 (by decide) (hw _ mf_AL_63) (u_same (hw _ me_modCount)) hO rfl d_AL_add_2 ?_
  refine lv_iconst (v := nI 1) hx hb d_AL_add_5 rfl ?_
  refine lv_iadd hx hb d_AL_add_6 ?_
  refine fx_put (B := (fun H q => q = a ∨ (q = ar ∧ w.H0.size ≤ ar) ∨ H.size ≤ q) s.heap) hx hb hown (kc_AL hK _) hKv 0 (by decide) (hw _ mf_AL_63) (u_same (hw _ me_modCount)) rfl hO (by simp) rfl rfl hL (Or.inl rfl) d_AL_add_7 (fun H1 locs hO hU hL => ?_)
  have hLow := hLow.U hU ha
  have hR : cR w ar cap f H1 := hR.imp id (fun z => ⟨z.1, z.2.1, hU.kept z.2.2 (Ne.symm hne)⟩)
  have hE : cE w n f H1 := fun z hz y hy => by obtain ⟨fs, h1⟩ := hE z hz y hy; exact ⟨fs, hU.kept h1 (hEa z hz y hy)⟩
  have hB := hU.kept hB hba
  refine lv_aload_n hx hb d_AL_add_10 rfl (lv_at hl 0 rfl) ?_
  refine lv_aload_n hx hb d_AL_add_11 rfl (lv_at hl 1 rfl) ?_
  refine lv_aload_n hx hb d_AL_add_12 rfl (lv_at hl 0 rfl) ?_
  refine fx_get hx hb hown (kc_AL hK _) hKv 1 (by decide) (hw _ mf_AL_9) (fun _ h => h) hO rfl d_AL_add_13 ?_
  refine lv_aload_n hx hb d_AL_add_16 rfl (lv_at hl 0 rfl) ?_
  refine fx_get hx hb hown (kc_AL hK _) hKv 2 (by decide) (hw _ mf_AL_48) (fun _ h => h) hO rfl d_AL_add_17 ?_
  refine fx_cV (B := (fun H q => q = a ∨ (q = ar ∧ w.H0.size ≤ ar) ∨ H.size ≤ q) s.heap) KT_moved (ct_AL_add3 w a b ar n cap (mc + nI 1) f fb hn hnc hcap ha hne hba hEa) hx hfl hK hb (by rw [hml]; exact hl.1) hown (hw _ mm_AL_131) (fx_Y.code (hw _ mk_AL_add3)) (hw _ mi_AL_add3) (hw _ mq_AL_add3) (show fx_N y_AL_add3 3 by decide +kernel) (va_recv (q0 := 0) hKv (fx_one hO) (show cls[3]? = some (R_AL, T_AL, 3) from rfl) rfl) rfl ⟨Nat.le_of_ble_eq_true rfl, Nat.le_of_ble_eq_true rfl, Nat.le_of_ble_eq_true rfl, Nat.le_of_ble_eq_true rfl⟩ (⟨hLow, hO, hR, hE, hB⟩) d_AL_add_20 hL (fun q h => h.elim Or.inl (fun h => h.elim (fun h => Or.inr (Or.inl h)) (fun h => Or.inr (Or.inr (by rw [hU.1] at h; exact h))))) (fun v H2 locs hq hF hL => ?_) (fun x H2 locs hq hF hL => by obtain ⟨q, k, f1, hv, -⟩ := hq; cases hv)
  obtain ⟨ar', cap', f', hv, hO, hQ, h1, h2, h3, h4, h5, h6, h7⟩ := hq
  cases hv
  refine W.eq (g2 := F0 m 23 ls []) rfl ?_
  refine lv_iconst (v := nI 1) hx hb d_AL_add_23 rfl ?_
  exact fx_zret hx hb hr (by decide) hlk hL (Nat.le_of_ble_eq_true rfl) (Nat.le_of_ble_eq_true rfl) d_AL_add_24 (⟨ar', cap', f', rfl, hO, hQ, h1, h2, h3, by rw [hU.1] at h4; exact h4, h5, h6, h7⟩)
end
section
/-! Arrays.copyOf, copyOfRange of ints; Integer.bitCount. -/
abbrev cA (w : Wd) (a : Nat) (xs : List Int32) (H : Heap) : Prop := fx_A w.D cls w.I a xs H
abbrev cF (w : Wd) (a n : Nat) (f : Nat → Int32) (H : Heap) : Prop := va_at w.D cls (a, .inl (w.I, n, .inl f)) H
def bcount (x0 : Int32) : Int32 :=
  let u := fun (x k : Int32) => (x.toUInt32 >>> (k.toUInt32 &&& Int32.toUInt32 31)).toInt32
  let x1 := x0 - (u x0 (nI 1) &&& 1431655765)
  let x2 := (x1 &&& 858993459) + (u x1 (nI 2) &&& 858993459)
  let x3 := (x2 + u x2 (nI 4)) &&& 252645135
  let x4 := x3 + u x3 (nI 8)
  let x5 := x4 + u x4 (nI 16)
  x5 &&& nI 63
theorem bcount_ok : ∀ n, n < 101 → bcount (nI n) = nI (sv_bit n) := by decide +kernel
set_option maxHeartbeats 4000000 in
set_option maxRecDepth 100000 in
theorem ct_AR_copyOfI (w : Wd) (a k : Nat) (xs : List Int32) (hz : xs.length + k ≤ 100) : fx_C (KT w) y_AR_copyOfI 3 (rmG 2) [.ref a, .int (nI (xs.length + k))] (fun H => cA w a xs H) (fun H o H' => ∃ q g, o = .returned (some (.ref q)) ∧ H.size ≤ q ∧ cF w q (xs.length + k) g H' ∧ ∀ j, j < xs.length → g j = xs.getD j 0) (fun H q => H.size ≤ q) := by
  refine fx_of (ret := (some ((FieldType.array FieldType.int)))) (cc := b_AR_copyOfI) (fun s hK => hK.1 _ mk_AR_copyOfI _) (Nat.le_of_ble_eq_true rfl) ?_
  intro p l e s m below meth c hx hfl hK hb hml hr hlk hnt hown hin hpre ls hl
  have hw : ∀ z ∈ gw, z.before ([.ref a, .int (nI (xs.length + k))] : List Value).toArray s = true := fun z hz => hK.1 z hz _
  have hKv := hK.2.1
  have hL : ∀ q ∈ ([] : List Loc), (fun H q => H.size ≤ q) s.heap q.base := fun q hq => by cases hq
  have hl : lv_has ls 3 [(0, .ref a), (1, .int (nI (xs.length + k)))] := hl
  refine lv_iload_n hx hb d_AR_copyOfI_0 rfl (lv_at hl 1 rfl) ?_
  refine lv_aload_n hx hb d_AR_copyOfI_1 rfl (lv_at hl 0 rfl) ?_
  refine fx_alen hx hb hKv 0 hpre rfl d_AR_copyOfI_2 ?_
  refine lv_icmp_ne (tgt := 14) hx hb d_AR_copyOfI_3 rfl (fun h3 => ?_) (fun h3 => ?_)
  · refine lv_iload_n hx hb d_AR_copyOfI_14 rfl (lv_at hl 1 rfl) ?_
    refine fx_newI hx hb hKv 0 rfl (hw _ ma_int) rfl (show xs.length + k ≤ 100000 by omega) (Nat.le_of_ble_eq_true rfl) (by show 0 + (xs.length + k) ≤ 200; omega) d_AR_copyOfI_15 (fun q H1 hq hO hG => ?_)
    have hA := hG.ex.kept hpre
    refine lv_astore_n hx hb d_AR_copyOfI_17 rfl hl (by decide) rfl (fun ls hl => ?_)
    have hl : lv_has ls 3 [(2, .ref q), (0, .ref a), (1, .int (nI (xs.length + k)))] := hl
    refine lv_aload_n hx hb d_AR_copyOfI_18 rfl (lv_at hl 1 rfl) ?_
    refine lv_iconst (v := nI 0) hx hb d_AR_copyOfI_19 rfl ?_
    refine lv_aload_n hx hb d_AR_copyOfI_20 rfl (lv_at hl 0 rfl) ?_
    refine lv_iconst (v := nI 0) hx hb d_AR_copyOfI_21 rfl ?_
    refine lv_aload_n hx hb d_AR_copyOfI_22 rfl (lv_at hl 1 rfl) ?_
    refine fx_alen hx hb hKv 0 hA rfl d_AR_copyOfI_23 ?_
    refine lv_iload_n hx hb d_AR_copyOfI_24 rfl (lv_at hl 2 rfl) ?_
    refine fx_cS (B := (fun H q => H.size ≤ q) s.heap) KT_moved (ct_MT_min w (nI xs.length) (nI (xs.length + k))) hx hfl hK hb (by rw [hml]; exact hl.1) hown (hw _ mm_AR_304) (fx_Y.code (hw _ mk_MT_min)) (hw _ ms_MT_min) (hw _ mn_MT) (show fx_N y_MT_min 2 by decide +kernel) rfl ⟨Nat.le_of_ble_eq_true rfl, Nat.le_of_ble_eq_true rfl, by show (0 + 1) + 0 ≤ 1; omega, by show (0 + (xs.length + k)) + 0 ≤ 200; omega⟩ (trivial) d_AR_copyOfI_25 hL (fun q h => h.elim) (fun v H2 locs hq hF hL => ?_) (fun x H2 locs hq hF hL => by cases hq)
    cases hq
    obtain rfl : H2 = H1 := hF.same (fun _ _ h => h)
    refine W.eq (g2 := F0 m 28 ls [.int (if nI (xs.length + k) < nI xs.length then nI (xs.length + k) else nI xs.length), .int (nI 0), .ref q, .int (nI 0), .ref a]) rfl ?_
    refine fx_ti (y := nI xs.length) (if_neg (nI_nlt (by omega) (by omega))) ?_
    refine fx_copyI (i := 0) (j := 0) (k := xs.length) (B := (fun H q => H.size ≤ q) s.heap) hx hb (by rw [hml]; exact hl.1) hown (hw _ mm_AR_150) (hw _ mv_SY_arraycopy) (hw _ ms_SY_arraycopy) (hw _ mn_SY) hKv 0 rfl hA hO (rfl) (rfl) (rfl) (by omega) (by omega) ⟨by omega, by omega⟩ (Nat.le_of_ble_eq_true rfl) (Nat.le_of_ble_eq_true rfl) hL (show s.heap.size ≤ q by omega) d_AR_copyOfI_28 (fun H3 locs hO hU hL => ?_)
    refine lv_aload_n hx hb d_AR_copyOfI_31 rfl (lv_at hl 0 rfl) ?_
    exact fx_aret hx hb hr (Or.inr ⟨_, rfl⟩) (Or.inr ⟨_, rfl⟩) hlk hL (Nat.le_of_ble_eq_true rfl) (by show 0 + (xs.length + k) + 0 ≤ 200; omega) d_AR_copyOfI_32 (⟨q, _, rfl, by omega, hO, fun j hj => by rw [pk_cpy_in (by omega) (by omega)]; congr 1; omega⟩)
  · have hk0 : k = 0 := by have := (nI_eq (by omega) (by omega)).mp h3; omega
    subst hk0
    refine lv_aload_n hx hb d_AR_copyOfI_6 rfl (lv_at hl 0 rfl) ?_
    refine fx_clone hx hb (by rw [hml]; exact hl.1) hown (hw _ mm_AR_316) (hw _ mo_A_clone) (hw _ mv_OJ_clone) (hw _ mi_OJ_clone) (hw _ mq_OJ_clone_y) (hK.2.2.2.2.1.1 ("[I", "java/lang/Cloneable") (by decide)) hKv 0 hpre rfl (Nat.le_of_ble_eq_true rfl) (Nat.le_of_ble_eq_true rfl) (Nat.le_of_ble_eq_true rfl) (by show 0 + xs.length ≤ 200; omega) d_AR_copyOfI_7 (fun q H1 hq hO hG => ?_)
    refine va_castA hx hb hown (hw _ mc_AR_317) (fx_one hO) 0 rfl (hKv.2 0 _ rfl).2 d_AR_copyOfI_10 ?_
    exact fx_aret hx hb hr (Or.inr ⟨_, rfl⟩) (Or.inr ⟨_, rfl⟩) hlk hL (Nat.le_of_ble_eq_true rfl) (by show 0 + xs.length ≤ 200; omega) d_AR_copyOfI_13 (⟨q, _, rfl, by omega, hO, fun j hj => rfl⟩)
set_option maxHeartbeats 4000000 in
set_option maxRecDepth 100000 in
theorem ct_AR_checkLength (w : Wd) (i n : Nat) (hi : i ≤ n) (hn : n ≤ 100) : fx_C (KT w) y_AR_checkLength 2 (rmK 1) [.int (nI i), .int (nI n)] (fun _ => True) (fun _ o _ => o = .returned none) (fun _ _ => False) := by
  refine fx_of (ret := none) (cc := b_AR_checkLength) (fun s hK => hK.1 _ mk_AR_checkLength _) (Nat.le_of_ble_eq_true rfl) ?_
  intro p l e s m below meth c hx hfl hK hb hml hr hlk hnt hown hin hpre ls hl
  have hw : ∀ z ∈ gw, z.before ([.int (nI i), .int (nI n)] : List Value).toArray s = true := fun z hz => hK.1 z hz _
  have hKv := hK.2.1
  have hL : ∀ q ∈ ([] : List Loc), (fun _ _ => False) s.heap q.base := fun q hq => by cases hq
  have hl : lv_has ls 2 [(0, .int (nI i)), (1, .int (nI n))] := hl
  refine lv_iload_n hx hb d_AR_checkLength_0 rfl (lv_at hl 1 rfl) ?_
  refine lv_iload_n hx hb d_AR_checkLength_1 rfl (lv_at hl 0 rfl) ?_
  refine lv_icmp_ge (tgt := 37) hx hb d_AR_checkLength_2 rfl (fun _ => ?_) (fun h9 => absurd (nI_le hi (by omega)) h9)
  exact fx_vret hx hb hr hlk hL (Nat.le_of_ble_eq_true rfl) (Nat.le_of_ble_eq_true rfl) d_AR_checkLength_37 (rfl)
set_option maxHeartbeats 4000000 in
set_option maxRecDepth 100000 in
theorem ct_AR_copyOfRangeInt (w : Wd) (a : Nat) (xs : List Int32) (hz : xs.length ≤ 100) (h1 : 1 ≤ xs.length) : fx_C (KT w) y_AR_copyOfRangeInt 5 (rmG 2) [.ref a, .int (nI 1), .int (nI xs.length)] (fun H => cA w a xs H) (fun H o H' => ∃ q, o = .returned (some (.ref q)) ∧ H.size ≤ q ∧ cA w q (xs.drop 1) H') (fun H q => H.size ≤ q) := by
  refine fx_of (ret := (some ((FieldType.array FieldType.int)))) (cc := b_AR_copyOfRangeInt) (fun s hK => hK.1 _ mk_AR_copyOfRangeInt _) (Nat.le_of_ble_eq_true rfl) ?_
  intro p l e s m below meth c hx hfl hK hb hml hr hlk hnt hown hin hpre ls hl
  have hw : ∀ z ∈ gw, z.before ([.ref a, .int (nI 1), .int (nI xs.length)] : List Value).toArray s = true := fun z hz => hK.1 z hz _
  have hKv := hK.2.1
  have hL : ∀ q ∈ ([] : List Loc), (fun H q => H.size ≤ q) s.heap q.base := fun q hq => by cases hq
  have hl : lv_has ls 5 [(0, .ref a), (1, .int (nI 1)), (2, .int (nI xs.length))] := hl
  refine lv_iload_n hx hb d_AR_copyOfRangeInt_0 rfl (lv_at hl 1 rfl) ?_
  refine lv_iload_n hx hb d_AR_copyOfRangeInt_1 rfl (lv_at hl 2 rfl) ?_
  refine fx_cS (B := (fun H q => H.size ≤ q) s.heap) KT_moved (ct_AR_checkLength w 1 xs.length h1 hz) hx hfl hK hb (by rw [hml]; exact hl.1) hown (hw _ mm_AR_343) (fx_Y.code (hw _ mk_AR_checkLength)) (hw _ ms_AR_checkLength) (hw _ mn_AR) (show fx_N y_AR_checkLength 2 by decide +kernel) rfl ⟨Nat.le_of_ble_eq_true rfl, Nat.le_of_ble_eq_true rfl, Nat.le_of_ble_eq_true rfl, Nat.le_of_ble_eq_true rfl⟩ (trivial) d_AR_copyOfRangeInt_2 hL (fun q h => h.elim) (fun v H1 locs hq hF hL => ?_) (fun x H1 locs hq hF hL => by cases hq)
  cases hq
  obtain rfl : H1 = s.heap := hF.same (fun _ _ h => h)
  refine W.eq (g2 := F0 m 5 ls []) rfl ?_
  refine lv_iload_n hx hb d_AR_copyOfRangeInt_5 rfl (lv_at hl 2 rfl) ?_
  refine lv_iload_n hx hb d_AR_copyOfRangeInt_6 rfl (lv_at hl 1 rfl) ?_
  refine lv_isub hx hb d_AR_copyOfRangeInt_7 ?_
  refine fx_ti (y := nI (xs.length - 1)) (pk_sub h1) ?_
  refine lv_istore_n hx hb d_AR_copyOfRangeInt_8 rfl hl (by decide) rfl (fun ls hl => ?_)
  have hl : lv_has ls 5 [(3, .int (nI (xs.length - 1))), (0, .ref a), (1, .int (nI 1)), (2, .int (nI xs.length))] := hl
  refine lv_iload_n hx hb d_AR_copyOfRangeInt_9 rfl (lv_at hl 0 rfl) ?_
  refine fx_newI hx hb hKv 0 rfl (hw _ ma_int) rfl (show xs.length - 1 ≤ 100000 by omega) (Nat.le_of_ble_eq_true rfl) (by show 0 + (xs.length - 1) ≤ 200; omega) d_AR_copyOfRangeInt_10 (fun q H1 hq hO hG => ?_)
  have hA := hG.ex.kept hpre
  refine lv_astore hx hb d_AR_copyOfRangeInt_12 hl (by decide) rfl (fun ls hl => ?_)
  have hl : lv_has ls 5 [(4, .ref q), (3, .int (nI (xs.length - 1))), (0, .ref a), (1, .int (nI 1)), (2, .int (nI xs.length))] := hl
  refine lv_aload_n hx hb d_AR_copyOfRangeInt_14 rfl (lv_at hl 2 rfl) ?_
  refine lv_iload_n hx hb d_AR_copyOfRangeInt_15 rfl (lv_at hl 3 rfl) ?_
  refine lv_aload hx hb d_AR_copyOfRangeInt_16 (lv_at hl 0 rfl) ?_
  refine lv_iconst (v := nI 0) hx hb d_AR_copyOfRangeInt_18 rfl ?_
  refine lv_aload_n hx hb d_AR_copyOfRangeInt_19 rfl (lv_at hl 2 rfl) ?_
  refine fx_alen hx hb hKv 0 hA rfl d_AR_copyOfRangeInt_20 ?_
  refine lv_iload_n hx hb d_AR_copyOfRangeInt_21 rfl (lv_at hl 3 rfl) ?_
  refine lv_isub hx hb d_AR_copyOfRangeInt_22 ?_
  refine fx_ti (y := nI (xs.length - 1)) (pk_sub h1) ?_
  refine lv_iload_n hx hb d_AR_copyOfRangeInt_23 rfl (lv_at hl 1 rfl) ?_
  refine fx_cS (B := (fun H q => H.size ≤ q) s.heap) KT_moved (ct_MT_min w (nI (xs.length - 1)) (nI (xs.length - 1))) hx hfl hK hb (by rw [hml]; exact hl.1) hown (hw _ mm_AR_304) (fx_Y.code (hw _ mk_MT_min)) (hw _ ms_MT_min) (hw _ mn_MT) (show fx_N y_MT_min 2 by decide +kernel) rfl ⟨Nat.le_of_ble_eq_true rfl, Nat.le_of_ble_eq_true rfl, by show (0 + 1) + 0 ≤ 1; omega, by show (0 + (xs.length - 1)) + 0 ≤ 200; omega⟩ (trivial) d_AR_copyOfRangeInt_24 hL (fun q h => h.elim) (fun v H2 locs hq hF hL => ?_) (fun x H2 locs hq hF hL => by cases hq)
  cases hq
  obtain rfl : H2 = H1 := hF.same (fun _ _ h => h)
  refine W.eq (g2 := F0 m 27 ls [.int (if nI (xs.length - 1) < nI (xs.length - 1) then nI (xs.length - 1) else nI (xs.length - 1)), .int (nI 0), .ref q, .int (nI 1), .ref a]) rfl ?_
  refine fx_ti (y := nI (xs.length - 1)) (if_neg (nI_nlt (by omega) (by omega))) ?_
  refine fx_copyI (i := 1) (j := 0) (k := xs.length - 1) (B := (fun H q => H.size ≤ q) s.heap) hx hb (by rw [hml]; exact hl.1) hown (hw _ mm_AR_150) (hw _ mv_SY_arraycopy) (hw _ ms_SY_arraycopy) (hw _ mn_SY) hKv 0 rfl hA hO (rfl) (rfl) (rfl) (by omega) (by omega) ⟨by omega, by omega⟩ (Nat.le_of_ble_eq_true rfl) (Nat.le_of_ble_eq_true rfl) hL (show s.heap.size ≤ q by omega) d_AR_copyOfRangeInt_27 (fun H3 locs hO hU hL => ?_)
  refine lv_aload hx hb d_AR_copyOfRangeInt_30 (lv_at hl 0 rfl) ?_
  exact fx_aret hx hb hr (Or.inr ⟨_, rfl⟩) (Or.inr ⟨_, rfl⟩) hlk hL (Nat.le_of_ble_eq_true rfl) (by show 0 + (xs.length - 1) + 0 ≤ 200; omega) d_AR_copyOfRangeInt_32 (⟨q, rfl, by omega, fx_A.of hO (by simp) (fun j hj => by rw [pk_cpy_in (by omega) (by omega)]; simp only [List.getD_eq_getElem?_getD, List.getElem?_drop]; congr 2)⟩)
set_option maxHeartbeats 4000000 in
set_option maxRecDepth 100000 in
theorem ct_AR_copyOfRange (w : Wd) (a : Nat) (xs : List Int32) (hz : xs.length ≤ 100) (h1 : 1 ≤ xs.length) : fx_C (KT w) y_AR_copyOfRange 3 (rmG 3) [.ref a, .int (nI 1), .int (nI xs.length)] (fun H => cA w a xs H) (fun H o H' => ∃ q, o = .returned (some (.ref q)) ∧ H.size ≤ q ∧ cA w q (xs.drop 1) H') (fun H q => H.size ≤ q) := by
  refine fx_of (ret := (some ((FieldType.array FieldType.int)))) (cc := b_AR_copyOfRange) (fun s hK => hK.1 _ mk_AR_copyOfRange _) (Nat.le_of_ble_eq_true rfl) ?_
  intro p l e s m below meth c hx hfl hK hb hml hr hlk hnt hown hin hpre ls hl
  have hw : ∀ z ∈ gw, z.before ([.ref a, .int (nI 1), .int (nI xs.length)] : List Value).toArray s = true := fun z hz => hK.1 z hz _
  have hKv := hK.2.1
  have hL : ∀ q ∈ ([] : List Loc), (fun H q => H.size ≤ q) s.heap q.base := fun q hq => by cases hq
  have hl : lv_has ls 3 [(0, .ref a), (1, .int (nI 1)), (2, .int (nI xs.length))] := hl
  refine lv_iload_n hx hb d_AR_copyOfRange_0 rfl (lv_at hl 1 rfl) ?_
  refine lv_if_ne (tgt := 10) hx hb d_AR_copyOfRange_1 rfl (fun _ => ?_) (fun h9 => absurd h9 (by decide))
  refine lv_aload_n hx hb d_AR_copyOfRange_10 rfl (lv_at hl 0 rfl) ?_
  refine lv_iload_n hx hb d_AR_copyOfRange_11 rfl (lv_at hl 1 rfl) ?_
  refine lv_iload_n hx hb d_AR_copyOfRange_12 rfl (lv_at hl 2 rfl) ?_
  refine fx_cS (B := (fun H q => H.size ≤ q) s.heap) KT_moved (ct_AR_copyOfRangeInt w a xs hz h1) hx hfl hK hb (by rw [hml]; exact hl.1) hown (hw _ mm_AR_351) (fx_Y.code (hw _ mk_AR_copyOfRangeInt)) (hw _ ms_AR_copyOfRangeInt) (hw _ mn_AR) (show fx_N y_AR_copyOfRangeInt 3 by decide +kernel) rfl ⟨Nat.le_of_ble_eq_true rfl, Nat.le_of_ble_eq_true rfl, Nat.le_of_ble_eq_true rfl, Nat.le_of_ble_eq_true rfl⟩ (hpre) d_AR_copyOfRange_13 hL (fun q h => h) (fun v H1 locs hq hF hL => ?_) (fun x H1 locs hq hF hL => by obtain ⟨q, hv, -⟩ := hq; cases hv)
  obtain ⟨q, hv, hq1, hQ⟩ := hq
  cases hv
  refine W.eq (g2 := F0 m 16 ls [.ref q]) rfl ?_
  exact fx_aret hx hb hr (Or.inr ⟨_, rfl⟩) (Or.inr ⟨_, rfl⟩) hlk hL (Nat.le_of_ble_eq_true rfl) (Nat.le_of_ble_eq_true rfl) d_AR_copyOfRange_16 (⟨q, rfl, hq1, hQ⟩)
set_option maxHeartbeats 4000000 in
set_option maxRecDepth 100000 in
theorem ct_IN_bitCount (w : Wd) (n : Nat) (hn : n ≤ 100) : fx_C (KT w) y_IN_bitCount 1 (rmK 1) [.int (nI n)] (fun _ => True) (fun _ o _ => o = .returned (some (.int (nI (sv_bit n))))) (fun _ _ => False) := by
  refine fx_of (ret := (some (FieldType.int))) (cc := b_IN_bitCount) (fun s hK => hK.1 _ mk_IN_bitCount _) (Nat.le_of_ble_eq_true rfl) ?_
  intro p l e s m below meth c hx hfl hK hb hml hr hlk hnt hown hin hpre ls hl
  have hw : ∀ z ∈ gw, z.before ([.int (nI n)] : List Value).toArray s = true := fun z hz => hK.1 z hz _
  have hKv := hK.2.1
  have hL : ∀ q ∈ ([] : List Loc), (fun _ _ => False) s.heap q.base := fun q hq => by cases hq
  have hl : lv_has ls 1 [(0, .int (nI n))] := hl
  refine lv_iload_n hx hb d_IN_bitCount_0 rfl (lv_at hl 0 rfl) ?_
  refine lv_iload_n hx hb d_IN_bitCount_1 rfl (lv_at hl 0 rfl) ?_
  refine lv_iconst (v := nI 1) hx hb d_IN_bitCount_2 rfl ?_
  refine lv_iushr hx hb d_IN_bitCount_3 rfl ?_
  refine lv_ldcw hx hb hown (hw _ mx_IN_265) d_IN_bitCount_4 ?_
  refine lv_iand hx hb d_IN_bitCount_7 ?_
  refine lv_isub hx hb d_IN_bitCount_8 ?_
  obtain ⟨x1, e1⟩ : ∃ z : Int32, z = ((nI n) - ((((nI n)).toUInt32 >>> (((nI 1)).toUInt32 &&& Int32.toUInt32 31)).toInt32 &&& (1431655765))) := ⟨_, rfl⟩
  refine fx_ti (y := x1) (e1.symm) ?_
  refine lv_istore_n hx hb d_IN_bitCount_9 rfl hl (by decide) rfl (fun ls hl => ?_)
  have hl : lv_has ls 1 [(0, .int (x1))] := hl
  refine lv_iload_n hx hb d_IN_bitCount_10 rfl (lv_at hl 0 rfl) ?_
  refine lv_ldcw hx hb hown (hw _ mx_IN_266) d_IN_bitCount_11 ?_
  refine lv_iand hx hb d_IN_bitCount_14 ?_
  refine lv_iload_n hx hb d_IN_bitCount_15 rfl (lv_at hl 0 rfl) ?_
  refine lv_iconst (v := nI 2) hx hb d_IN_bitCount_16 rfl ?_
  refine lv_iushr hx hb d_IN_bitCount_17 rfl ?_
  refine lv_ldcw hx hb hown (hw _ mx_IN_266) d_IN_bitCount_18 ?_
  refine lv_iand hx hb d_IN_bitCount_21 ?_
  refine lv_iadd hx hb d_IN_bitCount_22 ?_
  obtain ⟨x2, e2⟩ : ∃ z : Int32, z = (((x1) &&& (858993459)) + ((((x1)).toUInt32 >>> (((nI 2)).toUInt32 &&& Int32.toUInt32 31)).toInt32 &&& (858993459))) := ⟨_, rfl⟩
  refine fx_ti (y := x2) (e2.symm) ?_
  refine lv_istore_n hx hb d_IN_bitCount_23 rfl hl (by decide) rfl (fun ls hl => ?_)
  have hl : lv_has ls 1 [(0, .int (x2))] := hl
  refine lv_iload_n hx hb d_IN_bitCount_24 rfl (lv_at hl 0 rfl) ?_
  refine lv_iload_n hx hb d_IN_bitCount_25 rfl (lv_at hl 0 rfl) ?_
  refine lv_iconst (v := nI 4) hx hb d_IN_bitCount_26 rfl ?_
  refine lv_iushr hx hb d_IN_bitCount_27 rfl ?_
  refine lv_iadd hx hb d_IN_bitCount_28 ?_
  refine lv_ldcw hx hb hown (hw _ mx_IN_267) d_IN_bitCount_29 ?_
  refine lv_iand hx hb d_IN_bitCount_32 ?_
  obtain ⟨x3, e3⟩ : ∃ z : Int32, z = (((x2) + (((x2)).toUInt32 >>> (((nI 4)).toUInt32 &&& Int32.toUInt32 31)).toInt32) &&& (252645135)) := ⟨_, rfl⟩
  refine fx_ti (y := x3) (e3.symm) ?_
  refine lv_istore_n hx hb d_IN_bitCount_33 rfl hl (by decide) rfl (fun ls hl => ?_)
  have hl : lv_has ls 1 [(0, .int (x3))] := hl
  refine lv_iload_n hx hb d_IN_bitCount_34 rfl (lv_at hl 0 rfl) ?_
  refine lv_iload_n hx hb d_IN_bitCount_35 rfl (lv_at hl 0 rfl) ?_
  refine lv_bipush (v := nI 8) hx hb d_IN_bitCount_36 rfl ?_
  refine lv_iushr hx hb d_IN_bitCount_38 rfl ?_
  refine lv_iadd hx hb d_IN_bitCount_39 ?_
  obtain ⟨x4, e4⟩ : ∃ z : Int32, z = ((x3) + (((x3)).toUInt32 >>> (((nI 8)).toUInt32 &&& Int32.toUInt32 31)).toInt32) := ⟨_, rfl⟩
  refine fx_ti (y := x4) (e4.symm) ?_
  refine lv_istore_n hx hb d_IN_bitCount_40 rfl hl (by decide) rfl (fun ls hl => ?_)
  have hl : lv_has ls 1 [(0, .int (x4))] := hl
  refine lv_iload_n hx hb d_IN_bitCount_41 rfl (lv_at hl 0 rfl) ?_
  refine lv_iload_n hx hb d_IN_bitCount_42 rfl (lv_at hl 0 rfl) ?_
  refine lv_bipush (v := nI 16) hx hb d_IN_bitCount_43 rfl ?_
  refine lv_iushr hx hb d_IN_bitCount_45 rfl ?_
  refine lv_iadd hx hb d_IN_bitCount_46 ?_
  obtain ⟨x5, e5⟩ : ∃ z : Int32, z = ((x4) + (((x4)).toUInt32 >>> (((nI 16)).toUInt32 &&& Int32.toUInt32 31)).toInt32) := ⟨_, rfl⟩
  refine fx_ti (y := x5) (e5.symm) ?_
  refine lv_istore_n hx hb d_IN_bitCount_47 rfl hl (by decide) rfl (fun ls hl => ?_)
  have hl : lv_has ls 1 [(0, .int (x5))] := hl
  refine lv_iload_n hx hb d_IN_bitCount_48 rfl (lv_at hl 0 rfl) ?_
  refine lv_bipush (v := nI 63) hx hb d_IN_bitCount_49 rfl ?_
  refine lv_iand hx hb d_IN_bitCount_51 ?_
  exact fx_iret hx hb hr hlk hL (Nat.le_of_ble_eq_true rfl) (Nat.le_of_ble_eq_true rfl) d_IN_bitCount_52 (by rw [← bcount_ok n (by omega)]; subst e5; subst e4; subst e3; subst e2; subst e1; rfl)
end
section
/-! The class's own helpers that make or read rows. -/
theorem kf_le (f c d : Int32) (h : d.toInt = c.toInt + 1) : f ≤ c ↔ ¬ d ≤ f := by
  rw [Int32.le_iff_toInt_le, Int32.le_iff_toInt_le]
  omega
theorem kf_ok (j : Nat) (hj : j < 5) (f : Int32) : (0 ≤ nI j ∧ nI j ≤ 4 ∧ 0 ≤ f ∧ f ≤ (if nI j < 2 then 2 else if nI j < 4 then 1 else 0)) ↔ (¬ f < 0 ∧ ¬ kforms j ≤ f) := by
  rw [Int32.not_lt]
  have h5 : j = 0 ∨ j = 1 ∨ j = 2 ∨ j = 3 ∨ j = 4 := by omega
  rcases h5 with h | h | h | h | h <;> subst h
  · exact ⟨fun z => ⟨z.2.2.1, (kf_le f 2 3 (by decide)).mp z.2.2.2⟩, fun z => ⟨by decide, by decide, z.1, (kf_le f 2 3 (by decide)).mpr z.2⟩⟩
  · exact ⟨fun z => ⟨z.2.2.1, (kf_le f 2 3 (by decide)).mp z.2.2.2⟩, fun z => ⟨by decide, by decide, z.1, (kf_le f 2 3 (by decide)).mpr z.2⟩⟩
  · exact ⟨fun z => ⟨z.2.2.1, (kf_le f 1 2 (by decide)).mp z.2.2.2⟩, fun z => ⟨by decide, by decide, z.1, (kf_le f 1 2 (by decide)).mpr z.2⟩⟩
  · exact ⟨fun z => ⟨z.2.2.1, (kf_le f 1 2 (by decide)).mp z.2.2.2⟩, fun z => ⟨by decide, by decide, z.1, (kf_le f 1 2 (by decide)).mpr z.2⟩⟩
  · exact ⟨fun z => ⟨z.2.2.1, (kf_le f 0 1 (by decide)).mp z.2.2.2⟩, fun z => ⟨by decide, by decide, z.1, (kf_le f 0 1 (by decide)).mpr z.2⟩⟩
theorem kf_few (n : Nat) : nI (sv_few n) = nI (0 + n / 63 + n % 63 / 31 + n % 63 % 31 / 15 + n % 63 % 31 % 15 / 7 + n % 63 % 31 % 15 % 7 / 3 + n % 63 % 31 % 15 % 7 % 3 / 1) := by
  congr 1
  unfold sv_few
  omega
theorem kf_app {xs ys : List Int32} {g : Nat → Int32} (hg : ∀ j, j < xs.length → g j = xs.getD j 0) {j : Nat} (hj : j < xs.length + ys.length) : va_cpy (fun j => ys.getD j 0) g 0 xs.length ys.length j = (xs ++ ys).getD j 0 := by
  by_cases h : j < xs.length
  · rw [pk_cpy_out (Or.inl h), hg j h]
    simp [List.getD_eq_getElem?_getD, List.getElem?_append_left h]
  · rw [pk_cpy_in (by omega) hj]
    simp [List.getD_eq_getElem?_getD, List.getElem?_append_right (Nat.not_lt.mp h)]
theorem kf_set {xs : List Int32} {i j : Nat} {x : Int32} (hi : i < xs.length) (hj : j < xs.length) : upd (fun j => xs.getD j 0) i x j = (xs.set i x).getD j 0 := by
  by_cases h : j = i
  · subst h
    rw [pk_us]
    simp [hi]
  · rw [pk_un h]
    simp [List.getD_eq_getElem?_getD, List.getElem?_set, Ne.symm h]
theorem kf_ins {xs : List Int32} {i j : Nat} {x : Int32} (hi : i ≤ xs.length) (hj : j < xs.length + 1) : va_cpy (fun j => xs.getD j 0) (upd (va_cpy (fun j => xs.getD j 0) (fun _ => 0) 0 0 i) i x) i (i + 1) (xs.length - i) j = (sv_ins xs i x).getD j 0 := by
  rw [sv_ins_get hi]
  by_cases h1 : j < i
  · rw [if_pos h1, pk_cpy_out (Or.inl (by omega)), pk_un (by omega), pk_cpy_in (by omega) (by omega)]
    congr 1
    omega
  · rw [if_neg h1]
    by_cases h2 : j = i
    · rw [if_pos h2, pk_cpy_out (Or.inl (by omega)), h2, pk_us]
    · rw [if_neg h2, pk_cpy_in (by omega) (by omega)]
      congr 1
      omega
theorem kf_off {k : Int32} (h1 : ¬ k = 1) (h2 : ¬ k = 2) : Op.lookupswitch.offset #[(1, 30), (2, 28)].toList 39 k.toInt = (39 : Int) := by
  have e1 : ¬ k.toInt = 1 := fun z => h1 (Int32.toInt_inj.mp (z.trans (by decide)))
  have e2 : ¬ k.toInt = 2 := fun z => h2 (Int32.toInt_inj.mp (z.trans (by decide)))
  simp [Op.lookupswitch.offset, e1, e2, Ne.symm e1, Ne.symm e2, eq_comm]
set_option maxHeartbeats 4000000 in
set_option maxRecDepth 100000 in
theorem ct_L_countBelow (w : Wd) (a : Nat) (xs : List Int32) (x : Int32) (hz : xs.length ≤ 100) : fx_C (KT w) y_L_countBelow 3 (rmK 1) [.ref a, .int x] (fun H => cA w a xs H) (fun _ r _ => r = .returned (some (.int (nI (sv_cb xs x))))) (fun _ _ => False) := by
  refine fx_of (ret := (some (FieldType.int))) (cc := b_L_countBelow) (fun s hK => hK.1 _ mk_L_countBelow _) (Nat.le_of_ble_eq_true rfl) ?_
  intro p l e s m below meth c hx hfl hK hb hml hr hlk hnt hown hin hpre ls hl
  have hw : ∀ z ∈ gw, z.before ([.ref a, .int x] : List Value).toArray s = true := fun z hz => hK.1 z hz _
  have hKv := hK.2.1
  have hL : ∀ q ∈ ([] : List Loc), (fun _ _ => False) s.heap q.base := fun q hq => by cases hq
  have hl : lv_has ls 3 [(0, .ref a), (1, .int x)] := hl
  refine lv_iconst (v := nI 0) hx hb d_L_countBelow_0 rfl ?_
  refine lv_istore_n hx hb d_L_countBelow_1 rfl hl (by decide) rfl (fun ls hl => ?_)
  have hl : lv_has ls 3 [(2, .int (nI 0)), (0, .ref a), (1, .int x)] := hl
  refine fx_gen (fun Q0 hQ0 => ?_)
  have loop : ∀ (k t : Nat), t + k = xs.length → (∀ j, j < t → xs.getD j 0 < x) → ∀ (ls : Array Slot), lv_has ls 3 [(2, .int (nI t)), (0, .ref a), (1, .int x)] → W p l e (rmK 1) s m ([.ref a, .int x] : List Value).toArray below meth c s.heap [] 0 0 Q0 (F0 m 2 ls []) := by
    intro k
    induction k with
    | zero =>
      intro t ht hlt ls hl
      have hte : t = xs.length := by omega
      rw [hQ0]
      refine lv_iload_n hx hb d_L_countBelow_2 rfl (lv_at hl 0 rfl) ?_
      refine lv_aload_n hx hb d_L_countBelow_3 rfl (lv_at hl 1 rfl) ?_
      refine fx_alen hx hb hKv 0 hpre rfl d_L_countBelow_4 ?_
      refine lv_icmp_ge (tgt := 21) hx hb d_L_countBelow_5 rfl (fun _ => ?_) (fun h9 => absurd (by rw [hte]; exact nI_le (Nat.le_refl _) (by omega)) h9)
      refine lv_iload_n hx hb d_L_countBelow_21 rfl (lv_at hl 0 rfl) ?_
      exact fx_iret hx hb hr hlk hL (Nat.le_of_ble_eq_true rfl) (Nat.le_of_ble_eq_true rfl) d_L_countBelow_22 (by rw [sv_cb_of xs x t (by omega) hlt (Or.inl hte)])
    | succ k ih =>
      intro t ht hlt ls hl
      refine lv_iload_n hx hb d_L_countBelow_2 rfl (lv_at hl 0 rfl) ?_
      refine lv_aload_n hx hb d_L_countBelow_3 rfl (lv_at hl 1 rfl) ?_
      refine fx_alen hx hb hKv 0 hpre rfl d_L_countBelow_4 ?_
      refine lv_icmp_ge (tgt := 21) hx hb d_L_countBelow_5 rfl (fun h9 => absurd h9 (nI_ge (by omega) (by omega))) (fun _ => ?_)
      refine lv_aload_n hx hb d_L_countBelow_8 rfl (lv_at hl 1 rfl) ?_
      refine lv_iload_n hx hb d_L_countBelow_9 rfl (lv_at hl 0 rfl) ?_
      refine fx_iald (j := t) hx hb hKv 0 hpre rfl (rfl) (by omega) (by omega) d_L_countBelow_10 ?_
      refine lv_iload_n hx hb d_L_countBelow_11 rfl (lv_at hl 2 rfl) ?_
      refine lv_icmp_ge (tgt := 21) hx hb d_L_countBelow_12 rfl (fun h12 => ?_) (fun h12 => ?_)
      · rw [hQ0]
        refine lv_iload_n hx hb d_L_countBelow_21 rfl (lv_at hl 0 rfl) ?_
        exact fx_iret hx hb hr hlk hL (Nat.le_of_ble_eq_true rfl) (Nat.le_of_ble_eq_true rfl) d_L_countBelow_22 (by rw [sv_cb_of xs x t (by omega) hlt (Or.inr (Int32.not_lt.mpr h12))])
      · refine lv_iinc (k := 0) (v := nI (t + 1)) hx hb d_L_countBelow_15 hl rfl (nI_1 t) (by decide) rfl (fun ls hl => ?_)
        refine lv_goto (tgt := 2) hx hb d_L_countBelow_18 rfl ?_
        exact ih (t + 1) (by omega) (lt_s hlt (Int32.not_le.mp h12)) ls hl
  exact loop xs.length 0 (by omega) (fun j hj => absurd hj (Nat.not_lt_zero _)) ls hl
set_option maxHeartbeats 4000000 in
set_option maxRecDepth 100000 in
theorem ct_L_hasAt (w : Wd) (a q : Nat) (xs : List Int32) (x : Int32) (hz : xs.length ≤ 100) (hq : q ≤ 100) : fx_C (KT w) y_L_hasAt 3 (rmK 1) [.ref a, .int (nI q), .int x] (fun H => cA w a xs H) (fun _ r _ => r = .returned (some (.int (zI (xs[q]? = some x))))) (fun _ _ => False) := by
  refine fx_of (ret := (some (FieldType.boolean))) (cc := b_L_hasAt) (fun s hK => hK.1 _ mk_L_hasAt _) (Nat.le_of_ble_eq_true rfl) ?_
  intro p l e s m below meth c hx hfl hK hb hml hr hlk hnt hown hin hpre ls hl
  have hw : ∀ z ∈ gw, z.before ([.ref a, .int (nI q), .int x] : List Value).toArray s = true := fun z hz => hK.1 z hz _
  have hKv := hK.2.1
  have hL : ∀ q ∈ ([] : List Loc), (fun _ _ => False) s.heap q.base := fun q hq => by cases hq
  have hl : lv_has ls 3 [(0, .ref a), (1, .int (nI q)), (2, .int x)] := hl
  refine lv_iload_n hx hb d_L_hasAt_0 rfl (lv_at hl 1 rfl) ?_
  refine lv_aload_n hx hb d_L_hasAt_1 rfl (lv_at hl 0 rfl) ?_
  refine fx_alen hx hb hKv 0 hpre rfl d_L_hasAt_2 ?_
  refine lv_icmp_ge (tgt := 17) hx hb d_L_hasAt_3 rfl (fun h3 => ?_) (fun h3 => ?_)
  · have h3 : xs.length ≤ q := (nI_leI (by omega) (by omega)).mp h3
    refine lv_iconst (v := nI 0) hx hb d_L_hasAt_17 rfl ?_
    exact fx_zret hx hb hr (by decide) hlk hL (Nat.le_of_ble_eq_true rfl) (Nat.le_of_ble_eq_true rfl) d_L_hasAt_18 (by rw [zI_f (by rw [List.getElem?_eq_none h3]; exact fun z => by cases z)]; rfl)
  · have h3 : q < xs.length := Nat.not_le.mp (fun z => h3 (nI_le z (by omega)))
    have hg : xs[q]? = some (xs.getD q 0) := by rw [List.getD_eq_getElem?_getD, List.getElem?_eq_getElem h3]; rfl
    refine lv_aload_n hx hb d_L_hasAt_6 rfl (lv_at hl 0 rfl) ?_
    refine lv_iload_n hx hb d_L_hasAt_7 rfl (lv_at hl 1 rfl) ?_
    refine fx_iald (j := q) hx hb hKv 0 hpre rfl (rfl) (h3) (by omega) d_L_hasAt_8 ?_
    refine lv_iload_n hx hb d_L_hasAt_9 rfl (lv_at hl 2 rfl) ?_
    refine lv_icmp_ne (tgt := 17) hx hb d_L_hasAt_10 rfl (fun h10 => ?_) (fun h10 => ?_)
    · refine lv_iconst (v := nI 0) hx hb d_L_hasAt_17 rfl ?_
      exact fx_zret hx hb hr (by decide) hlk hL (Nat.le_of_ble_eq_true rfl) (Nat.le_of_ble_eq_true rfl) d_L_hasAt_18 (by rw [zI_f (by rw [hg]; exact fun z => h10 (Option.some.inj z))]; rfl)
    · refine lv_iconst (v := nI 1) hx hb d_L_hasAt_13 rfl ?_
      refine lv_goto (tgt := 18) hx hb d_L_hasAt_14 rfl ?_
      exact fx_zret hx hb hr (by decide) hlk hL (Nat.le_of_ble_eq_true rfl) (Nat.le_of_ble_eq_true rfl) d_L_hasAt_18 (by rw [zI_t (by rw [hg, h10])]; rfl)
set_option maxHeartbeats 4000000 in
set_option maxRecDepth 100000 in
theorem ct_L_isKindWithForm (w : Wd) (k f : Int32) : fx_C (KT w) y_L_isKindWithForm 2 (rmK 1) [.int k, .int f] (fun H => Low w H) (fun _ r _ => r = .returned (some (.int (zI (0 ≤ k ∧ k ≤ 4 ∧ 0 ≤ f ∧ f ≤ (if k < 2 then 2 else if k < 4 then 1 else 0)))))) (fun _ _ => False) := by
  refine fx_of (ret := (some (FieldType.boolean))) (cc := b_L_isKindWithForm) (fun s hK => hK.1 _ mk_L_isKindWithForm _) (Nat.le_of_ble_eq_true rfl) ?_
  intro p l e s m below meth c hx hfl hK hb hml hr hlk hnt hown hin hpre ls hl
  have hw : ∀ z ∈ gw, z.before ([.int k, .int f] : List Value).toArray s = true := fun z hz => hK.1 z hz _
  have hKv := hK.2.1
  have hL : ∀ q ∈ ([] : List Loc), (fun _ _ => False) s.heap q.base := fun q hq => by cases hq
  have hl : lv_has ls 2 [(0, .int k), (1, .int f)] := hl
  refine lv_iload_n hx hb d_L_isKindWithForm_0 rfl (lv_at hl 0 rfl) ?_
  refine lv_if_lt (tgt := 29) hx hb d_L_isKindWithForm_1 rfl (fun h1 => ?_) (fun h1 => ?_)
  · refine lv_iconst (v := nI 0) hx hb d_L_isKindWithForm_29 rfl ?_
    exact fx_zret hx hb hr (by decide) hlk hL (Nat.le_of_ble_eq_true rfl) (Nat.le_of_ble_eq_true rfl) d_L_isKindWithForm_30 (by rw [zI_f (fun z => absurd h1 (Int32.not_lt.mpr z.1))]; rfl)
  · refine lv_iload_n hx hb d_L_isKindWithForm_4 rfl (lv_at hl 0 rfl) ?_
    refine fx_gets hx hb (kZF hK) hpre.2 hown (hw _ mf_L_168) (fun _ h => h) d_L_isKindWithForm_5 ?_
    refine fx_tlen hx hb (kTF hK) hpre.2 d_L_isKindWithForm_8 ?_
    refine lv_icmp_ge (tgt := 29) hx hb d_L_isKindWithForm_9 rfl (fun h9 => ?_) (fun h9 => ?_)
    · refine lv_iconst (v := nI 0) hx hb d_L_isKindWithForm_29 rfl ?_
      exact fx_zret hx hb hr (by decide) hlk hL (Nat.le_of_ble_eq_true rfl) (Nat.le_of_ble_eq_true rfl) d_L_isKindWithForm_30 (by rw [zI_f (fun z => absurd (Int32.le_trans h9 z.2.1) (by decide))]; rfl)
    · obtain ⟨j, hj1, ej⟩ := nI_of h1
      subst ej
      have hj : j < 5 := Nat.not_le.mp (fun z => h9 (nI_le z hj1))
      have hl : lv_has ls 2 [(0, .int (nI j)), (1, .int f)] := hl
      refine lv_iload_n hx hb d_L_isKindWithForm_12 rfl (lv_at hl 1 rfl) ?_
      refine lv_if_lt (tgt := 29) hx hb d_L_isKindWithForm_13 rfl (fun h13 => ?_) (fun h13 => ?_)
      · refine lv_iconst (v := nI 0) hx hb d_L_isKindWithForm_29 rfl ?_
        exact fx_zret hx hb hr (by decide) hlk hL (Nat.le_of_ble_eq_true rfl) (Nat.le_of_ble_eq_true rfl) d_L_isKindWithForm_30 (by rw [zI_f (fun z => ((kf_ok j hj f).mp z).1 h13)]; rfl)
      · refine lv_iload_n hx hb d_L_isKindWithForm_16 rfl (lv_at hl 1 rfl) ?_
        refine fx_gets hx hb (kZF hK) hpre.2 hown (hw _ mf_L_168) (fun _ h => h) d_L_isKindWithForm_17 ?_
        refine lv_iload_n hx hb d_L_isKindWithForm_20 rfl (lv_at hl 0 rfl) ?_
        refine fx_tald hx hb (kTF hK) hpre.2 rfl hj (by decide) rfl d_L_isKindWithForm_21 ?_
        refine lv_icmp_ge (tgt := 29) hx hb d_L_isKindWithForm_22 rfl (fun h22 => ?_) (fun h22 => ?_)
        · refine lv_iconst (v := nI 0) hx hb d_L_isKindWithForm_29 rfl ?_
          exact fx_zret hx hb hr (by decide) hlk hL (Nat.le_of_ble_eq_true rfl) (Nat.le_of_ble_eq_true rfl) d_L_isKindWithForm_30 (by rw [zI_f (fun z => ((kf_ok j hj f).mp z).2 h22)]; rfl)
        · refine lv_iconst (v := nI 1) hx hb d_L_isKindWithForm_25 rfl ?_
          refine lv_goto (tgt := 30) hx hb d_L_isKindWithForm_26 rfl ?_
          exact fx_zret hx hb hr (by decide) hlk hL (Nat.le_of_ble_eq_true rfl) (Nat.le_of_ble_eq_true rfl) d_L_isKindWithForm_30 (by rw [zI_t ((kf_ok j hj f).mpr ⟨h13, h22⟩)]; rfl)
set_option maxHeartbeats 4000000 in
set_option maxRecDepth 100000 in
theorem ct_L_canBeJoined (w : Wd) (a b e1 y1 e2 y2 : Nat) (k1 f1 k2 f2 : Int32) : fx_C (KT w) y_L_canBeJoined 2 (rmK 1) [.ref a, .ref b] (fun H => va_at w.D cls (a, .inr (1, [.int k1, .int f1, .ref e1, .ref y1])) H ∧ va_at w.D cls (b, .inr (1, [.int k2, .int f2, .ref e2, .ref y2])) H) (fun _ r _ => r = .returned (some (.int (zI ((k1 = 1 ∨ k1 = 4) ∧ k1 = k2 ∧ f1 = f2))))) (fun _ _ => False) := by
  refine fx_of (ret := (some (FieldType.boolean))) (cc := b_L_canBeJoined) (fun s hK => hK.1 _ mk_L_canBeJoined _) (Nat.le_of_ble_eq_true rfl) ?_
  intro p l e s m below meth c hx hfl hK hb hml hr hlk hnt hown hin hpre ls hl
  have hw : ∀ z ∈ gw, z.before ([.ref a, .ref b] : List Value).toArray s = true := fun z hz => hK.1 z hz _
  have hKv := hK.2.1
  have hL : ∀ q ∈ ([] : List Loc), (fun _ _ => False) s.heap q.base := fun q hq => by cases hq
  have hl : lv_has ls 2 [(0, .ref a), (1, .ref b)] := hl
  refine lv_aload_n hx hb d_L_canBeJoined_0 rfl (lv_at hl 0 rfl) ?_
  refine fx_getN hx hb hown (kc_V hK _) hKv 0 (by decide) ((nl_L_78 hK _)) (fun _ h => h) hpre.1 rfl d_L_canBeJoined_1 ?_
  refine lv_aload_n hx hb d_L_canBeJoined_4 rfl (lv_at hl 1 rfl) ?_
  refine fx_getN hx hb hown (kc_V hK _) hKv 0 (by decide) ((nl_L_78 hK _)) (fun _ h => h) hpre.2 rfl d_L_canBeJoined_5 ?_
  refine lv_icmp_ne (tgt := 42) hx hb d_L_canBeJoined_8 rfl (fun h8 => ?_) (fun h8 => ?_)
  · refine lv_iconst (v := nI 0) hx hb d_L_canBeJoined_42 rfl ?_
    exact fx_zret hx hb hr (by decide) hlk hL (Nat.le_of_ble_eq_true rfl) (Nat.le_of_ble_eq_true rfl) d_L_canBeJoined_43 (by rw [zI_f (fun z => h8 z.2.1)]; rfl)
  · refine lv_aload_n hx hb d_L_canBeJoined_11 rfl (lv_at hl 0 rfl) ?_
    refine fx_getN hx hb hown (kc_V hK _) hKv 1 (by decide) ((nl_L_109 hK _)) (fun _ h => h) hpre.1 rfl d_L_canBeJoined_12 ?_
    refine lv_aload_n hx hb d_L_canBeJoined_15 rfl (lv_at hl 1 rfl) ?_
    refine fx_getN hx hb hown (kc_V hK _) hKv 1 (by decide) ((nl_L_109 hK _)) (fun _ h => h) hpre.2 rfl d_L_canBeJoined_16 ?_
    refine lv_icmp_ne (tgt := 42) hx hb d_L_canBeJoined_19 rfl (fun h19 => ?_) (fun h19 => ?_)
    · refine lv_iconst (v := nI 0) hx hb d_L_canBeJoined_42 rfl ?_
      exact fx_zret hx hb hr (by decide) hlk hL (Nat.le_of_ble_eq_true rfl) (Nat.le_of_ble_eq_true rfl) d_L_canBeJoined_43 (by rw [zI_f (fun z => h19 z.2.2)]; rfl)
    · refine lv_aload_n hx hb d_L_canBeJoined_22 rfl (lv_at hl 0 rfl) ?_
      refine fx_getN hx hb hown (kc_V hK _) hKv 0 (by decide) ((nl_L_78 hK _)) (fun _ h => h) hpre.1 rfl d_L_canBeJoined_23 ?_
      refine lv_iconst (v := nI 1) hx hb d_L_canBeJoined_26 rfl ?_
      refine lv_icmp_eq (tgt := 38) hx hb d_L_canBeJoined_27 rfl (fun h27 => ?_) (fun h27 => ?_)
      · refine lv_iconst (v := nI 1) hx hb d_L_canBeJoined_38 rfl ?_
        refine lv_goto (tgt := 43) hx hb d_L_canBeJoined_39 rfl ?_
        exact fx_zret hx hb hr (by decide) hlk hL (Nat.le_of_ble_eq_true rfl) (Nat.le_of_ble_eq_true rfl) d_L_canBeJoined_43 (by rw [zI_t ⟨Or.inl h27, h8, h19⟩]; rfl)
      · refine lv_aload_n hx hb d_L_canBeJoined_30 rfl (lv_at hl 0 rfl) ?_
        refine fx_getN hx hb hown (kc_V hK _) hKv 0 (by decide) ((nl_L_78 hK _)) (fun _ h => h) hpre.1 rfl d_L_canBeJoined_31 ?_
        refine lv_iconst (v := nI 4) hx hb d_L_canBeJoined_34 rfl ?_
        refine lv_icmp_ne (tgt := 42) hx hb d_L_canBeJoined_35 rfl (fun h35 => ?_) (fun h35 => ?_)
        · refine lv_iconst (v := nI 0) hx hb d_L_canBeJoined_42 rfl ?_
          exact fx_zret hx hb hr (by decide) hlk hL (Nat.le_of_ble_eq_true rfl) (Nat.le_of_ble_eq_true rfl) d_L_canBeJoined_43 (by rw [zI_f (fun z => z.1.elim h27 h35)]; rfl)
        · refine lv_iconst (v := nI 1) hx hb d_L_canBeJoined_38 rfl ?_
          refine lv_goto (tgt := 43) hx hb d_L_canBeJoined_39 rfl ?_
          exact fx_zret hx hb hr (by decide) hlk hL (Nat.le_of_ble_eq_true rfl) (Nat.le_of_ble_eq_true rfl) d_L_canBeJoined_43 (by rw [zI_t ⟨Or.inr h35, h8, h19⟩]; rfl)
set_option maxHeartbeats 4000000 in
set_option maxRecDepth 100000 in
theorem ct_L_placeToAdd (w : Wd) (a e1 y1 : Nat) (o : sV) (x : Int32) (hz : o.2.2.1.length ≤ 100) : fx_C (KT w) y_L_placeToAdd 2 (rmK 2) [.ref a, .int x] (fun H => va_at w.D cls (a, .inr (1, [.int o.1, .int o.2.1, .ref e1, .ref y1])) H ∧ cA w e1 o.2.2.1 H) (fun _ r _ => r = .returned (some (.int (nI (sv_plc o x))))) (fun _ _ => False) := by
  refine fx_of (ret := (some (FieldType.int))) (cc := b_L_placeToAdd) (fun s hK => hK.1 _ mk_L_placeToAdd _) (Nat.le_of_ble_eq_true rfl) ?_
  intro p l e s m below meth c hx hfl hK hb hml hr hlk hnt hown hin hpre ls hl
  have hw : ∀ z ∈ gw, z.before ([.ref a, .int x] : List Value).toArray s = true := fun z hz => hK.1 z hz _
  have hKv := hK.2.1
  have hL : ∀ q ∈ ([] : List Loc), (fun _ _ => False) s.heap q.base := fun q hq => by cases hq
  have hl : lv_has ls 2 [(0, .ref a), (1, .int x)] := hl
  refine lv_aload_n hx hb d_L_placeToAdd_0 rfl (lv_at hl 0 rfl) ?_
  refine fx_getN hx hb hown (kc_V hK _) hKv 0 (by decide) ((nl_L_78 hK _)) (fun _ h => h) hpre.1 rfl d_L_placeToAdd_1 ?_
  by_cases h2 : o.1 = 2
  · refine lv_lookup (tgt := 32) (off := 28) hx hb d_L_placeToAdd_4 (by decide) (by rw [h2]; decide) rfl ?_
    refine lv_iconst (v := nI 0) hx hb d_L_placeToAdd_32 rfl ?_
    exact fx_iret hx hb hr hlk hL (Nat.le_of_ble_eq_true rfl) (Nat.le_of_ble_eq_true rfl) d_L_placeToAdd_33 (by rw [show sv_plc o x = 0 from if_pos h2])
  by_cases h1 : o.1 = 1
  · refine lv_lookup (tgt := 34) (off := 30) hx hb d_L_placeToAdd_4 (by decide) (by rw [h1]; decide) rfl ?_
    refine lv_aload_n hx hb d_L_placeToAdd_34 rfl (lv_at hl 0 rfl) ?_
    refine fx_getN hx hb hown (kc_V hK _) hKv 2 (by decide) ((nl_L_44 hK _)) (fun _ h => h) hpre.1 rfl d_L_placeToAdd_35 ?_
    refine lv_iload_n hx hb d_L_placeToAdd_38 rfl (lv_at hl 1 rfl) ?_
    refine fx_cS (B := (fun _ _ => False) s.heap) KT_moved (ct_L_countBelow w e1 o.2.2.1 x hz) hx hfl hK hb (by rw [hml]; exact hl.1) hown (hw _ mm_L_98) (fx_Y.code (hw _ mk_L_countBelow)) (hw _ ms_L_countBelow) (hw _ mn_L) (show fx_N y_L_countBelow 2 by decide +kernel) rfl ⟨Nat.le_of_ble_eq_true rfl, Nat.le_of_ble_eq_true rfl, Nat.le_of_ble_eq_true rfl, Nat.le_of_ble_eq_true rfl⟩ (hpre.2) d_L_placeToAdd_39 hL (fun q h => h) (fun v H1 locs hq hF hL => ?_) (fun x H1 locs hq hF hL => by cases hq)
    cases hq
    obtain rfl : H1 = s.heap := hF.same (fun _ _ h => h)
    refine W.eq (g2 := F0 m 42 ls [.int (nI (sv_cb o.2.2.1 x))]) rfl ?_
    exact fx_iret hx hb hr hlk hL (Nat.le_of_ble_eq_true rfl) (Nat.le_of_ble_eq_true rfl) d_L_placeToAdd_42 (by rw [show sv_plc o x = sv_cb o.2.2.1 x from (if_neg h2).trans (if_pos h1)])
  · refine lv_lookup (tgt := 43) (off := 39) hx hb d_L_placeToAdd_4 (by decide) (kf_off h1 h2) rfl ?_
    refine lv_aload_n hx hb d_L_placeToAdd_43 rfl (lv_at hl 0 rfl) ?_
    refine fx_getN hx hb hown (kc_V hK _) hKv 2 (by decide) ((nl_L_44 hK _)) (fun _ h => h) hpre.1 rfl d_L_placeToAdd_44 ?_
    refine fx_alen hx hb hKv 0 hpre.2 rfl d_L_placeToAdd_47 ?_
    exact fx_iret hx hb hr hlk hL (Nat.le_of_ble_eq_true rfl) (Nat.le_of_ble_eq_true rfl) d_L_placeToAdd_48 (by rw [show sv_plc o x = o.2.2.1.length from (if_neg h2).trans (if_neg h1)])
set_option maxHeartbeats 4000000 in
set_option maxRecDepth 100000 in
theorem ct_L_inserted (w : Wd) (a i : Nat) (xs : List Int32) (x : Int32) (hz : xs.length ≤ 100) (hi : i ≤ xs.length) : fx_C (KT w) y_L_inserted 4 (rmG 1) [.ref a, .int (nI i), .int x] (fun H => cA w a xs H) (fun H o H' => ∃ q, o = .returned (some (.ref q)) ∧ H.size ≤ q ∧ cA w q (sv_ins xs i x) H') (fun H q => H.size ≤ q) := by
  refine fx_of (ret := (some ((FieldType.array FieldType.int)))) (cc := b_L_inserted) (fun s hK => hK.1 _ mk_L_inserted _) (Nat.le_of_ble_eq_true rfl) ?_
  intro p l e s m below meth c hx hfl hK hb hml hr hlk hnt hown hin hpre ls hl
  have hw : ∀ z ∈ gw, z.before ([.ref a, .int (nI i), .int x] : List Value).toArray s = true := fun z hz => hK.1 z hz _
  have hKv := hK.2.1
  have hL : ∀ q ∈ ([] : List Loc), (fun H q => H.size ≤ q) s.heap q.base := fun q hq => by cases hq
  have hA := hpre
  have hla := hA.lt
  have hl : lv_has ls 4 [(0, .ref a), (1, .int (nI i)), (2, .int x)] := hl
  refine lv_aload_n hx hb d_L_inserted_0 rfl (lv_at hl 0 rfl) ?_
  refine fx_alen hx hb hKv 0 hA rfl d_L_inserted_1 ?_
  refine lv_iconst (v := nI 1) hx hb d_L_inserted_2 rfl ?_
  refine lv_iadd hx hb d_L_inserted_3 ?_
  refine fx_ti (y := nI (xs.length + 1)) (nI_add _ 1) ?_
  refine fx_newI hx hb hKv 0 rfl (hw _ ma_int) rfl (show xs.length + 1 ≤ 100000 by omega) (Nat.le_of_ble_eq_true rfl) (by show 0 + (xs.length + 1) ≤ 200; omega) d_L_inserted_4 (fun q H1 hq hO hG => ?_)
  have hA := hG.ex.kept hA
  have hna : a ≠ q := by omega
  refine lv_astore_n hx hb d_L_inserted_6 rfl hl (by decide) rfl (fun ls hl => ?_)
  have hl : lv_has ls 4 [(3, .ref q), (0, .ref a), (1, .int (nI i)), (2, .int x)] := hl
  refine lv_aload_n hx hb d_L_inserted_7 rfl (lv_at hl 1 rfl) ?_
  refine lv_iconst (v := nI 0) hx hb d_L_inserted_8 rfl ?_
  refine lv_aload_n hx hb d_L_inserted_9 rfl (lv_at hl 0 rfl) ?_
  refine lv_iconst (v := nI 0) hx hb d_L_inserted_10 rfl ?_
  refine lv_iload_n hx hb d_L_inserted_11 rfl (lv_at hl 2 rfl) ?_
  refine fx_copyI (i := 0) (j := 0) (k := i) (B := (fun H q => H.size ≤ q) s.heap) hx hb (by rw [hml]; exact hl.1) hown (hw _ mm_L_171) (hw _ mv_SY_arraycopy) (hw _ ms_SY_arraycopy) (hw _ mn_SY) hKv 0 rfl hA hO (rfl) (rfl) (rfl) (by omega) (by omega) ⟨by omega, by omega⟩ (Nat.le_of_ble_eq_true rfl) (Nat.le_of_ble_eq_true rfl) hL (show s.heap.size ≤ q by omega) d_L_inserted_12 (fun H2 locs hO hU hL => ?_)
  have hA := hU.kept hA hna
  refine lv_aload_n hx hb d_L_inserted_15 rfl (lv_at hl 0 rfl) ?_
  refine lv_iload_n hx hb d_L_inserted_16 rfl (lv_at hl 2 rfl) ?_
  refine lv_iload_n hx hb d_L_inserted_17 rfl (lv_at hl 3 rfl) ?_
  refine fx_iast (B := (fun H q => H.size ≤ q) s.heap) hx hb hKv 0 hO rfl rfl (show i < xs.length + 1 by omega) (by omega) hL (show s.heap.size ≤ q by omega) d_L_inserted_18 (fun H3 locs hO hU hL => ?_)
  have hA := hU.kept hA hna
  refine lv_aload_n hx hb d_L_inserted_19 rfl (lv_at hl 1 rfl) ?_
  refine lv_iload_n hx hb d_L_inserted_20 rfl (lv_at hl 2 rfl) ?_
  refine lv_aload_n hx hb d_L_inserted_21 rfl (lv_at hl 0 rfl) ?_
  refine lv_iload_n hx hb d_L_inserted_22 rfl (lv_at hl 2 rfl) ?_
  refine lv_iconst (v := nI 1) hx hb d_L_inserted_23 rfl ?_
  refine lv_iadd hx hb d_L_inserted_24 ?_
  refine fx_ti (y := nI (i + 1)) (nI_add i 1) ?_
  refine lv_aload_n hx hb d_L_inserted_25 rfl (lv_at hl 1 rfl) ?_
  refine fx_alen hx hb hKv 0 hA rfl d_L_inserted_26 ?_
  refine lv_iload_n hx hb d_L_inserted_27 rfl (lv_at hl 2 rfl) ?_
  refine lv_isub hx hb d_L_inserted_28 ?_
  refine fx_ti (y := nI (xs.length - i)) (pk_sub hi) ?_
  refine fx_copyI (i := i) (j := i + 1) (k := xs.length - i) (B := (fun H q => H.size ≤ q) s.heap) hx hb (by rw [hml]; exact hl.1) hown (hw _ mm_L_171) (hw _ mv_SY_arraycopy) (hw _ ms_SY_arraycopy) (hw _ mn_SY) hKv 0 rfl hA hO (rfl) (rfl) (rfl) (by omega) (by omega) ⟨by omega, by omega⟩ (Nat.le_of_ble_eq_true rfl) (Nat.le_of_ble_eq_true rfl) hL (show s.heap.size ≤ q by omega) d_L_inserted_29 (fun H4 locs hO hU hL => ?_)
  refine lv_aload_n hx hb d_L_inserted_32 rfl (lv_at hl 0 rfl) ?_
  exact fx_aret hx hb hr (Or.inr ⟨_, rfl⟩) (Or.inr ⟨_, rfl⟩) hlk hL (Nat.le_of_ble_eq_true rfl) (by show 0 + (xs.length + 1) ≤ 200; omega) d_L_inserted_33 (⟨q, rfl, by omega, fx_A.of hO (sv_ins_length hi).symm (fun j hj => kf_ins hi hj)⟩)
set_option maxHeartbeats 4000000 in
set_option maxRecDepth 100000 in
theorem ct_L_replaced (w : Wd) (a i : Nat) (xs : List Int32) (x : Int32) (hz : xs.length ≤ 100) (hi : i < xs.length) : fx_C (KT w) y_L_replaced 4 (rmG 1) [.ref a, .int (nI i), .int x] (fun H => cA w a xs H) (fun H o H' => ∃ q, o = .returned (some (.ref q)) ∧ H.size ≤ q ∧ cA w q (xs.set i x) H') (fun H q => H.size ≤ q) := by
  refine fx_of (ret := (some ((FieldType.array FieldType.int)))) (cc := b_L_replaced) (fun s hK => hK.1 _ mk_L_replaced _) (Nat.le_of_ble_eq_true rfl) ?_
  intro p l e s m below meth c hx hfl hK hb hml hr hlk hnt hown hin hpre ls hl
  have hw : ∀ z ∈ gw, z.before ([.ref a, .int (nI i), .int x] : List Value).toArray s = true := fun z hz => hK.1 z hz _
  have hKv := hK.2.1
  have hL : ∀ q ∈ ([] : List Loc), (fun H q => H.size ≤ q) s.heap q.base := fun q hq => by cases hq
  have hl : lv_has ls 4 [(0, .ref a), (1, .int (nI i)), (2, .int x)] := hl
  refine lv_aload_n hx hb d_L_replaced_0 rfl (lv_at hl 0 rfl) ?_
  refine fx_clone hx hb (by rw [hml]; exact hl.1) hown (hw _ mm_L_177) (hw _ mo_A_clone) (hw _ mv_OJ_clone) (hw _ mi_OJ_clone) (hw _ mq_OJ_clone_y) (hK.2.2.2.2.1.1 ("[I", "java/lang/Cloneable") (by decide)) hKv 0 hpre rfl (Nat.le_of_ble_eq_true rfl) (Nat.le_of_ble_eq_true rfl) (Nat.le_of_ble_eq_true rfl) (by show 0 + xs.length ≤ 200; omega) d_L_replaced_1 (fun q H1 hq hO hG => ?_)
  refine va_castA hx hb hown (hw _ mc_L_178) (fx_one hO) 0 rfl (hKv.2 0 _ rfl).2 d_L_replaced_4 ?_
  refine lv_astore_n hx hb d_L_replaced_7 rfl hl (by decide) rfl (fun ls hl => ?_)
  have hl : lv_has ls 4 [(3, .ref q), (0, .ref a), (1, .int (nI i)), (2, .int x)] := hl
  refine lv_aload_n hx hb d_L_replaced_8 rfl (lv_at hl 0 rfl) ?_
  refine lv_iload_n hx hb d_L_replaced_9 rfl (lv_at hl 2 rfl) ?_
  refine lv_iload_n hx hb d_L_replaced_10 rfl (lv_at hl 3 rfl) ?_
  refine fx_iast (B := (fun H q => H.size ≤ q) s.heap) hx hb hKv 0 hO rfl rfl hi (by omega) hL (show s.heap.size ≤ q by omega) d_L_replaced_11 (fun H3 locs hO hU hL => ?_)
  refine lv_aload_n hx hb d_L_replaced_12 rfl (lv_at hl 0 rfl) ?_
  exact fx_aret hx hb hr (Or.inr ⟨_, rfl⟩) (Or.inr ⟨_, rfl⟩) hlk hL (Nat.le_of_ble_eq_true rfl) (by show 0 + xs.length ≤ 200; omega) d_L_replaced_13 (⟨q, rfl, by omega, fx_A.of hO (by simp) (fun j hj => kf_set hi hj)⟩)
set_option maxHeartbeats 4000000 in
set_option maxRecDepth 100000 in
theorem ct_L_appended (w : Wd) (a b : Nat) (xs ys : List Int32) (hz : xs.length + ys.length ≤ 100) : fx_C (KT w) y_L_appended 3 (rmG 3) [.ref a, .ref b] (fun H => cA w a xs H ∧ cA w b ys H) (fun H o H' => ∃ q, o = .returned (some (.ref q)) ∧ H.size ≤ q ∧ cA w q (xs ++ ys) H') (fun H q => H.size ≤ q) := by
  refine fx_of (ret := (some ((FieldType.array FieldType.int)))) (cc := b_L_appended) (fun s hK => hK.1 _ mk_L_appended _) (Nat.le_of_ble_eq_true rfl) ?_
  intro p l e s m below meth c hx hfl hK hb hml hr hlk hnt hown hin hpre ls hl
  have hw : ∀ z ∈ gw, z.before ([.ref a, .ref b] : List Value).toArray s = true := fun z hz => hK.1 z hz _
  have hKv := hK.2.1
  have hL : ∀ q ∈ ([] : List Loc), (fun H q => H.size ≤ q) s.heap q.base := fun q hq => by cases hq
  obtain ⟨hA, hB⟩ := hpre
  have hla := hA.lt
  have hlb := hB.lt
  have hl : lv_has ls 3 [(0, .ref a), (1, .ref b)] := hl
  refine lv_aload_n hx hb d_L_appended_0 rfl (lv_at hl 0 rfl) ?_
  refine lv_aload_n hx hb d_L_appended_1 rfl (lv_at hl 0 rfl) ?_
  refine fx_alen hx hb hKv 0 hA rfl d_L_appended_2 ?_
  refine lv_aload_n hx hb d_L_appended_3 rfl (lv_at hl 1 rfl) ?_
  refine fx_alen hx hb hKv 0 hB rfl d_L_appended_4 ?_
  refine lv_iadd hx hb d_L_appended_5 ?_
  refine fx_ti (y := nI (xs.length + ys.length)) (nI_add _ _) ?_
  refine fx_cS (B := (fun H q => H.size ≤ q) s.heap) KT_moved (ct_AR_copyOfI w a ys.length xs hz) hx hfl hK hb (by rw [hml]; exact hl.1) hown (hw _ mm_L_182) (fx_Y.code (hw _ mk_AR_copyOfI)) (hw _ ms_AR_copyOfI) (hw _ mn_AR) (show fx_N y_AR_copyOfI 2 by decide +kernel) rfl ⟨Nat.le_of_ble_eq_true rfl, Nat.le_of_ble_eq_true rfl, Nat.le_of_ble_eq_true rfl, Nat.le_of_ble_eq_true rfl⟩ (hA) d_L_appended_6 hL (fun q h => h) (fun v H1 locs hq hF hL => ?_) (fun x H1 locs hq hF hL => by obtain ⟨q, g, hv, -⟩ := hq; cases hv)
  obtain ⟨q, g, hv, hq1, hO, hg⟩ := hq
  cases hv
  have hx1 : fx_Ex s.heap H1 := hF.ex (fun q h => Nat.not_le.mpr h)
  have hA := hx1.kept hA
  have hB := hx1.kept hB
  refine W.eq (g2 := F0 m 9 ls [.ref q]) rfl ?_
  refine lv_astore_n hx hb d_L_appended_9 rfl hl (by decide) rfl (fun ls hl => ?_)
  have hl : lv_has ls 3 [(2, .ref q), (0, .ref a), (1, .ref b)] := hl
  refine lv_aload_n hx hb d_L_appended_10 rfl (lv_at hl 2 rfl) ?_
  refine lv_iconst (v := nI 0) hx hb d_L_appended_11 rfl ?_
  refine lv_aload_n hx hb d_L_appended_12 rfl (lv_at hl 0 rfl) ?_
  refine lv_aload_n hx hb d_L_appended_13 rfl (lv_at hl 1 rfl) ?_
  refine fx_alen hx hb hKv 0 hA rfl d_L_appended_14 ?_
  refine lv_aload_n hx hb d_L_appended_15 rfl (lv_at hl 2 rfl) ?_
  refine fx_alen hx hb hKv 0 hB rfl d_L_appended_16 ?_
  refine fx_copyI (i := 0) (j := xs.length) (k := ys.length) (B := (fun H q => H.size ≤ q) s.heap) hx hb (by rw [hml]; exact hl.1) hown (hw _ mm_L_171) (hw _ mv_SY_arraycopy) (hw _ ms_SY_arraycopy) (hw _ mn_SY) hKv 0 rfl hB hO (rfl) (rfl) (rfl) (by omega) (by omega) ⟨by omega, by omega⟩ (Nat.le_of_ble_eq_true rfl) (Nat.le_of_ble_eq_true rfl) hL (show s.heap.size ≤ q by omega) d_L_appended_17 (fun H3 locs hO hU hL => ?_)
  refine lv_aload_n hx hb d_L_appended_20 rfl (lv_at hl 0 rfl) ?_
  exact fx_aret hx hb hr (Or.inr ⟨_, rfl⟩) (Or.inr ⟨_, rfl⟩) hlk hL (Nat.le_of_ble_eq_true rfl) (Nat.le_of_ble_eq_true rfl) d_L_appended_21 (⟨q, rfl, hq1, fx_A.of hO (by simp) (fun j hj => kf_app hg hj)⟩)
set_option maxHeartbeats 4000000 in
set_option maxRecDepth 100000 in
theorem ct_L_fewestTrees (w : Wd) (n : Nat) (hn : n ≤ 100) : fx_C (KT w) y_L_fewestTrees 4 (rmK 1) [.int (nI n)] (fun _ => True) (fun _ r _ => r = .returned (some (.int (nI (sv_few n))))) (fun _ _ => False) := by
  refine fx_of (ret := (some (FieldType.int))) (cc := b_L_fewestTrees) (fun s hK => hK.1 _ mk_L_fewestTrees _) (Nat.le_of_ble_eq_true rfl) ?_
  intro p l e s m below meth c hx hfl hK hb hml hr hlk hnt hown hin hpre ls hl
  have hw : ∀ z ∈ gw, z.before ([.int (nI n)] : List Value).toArray s = true := fun z hz => hK.1 z hz _
  have hKv := hK.2.1
  have hL : ∀ q ∈ ([] : List Loc), (fun _ _ => False) s.heap q.base := fun q hq => by cases hq
  have hl : lv_has ls 4 [(0, .int (nI n))] := hl
  refine lv_iconst (v := nI 0) hx hb d_L_fewestTrees_0 rfl ?_
  refine lv_istore_n hx hb d_L_fewestTrees_1 rfl hl (by decide) rfl (fun ls hl => ?_)
  have hl : lv_has ls 4 [(1, .int (nI 0)), (0, .int (nI n))] := hl
  refine lv_iload_n hx hb d_L_fewestTrees_2 rfl (lv_at hl 1 rfl) ?_
  refine lv_istore_n hx hb d_L_fewestTrees_3 rfl hl (by decide) rfl (fun ls hl => ?_)
  have hl : lv_has ls 4 [(2, .int (nI n)), (1, .int (nI 0)), (0, .int (nI n))] := hl
  refine lv_bipush (v := nI 63) hx hb d_L_fewestTrees_4 rfl ?_
  refine lv_istore_n hx hb d_L_fewestTrees_6 rfl hl (by decide) rfl (fun ls hl => ?_)
  have hl : lv_has ls 4 [(3, .int (nI 63)), (2, .int (nI n)), (1, .int (nI 0)), (0, .int (nI n))] := hl
  refine lv_iload_n hx hb d_L_fewestTrees_7 rfl (lv_at hl 0 rfl) ?_
  refine lv_if_le (tgt := 28) hx hb d_L_fewestTrees_8 rfl (fun h9 => absurd h9 (by decide)) (fun _ => ?_)
  refine lv_iload_n hx hb d_L_fewestTrees_11 rfl (lv_at hl 2 rfl) ?_
  refine lv_iload_n hx hb d_L_fewestTrees_12 rfl (lv_at hl 1 rfl) ?_
  refine lv_iload_n hx hb d_L_fewestTrees_13 rfl (lv_at hl 0 rfl) ?_
  refine lv_idiv hx hb d_L_fewestTrees_14 (by decide) ?_
  refine fx_ti (y := nI (n / 63)) (pk_div (by omega) (by decide) (by decide)) ?_
  refine lv_iadd hx hb d_L_fewestTrees_15 ?_
  refine fx_ti (y := nI (0 + n / 63)) (nI_add _ _) ?_
  refine lv_istore_n hx hb d_L_fewestTrees_16 rfl hl (by decide) rfl (fun ls hl => ?_)
  have hl : lv_has ls 4 [(1, .int (nI (0 + n / 63))), (3, .int (nI 63)), (2, .int (nI n)), (0, .int (nI n))] := hl
  refine lv_iload_n hx hb d_L_fewestTrees_17 rfl (lv_at hl 2 rfl) ?_
  refine lv_iload_n hx hb d_L_fewestTrees_18 rfl (lv_at hl 1 rfl) ?_
  refine lv_irem hx hb d_L_fewestTrees_19 (by decide) ?_
  refine fx_ti (y := nI (n % 63)) (pk_rem (by omega) (by decide) (by decide)) ?_
  refine lv_istore_n hx hb d_L_fewestTrees_20 rfl hl (by decide) rfl (fun ls hl => ?_)
  have hl : lv_has ls 4 [(2, .int (nI (n % 63))), (1, .int (nI (0 + n / 63))), (3, .int (nI 63)), (0, .int (nI n))] := hl
  refine lv_iload_n hx hb d_L_fewestTrees_21 rfl (lv_at hl 2 rfl) ?_
  refine lv_iconst (v := nI 2) hx hb d_L_fewestTrees_22 rfl ?_
  refine lv_idiv hx hb d_L_fewestTrees_23 (by decide) ?_
  refine fx_ti (y := nI 31) (by decide) ?_
  refine lv_istore_n hx hb d_L_fewestTrees_24 rfl hl (by decide) rfl (fun ls hl => ?_)
  have hl : lv_has ls 4 [(3, .int (nI 31)), (2, .int (nI (n % 63))), (1, .int (nI (0 + n / 63))), (0, .int (nI n))] := hl
  refine lv_goto (tgt := 7) hx hb d_L_fewestTrees_25 rfl ?_
  refine lv_iload_n hx hb d_L_fewestTrees_7 rfl (lv_at hl 0 rfl) ?_
  refine lv_if_le (tgt := 28) hx hb d_L_fewestTrees_8 rfl (fun h9 => absurd h9 (by decide)) (fun _ => ?_)
  refine lv_iload_n hx hb d_L_fewestTrees_11 rfl (lv_at hl 2 rfl) ?_
  refine lv_iload_n hx hb d_L_fewestTrees_12 rfl (lv_at hl 1 rfl) ?_
  refine lv_iload_n hx hb d_L_fewestTrees_13 rfl (lv_at hl 0 rfl) ?_
  refine lv_idiv hx hb d_L_fewestTrees_14 (by decide) ?_
  refine fx_ti (y := nI (n % 63 / 31)) (pk_div (by omega) (by decide) (by decide)) ?_
  refine lv_iadd hx hb d_L_fewestTrees_15 ?_
  refine fx_ti (y := nI (0 + n / 63 + n % 63 / 31)) (nI_add _ _) ?_
  refine lv_istore_n hx hb d_L_fewestTrees_16 rfl hl (by decide) rfl (fun ls hl => ?_)
  have hl : lv_has ls 4 [(1, .int (nI (0 + n / 63 + n % 63 / 31))), (3, .int (nI 31)), (2, .int (nI (n % 63))), (0, .int (nI n))] := hl
  refine lv_iload_n hx hb d_L_fewestTrees_17 rfl (lv_at hl 2 rfl) ?_
  refine lv_iload_n hx hb d_L_fewestTrees_18 rfl (lv_at hl 1 rfl) ?_
  refine lv_irem hx hb d_L_fewestTrees_19 (by decide) ?_
  refine fx_ti (y := nI (n % 63 % 31)) (pk_rem (by omega) (by decide) (by decide)) ?_
  refine lv_istore_n hx hb d_L_fewestTrees_20 rfl hl (by decide) rfl (fun ls hl => ?_)
  have hl : lv_has ls 4 [(2, .int (nI (n % 63 % 31))), (1, .int (nI (0 + n / 63 + n % 63 / 31))), (3, .int (nI 31)), (0, .int (nI n))] := hl
  refine lv_iload_n hx hb d_L_fewestTrees_21 rfl (lv_at hl 2 rfl) ?_
  refine lv_iconst (v := nI 2) hx hb d_L_fewestTrees_22 rfl ?_
  refine lv_idiv hx hb d_L_fewestTrees_23 (by decide) ?_
  refine fx_ti (y := nI 15) (by decide) ?_
  refine lv_istore_n hx hb d_L_fewestTrees_24 rfl hl (by decide) rfl (fun ls hl => ?_)
  have hl : lv_has ls 4 [(3, .int (nI 15)), (2, .int (nI (n % 63 % 31))), (1, .int (nI (0 + n / 63 + n % 63 / 31))), (0, .int (nI n))] := hl
  refine lv_goto (tgt := 7) hx hb d_L_fewestTrees_25 rfl ?_
  refine lv_iload_n hx hb d_L_fewestTrees_7 rfl (lv_at hl 0 rfl) ?_
  refine lv_if_le (tgt := 28) hx hb d_L_fewestTrees_8 rfl (fun h9 => absurd h9 (by decide)) (fun _ => ?_)
  refine lv_iload_n hx hb d_L_fewestTrees_11 rfl (lv_at hl 2 rfl) ?_
  refine lv_iload_n hx hb d_L_fewestTrees_12 rfl (lv_at hl 1 rfl) ?_
  refine lv_iload_n hx hb d_L_fewestTrees_13 rfl (lv_at hl 0 rfl) ?_
  refine lv_idiv hx hb d_L_fewestTrees_14 (by decide) ?_
  refine fx_ti (y := nI (n % 63 % 31 / 15)) (pk_div (by omega) (by decide) (by decide)) ?_
  refine lv_iadd hx hb d_L_fewestTrees_15 ?_
  refine fx_ti (y := nI (0 + n / 63 + n % 63 / 31 + n % 63 % 31 / 15)) (nI_add _ _) ?_
  refine lv_istore_n hx hb d_L_fewestTrees_16 rfl hl (by decide) rfl (fun ls hl => ?_)
  have hl : lv_has ls 4 [(1, .int (nI (0 + n / 63 + n % 63 / 31 + n % 63 % 31 / 15))), (3, .int (nI 15)), (2, .int (nI (n % 63 % 31))), (0, .int (nI n))] := hl
  refine lv_iload_n hx hb d_L_fewestTrees_17 rfl (lv_at hl 2 rfl) ?_
  refine lv_iload_n hx hb d_L_fewestTrees_18 rfl (lv_at hl 1 rfl) ?_
  refine lv_irem hx hb d_L_fewestTrees_19 (by decide) ?_
  refine fx_ti (y := nI (n % 63 % 31 % 15)) (pk_rem (by omega) (by decide) (by decide)) ?_
  refine lv_istore_n hx hb d_L_fewestTrees_20 rfl hl (by decide) rfl (fun ls hl => ?_)
  have hl : lv_has ls 4 [(2, .int (nI (n % 63 % 31 % 15))), (1, .int (nI (0 + n / 63 + n % 63 / 31 + n % 63 % 31 / 15))), (3, .int (nI 15)), (0, .int (nI n))] := hl
  refine lv_iload_n hx hb d_L_fewestTrees_21 rfl (lv_at hl 2 rfl) ?_
  refine lv_iconst (v := nI 2) hx hb d_L_fewestTrees_22 rfl ?_
  refine lv_idiv hx hb d_L_fewestTrees_23 (by decide) ?_
  refine fx_ti (y := nI 7) (by decide) ?_
  refine lv_istore_n hx hb d_L_fewestTrees_24 rfl hl (by decide) rfl (fun ls hl => ?_)
  have hl : lv_has ls 4 [(3, .int (nI 7)), (2, .int (nI (n % 63 % 31 % 15))), (1, .int (nI (0 + n / 63 + n % 63 / 31 + n % 63 % 31 / 15))), (0, .int (nI n))] := hl
  refine lv_goto (tgt := 7) hx hb d_L_fewestTrees_25 rfl ?_
  refine lv_iload_n hx hb d_L_fewestTrees_7 rfl (lv_at hl 0 rfl) ?_
  refine lv_if_le (tgt := 28) hx hb d_L_fewestTrees_8 rfl (fun h9 => absurd h9 (by decide)) (fun _ => ?_)
  refine lv_iload_n hx hb d_L_fewestTrees_11 rfl (lv_at hl 2 rfl) ?_
  refine lv_iload_n hx hb d_L_fewestTrees_12 rfl (lv_at hl 1 rfl) ?_
  refine lv_iload_n hx hb d_L_fewestTrees_13 rfl (lv_at hl 0 rfl) ?_
  refine lv_idiv hx hb d_L_fewestTrees_14 (by decide) ?_
  refine fx_ti (y := nI (n % 63 % 31 % 15 / 7)) (pk_div (by omega) (by decide) (by decide)) ?_
  refine lv_iadd hx hb d_L_fewestTrees_15 ?_
  refine fx_ti (y := nI (0 + n / 63 + n % 63 / 31 + n % 63 % 31 / 15 + n % 63 % 31 % 15 / 7)) (nI_add _ _) ?_
  refine lv_istore_n hx hb d_L_fewestTrees_16 rfl hl (by decide) rfl (fun ls hl => ?_)
  have hl : lv_has ls 4 [(1, .int (nI (0 + n / 63 + n % 63 / 31 + n % 63 % 31 / 15 + n % 63 % 31 % 15 / 7))), (3, .int (nI 7)), (2, .int (nI (n % 63 % 31 % 15))), (0, .int (nI n))] := hl
  refine lv_iload_n hx hb d_L_fewestTrees_17 rfl (lv_at hl 2 rfl) ?_
  refine lv_iload_n hx hb d_L_fewestTrees_18 rfl (lv_at hl 1 rfl) ?_
  refine lv_irem hx hb d_L_fewestTrees_19 (by decide) ?_
  refine fx_ti (y := nI (n % 63 % 31 % 15 % 7)) (pk_rem (by omega) (by decide) (by decide)) ?_
  refine lv_istore_n hx hb d_L_fewestTrees_20 rfl hl (by decide) rfl (fun ls hl => ?_)
  have hl : lv_has ls 4 [(2, .int (nI (n % 63 % 31 % 15 % 7))), (1, .int (nI (0 + n / 63 + n % 63 / 31 + n % 63 % 31 / 15 + n % 63 % 31 % 15 / 7))), (3, .int (nI 7)), (0, .int (nI n))] := hl
  refine lv_iload_n hx hb d_L_fewestTrees_21 rfl (lv_at hl 2 rfl) ?_
  refine lv_iconst (v := nI 2) hx hb d_L_fewestTrees_22 rfl ?_
  refine lv_idiv hx hb d_L_fewestTrees_23 (by decide) ?_
  refine fx_ti (y := nI 3) (by decide) ?_
  refine lv_istore_n hx hb d_L_fewestTrees_24 rfl hl (by decide) rfl (fun ls hl => ?_)
  have hl : lv_has ls 4 [(3, .int (nI 3)), (2, .int (nI (n % 63 % 31 % 15 % 7))), (1, .int (nI (0 + n / 63 + n % 63 / 31 + n % 63 % 31 / 15 + n % 63 % 31 % 15 / 7))), (0, .int (nI n))] := hl
  refine lv_goto (tgt := 7) hx hb d_L_fewestTrees_25 rfl ?_
  refine lv_iload_n hx hb d_L_fewestTrees_7 rfl (lv_at hl 0 rfl) ?_
  refine lv_if_le (tgt := 28) hx hb d_L_fewestTrees_8 rfl (fun h9 => absurd h9 (by decide)) (fun _ => ?_)
  refine lv_iload_n hx hb d_L_fewestTrees_11 rfl (lv_at hl 2 rfl) ?_
  refine lv_iload_n hx hb d_L_fewestTrees_12 rfl (lv_at hl 1 rfl) ?_
  refine lv_iload_n hx hb d_L_fewestTrees_13 rfl (lv_at hl 0 rfl) ?_
  refine lv_idiv hx hb d_L_fewestTrees_14 (by decide) ?_
  refine fx_ti (y := nI (n % 63 % 31 % 15 % 7 / 3)) (pk_div (by omega) (by decide) (by decide)) ?_
  refine lv_iadd hx hb d_L_fewestTrees_15 ?_
  refine fx_ti (y := nI (0 + n / 63 + n % 63 / 31 + n % 63 % 31 / 15 + n % 63 % 31 % 15 / 7 + n % 63 % 31 % 15 % 7 / 3)) (nI_add _ _) ?_
  refine lv_istore_n hx hb d_L_fewestTrees_16 rfl hl (by decide) rfl (fun ls hl => ?_)
  have hl : lv_has ls 4 [(1, .int (nI (0 + n / 63 + n % 63 / 31 + n % 63 % 31 / 15 + n % 63 % 31 % 15 / 7 + n % 63 % 31 % 15 % 7 / 3))), (3, .int (nI 3)), (2, .int (nI (n % 63 % 31 % 15 % 7))), (0, .int (nI n))] := hl
  refine lv_iload_n hx hb d_L_fewestTrees_17 rfl (lv_at hl 2 rfl) ?_
  refine lv_iload_n hx hb d_L_fewestTrees_18 rfl (lv_at hl 1 rfl) ?_
  refine lv_irem hx hb d_L_fewestTrees_19 (by decide) ?_
  refine fx_ti (y := nI (n % 63 % 31 % 15 % 7 % 3)) (pk_rem (by omega) (by decide) (by decide)) ?_
  refine lv_istore_n hx hb d_L_fewestTrees_20 rfl hl (by decide) rfl (fun ls hl => ?_)
  have hl : lv_has ls 4 [(2, .int (nI (n % 63 % 31 % 15 % 7 % 3))), (1, .int (nI (0 + n / 63 + n % 63 / 31 + n % 63 % 31 / 15 + n % 63 % 31 % 15 / 7 + n % 63 % 31 % 15 % 7 / 3))), (3, .int (nI 3)), (0, .int (nI n))] := hl
  refine lv_iload_n hx hb d_L_fewestTrees_21 rfl (lv_at hl 2 rfl) ?_
  refine lv_iconst (v := nI 2) hx hb d_L_fewestTrees_22 rfl ?_
  refine lv_idiv hx hb d_L_fewestTrees_23 (by decide) ?_
  refine fx_ti (y := nI 1) (by decide) ?_
  refine lv_istore_n hx hb d_L_fewestTrees_24 rfl hl (by decide) rfl (fun ls hl => ?_)
  have hl : lv_has ls 4 [(3, .int (nI 1)), (2, .int (nI (n % 63 % 31 % 15 % 7 % 3))), (1, .int (nI (0 + n / 63 + n % 63 / 31 + n % 63 % 31 / 15 + n % 63 % 31 % 15 / 7 + n % 63 % 31 % 15 % 7 / 3))), (0, .int (nI n))] := hl
  refine lv_goto (tgt := 7) hx hb d_L_fewestTrees_25 rfl ?_
  refine lv_iload_n hx hb d_L_fewestTrees_7 rfl (lv_at hl 0 rfl) ?_
  refine lv_if_le (tgt := 28) hx hb d_L_fewestTrees_8 rfl (fun h9 => absurd h9 (by decide)) (fun _ => ?_)
  refine lv_iload_n hx hb d_L_fewestTrees_11 rfl (lv_at hl 2 rfl) ?_
  refine lv_iload_n hx hb d_L_fewestTrees_12 rfl (lv_at hl 1 rfl) ?_
  refine lv_iload_n hx hb d_L_fewestTrees_13 rfl (lv_at hl 0 rfl) ?_
  refine lv_idiv hx hb d_L_fewestTrees_14 (by decide) ?_
  refine fx_ti (y := nI (n % 63 % 31 % 15 % 7 % 3 / 1)) (pk_div (by omega) (by decide) (by decide)) ?_
  refine lv_iadd hx hb d_L_fewestTrees_15 ?_
  refine fx_ti (y := nI (0 + n / 63 + n % 63 / 31 + n % 63 % 31 / 15 + n % 63 % 31 % 15 / 7 + n % 63 % 31 % 15 % 7 / 3 + n % 63 % 31 % 15 % 7 % 3 / 1)) (nI_add _ _) ?_
  refine lv_istore_n hx hb d_L_fewestTrees_16 rfl hl (by decide) rfl (fun ls hl => ?_)
  have hl : lv_has ls 4 [(1, .int (nI (0 + n / 63 + n % 63 / 31 + n % 63 % 31 / 15 + n % 63 % 31 % 15 / 7 + n % 63 % 31 % 15 % 7 / 3 + n % 63 % 31 % 15 % 7 % 3 / 1))), (3, .int (nI 1)), (2, .int (nI (n % 63 % 31 % 15 % 7 % 3))), (0, .int (nI n))] := hl
  refine lv_iload_n hx hb d_L_fewestTrees_17 rfl (lv_at hl 2 rfl) ?_
  refine lv_iload_n hx hb d_L_fewestTrees_18 rfl (lv_at hl 1 rfl) ?_
  refine lv_irem hx hb d_L_fewestTrees_19 (by decide) ?_
  refine fx_ti (y := nI (n % 63 % 31 % 15 % 7 % 3 % 1)) (pk_rem (by omega) (by decide) (by decide)) ?_
  refine lv_istore_n hx hb d_L_fewestTrees_20 rfl hl (by decide) rfl (fun ls hl => ?_)
  have hl : lv_has ls 4 [(2, .int (nI (n % 63 % 31 % 15 % 7 % 3 % 1))), (1, .int (nI (0 + n / 63 + n % 63 / 31 + n % 63 % 31 / 15 + n % 63 % 31 % 15 / 7 + n % 63 % 31 % 15 % 7 / 3 + n % 63 % 31 % 15 % 7 % 3 / 1))), (3, .int (nI 1)), (0, .int (nI n))] := hl
  refine lv_iload_n hx hb d_L_fewestTrees_21 rfl (lv_at hl 2 rfl) ?_
  refine lv_iconst (v := nI 2) hx hb d_L_fewestTrees_22 rfl ?_
  refine lv_idiv hx hb d_L_fewestTrees_23 (by decide) ?_
  refine fx_ti (y := nI 0) (by decide) ?_
  refine lv_istore_n hx hb d_L_fewestTrees_24 rfl hl (by decide) rfl (fun ls hl => ?_)
  have hl : lv_has ls 4 [(3, .int (nI 0)), (2, .int (nI (n % 63 % 31 % 15 % 7 % 3 % 1))), (1, .int (nI (0 + n / 63 + n % 63 / 31 + n % 63 % 31 / 15 + n % 63 % 31 % 15 / 7 + n % 63 % 31 % 15 % 7 / 3 + n % 63 % 31 % 15 % 7 % 3 / 1))), (0, .int (nI n))] := hl
  refine lv_goto (tgt := 7) hx hb d_L_fewestTrees_25 rfl ?_
  refine lv_iload_n hx hb d_L_fewestTrees_7 rfl (lv_at hl 0 rfl) ?_
  refine lv_if_le (tgt := 28) hx hb d_L_fewestTrees_8 rfl (fun _ => ?_) (fun h9 => absurd (by decide) h9)
  refine lv_iload_n hx hb d_L_fewestTrees_28 rfl (lv_at hl 2 rfl) ?_
  exact fx_iret hx hb hr hlk hL (Nat.le_of_ble_eq_true rfl) (Nat.le_of_ble_eq_true rfl) d_L_fewestTrees_29 (by rw [kf_few n])
end
section
/-! merged; a version's constructor and with. -/
theorem kf_snoc {out : List Int32} {t : Nat} {g : Nat → Int32} {x : Int32} (hlen : out.length = t) (hg : ∀ z, z < t → g z = out.getD z 0) : ∀ z, z < t + 1 → upd g t x z = (out ++ [x]).getD z 0 := by
  intro z hz
  by_cases h : z = t
  · subst h
    rw [pk_us]
    simp [List.getD_eq_getElem?_getD, ← hlen]
  · rw [pk_un h, hg z (by omega)]
    simp [List.getD_eq_getElem?_getD, List.getElem?_append_left (show z < out.length by omega)]
theorem fx_U.tr {a : Nat} {H H1 H2 : Heap} (h : fx_U a H H1) (k : fx_U a H1 H2) : fx_U a H H2 := ⟨k.1.trans h.1, fun q hq => (k.2 q hq).trans (h.2 q hq)⟩
abbrev cVo (w : Wd) (b : Nat) (k f : Int32) (e y : Nat) (H : Heap) : Prop := va_at w.D cls (b, .inr (1, [.int k, .int f, .ref e, .ref y])) H
set_option maxHeartbeats 4000000 in
set_option maxRecDepth 100000 in
theorem ct_L_merged (w : Wd) (a b : Nat) (xs ys : List Int32) (hz : xs.length + ys.length ≤ 100) : fx_C (KT w) y_L_merged 6 (rmG 1) [.ref a, .ref b] (fun H => cA w a xs H ∧ cA w b ys H) (fun H o H' => ∃ q, o = .returned (some (.ref q)) ∧ H.size ≤ q ∧ cA w q (sv_mrg xs ys) H') (fun H q => H.size ≤ q) := by
  refine fx_of (ret := (some ((FieldType.array FieldType.int)))) (cc := b_L_merged) (fun s hK => hK.1 _ mk_L_merged _) (Nat.le_of_ble_eq_true rfl) ?_
  intro p l e s m below meth c hx hfl hK hb hml hr hlk hnt hown hin hpre ls hl
  have hw : ∀ z ∈ gw, z.before ([.ref a, .ref b] : List Value).toArray s = true := fun z hz => hK.1 z hz _
  have hKv := hK.2.1
  have hL : ∀ q ∈ ([] : List Loc), (fun H q => H.size ≤ q) s.heap q.base := fun q hq => by cases hq
  obtain ⟨hA, hB⟩ := hpre
  have hla := hA.lt
  have hlb := hB.lt
  have hl : lv_has ls 6 [(0, .ref a), (1, .ref b)] := hl
  refine lv_aload_n hx hb d_L_merged_0 rfl (lv_at hl 0 rfl) ?_
  refine fx_alen hx hb hKv 0 hA rfl d_L_merged_1 ?_
  refine lv_aload_n hx hb d_L_merged_2 rfl (lv_at hl 1 rfl) ?_
  refine fx_alen hx hb hKv 0 hB rfl d_L_merged_3 ?_
  refine lv_iadd hx hb d_L_merged_4 ?_
  refine fx_ti (y := nI (xs.length + ys.length)) (nI_add _ _) ?_
  refine fx_newI hx hb hKv 0 rfl (hw _ ma_int) rfl (show xs.length + ys.length ≤ 100000 by omega) (Nat.le_of_ble_eq_true rfl) (by show 0 + (xs.length + ys.length) ≤ 200; omega) d_L_merged_5 (fun q H1 hq hO hG => ?_)
  have hA := hG.ex.kept hA
  have hB := hG.ex.kept hB
  have hna : a ≠ q := by omega
  have hnb : b ≠ q := by omega
  refine lv_astore_n hx hb d_L_merged_7 rfl hl (by decide) rfl (fun ls hl => ?_)
  have hl : lv_has ls 6 [(2, .ref q), (0, .ref a), (1, .ref b)] := hl
  refine lv_iconst (v := nI 0) hx hb d_L_merged_8 rfl ?_
  refine lv_istore_n hx hb d_L_merged_9 rfl hl (by decide) rfl (fun ls hl => ?_)
  have hl : lv_has ls 6 [(3, .int (nI 0)), (2, .ref q), (0, .ref a), (1, .ref b)] := hl
  refine lv_iconst (v := nI 0) hx hb d_L_merged_10 rfl ?_
  refine lv_istore hx hb d_L_merged_11 hl (by decide) rfl (fun ls hl => ?_)
  have hl : lv_has ls 6 [(4, .int (nI 0)), (3, .int (nI 0)), (2, .ref q), (0, .ref a), (1, .ref b)] := hl
  refine lv_iconst (v := nI 0) hx hb d_L_merged_13 rfl ?_
  refine lv_istore hx hb d_L_merged_14 hl (by decide) rfl (fun ls hl => ?_)
  have hl : lv_has ls 6 [(5, .int (nI 0)), (4, .int (nI 0)), (3, .int (nI 0)), (2, .ref q), (0, .ref a), (1, .ref b)] := hl
  refine fx_gen (fun Q0 hQ0 => ?_)
  have loop : ∀ (k i j t : Nat) (out : List Int32) (g : Nat → Int32) (Ht : Heap) (locs : List Loc), i ≤ xs.length → j ≤ ys.length → t = i + j → t + k = xs.length + ys.length → out.length = t → (∀ z, z < t → g z = out.getD z 0) → out ++ sv_mg k (xs.drop i) (ys.drop j) = sv_mrg xs ys → cF w q (xs.length + ys.length) g Ht → cA w a xs Ht → cA w b ys Ht → (∀ z ∈ locs, (fun H q => H.size ≤ q) s.heap z.base) → ∀ (ls : Array Slot), lv_has ls 6 [(5, .int (nI t)), (4, .int (nI j)), (3, .int (nI i)), (2, .ref q), (0, .ref a), (1, .ref b)] → W p l e (rmG 1) s m ([.ref a, .ref b] : List Value).toArray below meth c Ht locs (0 + 1) (0 + (xs.length + ys.length)) Q0 (F0 m 16 ls []) := by
    intro k
    induction k with
    | zero =>
      intro i j t out g Ht locs hi hj ht hk hlen hg hmg hO hA hB hL ls hl
      have hte : t = xs.length + ys.length := by omega
      rw [hQ0]
      have hout : out = sv_mrg xs ys := by simpa [sv_mg] using hmg
      refine lv_iload hx hb d_L_merged_16 (lv_at hl 0 rfl) ?_
      refine lv_aload_n hx hb d_L_merged_18 rfl (lv_at hl 3 rfl) ?_
      refine fx_alen hx hb hKv 0 hO rfl d_L_merged_19 ?_
      refine lv_icmp_ge (tgt := 83) hx hb d_L_merged_20 rfl (fun _ => ?_) (fun h9 => absurd (by rw [hte]; exact nI_le (Nat.le_refl _) (by omega)) h9)
      refine lv_aload_n hx hb d_L_merged_83 rfl (lv_at hl 3 rfl) ?_
      exact fx_aret hx hb hr (Or.inr ⟨_, rfl⟩) (Or.inr ⟨_, rfl⟩) hlk hL (Nat.le_of_ble_eq_true rfl) (by show 0 + (xs.length + ys.length) ≤ 200; omega) d_L_merged_84 (⟨q, rfl, by omega, fx_A.of hO (by rw [sv_mrg_length]) (fun z hz => by rw [hg z (by omega), hout])⟩)
    | succ k ih =>
      intro i j t out g Ht locs hi hj ht hk hlen hg hmg hO hA hB hL ls hl
      refine lv_iload hx hb d_L_merged_16 (lv_at hl 0 rfl) ?_
      refine lv_aload_n hx hb d_L_merged_18 rfl (lv_at hl 3 rfl) ?_
      refine fx_alen hx hb hKv 0 hO rfl d_L_merged_19 ?_
      refine lv_icmp_ge (tgt := 83) hx hb d_L_merged_20 rfl (fun h9 => absurd h9 (nI_ge (by omega) (by omega))) (fun _ => ?_)
      refine lv_iload_n hx hb d_L_merged_23 rfl (lv_at hl 2 rfl) ?_
      refine lv_aload_n hx hb d_L_merged_24 rfl (lv_at hl 4 rfl) ?_
      refine fx_alen hx hb hKv 0 hA rfl d_L_merged_25 ?_
      refine lv_icmp_ge (tgt := 59) hx hb d_L_merged_26 rfl (fun h26 => ?_) (fun h26 => ?_)
      · have hi1 : xs.length ≤ i := (nI_leI (by omega) (by omega)).mp h26
        have hjlt : j < ys.length := by omega
        have hc : i = xs.length ∨ ¬ xs.getD i 0 ≤ ys.getD j 0 := Or.inl (by omega)
        refine lv_iload hx hb d_L_merged_59 (lv_at hl 1 rfl) ?_
        refine lv_aload_n hx hb d_L_merged_61 rfl (lv_at hl 5 rfl) ?_
        refine fx_alen hx hb hKv 0 hB rfl d_L_merged_62 ?_
        refine lv_icmp_ge (tgt := 77) hx hb d_L_merged_63 rfl (fun h9 => absurd h9 (nI_ge hjlt (by omega))) (fun _ => ?_)
        refine lv_aload_n hx hb d_L_merged_66 rfl (lv_at hl 3 rfl) ?_
        refine lv_iload hx hb d_L_merged_67 (lv_at hl 0 rfl) ?_
        refine lv_aload_n hx hb d_L_merged_69 rfl (lv_at hl 5 rfl) ?_
        refine lv_iload hx hb d_L_merged_70 (lv_at hl 1 rfl) ?_
        refine fx_iald (j := j) hx hb hKv 0 hB rfl (rfl) (hjlt) (by omega) d_L_merged_72 ?_
        refine fx_iast (B := (fun H q => H.size ≤ q) s.heap) hx hb hKv 0 hO rfl rfl (show t < xs.length + ys.length by omega) (by omega) hL (show s.heap.size ≤ q by omega) d_L_merged_73 (fun H2 locs hO hU hL => ?_)
        have hA := hU.kept hA hna
        have hB := hU.kept hB hnb
        refine lv_iinc (k := 1) (v := nI (j + 1)) hx hb d_L_merged_74 hl rfl (nI_1 _) (by decide) rfl (fun ls hl => ?_)
        have hl : lv_has ls 6 [(4, .int (nI (j + 1))), (5, .int (nI t)), (3, .int (nI i)), (2, .ref q), (0, .ref a), (1, .ref b)] := hl
        refine lv_iinc (k := 1) (v := nI (t + 1)) hx hb d_L_merged_77 hl rfl (nI_1 _) (by decide) rfl (fun ls hl => ?_)
        have hl : lv_has ls 6 [(5, .int (nI (t + 1))), (4, .int (nI (j + 1))), (3, .int (nI i)), (2, .ref q), (0, .ref a), (1, .ref b)] := hl
        refine lv_goto (tgt := 16) hx hb d_L_merged_80 rfl ?_
        have hl : lv_has ls 6 [(5, .int (nI (t + 1))), (4, .int (nI (j + 1))), (3, .int (nI i)), (2, .ref q), (0, .ref a), (1, .ref b)] := lv_sub hl [0, 1, 2, 3, 4, 5] rfl
        exact ih i (j + 1) (t + 1) (out ++ [ys.getD j 0]) _ _ _ hi (by omega) (by omega) (by omega) (by simp [hlen]) (kf_snoc hlen hg) (mg_r hjlt hc hmg) hO hA hB hL ls hl
      · have hilt : i < xs.length := Nat.not_le.mp (fun z => h26 (nI_le z (by omega)))
        refine lv_iload hx hb d_L_merged_29 (lv_at hl 1 rfl) ?_
        refine lv_aload_n hx hb d_L_merged_31 rfl (lv_at hl 5 rfl) ?_
        refine fx_alen hx hb hKv 0 hB rfl d_L_merged_32 ?_
        refine lv_icmp_ge (tgt := 46) hx hb d_L_merged_33 rfl (fun h33 => ?_) (fun h33 => ?_)
        · have hj1 : ys.length ≤ j := (nI_leI (by omega) (by omega)).mp h33
          have hc : j = ys.length ∨ xs.getD i 0 ≤ ys.getD j 0 := Or.inl (by omega)
          refine lv_aload_n hx hb d_L_merged_46 rfl (lv_at hl 3 rfl) ?_
          refine lv_iload hx hb d_L_merged_47 (lv_at hl 0 rfl) ?_
          refine lv_aload_n hx hb d_L_merged_49 rfl (lv_at hl 4 rfl) ?_
          refine lv_iload_n hx hb d_L_merged_50 rfl (lv_at hl 2 rfl) ?_
          refine fx_iald (j := i) hx hb hKv 0 hA rfl (rfl) (hilt) (by omega) d_L_merged_51 ?_
          refine fx_iast (B := (fun H q => H.size ≤ q) s.heap) hx hb hKv 0 hO rfl rfl (show t < xs.length + ys.length by omega) (by omega) hL (show s.heap.size ≤ q by omega) d_L_merged_52 (fun H2 locs hO hU hL => ?_)
          have hA := hU.kept hA hna
          have hB := hU.kept hB hnb
          refine lv_iinc (k := 2) (v := nI (i + 1)) hx hb d_L_merged_53 hl rfl (nI_1 _) (by decide) rfl (fun ls hl => ?_)
          have hl : lv_has ls 6 [(3, .int (nI (i + 1))), (5, .int (nI t)), (4, .int (nI j)), (2, .ref q), (0, .ref a), (1, .ref b)] := hl
          refine lv_goto (tgt := 77) hx hb d_L_merged_56 rfl ?_
          refine lv_iinc (k := 1) (v := nI (t + 1)) hx hb d_L_merged_77 hl rfl (nI_1 _) (by decide) rfl (fun ls hl => ?_)
          have hl : lv_has ls 6 [(5, .int (nI (t + 1))), (3, .int (nI (i + 1))), (4, .int (nI j)), (2, .ref q), (0, .ref a), (1, .ref b)] := hl
          refine lv_goto (tgt := 16) hx hb d_L_merged_80 rfl ?_
          have hl : lv_has ls 6 [(5, .int (nI (t + 1))), (4, .int (nI j)), (3, .int (nI (i + 1))), (2, .ref q), (0, .ref a), (1, .ref b)] := lv_sub hl [0, 2, 1, 3, 4, 5] rfl
          exact ih (i + 1) j (t + 1) (out ++ [xs.getD i 0]) _ _ _ (by omega) hj (by omega) (by omega) (by simp [hlen]) (kf_snoc hlen hg) (mg_l hilt hc hmg) hO hA hB hL ls hl
        · have hjlt : j < ys.length := Nat.not_le.mp (fun z => h33 (nI_le z (by omega)))
          refine lv_aload_n hx hb d_L_merged_36 rfl (lv_at hl 4 rfl) ?_
          refine lv_iload_n hx hb d_L_merged_37 rfl (lv_at hl 2 rfl) ?_
          refine fx_iald (j := i) hx hb hKv 0 hA rfl (rfl) (hilt) (by omega) d_L_merged_38 ?_
          refine lv_aload_n hx hb d_L_merged_39 rfl (lv_at hl 5 rfl) ?_
          refine lv_iload hx hb d_L_merged_40 (lv_at hl 1 rfl) ?_
          refine fx_iald (j := j) hx hb hKv 0 hB rfl (rfl) (hjlt) (by omega) d_L_merged_42 ?_
          refine lv_icmp_gt (tgt := 59) hx hb d_L_merged_43 rfl (fun h43 => ?_) (fun h43 => ?_)
          · have hc : i = xs.length ∨ ¬ xs.getD i 0 ≤ ys.getD j 0 := Or.inr (Int32.not_le.mpr h43)
            refine lv_iload hx hb d_L_merged_59 (lv_at hl 1 rfl) ?_
            refine lv_aload_n hx hb d_L_merged_61 rfl (lv_at hl 5 rfl) ?_
            refine fx_alen hx hb hKv 0 hB rfl d_L_merged_62 ?_
            refine lv_icmp_ge (tgt := 77) hx hb d_L_merged_63 rfl (fun h9 => absurd h9 (nI_ge hjlt (by omega))) (fun _ => ?_)
            refine lv_aload_n hx hb d_L_merged_66 rfl (lv_at hl 3 rfl) ?_
            refine lv_iload hx hb d_L_merged_67 (lv_at hl 0 rfl) ?_
            refine lv_aload_n hx hb d_L_merged_69 rfl (lv_at hl 5 rfl) ?_
            refine lv_iload hx hb d_L_merged_70 (lv_at hl 1 rfl) ?_
            refine fx_iald (j := j) hx hb hKv 0 hB rfl (rfl) (hjlt) (by omega) d_L_merged_72 ?_
            refine fx_iast (B := (fun H q => H.size ≤ q) s.heap) hx hb hKv 0 hO rfl rfl (show t < xs.length + ys.length by omega) (by omega) hL (show s.heap.size ≤ q by omega) d_L_merged_73 (fun H2 locs hO hU hL => ?_)
            have hA := hU.kept hA hna
            have hB := hU.kept hB hnb
            refine lv_iinc (k := 1) (v := nI (j + 1)) hx hb d_L_merged_74 hl rfl (nI_1 _) (by decide) rfl (fun ls hl => ?_)
            have hl : lv_has ls 6 [(4, .int (nI (j + 1))), (5, .int (nI t)), (3, .int (nI i)), (2, .ref q), (0, .ref a), (1, .ref b)] := hl
            refine lv_iinc (k := 1) (v := nI (t + 1)) hx hb d_L_merged_77 hl rfl (nI_1 _) (by decide) rfl (fun ls hl => ?_)
            have hl : lv_has ls 6 [(5, .int (nI (t + 1))), (4, .int (nI (j + 1))), (3, .int (nI i)), (2, .ref q), (0, .ref a), (1, .ref b)] := hl
            refine lv_goto (tgt := 16) hx hb d_L_merged_80 rfl ?_
            have hl : lv_has ls 6 [(5, .int (nI (t + 1))), (4, .int (nI (j + 1))), (3, .int (nI i)), (2, .ref q), (0, .ref a), (1, .ref b)] := lv_sub hl [0, 1, 2, 3, 4, 5] rfl
            exact ih i (j + 1) (t + 1) (out ++ [ys.getD j 0]) _ _ _ hi (by omega) (by omega) (by omega) (by simp [hlen]) (kf_snoc hlen hg) (mg_r hjlt hc hmg) hO hA hB hL ls hl
          · have hc : j = ys.length ∨ xs.getD i 0 ≤ ys.getD j 0 := Or.inr (Int32.not_lt.mp h43)
            refine lv_aload_n hx hb d_L_merged_46 rfl (lv_at hl 3 rfl) ?_
            refine lv_iload hx hb d_L_merged_47 (lv_at hl 0 rfl) ?_
            refine lv_aload_n hx hb d_L_merged_49 rfl (lv_at hl 4 rfl) ?_
            refine lv_iload_n hx hb d_L_merged_50 rfl (lv_at hl 2 rfl) ?_
            refine fx_iald (j := i) hx hb hKv 0 hA rfl (rfl) (hilt) (by omega) d_L_merged_51 ?_
            refine fx_iast (B := (fun H q => H.size ≤ q) s.heap) hx hb hKv 0 hO rfl rfl (show t < xs.length + ys.length by omega) (by omega) hL (show s.heap.size ≤ q by omega) d_L_merged_52 (fun H2 locs hO hU hL => ?_)
            have hA := hU.kept hA hna
            have hB := hU.kept hB hnb
            refine lv_iinc (k := 2) (v := nI (i + 1)) hx hb d_L_merged_53 hl rfl (nI_1 _) (by decide) rfl (fun ls hl => ?_)
            have hl : lv_has ls 6 [(3, .int (nI (i + 1))), (5, .int (nI t)), (4, .int (nI j)), (2, .ref q), (0, .ref a), (1, .ref b)] := hl
            refine lv_goto (tgt := 77) hx hb d_L_merged_56 rfl ?_
            refine lv_iinc (k := 1) (v := nI (t + 1)) hx hb d_L_merged_77 hl rfl (nI_1 _) (by decide) rfl (fun ls hl => ?_)
            have hl : lv_has ls 6 [(5, .int (nI (t + 1))), (3, .int (nI (i + 1))), (4, .int (nI j)), (2, .ref q), (0, .ref a), (1, .ref b)] := hl
            refine lv_goto (tgt := 16) hx hb d_L_merged_80 rfl ?_
            have hl : lv_has ls 6 [(5, .int (nI (t + 1))), (4, .int (nI j)), (3, .int (nI (i + 1))), (2, .ref q), (0, .ref a), (1, .ref b)] := lv_sub hl [0, 2, 1, 3, 4, 5] rfl
            exact ih (i + 1) j (t + 1) (out ++ [xs.getD i 0]) _ _ _ (by omega) hj (by omega) (by omega) (by simp [hlen]) (kf_snoc hlen hg) (mg_l hilt hc hmg) hO hA hB hL ls hl
  exact loop (xs.length + ys.length) 0 0 0 [] _ _ _ (Nat.zero_le _) (Nat.zero_le _) rfl (by omega) rfl (fun z hz => absurd hz (Nat.not_lt_zero _)) rfl hO hA hB hL ls hl
set_option maxHeartbeats 4000000 in
set_option maxRecDepth 100000 in
theorem ct_V_init (w : Wd) (a e1 y1 : Nat) (k f : Int32) : fx_C (KT w) y_V_init 5 (rmK 1) [.ref a, .int k, .int f, .ref e1, .ref y1] (fun H => va_at w.D cls (a, .inr (1, [.int 0, .int 0, .null, .null])) H) (fun H o H' => o = .returned none ∧ cVo w a k f e1 y1 H' ∧ fx_U a H H') (fun _ q => q = a) := by
  refine fx_of (ret := none) (cc := b_V_init) (fun s hK => hK.1 _ mk_V_init _) (Nat.le_of_ble_eq_true rfl) ?_
  intro p l e s m below meth c hx hfl hK hb hml hr hlk hnt hown hin hpre ls hl
  have hw : ∀ z ∈ gw, z.before ([.ref a, .int k, .int f, .ref e1, .ref y1] : List Value).toArray s = true := fun z hz => hK.1 z hz _
  have hKv := hK.2.1
  have hL : ∀ q ∈ ([] : List Loc), (fun _ q => q = a) s.heap q.base := fun q hq => by cases hq
  have hO := hpre
  have hl : lv_has ls 5 [(0, .ref a), (1, .int k), (2, .int f), (3, .ref e1), (4, .ref y1)] := hl
  refine lv_aload_n hx hb d_V_init_0 rfl (lv_at hl 0 rfl) ?_
  refine W.objInit hx hb hown (hw _ mm_V_1) (hw _ mi_OJ_init) (hw _ mk_OJ_init) rfl (by rw [hml]; exact hl.1) rfl d_V_init_1 (Nat.le_of_ble_eq_true rfl) (Nat.le_of_ble_eq_true rfl) ?_
  refine W.eq (g2 := F0 m 4 ls []) rfl ?_
  refine lv_aload_n hx hb d_V_init_4 rfl (lv_at hl 0 rfl) ?_
  refine lv_iload_n hx hb d_V_init_5 rfl (lv_at hl 1 rfl) ?_
  refine fx_putF (B := (fun _ q => q = a) s.heap) hx hb hown (kc_V hK _) hKv 0 (by decide) (hw _ mf_V_7) (fun _ h => h) rfl hin rfl hO (by simp) rfl rfl hL rfl d_V_init_6 (fun H1 locs hO hU1 hL => ?_)
  refine lv_aload_n hx hb d_V_init_9 rfl (lv_at hl 0 rfl) ?_
  refine lv_iload_n hx hb d_V_init_10 rfl (lv_at hl 2 rfl) ?_
  refine fx_putF (B := (fun _ q => q = a) s.heap) hx hb hown (kc_V hK _) hKv 1 (by decide) (hw _ mf_V_13) (fun _ h => h) rfl hin rfl hO (by simp) rfl rfl hL rfl d_V_init_11 (fun H2 locs hO hU2 hL => ?_)
  refine lv_aload_n hx hb d_V_init_14 rfl (lv_at hl 0 rfl) ?_
  refine lv_aload_n hx hb d_V_init_15 rfl (lv_at hl 3 rfl) ?_
  refine fx_putF (B := (fun _ q => q = a) s.heap) hx hb hown (kc_V hK _) hKv 2 (by decide) (hw _ mf_V_16) (fun _ h => h) rfl hin rfl hO (by simp) rfl rfl hL rfl d_V_init_16 (fun H3 locs hO hU3 hL => ?_)
  refine lv_aload_n hx hb d_V_init_19 rfl (lv_at hl 0 rfl) ?_
  refine lv_aload hx hb d_V_init_20 (lv_at hl 4 rfl) ?_
  refine fx_putF (B := (fun _ q => q = a) s.heap) hx hb hown (kc_V hK _) hKv 3 (by decide) (hw _ mf_V_20) (fun _ h => h) rfl hin rfl hO (by simp) rfl rfl hL rfl d_V_init_22 (fun H4 locs hO hU4 hL => ?_)
  exact fx_vret hx hb hr hlk hL (Nat.le_of_ble_eq_true rfl) (Nat.le_of_ble_eq_true rfl) d_V_init_25 (⟨rfl, hO, ((hU1.tr hU2).tr hU3).tr hU4⟩)
set_option maxHeartbeats 4000000 in
set_option maxRecDepth 100000 in
theorem ct_V_with (w : Wd) (a e1 y1 e2 : Nat) (k f : Int32) : fx_C (KT w) y_V_with 2 (rmG 2) [.ref a, .ref e2] (fun H => cVo w a k f e1 y1 H) (fun H o H' => ∃ q, o = .returned (some (.ref q)) ∧ H.size ≤ q ∧ cVo w q k f e2 y1 H') (fun H q => H.size ≤ q) := by
  refine fx_of (ret := (some ((FieldType.object "LastingShapes$Version")))) (cc := b_V_with) (fun s hK => hK.1 _ mk_V_with _) (Nat.le_of_ble_eq_true rfl) ?_
  intro p l e s m below meth c hx hfl hK hb hml hr hlk hnt hown hin hpre ls hl
  have hw : ∀ z ∈ gw, z.before ([.ref a, .ref e2] : List Value).toArray s = true := fun z hz => hK.1 z hz _
  have hKv := hK.2.1
  have hL : ∀ q ∈ ([] : List Loc), (fun H q => H.size ≤ q) s.heap q.base := fun q hq => by cases hq
  have hl : lv_has ls 2 [(0, .ref a), (1, .ref e2)] := hl
  refine fx_new (fs := [.int 0, .int 0, .null, .null]) hx hb hown (kc_V hK _) hKv (hw _ mc_V_8) (hw _ mt_V) (hw _ mn_V) (by decide) (Nat.le_of_ble_eq_true rfl) (Nat.le_of_ble_eq_true rfl) d_V_with_0 (fun q H1 hq hN hG => ?_)
  have hV := hG.ex.kept hpre
  refine lv_dup hx hb d_V_with_3 rfl ?_
  refine lv_aload_n hx hb d_V_with_4 rfl (lv_at hl 0 rfl) ?_
  refine fx_get hx hb hown (kc_V hK _) hKv 0 (by decide) (hw _ mf_V_7) (fun _ h => h) hV rfl d_V_with_5 ?_
  refine lv_aload_n hx hb d_V_with_8 rfl (lv_at hl 0 rfl) ?_
  refine fx_get hx hb hown (kc_V hK _) hKv 1 (by decide) (hw _ mf_V_13) (fun _ h => h) hV rfl d_V_with_9 ?_
  refine lv_aload_n hx hb d_V_with_12 rfl (lv_at hl 1 rfl) ?_
  refine lv_aload_n hx hb d_V_with_13 rfl (lv_at hl 0 rfl) ?_
  refine fx_get hx hb hown (kc_V hK _) hKv 3 (by decide) (hw _ mf_V_20) (fun _ h => h) hV rfl d_V_with_14 ?_
  refine fx_cI (B := (fun H q => H.size ≤ q) s.heap) KT_moved (ct_V_init w q e2 y1 k f) hx hfl hK hb (by rw [hml]; exact hl.1) hown (hw _ mm_V_23) (hw _ mk_V_init) (hw _ mi_V_init) rfl (show fx_N y_V_init 4 by decide +kernel) rfl ⟨Nat.le_of_ble_eq_true rfl, Nat.le_of_ble_eq_true rfl, Nat.le_of_ble_eq_true rfl, Nat.le_of_ble_eq_true rfl⟩ (hN) d_V_with_17 hL (fun z hz => by rw [hz]; show s.heap.size ≤ q; omega) (fun v H2 locs hq hF hL => ?_) (fun x H2 locs hq hF hL => by cases hq.1)
  obtain ⟨hv, hN, hU⟩ := hq
  cases hv
  refine W.eq (g2 := F0 m 20 ls [.ref q]) rfl ?_
  exact fx_aret hx hb hr (Or.inl ⟨_, rfl⟩) (Or.inr ⟨_, rfl⟩) hlk hL (Nat.le_of_ble_eq_true rfl) (Nat.le_of_ble_eq_true rfl) d_V_with_20 (⟨q, rfl, by omega, hN⟩)
end
