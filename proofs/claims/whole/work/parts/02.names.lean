/-! Names: classes, fields, methods, decode rows, words of the tables by their places (by program out of the Statement). -/
abbrev R_L : String := "LastingShapes"
abbrev R_V : String := "LastingShapes$Version"
abbrev R_M : String := "LastingShapesModel"
abbrev R_W : String := "LastingShapesLaw"
abbrev R_AL : String := "java/util/ArrayList"
abbrev R_AB : String := "java/util/AbstractList"
abbrev R_AC : String := "java/util/AbstractCollection"
abbrev R_AR : String := "java/util/Arrays"
abbrev R_AS : String := "jdk/internal/util/ArraysSupport"
abbrev R_PC : String := "jdk/internal/util/Preconditions"
abbrev R_OB : String := "java/util/Objects"
abbrev R_MT : String := "java/lang/Math"
abbrev R_IN : String := "java/lang/Integer"
abbrev R_OJ : String := "java/lang/Object"
abbrev R_SY : String := "java/lang/System"
def T_L : u_T := fun k => match k with
  | _ => ("LastingShapes", "made", "Ljava/util/ArrayList;", true)
def ty_L : Nat → FieldType := fun k => match k with
  | _ => .object "java/util/ArrayList"
theorem tyok_L : ∀ k, k < 1 → parseFieldDescriptor (T_L k).2.2.1 = some (ty_L k) := by decide +kernel
theorem nm_L : ∀ a, a < 1 → ∀ b, b < 1 → a ≠ b → (T_L a).2.1 ≠ (T_L b).2.1 := by decide +kernel
def T_V : u_T := fun k => match k with
  | 0 => ("LastingShapes$Version", "kind", "I", true)
  | 1 => ("LastingShapes$Version", "form", "I", true)
  | 2 => ("LastingShapes$Version", "elements", "[I", true)
  | _ => ("LastingShapes$Version", "keys", "[I", true)
def ty_V : Nat → FieldType := fun k => match k with
  | 0 => .int
  | 1 => .int
  | 2 => .array .int
  | _ => .array .int
theorem tyok_V : ∀ k, k < 4 → parseFieldDescriptor (T_V k).2.2.1 = some (ty_V k) := by decide +kernel
theorem nm_V : ∀ a, a < 4 → ∀ b, b < 4 → a ≠ b → (T_V a).2.1 ≠ (T_V b).2.1 := by decide +kernel
def T_M : u_T := fun k => match k with
  | 0 => ("LastingShapesModel", "versions", "I", false)
  | 1 => ("LastingShapesModel", "kinds", "[I", true)
  | 2 => ("LastingShapesModel", "forms", "[I", true)
  | 3 => ("LastingShapesModel", "sizes", "[I", true)
  | 4 => ("LastingShapesModel", "elements", "[I", true)
  | 5 => ("LastingShapesModel", "keys", "[I", true)
  | 6 => ("LastingShapesModel", "thrown", "I", false)
  | _ => ("LastingShapesModel", "fewest", "[I", true)
def ty_M : Nat → FieldType := fun k => match k with
  | 0 => .int
  | 1 => .array .int
  | 2 => .array .int
  | 3 => .array .int
  | 4 => .array .int
  | 5 => .array .int
  | 6 => .int
  | _ => .array .int
theorem tyok_M : ∀ k, k < 8 → parseFieldDescriptor (T_M k).2.2.1 = some (ty_M k) := by decide +kernel
theorem nm_M : ∀ a, a < 8 → ∀ b, b < 8 → a ≠ b → (T_M a).2.1 ≠ (T_M b).2.1 := by decide +kernel
def T_AL : u_T := fun k => match k with
  | 0 => ("java/util/AbstractList", "modCount", "I", false)
  | 1 => ("java/util/ArrayList", "elementData", "[Ljava/lang/Object;", false)
  | _ => ("java/util/ArrayList", "size", "I", false)
def ty_AL : Nat → FieldType := fun k => match k with
  | 0 => .int
  | 1 => .array (.object "java/lang/Object")
  | _ => .int
theorem tyok_AL : ∀ k, k < 3 → parseFieldDescriptor (T_AL k).2.2.1 = some (ty_AL k) := by decide +kernel
theorem nm_AL : ∀ a, a < 3 → ∀ b, b < 3 → a ≠ b → (T_AL a).2.1 ≠ (T_AL b).2.1 := by decide +kernel
abbrev cls : List vw_C := [(R_L, T_L, 1), (R_V, T_V, 4), (R_M, T_M, 8), (R_AL, T_AL, 3)]
def gw : List Cond := lw_tbl.filter goodWord
theorem gw_in {x : Cond} (h : x ∈ lw_tbl) (g : goodWord x = true) : x ∈ gw := List.mem_filter.mpr ⟨h, g⟩
abbrev b_L_init : ByteArray := prog_1_method_1_code
def y_L_init : MethodName := ⟨R_L, "<init>", "()V"⟩
theorem mk_L_init : Cond.code y_L_init b_L_init 1 none ∈ gw := gw_in (List.mem_append_right _ (show _ ∈ tables_1 from List.mem_append_left _ (List.mem_of_getElem? (i := 25) rfl))) rfl
abbrev b_OJ_init : ByteArray := object_method_1_code
def y_OJ_init : MethodName := ⟨R_OJ, "<init>", "()V"⟩
theorem mk_OJ_init : Cond.code y_OJ_init b_OJ_init 1 none ∈ gw := gw_in (List.mem_append_right _ (show _ ∈ tables_1 from List.mem_append_left _ (List.mem_of_getElem? (i := 28) rfl))) rfl
abbrev b_AL_init : ByteArray := prog_20_method_2_code
def y_AL_init : MethodName := ⟨R_AL, "<init>", "()V"⟩
theorem mk_AL_init : Cond.code y_AL_init b_AL_init 1 none ∈ gw := gw_in (List.mem_append_right _ (show _ ∈ tables_1 from List.mem_append_left _ (List.mem_of_getElem? (i := 33) rfl))) rfl
abbrev b_AB_init : ByteArray := prog_19_method_1_code
def y_AB_init : MethodName := ⟨R_AB, "<init>", "()V"⟩
theorem mk_AB_init : Cond.code y_AB_init b_AB_init 1 none ∈ gw := gw_in (List.mem_append_right _ (show _ ∈ tables_1 from List.mem_append_left _ (List.mem_of_getElem? (i := 36) rfl))) rfl
abbrev b_AC_init : ByteArray := prog_18_method_1_code
def y_AC_init : MethodName := ⟨R_AC, "<init>", "()V"⟩
theorem mk_AC_init : Cond.code y_AC_init b_AC_init 1 none ∈ gw := gw_in (List.mem_append_right _ (show _ ∈ tables_1 from List.mem_append_left _ (List.mem_of_getElem? (i := 39) rfl))) rfl
abbrev b_L_versions : ByteArray := prog_1_method_14_code
def y_L_versions : MethodName := ⟨R_L, "versions", "()I"⟩
theorem mk_L_versions : Cond.code y_L_versions b_L_versions 1 (some (FieldType.int)) ∈ gw := gw_in (List.mem_append_right _ (show _ ∈ tables_1 from List.mem_append_left _ (List.mem_of_getElem? (i := 62) rfl))) rfl
abbrev b_AL_size : ByteArray := prog_20_method_8_code
def y_AL_size : MethodName := ⟨R_AL, "size", "()I"⟩
theorem mk_AL_size : Cond.code y_AL_size b_AL_size 1 (some (FieldType.int)) ∈ gw := gw_in (List.mem_append_right _ (show _ ∈ tables_1 from List.mem_append_left _ (List.mem_of_getElem? (i := 66) rfl))) rfl
abbrev b_W_empty : ByteArray := method_3_code
def y_W_empty : MethodName := ⟨R_W, "empty", "(LLastingShapes;II[J)I"⟩
theorem mk_W_empty : Cond.codeWith y_W_empty b_W_empty 5 (some (FieldType.int)) [(0, 10, 13, 13), (0, 10, 17, 15)] ∈ gw := gw_in (List.mem_append_right _ (show _ ∈ tables_1 from List.mem_append_left _ (List.mem_of_getElem? (i := 69) rfl))) rfl
abbrev b_L_empty : ByteArray := prog_1_method_2_code
def y_L_empty : MethodName := ⟨R_L, "empty", "(II)I"⟩
theorem mk_L_empty : Cond.code y_L_empty b_L_empty 3 (some (FieldType.int)) ∈ gw := gw_in (List.mem_append_right _ (show _ ∈ tables_1 from List.mem_append_left _ (List.mem_of_getElem? (i := 75) rfl))) rfl
abbrev b_L_isKindWithForm : ByteArray := prog_1_method_22_code
def y_L_isKindWithForm : MethodName := ⟨R_L, "isKindWithForm", "(II)Z"⟩
theorem mk_L_isKindWithForm : Cond.code y_L_isKindWithForm b_L_isKindWithForm 2 (some (FieldType.boolean)) ∈ gw := gw_in (List.mem_append_right _ (show _ ∈ tables_1 from List.mem_append_left _ (List.mem_of_getElem? (i := 78) rfl))) rfl
abbrev b_L_refuseBeyondLimits : ByteArray := prog_1_method_18_code
def y_L_refuseBeyondLimits : MethodName := ⟨R_L, "refuseBeyondLimits", "(I)V"⟩
theorem mk_L_refuseBeyondLimits : Cond.code y_L_refuseBeyondLimits b_L_refuseBeyondLimits 2 none ∈ gw := gw_in (List.mem_append_right _ (show _ ∈ tables_1 from List.mem_append_left _ (List.mem_of_getElem? (i := 153) rfl))) rfl
abbrev b_V_init : ByteArray := prog_2_method_1_code
def y_V_init : MethodName := ⟨R_V, "<init>", "(II[I[I)V"⟩
theorem mk_V_init : Cond.code y_V_init b_V_init 5 none ∈ gw := gw_in (List.mem_append_right _ (show _ ∈ tables_1 from List.mem_append_left _ (List.mem_of_getElem? (i := 175) rfl))) rfl
abbrev b_L_keep : ByteArray := prog_1_method_19_code
def y_L_keep : MethodName := ⟨R_L, "keep", "(LLastingShapes$Version;)I"⟩
theorem mk_L_keep : Cond.code y_L_keep b_L_keep 2 (some (FieldType.int)) ∈ gw := gw_in (List.mem_append_right _ (show _ ∈ tables_1 from List.mem_append_left _ (List.mem_of_getElem? (i := 198) rfl))) rfl
abbrev b_AL_add : ByteArray := prog_20_method_25_code
def y_AL_add : MethodName := ⟨R_AL, "add", "(Ljava/lang/Object;)Z"⟩
theorem mk_AL_add : Cond.code y_AL_add b_AL_add 2 (some (FieldType.boolean)) ∈ gw := gw_in (List.mem_append_right _ (show _ ∈ tables_1 from List.mem_append_left _ (List.mem_of_getElem? (i := 202) rfl))) rfl
abbrev b_AL_add3 : ByteArray := prog_20_method_24_code
def y_AL_add3 : MethodName := ⟨R_AL, "add", "(Ljava/lang/Object;[Ljava/lang/Object;I)V"⟩
theorem mk_AL_add3 : Cond.code y_AL_add3 b_AL_add3 4 none ∈ gw := gw_in (List.mem_append_right _ (show _ ∈ tables_1 from List.mem_append_left _ (List.mem_of_getElem? (i := 206) rfl))) rfl
abbrev b_AL_grow : ByteArray := prog_20_method_7_code
def y_AL_grow : MethodName := ⟨R_AL, "grow", "()[Ljava/lang/Object;"⟩
theorem mk_AL_grow : Cond.code y_AL_grow b_AL_grow 1 (some ((FieldType.array (FieldType.object "java/lang/Object")))) ∈ gw := gw_in (List.mem_append_right _ (show _ ∈ tables_1 from List.mem_append_left _ (List.mem_of_getElem? (i := 210) rfl))) rfl
abbrev b_AL_growI : ByteArray := prog_20_method_6_code
def y_AL_growI : MethodName := ⟨R_AL, "grow", "(I)[Ljava/lang/Object;"⟩
theorem mk_AL_growI : Cond.code y_AL_growI b_AL_growI 4 (some ((FieldType.array (FieldType.object "java/lang/Object")))) ∈ gw := gw_in (List.mem_append_right _ (show _ ∈ tables_1 from List.mem_append_left _ (List.mem_of_getElem? (i := 214) rfl))) rfl
abbrev b_AS_newLength : ByteArray := prog_28_method_27_code
def y_AS_newLength : MethodName := ⟨R_AS, "newLength", "(III)I"⟩
theorem mk_AS_newLength : Cond.code y_AS_newLength b_AS_newLength 4 (some (FieldType.int)) ∈ gw := gw_in (List.mem_append_right _ (show _ ∈ tables_1 from List.mem_append_left _ (List.mem_of_getElem? (i := 217) rfl))) rfl
abbrev b_MT_max : ByteArray := prog_13_method_65_code
def y_MT_max : MethodName := ⟨R_MT, "max", "(II)I"⟩
theorem mk_MT_max : Cond.code y_MT_max b_MT_max 2 (some (FieldType.int)) ∈ gw := gw_in (List.mem_append_right _ (show _ ∈ tables_1 from List.mem_append_left _ (List.mem_of_getElem? (i := 220) rfl))) rfl
abbrev b_AS_hugeLength : ByteArray := prog_28_method_28_code
def y_AS_hugeLength : MethodName := ⟨R_AS, "hugeLength", "(II)I"⟩
theorem mk_AS_hugeLength : Cond.code y_AS_hugeLength b_AS_hugeLength 3 (some (FieldType.int)) ∈ gw := gw_in (List.mem_append_right _ (show _ ∈ tables_1 from List.mem_append_left _ (List.mem_of_getElem? (i := 224) rfl))) rfl
abbrev b_AR_copyOf2 : ByteArray := prog_21_method_119_code
def y_AR_copyOf2 : MethodName := ⟨R_AR, "copyOf", "([Ljava/lang/Object;I)[Ljava/lang/Object;"⟩
theorem mk_AR_copyOf2 : Cond.code y_AR_copyOf2 b_AR_copyOf2 2 (some ((FieldType.array (FieldType.object "java/lang/Object")))) ∈ gw := gw_in (List.mem_append_right _ (show _ ∈ tables_1 from List.mem_append_left _ (List.mem_of_getElem? (i := 227) rfl))) rfl
abbrev b_AR_copyOf3 : ByteArray := prog_21_method_120_code
def y_AR_copyOf3 : MethodName := ⟨R_AR, "copyOf", "([Ljava/lang/Object;ILjava/lang/Class;)[Ljava/lang/Object;"⟩
theorem mk_AR_copyOf3 : Cond.code y_AR_copyOf3 b_AR_copyOf3 4 (some ((FieldType.array (FieldType.object "java/lang/Object")))) ∈ gw := gw_in (List.mem_append_right _ (show _ ∈ tables_1 from List.mem_append_right _ (List.mem_append_left _ (List.mem_of_getElem? (i := 2) rfl)))) rfl
abbrev b_MT_min : ByteArray := prog_13_method_69_code
def y_MT_min : MethodName := ⟨R_MT, "min", "(II)I"⟩
theorem mk_MT_min : Cond.code y_MT_min b_MT_min 2 (some (FieldType.int)) ∈ gw := gw_in (List.mem_append_right _ (show _ ∈ tables_1 from List.mem_append_right _ (List.mem_append_left _ (List.mem_of_getElem? (i := 8) rfl)))) rfl
abbrev b_W_add : ByteArray := method_4_code
def y_W_add : MethodName := ⟨R_W, "add", "(LLastingShapes;II[J)I"⟩
theorem mk_W_add : Cond.codeWith y_W_add b_W_add 5 (some (FieldType.int)) [(0, 10, 13, 13), (0, 10, 17, 15)] ∈ gw := gw_in (List.mem_append_right _ (show _ ∈ tables_1 from List.mem_append_right _ (List.mem_append_left _ (List.mem_of_getElem? (i := 16) rfl)))) rfl
abbrev b_L_add : ByteArray := prog_1_method_3_code
def y_L_add : MethodName := ⟨R_L, "add", "(II)I"⟩
theorem mk_L_add : Cond.code y_L_add b_L_add 4 (some (FieldType.int)) ∈ gw := gw_in (List.mem_append_right _ (show _ ∈ tables_1 from List.mem_append_right _ (List.mem_append_left _ (List.mem_of_getElem? (i := 20) rfl)))) rfl
abbrev b_L_foundButNoMap : ByteArray := prog_1_method_17_code
def y_L_foundButNoMap : MethodName := ⟨R_L, "foundButNoMap", "(I)LLastingShapes$Version;"⟩
theorem mk_L_foundButNoMap : Cond.code y_L_foundButNoMap b_L_foundButNoMap 3 (some ((FieldType.object "LastingShapes$Version"))) ∈ gw := gw_in (List.mem_append_right _ (show _ ∈ tables_1 from List.mem_append_right _ (List.mem_append_left _ (List.mem_of_getElem? (i := 24) rfl)))) rfl
abbrev b_L_found : ByteArray := prog_1_method_15_code
def y_L_found : MethodName := ⟨R_L, "found", "(I)LLastingShapes$Version;"⟩
theorem mk_L_found : Cond.code y_L_found b_L_found 2 (some ((FieldType.object "LastingShapes$Version"))) ∈ gw := gw_in (List.mem_append_right _ (show _ ∈ tables_1 from List.mem_append_right _ (List.mem_append_left _ (List.mem_of_getElem? (i := 28) rfl)))) rfl
abbrev b_AL_get : ByteArray := prog_20_method_20_code
def y_AL_get : MethodName := ⟨R_AL, "get", "(I)Ljava/lang/Object;"⟩
theorem mk_AL_get : Cond.code y_AL_get b_AL_get 2 (some ((FieldType.object "java/lang/Object"))) ∈ gw := gw_in (List.mem_append_right _ (show _ ∈ tables_1 from List.mem_append_right _ (List.mem_append_left _ (List.mem_of_getElem? (i := 33) rfl)))) rfl
abbrev b_OB_checkIndex : ByteArray := prog_25_method_17_code
def y_OB_checkIndex : MethodName := ⟨R_OB, "checkIndex", "(II)I"⟩
theorem mk_OB_checkIndex : Cond.code y_OB_checkIndex b_OB_checkIndex 2 (some (FieldType.int)) ∈ gw := gw_in (List.mem_append_right _ (show _ ∈ tables_1 from List.mem_append_right _ (List.mem_append_left _ (List.mem_of_getElem? (i := 36) rfl)))) rfl
abbrev b_PC_checkIndex : ByteArray := prog_29_method_11_code
def y_PC_checkIndex : MethodName := ⟨R_PC, "checkIndex", "(IILjava/util/function/BiFunction;)I"⟩
theorem mk_PC_checkIndex : Cond.code y_PC_checkIndex b_PC_checkIndex 3 (some (FieldType.int)) ∈ gw := gw_in (List.mem_append_right _ (show _ ∈ tables_1 from List.mem_append_right _ (List.mem_append_left _ (List.mem_of_getElem? (i := 39) rfl)))) rfl
abbrev b_AL_elementData : ByteArray := prog_20_method_18_code
def y_AL_elementData : MethodName := ⟨R_AL, "elementData", "(I)Ljava/lang/Object;"⟩
theorem mk_AL_elementData : Cond.code y_AL_elementData b_AL_elementData 2 (some ((FieldType.object "java/lang/Object"))) ∈ gw := gw_in (List.mem_append_right _ (show _ ∈ tables_1 from List.mem_append_right _ (List.mem_append_left _ (List.mem_of_getElem? (i := 43) rfl)))) rfl
abbrev b_L_placeToAdd : ByteArray := prog_1_method_24_code
def y_L_placeToAdd : MethodName := ⟨R_L, "placeToAdd", "(LLastingShapes$Version;I)I"⟩
theorem mk_L_placeToAdd : Cond.code y_L_placeToAdd b_L_placeToAdd 2 (some (FieldType.int)) ∈ gw := gw_in (List.mem_append_right _ (show _ ∈ tables_1 from List.mem_append_right _ (List.mem_append_left _ (List.mem_of_getElem? (i := 47) rfl)))) rfl
abbrev b_L_countBelow : ByteArray := prog_1_method_25_code
def y_L_countBelow : MethodName := ⟨R_L, "countBelow", "([II)I"⟩
theorem mk_L_countBelow : Cond.code y_L_countBelow b_L_countBelow 3 (some (FieldType.int)) ∈ gw := gw_in (List.mem_append_right _ (show _ ∈ tables_1 from List.mem_append_right _ (List.mem_append_left _ (List.mem_of_getElem? (i := 50) rfl)))) rfl
abbrev b_L_inserted : ByteArray := prog_1_method_27_code
def y_L_inserted : MethodName := ⟨R_L, "inserted", "([III)[I"⟩
theorem mk_L_inserted : Cond.code y_L_inserted b_L_inserted 4 (some ((FieldType.array FieldType.int))) ∈ gw := gw_in (List.mem_append_right _ (show _ ∈ tables_1 from List.mem_append_right _ (List.mem_append_left _ (List.mem_of_getElem? (i := 53) rfl)))) rfl
abbrev b_V_with : ByteArray := prog_2_method_2_code
def y_V_with : MethodName := ⟨R_V, "with", "([I)LLastingShapes$Version;"⟩
theorem mk_V_with : Cond.code y_V_with b_V_with 2 (some ((FieldType.object "LastingShapes$Version"))) ∈ gw := gw_in (List.mem_append_right _ (show _ ∈ tables_1 from List.mem_append_right _ (List.mem_append_left _ (List.mem_of_getElem? (i := 58) rfl)))) rfl
abbrev b_W_first : ByteArray := method_5_code
def y_W_first : MethodName := ⟨R_W, "first", "(LLastingShapes;I[J)I"⟩
theorem mk_W_first : Cond.codeWith y_W_first b_W_first 4 (some (FieldType.int)) [(0, 9, 12, 13), (0, 9, 15, 24)] ∈ gw := gw_in (List.mem_append_right _ (show _ ∈ tables_1 from List.mem_append_right _ (List.mem_append_left _ (List.mem_of_getElem? (i := 63) rfl)))) rfl
abbrev b_L_first : ByteArray := prog_1_method_4_code
def y_L_first : MethodName := ⟨R_L, "first", "(I)I"⟩
theorem mk_L_first : Cond.code y_L_first b_L_first 3 (some (FieldType.int)) ∈ gw := gw_in (List.mem_append_right _ (show _ ∈ tables_1 from List.mem_append_right _ (List.mem_append_left _ (List.mem_of_getElem? (i := 68) rfl)))) rfl
abbrev b_L_refuseWithoutElements : ByteArray := prog_1_method_20_code
def y_L_refuseWithoutElements : MethodName := ⟨R_L, "refuseWithoutElements", "(LLastingShapes$Version;)V"⟩
theorem mk_L_refuseWithoutElements : Cond.code y_L_refuseWithoutElements b_L_refuseWithoutElements 1 none ∈ gw := gw_in (List.mem_append_right _ (show _ ∈ tables_1 from List.mem_append_right _ (List.mem_append_left _ (List.mem_of_getElem? (i := 71) rfl)))) rfl
abbrev b_W_rest : ByteArray := method_6_code
def y_W_rest : MethodName := ⟨R_W, "rest", "(LLastingShapes;I[J)I"⟩
theorem mk_W_rest : Cond.codeWith y_W_rest b_W_rest 4 (some (FieldType.int)) [(0, 9, 12, 13), (0, 9, 15, 15), (0, 9, 18, 24)] ∈ gw := gw_in (List.mem_append_right _ (show _ ∈ tables_1 from List.mem_append_right _ (List.mem_append_left _ (List.mem_of_getElem? (i := 90) rfl)))) rfl
abbrev b_L_rest : ByteArray := prog_1_method_5_code
def y_L_rest : MethodName := ⟨R_L, "rest", "(I)I"⟩
theorem mk_L_rest : Cond.code y_L_rest b_L_rest 3 (some (FieldType.int)) ∈ gw := gw_in (List.mem_append_right _ (show _ ∈ tables_1 from List.mem_append_right _ (List.mem_append_left _ (List.mem_of_getElem? (i := 94) rfl)))) rfl
abbrev b_AR_copyOfRange : ByteArray := prog_21_method_136_code
def y_AR_copyOfRange : MethodName := ⟨R_AR, "copyOfRange", "([III)[I"⟩
theorem mk_AR_copyOfRange : Cond.code y_AR_copyOfRange b_AR_copyOfRange 3 (some ((FieldType.array FieldType.int))) ∈ gw := gw_in (List.mem_append_right _ (show _ ∈ tables_1 from List.mem_append_right _ (List.mem_append_left _ (List.mem_of_getElem? (i := 97) rfl)))) rfl
abbrev b_AR_copyOfRangeInt : ByteArray := prog_21_method_137_code
def y_AR_copyOfRangeInt : MethodName := ⟨R_AR, "copyOfRangeInt", "([III)[I"⟩
theorem mk_AR_copyOfRangeInt : Cond.code y_AR_copyOfRangeInt b_AR_copyOfRangeInt 5 (some ((FieldType.array FieldType.int))) ∈ gw := gw_in (List.mem_append_right _ (show _ ∈ tables_1 from List.mem_append_right _ (List.mem_append_left _ (List.mem_of_getElem? (i := 100) rfl)))) rfl
abbrev b_AR_checkLength : ByteArray := prog_21_method_131_code
def y_AR_checkLength : MethodName := ⟨R_AR, "checkLength", "(II)V"⟩
theorem mk_AR_checkLength : Cond.code y_AR_checkLength b_AR_checkLength 2 none ∈ gw := gw_in (List.mem_append_right _ (show _ ∈ tables_1 from List.mem_append_right _ (List.mem_append_left _ (List.mem_of_getElem? (i := 103) rfl)))) rfl
abbrev b_W_join : ByteArray := method_7_code
def y_W_join : MethodName := ⟨R_W, "join", "(LLastingShapes;II[J)I"⟩
theorem mk_W_join : Cond.codeWith y_W_join b_W_join 5 (some (FieldType.int)) [(0, 10, 13, 13), (0, 10, 17, 15)] ∈ gw := gw_in (List.mem_append_right _ (show _ ∈ tables_1 from List.mem_append_right _ (List.mem_append_left _ (List.mem_of_getElem? (i := 113) rfl)))) rfl
abbrev b_L_join : ByteArray := prog_1_method_6_code
def y_L_join : MethodName := ⟨R_L, "join", "(II)I"⟩
theorem mk_L_join : Cond.code y_L_join b_L_join 6 (some (FieldType.int)) ∈ gw := gw_in (List.mem_append_right _ (show _ ∈ tables_1 from List.mem_append_right _ (List.mem_append_left _ (List.mem_of_getElem? (i := 117) rfl)))) rfl
abbrev b_L_canBeJoined : ByteArray := prog_1_method_23_code
def y_L_canBeJoined : MethodName := ⟨R_L, "canBeJoined", "(LLastingShapes$Version;LLastingShapes$Version;)Z"⟩
theorem mk_L_canBeJoined : Cond.code y_L_canBeJoined b_L_canBeJoined 2 (some (FieldType.boolean)) ∈ gw := gw_in (List.mem_append_right _ (show _ ∈ tables_1 from List.mem_append_right _ (List.mem_append_left _ (List.mem_of_getElem? (i := 120) rfl)))) rfl
abbrev b_L_merged : ByteArray := prog_1_method_30_code
def y_L_merged : MethodName := ⟨R_L, "merged", "([I[I)[I"⟩
theorem mk_L_merged : Cond.code y_L_merged b_L_merged 6 (some ((FieldType.array FieldType.int))) ∈ gw := gw_in (List.mem_append_right _ (show _ ∈ tables_1 from List.mem_append_right _ (List.mem_append_left _ (List.mem_of_getElem? (i := 124) rfl)))) rfl
abbrev b_L_appended : ByteArray := prog_1_method_29_code
def y_L_appended : MethodName := ⟨R_L, "appended", "([I[I)[I"⟩
theorem mk_L_appended : Cond.code y_L_appended b_L_appended 3 (some ((FieldType.array FieldType.int))) ∈ gw := gw_in (List.mem_append_right _ (show _ ∈ tables_1 from List.mem_append_right _ (List.mem_append_left _ (List.mem_of_getElem? (i := 127) rfl)))) rfl
abbrev b_AR_copyOfI : ByteArray := prog_21_method_123_code
def y_AR_copyOfI : MethodName := ⟨R_AR, "copyOf", "([II)[I"⟩
theorem mk_AR_copyOfI : Cond.code y_AR_copyOfI b_AR_copyOfI 3 (some ((FieldType.array FieldType.int))) ∈ gw := gw_in (List.mem_append_right _ (show _ ∈ tables_1 from List.mem_append_right _ (List.mem_append_left _ (List.mem_of_getElem? (i := 130) rfl)))) rfl
abbrev b_W_bind : ByteArray := method_8_code
def y_W_bind : MethodName := ⟨R_W, "bind", "(LLastingShapes;III[J)I"⟩
theorem mk_W_bind : Cond.codeWith y_W_bind b_W_bind 6 (some (FieldType.int)) [(0, 12, 15, 13), (0, 12, 19, 15)] ∈ gw := gw_in (List.mem_append_right _ (show _ ∈ tables_1 from List.mem_append_right _ (List.mem_append_left _ (List.mem_of_getElem? (i := 133) rfl)))) rfl
abbrev b_L_bind : ByteArray := prog_1_method_7_code
def y_L_bind : MethodName := ⟨R_L, "bind", "(III)I"⟩
theorem mk_L_bind : Cond.code y_L_bind b_L_bind 7 (some (FieldType.int)) ∈ gw := gw_in (List.mem_append_right _ (show _ ∈ tables_1 from List.mem_append_right _ (List.mem_append_left _ (List.mem_of_getElem? (i := 137) rfl)))) rfl
abbrev b_L_foundOfKind : ByteArray := prog_1_method_16_code
def y_L_foundOfKind : MethodName := ⟨R_L, "foundOfKind", "(II)LLastingShapes$Version;"⟩
theorem mk_L_foundOfKind : Cond.code y_L_foundOfKind b_L_foundOfKind 4 (some ((FieldType.object "LastingShapes$Version"))) ∈ gw := gw_in (List.mem_append_right _ (show _ ∈ tables_1 from List.mem_append_right _ (List.mem_append_left _ (List.mem_of_getElem? (i := 141) rfl)))) rfl
abbrev b_L_hasAt : ByteArray := prog_1_method_26_code
def y_L_hasAt : MethodName := ⟨R_L, "hasAt", "([III)Z"⟩
theorem mk_L_hasAt : Cond.code y_L_hasAt b_L_hasAt 3 (some (FieldType.boolean)) ∈ gw := gw_in (List.mem_append_right _ (show _ ∈ tables_1 from List.mem_append_right _ (List.mem_append_left _ (List.mem_of_getElem? (i := 146) rfl)))) rfl
abbrev b_L_replaced : ByteArray := prog_1_method_28_code
def y_L_replaced : MethodName := ⟨R_L, "replaced", "([III)[I"⟩
theorem mk_L_replaced : Cond.code y_L_replaced b_L_replaced 4 (some ((FieldType.array FieldType.int))) ∈ gw := gw_in (List.mem_append_right _ (show _ ∈ tables_1 from List.mem_append_right _ (List.mem_append_left _ (List.mem_of_getElem? (i := 149) rfl)))) rfl
abbrev b_W_value : ByteArray := method_9_code
def y_W_value : MethodName := ⟨R_W, "value", "(LLastingShapes;II[J)I"⟩
theorem mk_W_value : Cond.codeWith y_W_value b_W_value 5 (some (FieldType.int)) [(0, 10, 13, 13), (0, 10, 17, 24)] ∈ gw := gw_in (List.mem_append_right _ (show _ ∈ tables_1 from List.mem_append_right _ (List.mem_append_left _ (List.mem_of_getElem? (i := 154) rfl)))) rfl
abbrev b_L_value : ByteArray := prog_1_method_8_code
def y_L_value : MethodName := ⟨R_L, "value", "(II)I"⟩
theorem mk_L_value : Cond.code y_L_value b_L_value 5 (some (FieldType.int)) ∈ gw := gw_in (List.mem_append_right _ (show _ ∈ tables_1 from List.mem_append_right _ (List.mem_append_left _ (List.mem_of_getElem? (i := 158) rfl)))) rfl
abbrev b_W_update : ByteArray := method_10_code
def y_W_update : MethodName := ⟨R_W, "update", "(LLastingShapes;III[J)I"⟩
theorem mk_W_update : Cond.codeWith y_W_update b_W_update 6 (some (FieldType.int)) [(0, 12, 15, 13), (0, 12, 19, 15), (0, 12, 23, 42)] ∈ gw := gw_in (List.mem_append_right _ (show _ ∈ tables_1 from List.mem_append_right _ (List.mem_append_left _ (List.mem_of_getElem? (i := 162) rfl)))) rfl
abbrev b_L_update : ByteArray := prog_1_method_9_code
def y_L_update : MethodName := ⟨R_L, "update", "(III)I"⟩
theorem mk_L_update : Cond.code y_L_update b_L_update 5 (some (FieldType.int)) ∈ gw := gw_in (List.mem_append_right _ (show _ ∈ tables_1 from List.mem_append_right _ (List.mem_append_left _ (List.mem_of_getElem? (i := 167) rfl)))) rfl
abbrev b_L_refuseOutside : ByteArray := prog_1_method_21_code
def y_L_refuseOutside : MethodName := ⟨R_L, "refuseOutside", "(LLastingShapes$Version;I)V"⟩
theorem mk_L_refuseOutside : Cond.code y_L_refuseOutside b_L_refuseOutside 2 none ∈ gw := gw_in (List.mem_append_right _ (show _ ∈ tables_1 from List.mem_append_right _ (List.mem_append_left _ (List.mem_of_getElem? (i := 170) rfl)))) rfl
abbrev b_W_at : ByteArray := method_11_code
def y_W_at : MethodName := ⟨R_W, "at", "(LLastingShapes;II[J)I"⟩
theorem mk_W_at : Cond.codeWith y_W_at b_W_at 5 (some (FieldType.int)) [(0, 10, 13, 13), (0, 10, 17, 42)] ∈ gw := gw_in (List.mem_append_right _ (show _ ∈ tables_1 from List.mem_append_right _ (List.mem_append_left _ (List.mem_of_getElem? (i := 189) rfl)))) rfl
abbrev b_L_at : ByteArray := prog_1_method_10_code
def y_L_at : MethodName := ⟨R_L, "at", "(II)I"⟩
theorem mk_L_at : Cond.code y_L_at b_L_at 4 (some (FieldType.int)) ∈ gw := gw_in (List.mem_append_right _ (show _ ∈ tables_1 from List.mem_append_right _ (List.mem_append_left _ (List.mem_of_getElem? (i := 193) rfl)))) rfl
abbrev b_W_size : ByteArray := method_12_code
def y_W_size : MethodName := ⟨R_W, "size", "(LLastingShapes;I[J)I"⟩
theorem mk_W_size : Cond.codeWith y_W_size b_W_size 4 (some (FieldType.int)) [(0, 9, 12, 13)] ∈ gw := gw_in (List.mem_append_right _ (show _ ∈ tables_1 from List.mem_append_right _ (List.mem_append_left _ (List.mem_of_getElem? (i := 196) rfl)))) rfl
abbrev b_L_size : ByteArray := prog_1_method_11_code
def y_L_size : MethodName := ⟨R_L, "size", "(I)I"⟩
theorem mk_L_size : Cond.code y_L_size b_L_size 2 (some (FieldType.int)) ∈ gw := gw_in (List.mem_append_right _ (show _ ∈ tables_1 from List.mem_append_right _ (List.mem_append_left _ (List.mem_of_getElem? (i := 200) rfl)))) rfl
abbrev b_W_parts : ByteArray := method_13_code
def y_W_parts : MethodName := ⟨R_W, "parts", "(LLastingShapes;I[J)I"⟩
theorem mk_W_parts : Cond.codeWith y_W_parts b_W_parts 4 (some (FieldType.int)) [(0, 9, 12, 13)] ∈ gw := gw_in (List.mem_append_right _ (show _ ∈ tables_1 from List.mem_append_right _ (List.mem_append_left _ (List.mem_of_getElem? (i := 203) rfl)))) rfl
abbrev b_L_parts : ByteArray := prog_1_method_12_code
def y_L_parts : MethodName := ⟨R_L, "parts", "(I)I"⟩
theorem mk_L_parts : Cond.code y_L_parts b_L_parts 4 (some (FieldType.int)) ∈ gw := gw_in (List.mem_append_right _ (show _ ∈ tables_1 from List.mem_append_right _ (List.mem_append_left _ (List.mem_of_getElem? (i := 207) rfl)))) rfl
abbrev b_L_fewestTrees : ByteArray := prog_1_method_31_code
def y_L_fewestTrees : MethodName := ⟨R_L, "fewestTrees", "(I)I"⟩
theorem mk_L_fewestTrees : Cond.code y_L_fewestTrees b_L_fewestTrees 4 (some (FieldType.int)) ∈ gw := gw_in (List.mem_append_right _ (show _ ∈ tables_1 from List.mem_append_right _ (List.mem_append_left _ (List.mem_of_getElem? (i := 210) rfl)))) rfl
abbrev b_IN_bitCount : ByteArray := prog_11_method_49_code
def y_IN_bitCount : MethodName := ⟨R_IN, "bitCount", "(I)I"⟩
theorem mk_IN_bitCount : Cond.code y_IN_bitCount b_IN_bitCount 1 (some (FieldType.int)) ∈ gw := gw_in (List.mem_append_right _ (show _ ∈ tables_1 from List.mem_append_right _ (List.mem_append_left _ (List.mem_of_getElem? (i := 213) rfl)))) rfl
abbrev b_W_kind : ByteArray := method_14_code
def y_W_kind : MethodName := ⟨R_W, "kind", "(LLastingShapes;I[J)I"⟩
theorem mk_W_kind : Cond.codeWith y_W_kind b_W_kind 4 (some (FieldType.int)) [(0, 9, 12, 13)] ∈ gw := gw_in (List.mem_append_right _ (show _ ∈ tables_1 from List.mem_append_right _ (List.mem_append_left _ (List.mem_of_getElem? (i := 220) rfl)))) rfl
abbrev b_L_kind : ByteArray := prog_1_method_13_code
def y_L_kind : MethodName := ⟨R_L, "kind", "(I)I"⟩
theorem mk_L_kind : Cond.code y_L_kind b_L_kind 3 (some (FieldType.int)) ∈ gw := gw_in (List.mem_append_right _ (show _ ∈ tables_1 from List.mem_append_right _ (List.mem_append_left _ (List.mem_of_getElem? (i := 224) rfl)))) rfl
abbrev b_M_init : ByteArray := prog_4_method_1_code
def y_M_init : MethodName := ⟨R_M, "<init>", "()V"⟩
theorem mk_M_init : Cond.code y_M_init b_M_init 4 none ∈ gw := gw_in (List.mem_append_right _ (show _ ∈ tables_1 from List.mem_append_right _ (List.mem_append_left _ (List.mem_of_getElem? (i := 229) rfl)))) rfl
abbrev b_M_thrown : ByteArray := prog_4_method_2_code
def y_M_thrown : MethodName := ⟨R_M, "thrown", "()I"⟩
theorem mk_M_thrown : Cond.code y_M_thrown b_M_thrown 1 (some (FieldType.int)) ∈ gw := gw_in (List.mem_append_right _ (show _ ∈ tables_1 from List.mem_append_right _ (List.mem_append_right _ (List.mem_of_getElem? (i := 19) rfl)))) rfl
abbrev b_M_empty : ByteArray := prog_4_method_11_code
def y_M_empty : MethodName := ⟨R_M, "empty", "(II)I"⟩
theorem mk_M_empty : Cond.code y_M_empty b_M_empty 5 (some (FieldType.int)) ∈ gw := gw_in (List.mem_append_right _ (show _ ∈ tables_1 from List.mem_append_right _ (List.mem_append_right _ (List.mem_of_getElem? (i := 23) rfl)))) rfl
abbrev b_M_isFull : ByteArray := prog_4_method_7_code
def y_M_isFull : MethodName := ⟨R_M, "isFull", "()Z"⟩
theorem mk_M_isFull : Cond.code y_M_isFull b_M_isFull 1 (some (FieldType.boolean)) ∈ gw := gw_in (List.mem_append_right _ (show _ ∈ tables_1 from List.mem_append_right _ (List.mem_append_right _ (List.mem_of_getElem? (i := 27) rfl)))) rfl
abbrev b_M_throwsBy : ByteArray := prog_4_method_3_code
def y_M_throwsBy : MethodName := ⟨R_M, "throwsBy", "(I)Z"⟩
theorem mk_M_throwsBy : Cond.code y_M_throwsBy b_M_throwsBy 2 (some (FieldType.boolean)) ∈ gw := gw_in (List.mem_append_right _ (show _ ∈ tables_1 from List.mem_append_right _ (List.mem_append_right _ (List.mem_of_getElem? (i := 31) rfl)))) rfl
abbrev b_M_create : ByteArray := prog_4_method_8_code
def y_M_create : MethodName := ⟨R_M, "create", "(II)I"⟩
theorem mk_M_create : Cond.code y_M_create b_M_create 3 (some (FieldType.int)) ∈ gw := gw_in (List.mem_append_right _ (show _ ∈ tables_1 from List.mem_append_right _ (List.mem_append_right _ (List.mem_of_getElem? (i := 35) rfl)))) rfl
abbrev b_M_add : ByteArray := prog_4_method_13_code
def y_M_add : MethodName := ⟨R_M, "add", "(II)I"⟩
theorem mk_M_add : Cond.code y_M_add b_M_add 5 (some (FieldType.int)) ∈ gw := gw_in (List.mem_append_right _ (show _ ∈ tables_1 from List.mem_append_right _ (List.mem_append_right _ (List.mem_of_getElem? (i := 39) rfl)))) rfl
abbrev b_M_isRow : ByteArray := prog_4_method_6_code
def y_M_isRow : MethodName := ⟨R_M, "isRow", "(I)Z"⟩
theorem mk_M_isRow : Cond.code y_M_isRow b_M_isRow 2 (some (FieldType.boolean)) ∈ gw := gw_in (List.mem_append_right _ (show _ ∈ tables_1 from List.mem_append_right _ (List.mem_append_right _ (List.mem_of_getElem? (i := 43) rfl)))) rfl
abbrev b_M_is : ByteArray := prog_4_method_4_code
def y_M_is : MethodName := ⟨R_M, "is", "(I)Z"⟩
theorem mk_M_is : Cond.code y_M_is b_M_is 2 (some (FieldType.boolean)) ∈ gw := gw_in (List.mem_append_right _ (show _ ∈ tables_1 from List.mem_append_right _ (List.mem_append_right _ (List.mem_of_getElem? (i := 47) rfl)))) rfl
abbrev b_M_isMap : ByteArray := prog_4_method_5_code
def y_M_isMap : MethodName := ⟨R_M, "isMap", "(I)Z"⟩
theorem mk_M_isMap : Cond.code y_M_isMap b_M_isMap 2 (some (FieldType.boolean)) ∈ gw := gw_in (List.mem_append_right _ (show _ ∈ tables_1 from List.mem_append_right _ (List.mem_append_right _ (List.mem_of_getElem? (i := 51) rfl)))) rfl
abbrev b_M_below : ByteArray := prog_4_method_12_code
def y_M_below : MethodName := ⟨R_M, "below", "(II)I"⟩
theorem mk_M_below : Cond.code y_M_below b_M_below 4 (some (FieldType.int)) ∈ gw := gw_in (List.mem_append_right _ (show _ ∈ tables_1 from List.mem_append_right _ (List.mem_append_right _ (List.mem_of_getElem? (i := 55) rfl)))) rfl
abbrev b_M_putAll : ByteArray := prog_4_method_10_code
def y_M_putAll : MethodName := ⟨R_M, "putAll", "(III)V"⟩
theorem mk_M_putAll : Cond.code y_M_putAll b_M_putAll 5 none ∈ gw := gw_in (List.mem_append_right _ (show _ ∈ tables_1 from List.mem_append_right _ (List.mem_append_right _ (List.mem_of_getElem? (i := 59) rfl)))) rfl
abbrev b_M_put : ByteArray := prog_4_method_9_code
def y_M_put : MethodName := ⟨R_M, "put", "(II)V"⟩
theorem mk_M_put : Cond.code y_M_put b_M_put 4 none ∈ gw := gw_in (List.mem_append_right _ (show _ ∈ tables_1 from List.mem_append_right _ (List.mem_append_right _ (List.mem_of_getElem? (i := 63) rfl)))) rfl
abbrev b_M_first : ByteArray := prog_4_method_14_code
def y_M_first : MethodName := ⟨R_M, "first", "(I)I"⟩
theorem mk_M_first : Cond.code y_M_first b_M_first 2 (some (FieldType.int)) ∈ gw := gw_in (List.mem_append_right _ (show _ ∈ tables_1 from List.mem_append_right _ (List.mem_append_right _ (List.mem_of_getElem? (i := 67) rfl)))) rfl
abbrev b_M_rest : ByteArray := prog_4_method_15_code
def y_M_rest : MethodName := ⟨R_M, "rest", "(I)I"⟩
theorem mk_M_rest : Cond.code y_M_rest b_M_rest 3 (some (FieldType.int)) ∈ gw := gw_in (List.mem_append_right _ (show _ ∈ tables_1 from List.mem_append_right _ (List.mem_append_right _ (List.mem_of_getElem? (i := 71) rfl)))) rfl
abbrev b_M_join : ByteArray := prog_4_method_16_code
def y_M_join : MethodName := ⟨R_M, "join", "(II)I"⟩
theorem mk_M_join : Cond.code y_M_join b_M_join 8 (some (FieldType.int)) ∈ gw := gw_in (List.mem_append_right _ (show _ ∈ tables_1 from List.mem_append_right _ (List.mem_append_right _ (List.mem_of_getElem? (i := 75) rfl)))) rfl
abbrev b_M_bind : ByteArray := prog_4_method_19_code
def y_M_bind : MethodName := ⟨R_M, "bind", "(III)I"⟩
theorem mk_M_bind : Cond.code y_M_bind b_M_bind 8 (some (FieldType.int)) ∈ gw := gw_in (List.mem_append_right _ (show _ ∈ tables_1 from List.mem_append_right _ (List.mem_append_right _ (List.mem_of_getElem? (i := 79) rfl)))) rfl
abbrev b_M_placeOf : ByteArray := prog_4_method_17_code
def y_M_placeOf : MethodName := ⟨R_M, "placeOf", "(II)I"⟩
theorem mk_M_placeOf : Cond.code y_M_placeOf b_M_placeOf 4 (some (FieldType.int)) ∈ gw := gw_in (List.mem_append_right _ (show _ ∈ tables_1 from List.mem_append_right _ (List.mem_append_right _ (List.mem_of_getElem? (i := 83) rfl)))) rfl
abbrev b_M_hasAt : ByteArray := prog_4_method_18_code
def y_M_hasAt : MethodName := ⟨R_M, "hasAt", "(III)Z"⟩
theorem mk_M_hasAt : Cond.code y_M_hasAt b_M_hasAt 4 (some (FieldType.boolean)) ∈ gw := gw_in (List.mem_append_right _ (show _ ∈ tables_1 from List.mem_append_right _ (List.mem_append_right _ (List.mem_of_getElem? (i := 87) rfl)))) rfl
abbrev b_M_value : ByteArray := prog_4_method_20_code
def y_M_value : MethodName := ⟨R_M, "value", "(II)I"⟩
theorem mk_M_value : Cond.code y_M_value b_M_value 5 (some (FieldType.int)) ∈ gw := gw_in (List.mem_append_right _ (show _ ∈ tables_1 from List.mem_append_right _ (List.mem_append_right _ (List.mem_of_getElem? (i := 91) rfl)))) rfl
abbrev b_M_update : ByteArray := prog_4_method_21_code
def y_M_update : MethodName := ⟨R_M, "update", "(III)I"⟩
theorem mk_M_update : Cond.code y_M_update b_M_update 6 (some (FieldType.int)) ∈ gw := gw_in (List.mem_append_right _ (show _ ∈ tables_1 from List.mem_append_right _ (List.mem_append_right _ (List.mem_of_getElem? (i := 95) rfl)))) rfl
abbrev b_M_at : ByteArray := prog_4_method_22_code
def y_M_at : MethodName := ⟨R_M, "at", "(II)I"⟩
theorem mk_M_at : Cond.code y_M_at b_M_at 3 (some (FieldType.int)) ∈ gw := gw_in (List.mem_append_right _ (show _ ∈ tables_1 from List.mem_append_right _ (List.mem_append_right _ (List.mem_of_getElem? (i := 99) rfl)))) rfl
abbrev b_M_size : ByteArray := prog_4_method_23_code
def y_M_size : MethodName := ⟨R_M, "size", "(I)I"⟩
theorem mk_M_size : Cond.code y_M_size b_M_size 2 (some (FieldType.int)) ∈ gw := gw_in (List.mem_append_right _ (show _ ∈ tables_1 from List.mem_append_right _ (List.mem_append_right _ (List.mem_of_getElem? (i := 103) rfl)))) rfl
abbrev b_M_parts : ByteArray := prog_4_method_25_code
def y_M_parts : MethodName := ⟨R_M, "parts", "(I)I"⟩
theorem mk_M_parts : Cond.code y_M_parts b_M_parts 3 (some (FieldType.int)) ∈ gw := gw_in (List.mem_append_right _ (show _ ∈ tables_1 from List.mem_append_right _ (List.mem_append_right _ (List.mem_of_getElem? (i := 107) rfl)))) rfl
abbrev b_M_bits : ByteArray := prog_4_method_24_code
def y_M_bits : MethodName := ⟨R_M, "bits", "(I)I"⟩
theorem mk_M_bits : Cond.code y_M_bits b_M_bits 3 (some (FieldType.int)) ∈ gw := gw_in (List.mem_append_right _ (show _ ∈ tables_1 from List.mem_append_right _ (List.mem_append_right _ (List.mem_of_getElem? (i := 110) rfl)))) rfl
abbrev b_M_kind : ByteArray := prog_4_method_26_code
def y_M_kind : MethodName := ⟨R_M, "kind", "(I)I"⟩
theorem mk_M_kind : Cond.code y_M_kind b_M_kind 2 (some (FieldType.int)) ∈ gw := gw_in (List.mem_append_right _ (show _ ∈ tables_1 from List.mem_append_right _ (List.mem_append_right _ (List.mem_of_getElem? (i := 114) rfl)))) rfl
abbrev b_M_versions : ByteArray := prog_4_method_27_code
def y_M_versions : MethodName := ⟨R_M, "versions", "()I"⟩
theorem mk_M_versions : Cond.code y_M_versions b_M_versions 1 (some (FieldType.int)) ∈ gw := gw_in (List.mem_append_right _ (show _ ∈ tables_1 from List.mem_append_right _ (List.mem_append_right _ (List.mem_of_getElem? (i := 118) rfl)))) rfl
theorem mn_W : Cond.initialized "LastingShapesLaw" ∈ gw := gw_in (List.mem_append_right _ (show _ ∈ tables_1 from List.mem_append_left _ (List.mem_of_getElem? (i := 0) rfl))) rfl
theorem mn_L : Cond.initialized "LastingShapes" ∈ gw := gw_in (List.mem_append_right _ (show _ ∈ tables_1 from List.mem_append_left _ (List.mem_of_getElem? (i := 1) rfl))) rfl
theorem mn_AC : Cond.initialized "java/util/AbstractCollection" ∈ gw := gw_in (List.mem_append_right _ (show _ ∈ tables_1 from List.mem_append_left _ (List.mem_of_getElem? (i := 2) rfl))) rfl
theorem mn_AB : Cond.initialized "java/util/AbstractList" ∈ gw := gw_in (List.mem_append_right _ (show _ ∈ tables_1 from List.mem_append_left _ (List.mem_of_getElem? (i := 3) rfl))) rfl
theorem mn_AL : Cond.initialized "java/util/ArrayList" ∈ gw := gw_in (List.mem_append_right _ (show _ ∈ tables_1 from List.mem_append_left _ (List.mem_of_getElem? (i := 4) rfl))) rfl
theorem mn_M : Cond.initialized "LastingShapesModel" ∈ gw := gw_in (List.mem_append_right _ (show _ ∈ tables_1 from List.mem_append_left _ (List.mem_of_getElem? (i := 5) rfl))) rfl
theorem mn_Throwable : Cond.initialized "java/lang/Throwable" ∈ gw := gw_in (List.mem_append_right _ (show _ ∈ tables_1 from List.mem_append_left _ (List.mem_of_getElem? (i := 6) rfl))) rfl
theorem mn_Exception : Cond.initialized "java/lang/Exception" ∈ gw := gw_in (List.mem_append_right _ (show _ ∈ tables_1 from List.mem_append_left _ (List.mem_of_getElem? (i := 7) rfl))) rfl
theorem mn_RuntimeException : Cond.initialized "java/lang/RuntimeException" ∈ gw := gw_in (List.mem_append_right _ (show _ ∈ tables_1 from List.mem_append_left _ (List.mem_of_getElem? (i := 8) rfl))) rfl
theorem mn_IllegalArgumentException : Cond.initialized "java/lang/IllegalArgumentException" ∈ gw := gw_in (List.mem_append_right _ (show _ ∈ tables_1 from List.mem_append_left _ (List.mem_of_getElem? (i := 9) rfl))) rfl
theorem mn_IllegalStateException : Cond.initialized "java/lang/IllegalStateException" ∈ gw := gw_in (List.mem_append_right _ (show _ ∈ tables_1 from List.mem_append_left _ (List.mem_of_getElem? (i := 10) rfl))) rfl
theorem mn_V : Cond.initialized "LastingShapes$Version" ∈ gw := gw_in (List.mem_append_right _ (show _ ∈ tables_1 from List.mem_append_left _ (List.mem_of_getElem? (i := 11) rfl))) rfl
theorem mn_AS : Cond.initialized "jdk/internal/util/ArraysSupport" ∈ gw := gw_in (List.mem_append_right _ (show _ ∈ tables_1 from List.mem_append_left _ (List.mem_of_getElem? (i := 12) rfl))) rfl
theorem mn_MT : Cond.initialized "java/lang/Math" ∈ gw := gw_in (List.mem_append_right _ (show _ ∈ tables_1 from List.mem_append_left _ (List.mem_of_getElem? (i := 13) rfl))) rfl
theorem mn_AR : Cond.initialized "java/util/Arrays" ∈ gw := gw_in (List.mem_append_right _ (show _ ∈ tables_1 from List.mem_append_left _ (List.mem_of_getElem? (i := 14) rfl))) rfl
theorem mn_SY : Cond.initialized "java/lang/System" ∈ gw := gw_in (List.mem_append_right _ (show _ ∈ tables_1 from List.mem_append_left _ (List.mem_of_getElem? (i := 15) rfl))) rfl
theorem mn_OB : Cond.initialized "java/util/Objects" ∈ gw := gw_in (List.mem_append_right _ (show _ ∈ tables_1 from List.mem_append_left _ (List.mem_of_getElem? (i := 16) rfl))) rfl
theorem mn_PC : Cond.initialized "jdk/internal/util/Preconditions" ∈ gw := gw_in (List.mem_append_right _ (show _ ∈ tables_1 from List.mem_append_left _ (List.mem_of_getElem? (i := 17) rfl))) rfl
theorem mn_NoSuchElementException : Cond.initialized "java/util/NoSuchElementException" ∈ gw := gw_in (List.mem_append_right _ (show _ ∈ tables_1 from List.mem_append_left _ (List.mem_of_getElem? (i := 18) rfl))) rfl
theorem mn_IndexOutOfBoundsException : Cond.initialized "java/lang/IndexOutOfBoundsException" ∈ gw := gw_in (List.mem_append_right _ (show _ ∈ tables_1 from List.mem_append_left _ (List.mem_of_getElem? (i := 19) rfl))) rfl
theorem mn_IN : Cond.initialized "java/lang/Integer" ∈ gw := gw_in (List.mem_append_right _ (show _ ∈ tables_1 from List.mem_append_left _ (List.mem_of_getElem? (i := 20) rfl))) rfl
theorem mc_W_8 : Cond.classLink R_W 8 "LastingShapes" ∈ gw := gw_in (List.mem_append_right _ (show _ ∈ tables_1 from List.mem_append_left _ (List.mem_of_getElem? (i := 21) rfl))) rfl
theorem mt_L : Cond.instantiable "LastingShapes" 1 ∈ gw := gw_in (List.mem_append_right _ (show _ ∈ tables_1 from List.mem_append_left _ (List.mem_of_getElem? (i := 22) rfl))) rfl
theorem mm_W_56 : Cond.methodLink R_W 56 y_L_init ∈ gw := gw_in (List.mem_append_right _ (show _ ∈ tables_1 from List.mem_append_left _ (List.mem_of_getElem? (i := 23) rfl))) rfl
theorem mi_L_init : Cond.instanceMethod y_L_init ∈ gw := gw_in (List.mem_append_right _ (show _ ∈ tables_1 from List.mem_append_left _ (List.mem_of_getElem? (i := 24) rfl))) rfl
theorem mm_L_1 : Cond.methodLink R_L 1 y_OJ_init ∈ gw := gw_in (List.mem_append_right _ (show _ ∈ tables_1 from List.mem_append_left _ (List.mem_of_getElem? (i := 26) rfl))) rfl
theorem mi_OJ_init : Cond.instanceMethod y_OJ_init ∈ gw := gw_in (List.mem_append_right _ (show _ ∈ tables_1 from List.mem_append_left _ (List.mem_of_getElem? (i := 27) rfl))) rfl
theorem mc_L_7 : Cond.classLink R_L 7 "java/util/ArrayList" ∈ gw := gw_in (List.mem_append_right _ (show _ ∈ tables_1 from List.mem_append_left _ (List.mem_of_getElem? (i := 29) rfl))) rfl
theorem mt_AL : Cond.instantiable "java/util/ArrayList" 3 ∈ gw := gw_in (List.mem_append_right _ (show _ ∈ tables_1 from List.mem_append_left _ (List.mem_of_getElem? (i := 30) rfl))) rfl
theorem mm_L_9 : Cond.methodLink R_L 9 y_AL_init ∈ gw := gw_in (List.mem_append_right _ (show _ ∈ tables_1 from List.mem_append_left _ (List.mem_of_getElem? (i := 31) rfl))) rfl
theorem mi_AL_init : Cond.instanceMethod y_AL_init ∈ gw := gw_in (List.mem_append_right _ (show _ ∈ tables_1 from List.mem_append_left _ (List.mem_of_getElem? (i := 32) rfl))) rfl
theorem mm_AL_1 : Cond.methodLink R_AL 1 y_AB_init ∈ gw := gw_in (List.mem_append_right _ (show _ ∈ tables_1 from List.mem_append_left _ (List.mem_of_getElem? (i := 34) rfl))) rfl
theorem mi_AB_init : Cond.instanceMethod y_AB_init ∈ gw := gw_in (List.mem_append_right _ (show _ ∈ tables_1 from List.mem_append_left _ (List.mem_of_getElem? (i := 35) rfl))) rfl
theorem mm_AB_1 : Cond.methodLink R_AB 1 y_AC_init ∈ gw := gw_in (List.mem_append_right _ (show _ ∈ tables_1 from List.mem_append_left _ (List.mem_of_getElem? (i := 37) rfl))) rfl
theorem mi_AC_init : Cond.instanceMethod y_AC_init ∈ gw := gw_in (List.mem_append_right _ (show _ ∈ tables_1 from List.mem_append_left _ (List.mem_of_getElem? (i := 38) rfl))) rfl
theorem mm_AC_1 : Cond.methodLink R_AC 1 y_OJ_init ∈ gw := gw_in (List.mem_append_right _ (show _ ∈ tables_1 from List.mem_append_left _ (List.mem_of_getElem? (i := 40) rfl))) rfl
theorem mf_AL_39 : Cond.fieldLink R_AL 39 "java/util/ArrayList" "DEFAULTCAPACITY_EMPTY_ELEMENTDATA" "[Ljava/lang/Object;" ∈ gw := gw_in (List.mem_append_right _ (show _ ∈ tables_1 from List.mem_append_left _ (List.mem_of_getElem? (i := 41) rfl))) rfl
theorem mf_AL_9 : Cond.fieldLink R_AL 9 "java/util/ArrayList" "elementData" "[Ljava/lang/Object;" ∈ gw := gw_in (List.mem_append_right _ (show _ ∈ tables_1 from List.mem_append_left _ (List.mem_of_getElem? (i := 43) rfl))) rfl
theorem mf_AL_48 : Cond.fieldLink R_AL 48 "java/util/ArrayList" "size" "I" ∈ gw := gw_in (List.mem_append_right _ (show _ ∈ tables_1 from List.mem_append_left _ (List.mem_of_getElem? (i := 44) rfl))) rfl
theorem mf_AB_7 : Cond.fieldLink R_AB 7 "java/util/AbstractList" "modCount" "I" ∈ gw := gw_in (List.mem_append_right _ (show _ ∈ tables_1 from List.mem_append_left _ (List.mem_of_getElem? (i := 45) rfl))) rfl
theorem mf_AL_63 : Cond.fieldLink R_AL 63 "java/util/ArrayList" "modCount" "I" ∈ gw := gw_in (List.mem_append_right _ (show _ ∈ tables_1 from List.mem_append_left _ (List.mem_of_getElem? (i := 46) rfl))) rfl
theorem me_modCount : Cond.sameField "java/util/ArrayList" "java/util/AbstractList" "modCount" "I" ∈ gw := gw_in (List.mem_append_right _ (show _ ∈ tables_1 from List.mem_append_left _ (List.mem_of_getElem? (i := 47) rfl))) rfl
theorem ml_AL_1 : u_lay R_AL T_AL 1 ∈ gw := gw_in (List.mem_append_right _ (show _ ∈ tables_1 from List.mem_append_left _ (List.mem_of_getElem? (i := 48) rfl))) rfl
theorem ml_AL_2 : u_lay R_AL T_AL 2 ∈ gw := gw_in (List.mem_append_right _ (show _ ∈ tables_1 from List.mem_append_left _ (List.mem_of_getElem? (i := 50) rfl))) rfl
theorem ml_AL_0 : u_lay R_AL T_AL 0 ∈ gw := gw_in (List.mem_append_right _ (show _ ∈ tables_1 from List.mem_append_left _ (List.mem_of_getElem? (i := 52) rfl))) rfl
theorem mf_L_10 : Cond.fieldLink R_L 10 "LastingShapes" "made" "Ljava/util/ArrayList;" ∈ gw := gw_in (List.mem_append_right _ (show _ ∈ tables_1 from List.mem_append_left _ (List.mem_of_getElem? (i := 55) rfl))) rfl
theorem ml_L_0 : u_lay R_L T_L 0 ∈ gw := gw_in (List.mem_append_right _ (show _ ∈ tables_1 from List.mem_append_left _ (List.mem_of_getElem? (i := 56) rfl))) rfl
theorem mm_W_105 : Cond.methodLink R_W 105 y_L_versions ∈ gw := gw_in (List.mem_append_right _ (show _ ∈ tables_1 from List.mem_append_left _ (List.mem_of_getElem? (i := 59) rfl))) rfl
theorem mi_L_versions : Cond.instanceMethod y_L_versions ∈ gw := gw_in (List.mem_append_right _ (show _ ∈ tables_1 from List.mem_append_left _ (List.mem_of_getElem? (i := 60) rfl))) rfl
theorem mq_L_versions : Cond.selects "LastingShapes" y_L_versions y_L_versions ∈ gw := gw_in (List.mem_append_right _ (show _ ∈ tables_1 from List.mem_append_left _ (List.mem_of_getElem? (i := 61) rfl))) rfl
theorem mm_L_136 : Cond.methodLink R_L 136 y_AL_size ∈ gw := gw_in (List.mem_append_right _ (show _ ∈ tables_1 from List.mem_append_left _ (List.mem_of_getElem? (i := 63) rfl))) rfl
theorem mi_AL_size : Cond.instanceMethod y_AL_size ∈ gw := gw_in (List.mem_append_right _ (show _ ∈ tables_1 from List.mem_append_left _ (List.mem_of_getElem? (i := 64) rfl))) rfl
theorem mq_AL_size : Cond.selects "java/util/ArrayList" y_AL_size y_AL_size ∈ gw := gw_in (List.mem_append_right _ (show _ ∈ tables_1 from List.mem_append_left _ (List.mem_of_getElem? (i := 65) rfl))) rfl
theorem mm_W_60 : Cond.methodLink R_W 60 y_W_empty ∈ gw := gw_in (List.mem_append_right _ (show _ ∈ tables_1 from List.mem_append_left _ (List.mem_of_getElem? (i := 67) rfl))) rfl
theorem ms_W_empty : Cond.static y_W_empty ∈ gw := gw_in (List.mem_append_right _ (show _ ∈ tables_1 from List.mem_append_left _ (List.mem_of_getElem? (i := 68) rfl))) rfl
theorem mc_W_13 : Cond.classLink R_W 13 "java/lang/IllegalArgumentException" ∈ gw := gw_in (List.mem_append_right _ (show _ ∈ tables_1 from List.mem_append_left _ (List.mem_of_getElem? (i := 70) rfl))) rfl
theorem mc_W_15 : Cond.classLink R_W 15 "java/lang/IllegalStateException" ∈ gw := gw_in (List.mem_append_right _ (show _ ∈ tables_1 from List.mem_append_left _ (List.mem_of_getElem? (i := 71) rfl))) rfl
theorem mm_W_7 : Cond.methodLink R_W 7 y_L_empty ∈ gw := gw_in (List.mem_append_right _ (show _ ∈ tables_1 from List.mem_append_left _ (List.mem_of_getElem? (i := 72) rfl))) rfl
theorem mi_L_empty : Cond.instanceMethod y_L_empty ∈ gw := gw_in (List.mem_append_right _ (show _ ∈ tables_1 from List.mem_append_left _ (List.mem_of_getElem? (i := 73) rfl))) rfl
theorem mq_L_empty : Cond.selects "LastingShapes" y_L_empty y_L_empty ∈ gw := gw_in (List.mem_append_right _ (show _ ∈ tables_1 from List.mem_append_left _ (List.mem_of_getElem? (i := 74) rfl))) rfl
theorem mm_L_16 : Cond.methodLink R_L 16 y_L_isKindWithForm ∈ gw := gw_in (List.mem_append_right _ (show _ ∈ tables_1 from List.mem_append_left _ (List.mem_of_getElem? (i := 76) rfl))) rfl
theorem ms_L_isKindWithForm : Cond.static y_L_isKindWithForm ∈ gw := gw_in (List.mem_append_right _ (show _ ∈ tables_1 from List.mem_append_left _ (List.mem_of_getElem? (i := 77) rfl))) rfl
theorem mf_L_168 : Cond.fieldLink R_L 168 "LastingShapes" "FORMS" "[I" ∈ gw := gw_in (List.mem_append_right _ (show _ ∈ tables_1 from List.mem_append_left _ (List.mem_of_getElem? (i := 79) rfl))) rfl
theorem mc_L_20 : Cond.classLink R_L 20 "java/lang/IllegalArgumentException" ∈ gw := gw_in (List.mem_append_right _ (show _ ∈ tables_1 from List.mem_append_left _ (List.mem_of_getElem? (i := 81) rfl))) rfl
theorem mt_IllegalArgumentException : Cond.instantiable "java/lang/IllegalArgumentException" 6 ∈ gw := gw_in (List.mem_append_right _ (show _ ∈ tables_1 from List.mem_append_left _ (List.mem_of_getElem? (i := 82) rfl))) rfl
theorem mo_Throwable_fillInStackTrace : Cond.sameMethod "java/lang/Throwable" "java/lang/Throwable" "fillInStackTrace" "()Ljava/lang/Throwable;" ∈ gw := gw_in (List.mem_append_right _ (show _ ∈ tables_1 from List.mem_append_left _ (List.mem_of_getElem? (i := 113) rfl))) rfl
theorem mt_Throwable : Cond.instantiable "java/lang/Throwable" 6 ∈ gw := gw_in (List.mem_append_right _ (show _ ∈ tables_1 from List.mem_append_left _ (List.mem_of_getElem? (i := 121) rfl))) rfl
theorem mm_L_24 : Cond.methodLink R_L 24 ⟨"java/lang/IllegalArgumentException", "<init>", "(Ljava/lang/String;)V"⟩ ∈ gw := gw_in (List.mem_append_right _ (show _ ∈ tables_1 from List.mem_append_left _ (List.mem_of_getElem? (i := 124) rfl))) rfl
theorem ma_byte : Cond.arrayClass .byte ∈ gw := gw_in (List.mem_append_right _ (show _ ∈ tables_1 from List.mem_append_left _ (List.mem_of_getElem? (i := 149) rfl))) rfl
theorem mm_L_27 : Cond.methodLink R_L 27 y_L_refuseBeyondLimits ∈ gw := gw_in (List.mem_append_right _ (show _ ∈ tables_1 from List.mem_append_left _ (List.mem_of_getElem? (i := 150) rfl))) rfl
theorem mi_L_refuseBeyondLimits : Cond.instanceMethod y_L_refuseBeyondLimits ∈ gw := gw_in (List.mem_append_right _ (show _ ∈ tables_1 from List.mem_append_left _ (List.mem_of_getElem? (i := 152) rfl))) rfl
theorem mc_L_150 : Cond.classLink R_L 150 "java/lang/IllegalStateException" ∈ gw := gw_in (List.mem_append_right _ (show _ ∈ tables_1 from List.mem_append_left _ (List.mem_of_getElem? (i := 154) rfl))) rfl
theorem mt_IllegalStateException : Cond.instantiable "java/lang/IllegalStateException" 6 ∈ gw := gw_in (List.mem_append_right _ (show _ ∈ tables_1 from List.mem_append_left _ (List.mem_of_getElem? (i := 155) rfl))) rfl
theorem mm_L_154 : Cond.methodLink R_L 154 ⟨"java/lang/IllegalStateException", "<init>", "(Ljava/lang/String;)V"⟩ ∈ gw := gw_in (List.mem_append_right _ (show _ ∈ tables_1 from List.mem_append_left _ (List.mem_of_getElem? (i := 164) rfl))) rfl
theorem mc_L_31 : Cond.classLink R_L 31 "LastingShapes$Version" ∈ gw := gw_in (List.mem_append_right _ (show _ ∈ tables_1 from List.mem_append_left _ (List.mem_of_getElem? (i := 171) rfl))) rfl
theorem mt_V : Cond.instantiable "LastingShapes$Version" 4 ∈ gw := gw_in (List.mem_append_right _ (show _ ∈ tables_1 from List.mem_append_left _ (List.mem_of_getElem? (i := 172) rfl))) rfl
theorem mi_V_init : Cond.instanceMethod y_V_init ∈ gw := gw_in (List.mem_append_right _ (show _ ∈ tables_1 from List.mem_append_left _ (List.mem_of_getElem? (i := 174) rfl))) rfl
theorem mm_V_1 : Cond.methodLink R_V 1 y_OJ_init ∈ gw := gw_in (List.mem_append_right _ (show _ ∈ tables_1 from List.mem_append_left _ (List.mem_of_getElem? (i := 176) rfl))) rfl
theorem mf_V_7 : Cond.fieldLink R_V 7 "LastingShapes$Version" "kind" "I" ∈ gw := gw_in (List.mem_append_right _ (show _ ∈ tables_1 from List.mem_append_left _ (List.mem_of_getElem? (i := 177) rfl))) rfl
theorem mf_V_13 : Cond.fieldLink R_V 13 "LastingShapes$Version" "form" "I" ∈ gw := gw_in (List.mem_append_right _ (show _ ∈ tables_1 from List.mem_append_left _ (List.mem_of_getElem? (i := 179) rfl))) rfl
theorem mf_V_16 : Cond.fieldLink R_V 16 "LastingShapes$Version" "elements" "[I" ∈ gw := gw_in (List.mem_append_right _ (show _ ∈ tables_1 from List.mem_append_left _ (List.mem_of_getElem? (i := 181) rfl))) rfl
theorem mf_V_20 : Cond.fieldLink R_V 20 "LastingShapes$Version" "keys" "[I" ∈ gw := gw_in (List.mem_append_right _ (show _ ∈ tables_1 from List.mem_append_left _ (List.mem_of_getElem? (i := 183) rfl))) rfl
theorem ml_V_0 : u_lay R_V T_V 0 ∈ gw := gw_in (List.mem_append_right _ (show _ ∈ tables_1 from List.mem_append_left _ (List.mem_of_getElem? (i := 185) rfl))) rfl
theorem ml_V_1 : u_lay R_V T_V 1 ∈ gw := gw_in (List.mem_append_right _ (show _ ∈ tables_1 from List.mem_append_left _ (List.mem_of_getElem? (i := 187) rfl))) rfl
theorem ml_V_2 : u_lay R_V T_V 2 ∈ gw := gw_in (List.mem_append_right _ (show _ ∈ tables_1 from List.mem_append_left _ (List.mem_of_getElem? (i := 189) rfl))) rfl
theorem ml_V_3 : u_lay R_V T_V 3 ∈ gw := gw_in (List.mem_append_right _ (show _ ∈ tables_1 from List.mem_append_left _ (List.mem_of_getElem? (i := 191) rfl))) rfl
theorem ma_int : Cond.arrayClass .int ∈ gw := gw_in (List.mem_append_right _ (show _ ∈ tables_1 from List.mem_append_left _ (List.mem_of_getElem? (i := 194) rfl))) rfl
theorem mm_L_36 : Cond.methodLink R_L 36 y_L_keep ∈ gw := gw_in (List.mem_append_right _ (show _ ∈ tables_1 from List.mem_append_left _ (List.mem_of_getElem? (i := 195) rfl))) rfl
theorem mi_L_keep : Cond.instanceMethod y_L_keep ∈ gw := gw_in (List.mem_append_right _ (show _ ∈ tables_1 from List.mem_append_left _ (List.mem_of_getElem? (i := 197) rfl))) rfl
theorem mm_L_157 : Cond.methodLink R_L 157 y_AL_add ∈ gw := gw_in (List.mem_append_right _ (show _ ∈ tables_1 from List.mem_append_left _ (List.mem_of_getElem? (i := 199) rfl))) rfl
theorem mi_AL_add : Cond.instanceMethod y_AL_add ∈ gw := gw_in (List.mem_append_right _ (show _ ∈ tables_1 from List.mem_append_left _ (List.mem_of_getElem? (i := 200) rfl))) rfl
theorem mq_AL_add : Cond.selects "java/util/ArrayList" y_AL_add y_AL_add ∈ gw := gw_in (List.mem_append_right _ (show _ ∈ tables_1 from List.mem_append_left _ (List.mem_of_getElem? (i := 201) rfl))) rfl
theorem mm_AL_131 : Cond.methodLink R_AL 131 y_AL_add3 ∈ gw := gw_in (List.mem_append_right _ (show _ ∈ tables_1 from List.mem_append_left _ (List.mem_of_getElem? (i := 203) rfl))) rfl
theorem mi_AL_add3 : Cond.instanceMethod y_AL_add3 ∈ gw := gw_in (List.mem_append_right _ (show _ ∈ tables_1 from List.mem_append_left _ (List.mem_of_getElem? (i := 205) rfl))) rfl
theorem mm_AL_129 : Cond.methodLink R_AL 129 y_AL_grow ∈ gw := gw_in (List.mem_append_right _ (show _ ∈ tables_1 from List.mem_append_left _ (List.mem_of_getElem? (i := 207) rfl))) rfl
theorem mi_AL_grow : Cond.instanceMethod y_AL_grow ∈ gw := gw_in (List.mem_append_right _ (show _ ∈ tables_1 from List.mem_append_left _ (List.mem_of_getElem? (i := 209) rfl))) rfl
theorem mm_AL_69 : Cond.methodLink R_AL 69 y_AL_growI ∈ gw := gw_in (List.mem_append_right _ (show _ ∈ tables_1 from List.mem_append_left _ (List.mem_of_getElem? (i := 211) rfl))) rfl
theorem mi_AL_growI : Cond.instanceMethod y_AL_growI ∈ gw := gw_in (List.mem_append_right _ (show _ ∈ tables_1 from List.mem_append_left _ (List.mem_of_getElem? (i := 213) rfl))) rfl
theorem mm_AL_73 : Cond.methodLink R_AL 73 y_AS_newLength ∈ gw := gw_in (List.mem_append_right _ (show _ ∈ tables_1 from List.mem_append_left _ (List.mem_of_getElem? (i := 215) rfl))) rfl
theorem ms_AS_newLength : Cond.static y_AS_newLength ∈ gw := gw_in (List.mem_append_right _ (show _ ∈ tables_1 from List.mem_append_left _ (List.mem_of_getElem? (i := 216) rfl))) rfl
theorem mm_AS_194 : Cond.methodLink R_AS 194 y_MT_max ∈ gw := gw_in (List.mem_append_right _ (show _ ∈ tables_1 from List.mem_append_left _ (List.mem_of_getElem? (i := 218) rfl))) rfl
theorem ms_MT_max : Cond.static y_MT_max ∈ gw := gw_in (List.mem_append_right _ (show _ ∈ tables_1 from List.mem_append_left _ (List.mem_of_getElem? (i := 219) rfl))) rfl
theorem mx_AS_200 : Cond.constant R_AS 200 2147483639 ∈ gw := gw_in (List.mem_append_right _ (show _ ∈ tables_1 from List.mem_append_left _ (List.mem_of_getElem? (i := 221) rfl))) rfl
theorem mm_AS_201 : Cond.methodLink R_AS 201 y_AS_hugeLength ∈ gw := gw_in (List.mem_append_right _ (show _ ∈ tables_1 from List.mem_append_left _ (List.mem_of_getElem? (i := 222) rfl))) rfl
theorem ms_AS_hugeLength : Cond.static y_AS_hugeLength ∈ gw := gw_in (List.mem_append_right _ (show _ ∈ tables_1 from List.mem_append_left _ (List.mem_of_getElem? (i := 223) rfl))) rfl
theorem mm_AL_66 : Cond.methodLink R_AL 66 y_AR_copyOf2 ∈ gw := gw_in (List.mem_append_right _ (show _ ∈ tables_1 from List.mem_append_left _ (List.mem_of_getElem? (i := 225) rfl))) rfl
theorem ms_AR_copyOf2 : Cond.static y_AR_copyOf2 ∈ gw := gw_in (List.mem_append_right _ (show _ ∈ tables_1 from List.mem_append_left _ (List.mem_of_getElem? (i := 226) rfl))) rfl
theorem mm_AR_86 : Cond.methodLink R_AR 86 ⟨"java/lang/Object", "getClass", "()Ljava/lang/Class;"⟩ ∈ gw := gw_in (List.mem_append_right _ (show _ ∈ tables_1 from List.mem_append_left _ (List.mem_of_getElem? (i := 228) rfl))) rfl
theorem mi_OJ_getClass : Cond.instanceMethod ⟨"java/lang/Object", "getClass", "()Ljava/lang/Class;"⟩ ∈ gw := gw_in (List.mem_append_right _ (show _ ∈ tables_1 from List.mem_append_left _ (List.mem_of_getElem? (i := 229) rfl))) rfl
theorem mo_OJ_getClass : Cond.sameMethod "java/lang/Object" "java/lang/Object" "getClass" "()Ljava/lang/Class;" ∈ gw := gw_in (List.mem_append_right _ (show _ ∈ tables_1 from List.mem_append_left _ (List.mem_of_getElem? (i := 230) rfl))) rfl
theorem mq_OJ_getClass_x : Cond.selects "LastingShapes" ⟨"java/lang/Object", "getClass", "()Ljava/lang/Class;"⟩ ⟨"java/lang/Object", "getClass", "()Ljava/lang/Class;"⟩ ∈ gw := gw_in (List.mem_append_right _ (show _ ∈ tables_1 from List.mem_append_left _ (List.mem_of_getElem? (i := 231) rfl))) rfl
theorem mv_OJ_getClass : Cond.native ⟨"java/lang/Object", "getClass", "()Ljava/lang/Class;"⟩ ∈ gw := gw_in (List.mem_append_right _ (show _ ∈ tables_1 from List.mem_append_left _ (List.mem_of_getElem? (i := 239) rfl))) rfl
theorem mm_AR_300 : Cond.methodLink R_AR 300 y_AR_copyOf3 ∈ gw := gw_in (List.mem_append_right _ (show _ ∈ tables_1 from List.mem_append_right _ (List.mem_append_left _ (List.mem_of_getElem? (i := 0) rfl)))) rfl
theorem ms_AR_copyOf3 : Cond.static y_AR_copyOf3 ∈ gw := gw_in (List.mem_append_right _ (show _ ∈ tables_1 from List.mem_append_right _ (List.mem_append_left _ (List.mem_of_getElem? (i := 1) rfl)))) rfl
theorem mc_AR_110 : Cond.classLink R_AR 110 "[Ljava/lang/Object;" ∈ gw := gw_in (List.mem_append_right _ (show _ ∈ tables_1 from List.mem_append_right _ (List.mem_append_left _ (List.mem_of_getElem? (i := 3) rfl)))) rfl
theorem mc_AR_2 : Cond.classLink R_AR 2 "java/lang/Object" ∈ gw := gw_in (List.mem_append_right _ (show _ ∈ tables_1 from List.mem_append_right _ (List.mem_append_left _ (List.mem_of_getElem? (i := 5) rfl)))) rfl
theorem mm_AR_304 : Cond.methodLink R_AR 304 y_MT_min ∈ gw := gw_in (List.mem_append_right _ (show _ ∈ tables_1 from List.mem_append_right _ (List.mem_append_left _ (List.mem_of_getElem? (i := 6) rfl)))) rfl
theorem ms_MT_min : Cond.static y_MT_min ∈ gw := gw_in (List.mem_append_right _ (show _ ∈ tables_1 from List.mem_append_right _ (List.mem_append_left _ (List.mem_of_getElem? (i := 7) rfl)))) rfl
theorem mm_AR_150 : Cond.methodLink R_AR 150 ⟨"java/lang/System", "arraycopy", "(Ljava/lang/Object;ILjava/lang/Object;II)V"⟩ ∈ gw := gw_in (List.mem_append_right _ (show _ ∈ tables_1 from List.mem_append_right _ (List.mem_append_left _ (List.mem_of_getElem? (i := 9) rfl)))) rfl
theorem ms_SY_arraycopy : Cond.static ⟨"java/lang/System", "arraycopy", "(Ljava/lang/Object;ILjava/lang/Object;II)V"⟩ ∈ gw := gw_in (List.mem_append_right _ (show _ ∈ tables_1 from List.mem_append_right _ (List.mem_append_left _ (List.mem_of_getElem? (i := 10) rfl)))) rfl
theorem mv_SY_arraycopy : Cond.native ⟨"java/lang/System", "arraycopy", "(Ljava/lang/Object;ILjava/lang/Object;II)V"⟩ ∈ gw := gw_in (List.mem_append_right _ (show _ ∈ tables_1 from List.mem_append_right _ (List.mem_append_left _ (List.mem_of_getElem? (i := 11) rfl)))) rfl
theorem mm_AL_79 : Cond.methodLink R_AL 79 y_MT_max ∈ gw := gw_in (List.mem_append_right _ (show _ ∈ tables_1 from List.mem_append_right _ (List.mem_append_left _ (List.mem_of_getElem? (i := 12) rfl)))) rfl
theorem mc_AL_7 : Cond.classLink R_AL 7 "java/lang/Object" ∈ gw := gw_in (List.mem_append_right _ (show _ ∈ tables_1 from List.mem_append_right _ (List.mem_append_left _ (List.mem_of_getElem? (i := 13) rfl)))) rfl
theorem mm_W_70 : Cond.methodLink R_W 70 y_W_add ∈ gw := gw_in (List.mem_append_right _ (show _ ∈ tables_1 from List.mem_append_right _ (List.mem_append_left _ (List.mem_of_getElem? (i := 14) rfl)))) rfl
theorem ms_W_add : Cond.static y_W_add ∈ gw := gw_in (List.mem_append_right _ (show _ ∈ tables_1 from List.mem_append_right _ (List.mem_append_left _ (List.mem_of_getElem? (i := 15) rfl)))) rfl
theorem mm_W_17 : Cond.methodLink R_W 17 y_L_add ∈ gw := gw_in (List.mem_append_right _ (show _ ∈ tables_1 from List.mem_append_right _ (List.mem_append_left _ (List.mem_of_getElem? (i := 17) rfl)))) rfl
theorem mi_L_add : Cond.instanceMethod y_L_add ∈ gw := gw_in (List.mem_append_right _ (show _ ∈ tables_1 from List.mem_append_right _ (List.mem_append_left _ (List.mem_of_getElem? (i := 18) rfl)))) rfl
theorem mq_L_add : Cond.selects "LastingShapes" y_L_add y_L_add ∈ gw := gw_in (List.mem_append_right _ (show _ ∈ tables_1 from List.mem_append_right _ (List.mem_append_left _ (List.mem_of_getElem? (i := 19) rfl)))) rfl
theorem mm_L_40 : Cond.methodLink R_L 40 y_L_foundButNoMap ∈ gw := gw_in (List.mem_append_right _ (show _ ∈ tables_1 from List.mem_append_right _ (List.mem_append_left _ (List.mem_of_getElem? (i := 21) rfl)))) rfl
theorem mi_L_foundButNoMap : Cond.instanceMethod y_L_foundButNoMap ∈ gw := gw_in (List.mem_append_right _ (show _ ∈ tables_1 from List.mem_append_right _ (List.mem_append_left _ (List.mem_of_getElem? (i := 23) rfl)))) rfl
theorem mm_L_69 : Cond.methodLink R_L 69 y_L_found ∈ gw := gw_in (List.mem_append_right _ (show _ ∈ tables_1 from List.mem_append_right _ (List.mem_append_left _ (List.mem_of_getElem? (i := 25) rfl)))) rfl
theorem mi_L_found : Cond.instanceMethod y_L_found ∈ gw := gw_in (List.mem_append_right _ (show _ ∈ tables_1 from List.mem_append_right _ (List.mem_append_left _ (List.mem_of_getElem? (i := 27) rfl)))) rfl
theorem mm_L_142 : Cond.methodLink R_L 142 y_AL_get ∈ gw := gw_in (List.mem_append_right _ (show _ ∈ tables_1 from List.mem_append_right _ (List.mem_append_left _ (List.mem_of_getElem? (i := 30) rfl)))) rfl
theorem mi_AL_get : Cond.instanceMethod y_AL_get ∈ gw := gw_in (List.mem_append_right _ (show _ ∈ tables_1 from List.mem_append_right _ (List.mem_append_left _ (List.mem_of_getElem? (i := 31) rfl)))) rfl
theorem mq_AL_get : Cond.selects "java/util/ArrayList" y_AL_get y_AL_get ∈ gw := gw_in (List.mem_append_right _ (show _ ∈ tables_1 from List.mem_append_right _ (List.mem_append_left _ (List.mem_of_getElem? (i := 32) rfl)))) rfl
theorem mm_AL_118 : Cond.methodLink R_AL 118 y_OB_checkIndex ∈ gw := gw_in (List.mem_append_right _ (show _ ∈ tables_1 from List.mem_append_right _ (List.mem_append_left _ (List.mem_of_getElem? (i := 34) rfl)))) rfl
theorem ms_OB_checkIndex : Cond.static y_OB_checkIndex ∈ gw := gw_in (List.mem_append_right _ (show _ ∈ tables_1 from List.mem_append_right _ (List.mem_append_left _ (List.mem_of_getElem? (i := 35) rfl)))) rfl
theorem mm_OB_105 : Cond.methodLink R_OB 105 y_PC_checkIndex ∈ gw := gw_in (List.mem_append_right _ (show _ ∈ tables_1 from List.mem_append_right _ (List.mem_append_left _ (List.mem_of_getElem? (i := 37) rfl)))) rfl
theorem ms_PC_checkIndex : Cond.static y_PC_checkIndex ∈ gw := gw_in (List.mem_append_right _ (show _ ∈ tables_1 from List.mem_append_right _ (List.mem_append_left _ (List.mem_of_getElem? (i := 38) rfl)))) rfl
theorem mm_AL_123 : Cond.methodLink R_AL 123 y_AL_elementData ∈ gw := gw_in (List.mem_append_right _ (show _ ∈ tables_1 from List.mem_append_right _ (List.mem_append_left _ (List.mem_of_getElem? (i := 40) rfl)))) rfl
theorem mi_AL_elementData : Cond.instanceMethod y_AL_elementData ∈ gw := gw_in (List.mem_append_right _ (show _ ∈ tables_1 from List.mem_append_right _ (List.mem_append_left _ (List.mem_of_getElem? (i := 41) rfl)))) rfl
theorem mq_AL_elementData : Cond.selects "java/util/ArrayList" y_AL_elementData y_AL_elementData ∈ gw := gw_in (List.mem_append_right _ (show _ ∈ tables_1 from List.mem_append_right _ (List.mem_append_left _ (List.mem_of_getElem? (i := 42) rfl)))) rfl
theorem mm_L_48 : Cond.methodLink R_L 48 y_L_placeToAdd ∈ gw := gw_in (List.mem_append_right _ (show _ ∈ tables_1 from List.mem_append_right _ (List.mem_append_left _ (List.mem_of_getElem? (i := 45) rfl)))) rfl
theorem ms_L_placeToAdd : Cond.static y_L_placeToAdd ∈ gw := gw_in (List.mem_append_right _ (show _ ∈ tables_1 from List.mem_append_right _ (List.mem_append_left _ (List.mem_of_getElem? (i := 46) rfl)))) rfl
theorem mm_L_98 : Cond.methodLink R_L 98 y_L_countBelow ∈ gw := gw_in (List.mem_append_right _ (show _ ∈ tables_1 from List.mem_append_right _ (List.mem_append_left _ (List.mem_of_getElem? (i := 48) rfl)))) rfl
theorem ms_L_countBelow : Cond.static y_L_countBelow ∈ gw := gw_in (List.mem_append_right _ (show _ ∈ tables_1 from List.mem_append_right _ (List.mem_append_left _ (List.mem_of_getElem? (i := 49) rfl)))) rfl
theorem mm_L_52 : Cond.methodLink R_L 52 y_L_inserted ∈ gw := gw_in (List.mem_append_right _ (show _ ∈ tables_1 from List.mem_append_right _ (List.mem_append_left _ (List.mem_of_getElem? (i := 51) rfl)))) rfl
theorem ms_L_inserted : Cond.static y_L_inserted ∈ gw := gw_in (List.mem_append_right _ (show _ ∈ tables_1 from List.mem_append_right _ (List.mem_append_left _ (List.mem_of_getElem? (i := 52) rfl)))) rfl
theorem mm_L_171 : Cond.methodLink R_L 171 ⟨"java/lang/System", "arraycopy", "(Ljava/lang/Object;ILjava/lang/Object;II)V"⟩ ∈ gw := gw_in (List.mem_append_right _ (show _ ∈ tables_1 from List.mem_append_right _ (List.mem_append_left _ (List.mem_of_getElem? (i := 54) rfl)))) rfl
theorem mi_V_with : Cond.instanceMethod y_V_with ∈ gw := gw_in (List.mem_append_right _ (show _ ∈ tables_1 from List.mem_append_right _ (List.mem_append_left _ (List.mem_of_getElem? (i := 57) rfl)))) rfl
theorem mc_V_8 : Cond.classLink R_V 8 "LastingShapes$Version" ∈ gw := gw_in (List.mem_append_right _ (show _ ∈ tables_1 from List.mem_append_right _ (List.mem_append_left _ (List.mem_of_getElem? (i := 59) rfl)))) rfl
theorem mm_V_23 : Cond.methodLink R_V 23 y_V_init ∈ gw := gw_in (List.mem_append_right _ (show _ ∈ tables_1 from List.mem_append_right _ (List.mem_append_left _ (List.mem_of_getElem? (i := 60) rfl)))) rfl
theorem mm_W_73 : Cond.methodLink R_W 73 y_W_first ∈ gw := gw_in (List.mem_append_right _ (show _ ∈ tables_1 from List.mem_append_right _ (List.mem_append_left _ (List.mem_of_getElem? (i := 61) rfl)))) rfl
theorem ms_W_first : Cond.static y_W_first ∈ gw := gw_in (List.mem_append_right _ (show _ ∈ tables_1 from List.mem_append_right _ (List.mem_append_left _ (List.mem_of_getElem? (i := 62) rfl)))) rfl
theorem mc_W_24 : Cond.classLink R_W 24 "java/util/NoSuchElementException" ∈ gw := gw_in (List.mem_append_right _ (show _ ∈ tables_1 from List.mem_append_right _ (List.mem_append_left _ (List.mem_of_getElem? (i := 64) rfl)))) rfl
theorem mm_W_20 : Cond.methodLink R_W 20 y_L_first ∈ gw := gw_in (List.mem_append_right _ (show _ ∈ tables_1 from List.mem_append_right _ (List.mem_append_left _ (List.mem_of_getElem? (i := 65) rfl)))) rfl
theorem mi_L_first : Cond.instanceMethod y_L_first ∈ gw := gw_in (List.mem_append_right _ (show _ ∈ tables_1 from List.mem_append_right _ (List.mem_append_left _ (List.mem_of_getElem? (i := 66) rfl)))) rfl
theorem mq_L_first : Cond.selects "LastingShapes" y_L_first y_L_first ∈ gw := gw_in (List.mem_append_right _ (show _ ∈ tables_1 from List.mem_append_right _ (List.mem_append_left _ (List.mem_of_getElem? (i := 67) rfl)))) rfl
theorem mm_L_60 : Cond.methodLink R_L 60 y_L_refuseWithoutElements ∈ gw := gw_in (List.mem_append_right _ (show _ ∈ tables_1 from List.mem_append_right _ (List.mem_append_left _ (List.mem_of_getElem? (i := 69) rfl)))) rfl
theorem ms_L_refuseWithoutElements : Cond.static y_L_refuseWithoutElements ∈ gw := gw_in (List.mem_append_right _ (show _ ∈ tables_1 from List.mem_append_right _ (List.mem_append_left _ (List.mem_of_getElem? (i := 70) rfl)))) rfl
theorem mc_L_112 : Cond.classLink R_L 112 "java/util/NoSuchElementException" ∈ gw := gw_in (List.mem_append_right _ (show _ ∈ tables_1 from List.mem_append_right _ (List.mem_append_left _ (List.mem_of_getElem? (i := 72) rfl)))) rfl
theorem mt_NoSuchElementException : Cond.instantiable "java/util/NoSuchElementException" 6 ∈ gw := gw_in (List.mem_append_right _ (show _ ∈ tables_1 from List.mem_append_right _ (List.mem_append_left _ (List.mem_of_getElem? (i := 73) rfl)))) rfl
theorem mm_L_116 : Cond.methodLink R_L 116 ⟨"java/util/NoSuchElementException", "<init>", "(Ljava/lang/String;)V"⟩ ∈ gw := gw_in (List.mem_append_right _ (show _ ∈ tables_1 from List.mem_append_right _ (List.mem_append_left _ (List.mem_of_getElem? (i := 82) rfl)))) rfl
theorem mm_W_77 : Cond.methodLink R_W 77 y_W_rest ∈ gw := gw_in (List.mem_append_right _ (show _ ∈ tables_1 from List.mem_append_right _ (List.mem_append_left _ (List.mem_of_getElem? (i := 88) rfl)))) rfl
theorem ms_W_rest : Cond.static y_W_rest ∈ gw := gw_in (List.mem_append_right _ (show _ ∈ tables_1 from List.mem_append_right _ (List.mem_append_left _ (List.mem_of_getElem? (i := 89) rfl)))) rfl
theorem mm_W_26 : Cond.methodLink R_W 26 y_L_rest ∈ gw := gw_in (List.mem_append_right _ (show _ ∈ tables_1 from List.mem_append_right _ (List.mem_append_left _ (List.mem_of_getElem? (i := 91) rfl)))) rfl
theorem mi_L_rest : Cond.instanceMethod y_L_rest ∈ gw := gw_in (List.mem_append_right _ (show _ ∈ tables_1 from List.mem_append_right _ (List.mem_append_left _ (List.mem_of_getElem? (i := 92) rfl)))) rfl
theorem mq_L_rest : Cond.selects "LastingShapes" y_L_rest y_L_rest ∈ gw := gw_in (List.mem_append_right _ (show _ ∈ tables_1 from List.mem_append_right _ (List.mem_append_left _ (List.mem_of_getElem? (i := 93) rfl)))) rfl
theorem mm_L_64 : Cond.methodLink R_L 64 y_AR_copyOfRange ∈ gw := gw_in (List.mem_append_right _ (show _ ∈ tables_1 from List.mem_append_right _ (List.mem_append_left _ (List.mem_of_getElem? (i := 95) rfl)))) rfl
theorem ms_AR_copyOfRange : Cond.static y_AR_copyOfRange ∈ gw := gw_in (List.mem_append_right _ (show _ ∈ tables_1 from List.mem_append_right _ (List.mem_append_left _ (List.mem_of_getElem? (i := 96) rfl)))) rfl
theorem mm_AR_351 : Cond.methodLink R_AR 351 y_AR_copyOfRangeInt ∈ gw := gw_in (List.mem_append_right _ (show _ ∈ tables_1 from List.mem_append_right _ (List.mem_append_left _ (List.mem_of_getElem? (i := 98) rfl)))) rfl
theorem ms_AR_copyOfRangeInt : Cond.static y_AR_copyOfRangeInt ∈ gw := gw_in (List.mem_append_right _ (show _ ∈ tables_1 from List.mem_append_right _ (List.mem_append_left _ (List.mem_of_getElem? (i := 99) rfl)))) rfl
theorem mm_AR_343 : Cond.methodLink R_AR 343 y_AR_checkLength ∈ gw := gw_in (List.mem_append_right _ (show _ ∈ tables_1 from List.mem_append_right _ (List.mem_append_left _ (List.mem_of_getElem? (i := 101) rfl)))) rfl
theorem ms_AR_checkLength : Cond.static y_AR_checkLength ∈ gw := gw_in (List.mem_append_right _ (show _ ∈ tables_1 from List.mem_append_right _ (List.mem_append_left _ (List.mem_of_getElem? (i := 102) rfl)))) rfl
theorem mm_AR_316 : Cond.methodLink R_AR 316 ⟨"[I", "clone", "()Ljava/lang/Object;"⟩ ∈ gw := gw_in (List.mem_append_right _ (show _ ∈ tables_1 from List.mem_append_right _ (List.mem_append_left _ (List.mem_of_getElem? (i := 104) rfl)))) rfl
theorem mo_A_clone : Cond.sameMethod "[I" "java/lang/Object" "clone" "()Ljava/lang/Object;" ∈ gw := gw_in (List.mem_append_right _ (show _ ∈ tables_1 from List.mem_append_right _ (List.mem_append_left _ (List.mem_of_getElem? (i := 105) rfl)))) rfl
theorem mv_OJ_clone : Cond.native ⟨"java/lang/Object", "clone", "()Ljava/lang/Object;"⟩ ∈ gw := gw_in (List.mem_append_right _ (show _ ∈ tables_1 from List.mem_append_right _ (List.mem_append_left _ (List.mem_of_getElem? (i := 106) rfl)))) rfl
theorem mi_OJ_clone : Cond.instanceMethod ⟨"java/lang/Object", "clone", "()Ljava/lang/Object;"⟩ ∈ gw := gw_in (List.mem_append_right _ (show _ ∈ tables_1 from List.mem_append_right _ (List.mem_append_left _ (List.mem_of_getElem? (i := 107) rfl)))) rfl
theorem mq_OJ_clone_y : Cond.selects "[I" ⟨"[I", "clone", "()Ljava/lang/Object;"⟩ ⟨"java/lang/Object", "clone", "()Ljava/lang/Object;"⟩ ∈ gw := gw_in (List.mem_append_right _ (show _ ∈ tables_1 from List.mem_append_right _ (List.mem_append_left _ (List.mem_of_getElem? (i := 108) rfl)))) rfl
theorem mc_AR_317 : Cond.classLink R_AR 317 "[I" ∈ gw := gw_in (List.mem_append_right _ (show _ ∈ tables_1 from List.mem_append_right _ (List.mem_append_left _ (List.mem_of_getElem? (i := 110) rfl)))) rfl
theorem mm_W_80 : Cond.methodLink R_W 80 y_W_join ∈ gw := gw_in (List.mem_append_right _ (show _ ∈ tables_1 from List.mem_append_right _ (List.mem_append_left _ (List.mem_of_getElem? (i := 111) rfl)))) rfl
theorem ms_W_join : Cond.static y_W_join ∈ gw := gw_in (List.mem_append_right _ (show _ ∈ tables_1 from List.mem_append_right _ (List.mem_append_left _ (List.mem_of_getElem? (i := 112) rfl)))) rfl
theorem mm_W_29 : Cond.methodLink R_W 29 y_L_join ∈ gw := gw_in (List.mem_append_right _ (show _ ∈ tables_1 from List.mem_append_right _ (List.mem_append_left _ (List.mem_of_getElem? (i := 114) rfl)))) rfl
theorem mi_L_join : Cond.instanceMethod y_L_join ∈ gw := gw_in (List.mem_append_right _ (show _ ∈ tables_1 from List.mem_append_right _ (List.mem_append_left _ (List.mem_of_getElem? (i := 115) rfl)))) rfl
theorem mq_L_join : Cond.selects "LastingShapes" y_L_join y_L_join ∈ gw := gw_in (List.mem_append_right _ (show _ ∈ tables_1 from List.mem_append_right _ (List.mem_append_left _ (List.mem_of_getElem? (i := 116) rfl)))) rfl
theorem mm_L_72 : Cond.methodLink R_L 72 y_L_canBeJoined ∈ gw := gw_in (List.mem_append_right _ (show _ ∈ tables_1 from List.mem_append_right _ (List.mem_append_left _ (List.mem_of_getElem? (i := 118) rfl)))) rfl
theorem ms_L_canBeJoined : Cond.static y_L_canBeJoined ∈ gw := gw_in (List.mem_append_right _ (show _ ∈ tables_1 from List.mem_append_right _ (List.mem_append_left _ (List.mem_of_getElem? (i := 119) rfl)))) rfl
theorem mm_L_82 : Cond.methodLink R_L 82 y_L_merged ∈ gw := gw_in (List.mem_append_right _ (show _ ∈ tables_1 from List.mem_append_right _ (List.mem_append_left _ (List.mem_of_getElem? (i := 122) rfl)))) rfl
theorem ms_L_merged : Cond.static y_L_merged ∈ gw := gw_in (List.mem_append_right _ (show _ ∈ tables_1 from List.mem_append_right _ (List.mem_append_left _ (List.mem_of_getElem? (i := 123) rfl)))) rfl
theorem mm_L_86 : Cond.methodLink R_L 86 y_L_appended ∈ gw := gw_in (List.mem_append_right _ (show _ ∈ tables_1 from List.mem_append_right _ (List.mem_append_left _ (List.mem_of_getElem? (i := 125) rfl)))) rfl
theorem ms_L_appended : Cond.static y_L_appended ∈ gw := gw_in (List.mem_append_right _ (show _ ∈ tables_1 from List.mem_append_right _ (List.mem_append_left _ (List.mem_of_getElem? (i := 126) rfl)))) rfl
theorem mm_L_182 : Cond.methodLink R_L 182 y_AR_copyOfI ∈ gw := gw_in (List.mem_append_right _ (show _ ∈ tables_1 from List.mem_append_right _ (List.mem_append_left _ (List.mem_of_getElem? (i := 128) rfl)))) rfl
theorem ms_AR_copyOfI : Cond.static y_AR_copyOfI ∈ gw := gw_in (List.mem_append_right _ (show _ ∈ tables_1 from List.mem_append_right _ (List.mem_append_left _ (List.mem_of_getElem? (i := 129) rfl)))) rfl
theorem mm_W_83 : Cond.methodLink R_W 83 y_W_bind ∈ gw := gw_in (List.mem_append_right _ (show _ ∈ tables_1 from List.mem_append_right _ (List.mem_append_left _ (List.mem_of_getElem? (i := 131) rfl)))) rfl
theorem ms_W_bind : Cond.static y_W_bind ∈ gw := gw_in (List.mem_append_right _ (show _ ∈ tables_1 from List.mem_append_right _ (List.mem_append_left _ (List.mem_of_getElem? (i := 132) rfl)))) rfl
theorem mm_W_32 : Cond.methodLink R_W 32 y_L_bind ∈ gw := gw_in (List.mem_append_right _ (show _ ∈ tables_1 from List.mem_append_right _ (List.mem_append_left _ (List.mem_of_getElem? (i := 134) rfl)))) rfl
theorem mi_L_bind : Cond.instanceMethod y_L_bind ∈ gw := gw_in (List.mem_append_right _ (show _ ∈ tables_1 from List.mem_append_right _ (List.mem_append_left _ (List.mem_of_getElem? (i := 135) rfl)))) rfl
theorem mq_L_bind : Cond.selects "LastingShapes" y_L_bind y_L_bind ∈ gw := gw_in (List.mem_append_right _ (show _ ∈ tables_1 from List.mem_append_right _ (List.mem_append_left _ (List.mem_of_getElem? (i := 136) rfl)))) rfl
theorem mm_L_89 : Cond.methodLink R_L 89 y_L_foundOfKind ∈ gw := gw_in (List.mem_append_right _ (show _ ∈ tables_1 from List.mem_append_right _ (List.mem_append_left _ (List.mem_of_getElem? (i := 138) rfl)))) rfl
theorem mi_L_foundOfKind : Cond.instanceMethod y_L_foundOfKind ∈ gw := gw_in (List.mem_append_right _ (show _ ∈ tables_1 from List.mem_append_right _ (List.mem_append_left _ (List.mem_of_getElem? (i := 140) rfl)))) rfl
theorem mm_L_102 : Cond.methodLink R_L 102 y_L_hasAt ∈ gw := gw_in (List.mem_append_right _ (show _ ∈ tables_1 from List.mem_append_right _ (List.mem_append_left _ (List.mem_of_getElem? (i := 144) rfl)))) rfl
theorem ms_L_hasAt : Cond.static y_L_hasAt ∈ gw := gw_in (List.mem_append_right _ (show _ ∈ tables_1 from List.mem_append_right _ (List.mem_append_left _ (List.mem_of_getElem? (i := 145) rfl)))) rfl
theorem mm_L_106 : Cond.methodLink R_L 106 y_L_replaced ∈ gw := gw_in (List.mem_append_right _ (show _ ∈ tables_1 from List.mem_append_right _ (List.mem_append_left _ (List.mem_of_getElem? (i := 147) rfl)))) rfl
theorem ms_L_replaced : Cond.static y_L_replaced ∈ gw := gw_in (List.mem_append_right _ (show _ ∈ tables_1 from List.mem_append_right _ (List.mem_append_left _ (List.mem_of_getElem? (i := 148) rfl)))) rfl
theorem mm_L_177 : Cond.methodLink R_L 177 ⟨"[I", "clone", "()Ljava/lang/Object;"⟩ ∈ gw := gw_in (List.mem_append_right _ (show _ ∈ tables_1 from List.mem_append_right _ (List.mem_append_left _ (List.mem_of_getElem? (i := 150) rfl)))) rfl
theorem mc_L_178 : Cond.classLink R_L 178 "[I" ∈ gw := gw_in (List.mem_append_right _ (show _ ∈ tables_1 from List.mem_append_right _ (List.mem_append_left _ (List.mem_of_getElem? (i := 151) rfl)))) rfl
theorem mm_W_87 : Cond.methodLink R_W 87 y_W_value ∈ gw := gw_in (List.mem_append_right _ (show _ ∈ tables_1 from List.mem_append_right _ (List.mem_append_left _ (List.mem_of_getElem? (i := 152) rfl)))) rfl
theorem ms_W_value : Cond.static y_W_value ∈ gw := gw_in (List.mem_append_right _ (show _ ∈ tables_1 from List.mem_append_right _ (List.mem_append_left _ (List.mem_of_getElem? (i := 153) rfl)))) rfl
theorem mm_W_36 : Cond.methodLink R_W 36 y_L_value ∈ gw := gw_in (List.mem_append_right _ (show _ ∈ tables_1 from List.mem_append_right _ (List.mem_append_left _ (List.mem_of_getElem? (i := 155) rfl)))) rfl
theorem mi_L_value : Cond.instanceMethod y_L_value ∈ gw := gw_in (List.mem_append_right _ (show _ ∈ tables_1 from List.mem_append_right _ (List.mem_append_left _ (List.mem_of_getElem? (i := 156) rfl)))) rfl
theorem mq_L_value : Cond.selects "LastingShapes" y_L_value y_L_value ∈ gw := gw_in (List.mem_append_right _ (show _ ∈ tables_1 from List.mem_append_right _ (List.mem_append_left _ (List.mem_of_getElem? (i := 157) rfl)))) rfl
theorem mm_W_90 : Cond.methodLink R_W 90 y_W_update ∈ gw := gw_in (List.mem_append_right _ (show _ ∈ tables_1 from List.mem_append_right _ (List.mem_append_left _ (List.mem_of_getElem? (i := 160) rfl)))) rfl
theorem ms_W_update : Cond.static y_W_update ∈ gw := gw_in (List.mem_append_right _ (show _ ∈ tables_1 from List.mem_append_right _ (List.mem_append_left _ (List.mem_of_getElem? (i := 161) rfl)))) rfl
theorem mc_W_42 : Cond.classLink R_W 42 "java/lang/IndexOutOfBoundsException" ∈ gw := gw_in (List.mem_append_right _ (show _ ∈ tables_1 from List.mem_append_right _ (List.mem_append_left _ (List.mem_of_getElem? (i := 163) rfl)))) rfl
theorem mm_W_39 : Cond.methodLink R_W 39 y_L_update ∈ gw := gw_in (List.mem_append_right _ (show _ ∈ tables_1 from List.mem_append_right _ (List.mem_append_left _ (List.mem_of_getElem? (i := 164) rfl)))) rfl
theorem mi_L_update : Cond.instanceMethod y_L_update ∈ gw := gw_in (List.mem_append_right _ (show _ ∈ tables_1 from List.mem_append_right _ (List.mem_append_left _ (List.mem_of_getElem? (i := 165) rfl)))) rfl
theorem mq_L_update : Cond.selects "LastingShapes" y_L_update y_L_update ∈ gw := gw_in (List.mem_append_right _ (show _ ∈ tables_1 from List.mem_append_right _ (List.mem_append_left _ (List.mem_of_getElem? (i := 166) rfl)))) rfl
theorem mm_L_117 : Cond.methodLink R_L 117 y_L_refuseOutside ∈ gw := gw_in (List.mem_append_right _ (show _ ∈ tables_1 from List.mem_append_right _ (List.mem_append_left _ (List.mem_of_getElem? (i := 168) rfl)))) rfl
theorem ms_L_refuseOutside : Cond.static y_L_refuseOutside ∈ gw := gw_in (List.mem_append_right _ (show _ ∈ tables_1 from List.mem_append_right _ (List.mem_append_left _ (List.mem_of_getElem? (i := 169) rfl)))) rfl
theorem mc_L_163 : Cond.classLink R_L 163 "java/lang/IndexOutOfBoundsException" ∈ gw := gw_in (List.mem_append_right _ (show _ ∈ tables_1 from List.mem_append_right _ (List.mem_append_left _ (List.mem_of_getElem? (i := 171) rfl)))) rfl
theorem mt_IndexOutOfBoundsException : Cond.instantiable "java/lang/IndexOutOfBoundsException" 6 ∈ gw := gw_in (List.mem_append_right _ (show _ ∈ tables_1 from List.mem_append_right _ (List.mem_append_left _ (List.mem_of_getElem? (i := 172) rfl)))) rfl
theorem mm_L_167 : Cond.methodLink R_L 167 ⟨"java/lang/IndexOutOfBoundsException", "<init>", "(Ljava/lang/String;)V"⟩ ∈ gw := gw_in (List.mem_append_right _ (show _ ∈ tables_1 from List.mem_append_right _ (List.mem_append_left _ (List.mem_of_getElem? (i := 181) rfl)))) rfl
theorem mm_W_93 : Cond.methodLink R_W 93 y_W_at ∈ gw := gw_in (List.mem_append_right _ (show _ ∈ tables_1 from List.mem_append_right _ (List.mem_append_left _ (List.mem_of_getElem? (i := 187) rfl)))) rfl
theorem ms_W_at : Cond.static y_W_at ∈ gw := gw_in (List.mem_append_right _ (show _ ∈ tables_1 from List.mem_append_right _ (List.mem_append_left _ (List.mem_of_getElem? (i := 188) rfl)))) rfl
theorem mm_W_44 : Cond.methodLink R_W 44 y_L_at ∈ gw := gw_in (List.mem_append_right _ (show _ ∈ tables_1 from List.mem_append_right _ (List.mem_append_left _ (List.mem_of_getElem? (i := 190) rfl)))) rfl
theorem mi_L_at : Cond.instanceMethod y_L_at ∈ gw := gw_in (List.mem_append_right _ (show _ ∈ tables_1 from List.mem_append_right _ (List.mem_append_left _ (List.mem_of_getElem? (i := 191) rfl)))) rfl
theorem mq_L_at : Cond.selects "LastingShapes" y_L_at y_L_at ∈ gw := gw_in (List.mem_append_right _ (show _ ∈ tables_1 from List.mem_append_right _ (List.mem_append_left _ (List.mem_of_getElem? (i := 192) rfl)))) rfl
theorem mm_W_96 : Cond.methodLink R_W 96 y_W_size ∈ gw := gw_in (List.mem_append_right _ (show _ ∈ tables_1 from List.mem_append_right _ (List.mem_append_left _ (List.mem_of_getElem? (i := 194) rfl)))) rfl
theorem ms_W_size : Cond.static y_W_size ∈ gw := gw_in (List.mem_append_right _ (show _ ∈ tables_1 from List.mem_append_right _ (List.mem_append_left _ (List.mem_of_getElem? (i := 195) rfl)))) rfl
theorem mm_W_47 : Cond.methodLink R_W 47 y_L_size ∈ gw := gw_in (List.mem_append_right _ (show _ ∈ tables_1 from List.mem_append_right _ (List.mem_append_left _ (List.mem_of_getElem? (i := 197) rfl)))) rfl
theorem mi_L_size : Cond.instanceMethod y_L_size ∈ gw := gw_in (List.mem_append_right _ (show _ ∈ tables_1 from List.mem_append_right _ (List.mem_append_left _ (List.mem_of_getElem? (i := 198) rfl)))) rfl
theorem mq_L_size : Cond.selects "LastingShapes" y_L_size y_L_size ∈ gw := gw_in (List.mem_append_right _ (show _ ∈ tables_1 from List.mem_append_right _ (List.mem_append_left _ (List.mem_of_getElem? (i := 199) rfl)))) rfl
theorem mm_W_99 : Cond.methodLink R_W 99 y_W_parts ∈ gw := gw_in (List.mem_append_right _ (show _ ∈ tables_1 from List.mem_append_right _ (List.mem_append_left _ (List.mem_of_getElem? (i := 201) rfl)))) rfl
theorem ms_W_parts : Cond.static y_W_parts ∈ gw := gw_in (List.mem_append_right _ (show _ ∈ tables_1 from List.mem_append_right _ (List.mem_append_left _ (List.mem_of_getElem? (i := 202) rfl)))) rfl
theorem mm_W_50 : Cond.methodLink R_W 50 y_L_parts ∈ gw := gw_in (List.mem_append_right _ (show _ ∈ tables_1 from List.mem_append_right _ (List.mem_append_left _ (List.mem_of_getElem? (i := 204) rfl)))) rfl
theorem mi_L_parts : Cond.instanceMethod y_L_parts ∈ gw := gw_in (List.mem_append_right _ (show _ ∈ tables_1 from List.mem_append_right _ (List.mem_append_left _ (List.mem_of_getElem? (i := 205) rfl)))) rfl
theorem mq_L_parts : Cond.selects "LastingShapes" y_L_parts y_L_parts ∈ gw := gw_in (List.mem_append_right _ (show _ ∈ tables_1 from List.mem_append_right _ (List.mem_append_left _ (List.mem_of_getElem? (i := 206) rfl)))) rfl
theorem mm_L_121 : Cond.methodLink R_L 121 y_L_fewestTrees ∈ gw := gw_in (List.mem_append_right _ (show _ ∈ tables_1 from List.mem_append_right _ (List.mem_append_left _ (List.mem_of_getElem? (i := 208) rfl)))) rfl
theorem ms_L_fewestTrees : Cond.static y_L_fewestTrees ∈ gw := gw_in (List.mem_append_right _ (show _ ∈ tables_1 from List.mem_append_right _ (List.mem_append_left _ (List.mem_of_getElem? (i := 209) rfl)))) rfl
theorem mm_L_125 : Cond.methodLink R_L 125 y_IN_bitCount ∈ gw := gw_in (List.mem_append_right _ (show _ ∈ tables_1 from List.mem_append_right _ (List.mem_append_left _ (List.mem_of_getElem? (i := 211) rfl)))) rfl
theorem ms_IN_bitCount : Cond.static y_IN_bitCount ∈ gw := gw_in (List.mem_append_right _ (show _ ∈ tables_1 from List.mem_append_right _ (List.mem_append_left _ (List.mem_of_getElem? (i := 212) rfl)))) rfl
theorem mx_IN_265 : Cond.constant R_IN 265 1431655765 ∈ gw := gw_in (List.mem_append_right _ (show _ ∈ tables_1 from List.mem_append_right _ (List.mem_append_left _ (List.mem_of_getElem? (i := 214) rfl)))) rfl
theorem mx_IN_266 : Cond.constant R_IN 266 858993459 ∈ gw := gw_in (List.mem_append_right _ (show _ ∈ tables_1 from List.mem_append_right _ (List.mem_append_left _ (List.mem_of_getElem? (i := 215) rfl)))) rfl
theorem mx_IN_267 : Cond.constant R_IN 267 252645135 ∈ gw := gw_in (List.mem_append_right _ (show _ ∈ tables_1 from List.mem_append_right _ (List.mem_append_left _ (List.mem_of_getElem? (i := 216) rfl)))) rfl
theorem mm_L_130 : Cond.methodLink R_L 130 y_MT_min ∈ gw := gw_in (List.mem_append_right _ (show _ ∈ tables_1 from List.mem_append_right _ (List.mem_append_left _ (List.mem_of_getElem? (i := 217) rfl)))) rfl
theorem mm_W_102 : Cond.methodLink R_W 102 y_W_kind ∈ gw := gw_in (List.mem_append_right _ (show _ ∈ tables_1 from List.mem_append_right _ (List.mem_append_left _ (List.mem_of_getElem? (i := 218) rfl)))) rfl
theorem ms_W_kind : Cond.static y_W_kind ∈ gw := gw_in (List.mem_append_right _ (show _ ∈ tables_1 from List.mem_append_right _ (List.mem_append_left _ (List.mem_of_getElem? (i := 219) rfl)))) rfl
theorem mm_W_53 : Cond.methodLink R_W 53 y_L_kind ∈ gw := gw_in (List.mem_append_right _ (show _ ∈ tables_1 from List.mem_append_right _ (List.mem_append_left _ (List.mem_of_getElem? (i := 221) rfl)))) rfl
theorem mi_L_kind : Cond.instanceMethod y_L_kind ∈ gw := gw_in (List.mem_append_right _ (show _ ∈ tables_1 from List.mem_append_right _ (List.mem_append_left _ (List.mem_of_getElem? (i := 222) rfl)))) rfl
theorem mq_L_kind : Cond.selects "LastingShapes" y_L_kind y_L_kind ∈ gw := gw_in (List.mem_append_right _ (show _ ∈ tables_1 from List.mem_append_right _ (List.mem_append_left _ (List.mem_of_getElem? (i := 223) rfl)))) rfl
theorem mc_W_57 : Cond.classLink R_W 57 "LastingShapesModel" ∈ gw := gw_in (List.mem_append_right _ (show _ ∈ tables_1 from List.mem_append_right _ (List.mem_append_left _ (List.mem_of_getElem? (i := 225) rfl)))) rfl
theorem mt_M : Cond.instantiable "LastingShapesModel" 8 ∈ gw := gw_in (List.mem_append_right _ (show _ ∈ tables_1 from List.mem_append_right _ (List.mem_append_left _ (List.mem_of_getElem? (i := 226) rfl)))) rfl
theorem mm_W_59 : Cond.methodLink R_W 59 y_M_init ∈ gw := gw_in (List.mem_append_right _ (show _ ∈ tables_1 from List.mem_append_right _ (List.mem_append_left _ (List.mem_of_getElem? (i := 227) rfl)))) rfl
theorem mi_M_init : Cond.instanceMethod y_M_init ∈ gw := gw_in (List.mem_append_right _ (show _ ∈ tables_1 from List.mem_append_right _ (List.mem_append_left _ (List.mem_of_getElem? (i := 228) rfl)))) rfl
theorem mm_M_1 : Cond.methodLink R_M 1 y_OJ_init ∈ gw := gw_in (List.mem_append_right _ (show _ ∈ tables_1 from List.mem_append_right _ (List.mem_append_left _ (List.mem_of_getElem? (i := 230) rfl)))) rfl
theorem mf_M_32 : Cond.fieldLink R_M 32 "LastingShapesModel" "versions" "I" ∈ gw := gw_in (List.mem_append_right _ (show _ ∈ tables_1 from List.mem_append_right _ (List.mem_append_left _ (List.mem_of_getElem? (i := 231) rfl)))) rfl
theorem mf_M_7 : Cond.fieldLink R_M 7 "LastingShapesModel" "kinds" "[I" ∈ gw := gw_in (List.mem_append_right _ (show _ ∈ tables_1 from List.mem_append_right _ (List.mem_append_left _ (List.mem_of_getElem? (i := 232) rfl)))) rfl
theorem mf_M_13 : Cond.fieldLink R_M 13 "LastingShapesModel" "forms" "[I" ∈ gw := gw_in (List.mem_append_right _ (show _ ∈ tables_1 from List.mem_append_right _ (List.mem_append_left _ (List.mem_of_getElem? (i := 233) rfl)))) rfl
theorem mf_M_16 : Cond.fieldLink R_M 16 "LastingShapesModel" "sizes" "[I" ∈ gw := gw_in (List.mem_append_right _ (show _ ∈ tables_1 from List.mem_append_right _ (List.mem_append_left _ (List.mem_of_getElem? (i := 234) rfl)))) rfl
theorem mf_M_19 : Cond.fieldLink R_M 19 "LastingShapesModel" "elements" "[I" ∈ gw := gw_in (List.mem_append_right _ (show _ ∈ tables_1 from List.mem_append_right _ (List.mem_append_left _ (List.mem_of_getElem? (i := 235) rfl)))) rfl
theorem mf_M_22 : Cond.fieldLink R_M 22 "LastingShapesModel" "keys" "[I" ∈ gw := gw_in (List.mem_append_right _ (show _ ∈ tables_1 from List.mem_append_right _ (List.mem_append_left _ (List.mem_of_getElem? (i := 236) rfl)))) rfl
theorem mf_M_28 : Cond.fieldLink R_M 28 "LastingShapesModel" "thrown" "I" ∈ gw := gw_in (List.mem_append_right _ (show _ ∈ tables_1 from List.mem_append_right _ (List.mem_append_left _ (List.mem_of_getElem? (i := 237) rfl)))) rfl
theorem mf_M_25 : Cond.fieldLink R_M 25 "LastingShapesModel" "fewest" "[I" ∈ gw := gw_in (List.mem_append_right _ (show _ ∈ tables_1 from List.mem_append_right _ (List.mem_append_left _ (List.mem_of_getElem? (i := 238) rfl)))) rfl
theorem ml_M_0 : u_lay R_M T_M 0 ∈ gw := gw_in (List.mem_append_right _ (show _ ∈ tables_1 from List.mem_append_right _ (List.mem_append_left _ (List.mem_of_getElem? (i := 239) rfl)))) rfl
theorem ml_M_1 : u_lay R_M T_M 1 ∈ gw := gw_in (List.mem_append_right _ (show _ ∈ tables_1 from List.mem_append_right _ (List.mem_append_right _ (List.mem_of_getElem? (i := 1) rfl)))) rfl
theorem ml_M_2 : u_lay R_M T_M 2 ∈ gw := gw_in (List.mem_append_right _ (show _ ∈ tables_1 from List.mem_append_right _ (List.mem_append_right _ (List.mem_of_getElem? (i := 3) rfl)))) rfl
theorem ml_M_3 : u_lay R_M T_M 3 ∈ gw := gw_in (List.mem_append_right _ (show _ ∈ tables_1 from List.mem_append_right _ (List.mem_append_right _ (List.mem_of_getElem? (i := 5) rfl)))) rfl
theorem ml_M_4 : u_lay R_M T_M 4 ∈ gw := gw_in (List.mem_append_right _ (show _ ∈ tables_1 from List.mem_append_right _ (List.mem_append_right _ (List.mem_of_getElem? (i := 7) rfl)))) rfl
theorem ml_M_5 : u_lay R_M T_M 5 ∈ gw := gw_in (List.mem_append_right _ (show _ ∈ tables_1 from List.mem_append_right _ (List.mem_append_right _ (List.mem_of_getElem? (i := 9) rfl)))) rfl
theorem ml_M_6 : u_lay R_M T_M 6 ∈ gw := gw_in (List.mem_append_right _ (show _ ∈ tables_1 from List.mem_append_right _ (List.mem_append_right _ (List.mem_of_getElem? (i := 11) rfl)))) rfl
theorem ml_M_7 : u_lay R_M T_M 7 ∈ gw := gw_in (List.mem_append_right _ (show _ ∈ tables_1 from List.mem_append_right _ (List.mem_append_right _ (List.mem_of_getElem? (i := 13) rfl)))) rfl
theorem mm_W_66 : Cond.methodLink R_W 66 y_M_thrown ∈ gw := gw_in (List.mem_append_right _ (show _ ∈ tables_1 from List.mem_append_right _ (List.mem_append_right _ (List.mem_of_getElem? (i := 16) rfl)))) rfl
theorem mi_M_thrown : Cond.instanceMethod y_M_thrown ∈ gw := gw_in (List.mem_append_right _ (show _ ∈ tables_1 from List.mem_append_right _ (List.mem_append_right _ (List.mem_of_getElem? (i := 17) rfl)))) rfl
theorem mq_M_thrown : Cond.selects "LastingShapesModel" y_M_thrown y_M_thrown ∈ gw := gw_in (List.mem_append_right _ (show _ ∈ tables_1 from List.mem_append_right _ (List.mem_append_right _ (List.mem_of_getElem? (i := 18) rfl)))) rfl
theorem mm_W_65 : Cond.methodLink R_W 65 y_M_empty ∈ gw := gw_in (List.mem_append_right _ (show _ ∈ tables_1 from List.mem_append_right _ (List.mem_append_right _ (List.mem_of_getElem? (i := 20) rfl)))) rfl
theorem mi_M_empty : Cond.instanceMethod y_M_empty ∈ gw := gw_in (List.mem_append_right _ (show _ ∈ tables_1 from List.mem_append_right _ (List.mem_append_right _ (List.mem_of_getElem? (i := 21) rfl)))) rfl
theorem mq_M_empty : Cond.selects "LastingShapesModel" y_M_empty y_M_empty ∈ gw := gw_in (List.mem_append_right _ (show _ ∈ tables_1 from List.mem_append_right _ (List.mem_append_right _ (List.mem_of_getElem? (i := 22) rfl)))) rfl
theorem mm_M_46 : Cond.methodLink R_M 46 y_M_isFull ∈ gw := gw_in (List.mem_append_right _ (show _ ∈ tables_1 from List.mem_append_right _ (List.mem_append_right _ (List.mem_of_getElem? (i := 24) rfl)))) rfl
theorem mi_M_isFull : Cond.instanceMethod y_M_isFull ∈ gw := gw_in (List.mem_append_right _ (show _ ∈ tables_1 from List.mem_append_right _ (List.mem_append_right _ (List.mem_of_getElem? (i := 26) rfl)))) rfl
theorem mm_M_50 : Cond.methodLink R_M 50 y_M_throwsBy ∈ gw := gw_in (List.mem_append_right _ (show _ ∈ tables_1 from List.mem_append_right _ (List.mem_append_right _ (List.mem_of_getElem? (i := 28) rfl)))) rfl
theorem mi_M_throwsBy : Cond.instanceMethod y_M_throwsBy ∈ gw := gw_in (List.mem_append_right _ (show _ ∈ tables_1 from List.mem_append_right _ (List.mem_append_right _ (List.mem_of_getElem? (i := 30) rfl)))) rfl
theorem mm_M_53 : Cond.methodLink R_M 53 y_M_create ∈ gw := gw_in (List.mem_append_right _ (show _ ∈ tables_1 from List.mem_append_right _ (List.mem_append_right _ (List.mem_of_getElem? (i := 32) rfl)))) rfl
theorem mi_M_create : Cond.instanceMethod y_M_create ∈ gw := gw_in (List.mem_append_right _ (show _ ∈ tables_1 from List.mem_append_right _ (List.mem_append_right _ (List.mem_of_getElem? (i := 34) rfl)))) rfl
theorem mm_W_72 : Cond.methodLink R_W 72 y_M_add ∈ gw := gw_in (List.mem_append_right _ (show _ ∈ tables_1 from List.mem_append_right _ (List.mem_append_right _ (List.mem_of_getElem? (i := 36) rfl)))) rfl
theorem mi_M_add : Cond.instanceMethod y_M_add ∈ gw := gw_in (List.mem_append_right _ (show _ ∈ tables_1 from List.mem_append_right _ (List.mem_append_right _ (List.mem_of_getElem? (i := 37) rfl)))) rfl
theorem mq_M_add : Cond.selects "LastingShapesModel" y_M_add y_M_add ∈ gw := gw_in (List.mem_append_right _ (show _ ∈ tables_1 from List.mem_append_right _ (List.mem_append_right _ (List.mem_of_getElem? (i := 38) rfl)))) rfl
theorem mm_M_57 : Cond.methodLink R_M 57 y_M_isRow ∈ gw := gw_in (List.mem_append_right _ (show _ ∈ tables_1 from List.mem_append_right _ (List.mem_append_right _ (List.mem_of_getElem? (i := 40) rfl)))) rfl
theorem mi_M_isRow : Cond.instanceMethod y_M_isRow ∈ gw := gw_in (List.mem_append_right _ (show _ ∈ tables_1 from List.mem_append_right _ (List.mem_append_right _ (List.mem_of_getElem? (i := 42) rfl)))) rfl
theorem mm_M_35 : Cond.methodLink R_M 35 y_M_is ∈ gw := gw_in (List.mem_append_right _ (show _ ∈ tables_1 from List.mem_append_right _ (List.mem_append_right _ (List.mem_of_getElem? (i := 44) rfl)))) rfl
theorem mi_M_is : Cond.instanceMethod y_M_is ∈ gw := gw_in (List.mem_append_right _ (show _ ∈ tables_1 from List.mem_append_right _ (List.mem_append_right _ (List.mem_of_getElem? (i := 46) rfl)))) rfl
theorem mm_M_39 : Cond.methodLink R_M 39 y_M_isMap ∈ gw := gw_in (List.mem_append_right _ (show _ ∈ tables_1 from List.mem_append_right _ (List.mem_append_right _ (List.mem_of_getElem? (i := 48) rfl)))) rfl
theorem mi_M_isMap : Cond.instanceMethod y_M_isMap ∈ gw := gw_in (List.mem_append_right _ (show _ ∈ tables_1 from List.mem_append_right _ (List.mem_append_right _ (List.mem_of_getElem? (i := 50) rfl)))) rfl
theorem mm_M_60 : Cond.methodLink R_M 60 y_M_below ∈ gw := gw_in (List.mem_append_right _ (show _ ∈ tables_1 from List.mem_append_right _ (List.mem_append_right _ (List.mem_of_getElem? (i := 52) rfl)))) rfl
theorem mi_M_below : Cond.instanceMethod y_M_below ∈ gw := gw_in (List.mem_append_right _ (show _ ∈ tables_1 from List.mem_append_right _ (List.mem_append_right _ (List.mem_of_getElem? (i := 54) rfl)))) rfl
theorem mm_M_63 : Cond.methodLink R_M 63 y_M_putAll ∈ gw := gw_in (List.mem_append_right _ (show _ ∈ tables_1 from List.mem_append_right _ (List.mem_append_right _ (List.mem_of_getElem? (i := 56) rfl)))) rfl
theorem mi_M_putAll : Cond.instanceMethod y_M_putAll ∈ gw := gw_in (List.mem_append_right _ (show _ ∈ tables_1 from List.mem_append_right _ (List.mem_append_right _ (List.mem_of_getElem? (i := 58) rfl)))) rfl
theorem mm_M_42 : Cond.methodLink R_M 42 y_M_put ∈ gw := gw_in (List.mem_append_right _ (show _ ∈ tables_1 from List.mem_append_right _ (List.mem_append_right _ (List.mem_of_getElem? (i := 60) rfl)))) rfl
theorem mi_M_put : Cond.instanceMethod y_M_put ∈ gw := gw_in (List.mem_append_right _ (show _ ∈ tables_1 from List.mem_append_right _ (List.mem_append_right _ (List.mem_of_getElem? (i := 62) rfl)))) rfl
theorem mm_W_76 : Cond.methodLink R_W 76 y_M_first ∈ gw := gw_in (List.mem_append_right _ (show _ ∈ tables_1 from List.mem_append_right _ (List.mem_append_right _ (List.mem_of_getElem? (i := 64) rfl)))) rfl
theorem mi_M_first : Cond.instanceMethod y_M_first ∈ gw := gw_in (List.mem_append_right _ (show _ ∈ tables_1 from List.mem_append_right _ (List.mem_append_right _ (List.mem_of_getElem? (i := 65) rfl)))) rfl
theorem mq_M_first : Cond.selects "LastingShapesModel" y_M_first y_M_first ∈ gw := gw_in (List.mem_append_right _ (show _ ∈ tables_1 from List.mem_append_right _ (List.mem_append_right _ (List.mem_of_getElem? (i := 66) rfl)))) rfl
theorem mm_W_79 : Cond.methodLink R_W 79 y_M_rest ∈ gw := gw_in (List.mem_append_right _ (show _ ∈ tables_1 from List.mem_append_right _ (List.mem_append_right _ (List.mem_of_getElem? (i := 68) rfl)))) rfl
theorem mi_M_rest : Cond.instanceMethod y_M_rest ∈ gw := gw_in (List.mem_append_right _ (show _ ∈ tables_1 from List.mem_append_right _ (List.mem_append_right _ (List.mem_of_getElem? (i := 69) rfl)))) rfl
theorem mq_M_rest : Cond.selects "LastingShapesModel" y_M_rest y_M_rest ∈ gw := gw_in (List.mem_append_right _ (show _ ∈ tables_1 from List.mem_append_right _ (List.mem_append_right _ (List.mem_of_getElem? (i := 70) rfl)))) rfl
theorem mm_W_82 : Cond.methodLink R_W 82 y_M_join ∈ gw := gw_in (List.mem_append_right _ (show _ ∈ tables_1 from List.mem_append_right _ (List.mem_append_right _ (List.mem_of_getElem? (i := 72) rfl)))) rfl
theorem mi_M_join : Cond.instanceMethod y_M_join ∈ gw := gw_in (List.mem_append_right _ (show _ ∈ tables_1 from List.mem_append_right _ (List.mem_append_right _ (List.mem_of_getElem? (i := 73) rfl)))) rfl
theorem mq_M_join : Cond.selects "LastingShapesModel" y_M_join y_M_join ∈ gw := gw_in (List.mem_append_right _ (show _ ∈ tables_1 from List.mem_append_right _ (List.mem_append_right _ (List.mem_of_getElem? (i := 74) rfl)))) rfl
theorem mm_W_86 : Cond.methodLink R_W 86 y_M_bind ∈ gw := gw_in (List.mem_append_right _ (show _ ∈ tables_1 from List.mem_append_right _ (List.mem_append_right _ (List.mem_of_getElem? (i := 76) rfl)))) rfl
theorem mi_M_bind : Cond.instanceMethod y_M_bind ∈ gw := gw_in (List.mem_append_right _ (show _ ∈ tables_1 from List.mem_append_right _ (List.mem_append_right _ (List.mem_of_getElem? (i := 77) rfl)))) rfl
theorem mq_M_bind : Cond.selects "LastingShapesModel" y_M_bind y_M_bind ∈ gw := gw_in (List.mem_append_right _ (show _ ∈ tables_1 from List.mem_append_right _ (List.mem_append_right _ (List.mem_of_getElem? (i := 78) rfl)))) rfl
theorem mm_M_67 : Cond.methodLink R_M 67 y_M_placeOf ∈ gw := gw_in (List.mem_append_right _ (show _ ∈ tables_1 from List.mem_append_right _ (List.mem_append_right _ (List.mem_of_getElem? (i := 80) rfl)))) rfl
theorem mi_M_placeOf : Cond.instanceMethod y_M_placeOf ∈ gw := gw_in (List.mem_append_right _ (show _ ∈ tables_1 from List.mem_append_right _ (List.mem_append_right _ (List.mem_of_getElem? (i := 82) rfl)))) rfl
theorem mm_M_70 : Cond.methodLink R_M 70 y_M_hasAt ∈ gw := gw_in (List.mem_append_right _ (show _ ∈ tables_1 from List.mem_append_right _ (List.mem_append_right _ (List.mem_of_getElem? (i := 84) rfl)))) rfl
theorem mi_M_hasAt : Cond.instanceMethod y_M_hasAt ∈ gw := gw_in (List.mem_append_right _ (show _ ∈ tables_1 from List.mem_append_right _ (List.mem_append_right _ (List.mem_of_getElem? (i := 86) rfl)))) rfl
theorem mm_W_89 : Cond.methodLink R_W 89 y_M_value ∈ gw := gw_in (List.mem_append_right _ (show _ ∈ tables_1 from List.mem_append_right _ (List.mem_append_right _ (List.mem_of_getElem? (i := 88) rfl)))) rfl
theorem mi_M_value : Cond.instanceMethod y_M_value ∈ gw := gw_in (List.mem_append_right _ (show _ ∈ tables_1 from List.mem_append_right _ (List.mem_append_right _ (List.mem_of_getElem? (i := 89) rfl)))) rfl
theorem mq_M_value : Cond.selects "LastingShapesModel" y_M_value y_M_value ∈ gw := gw_in (List.mem_append_right _ (show _ ∈ tables_1 from List.mem_append_right _ (List.mem_append_right _ (List.mem_of_getElem? (i := 90) rfl)))) rfl
theorem mm_W_92 : Cond.methodLink R_W 92 y_M_update ∈ gw := gw_in (List.mem_append_right _ (show _ ∈ tables_1 from List.mem_append_right _ (List.mem_append_right _ (List.mem_of_getElem? (i := 92) rfl)))) rfl
theorem mi_M_update : Cond.instanceMethod y_M_update ∈ gw := gw_in (List.mem_append_right _ (show _ ∈ tables_1 from List.mem_append_right _ (List.mem_append_right _ (List.mem_of_getElem? (i := 93) rfl)))) rfl
theorem mq_M_update : Cond.selects "LastingShapesModel" y_M_update y_M_update ∈ gw := gw_in (List.mem_append_right _ (show _ ∈ tables_1 from List.mem_append_right _ (List.mem_append_right _ (List.mem_of_getElem? (i := 94) rfl)))) rfl
theorem mm_W_95 : Cond.methodLink R_W 95 y_M_at ∈ gw := gw_in (List.mem_append_right _ (show _ ∈ tables_1 from List.mem_append_right _ (List.mem_append_right _ (List.mem_of_getElem? (i := 96) rfl)))) rfl
theorem mi_M_at : Cond.instanceMethod y_M_at ∈ gw := gw_in (List.mem_append_right _ (show _ ∈ tables_1 from List.mem_append_right _ (List.mem_append_right _ (List.mem_of_getElem? (i := 97) rfl)))) rfl
theorem mq_M_at : Cond.selects "LastingShapesModel" y_M_at y_M_at ∈ gw := gw_in (List.mem_append_right _ (show _ ∈ tables_1 from List.mem_append_right _ (List.mem_append_right _ (List.mem_of_getElem? (i := 98) rfl)))) rfl
theorem mm_W_98 : Cond.methodLink R_W 98 y_M_size ∈ gw := gw_in (List.mem_append_right _ (show _ ∈ tables_1 from List.mem_append_right _ (List.mem_append_right _ (List.mem_of_getElem? (i := 100) rfl)))) rfl
theorem mi_M_size : Cond.instanceMethod y_M_size ∈ gw := gw_in (List.mem_append_right _ (show _ ∈ tables_1 from List.mem_append_right _ (List.mem_append_right _ (List.mem_of_getElem? (i := 101) rfl)))) rfl
theorem mq_M_size : Cond.selects "LastingShapesModel" y_M_size y_M_size ∈ gw := gw_in (List.mem_append_right _ (show _ ∈ tables_1 from List.mem_append_right _ (List.mem_append_right _ (List.mem_of_getElem? (i := 102) rfl)))) rfl
theorem mm_W_101 : Cond.methodLink R_W 101 y_M_parts ∈ gw := gw_in (List.mem_append_right _ (show _ ∈ tables_1 from List.mem_append_right _ (List.mem_append_right _ (List.mem_of_getElem? (i := 104) rfl)))) rfl
theorem mi_M_parts : Cond.instanceMethod y_M_parts ∈ gw := gw_in (List.mem_append_right _ (show _ ∈ tables_1 from List.mem_append_right _ (List.mem_append_right _ (List.mem_of_getElem? (i := 105) rfl)))) rfl
theorem mq_M_parts : Cond.selects "LastingShapesModel" y_M_parts y_M_parts ∈ gw := gw_in (List.mem_append_right _ (show _ ∈ tables_1 from List.mem_append_right _ (List.mem_append_right _ (List.mem_of_getElem? (i := 106) rfl)))) rfl
theorem mm_M_74 : Cond.methodLink R_M 74 y_M_bits ∈ gw := gw_in (List.mem_append_right _ (show _ ∈ tables_1 from List.mem_append_right _ (List.mem_append_right _ (List.mem_of_getElem? (i := 108) rfl)))) rfl
theorem ms_M_bits : Cond.static y_M_bits ∈ gw := gw_in (List.mem_append_right _ (show _ ∈ tables_1 from List.mem_append_right _ (List.mem_append_right _ (List.mem_of_getElem? (i := 109) rfl)))) rfl
theorem mm_W_104 : Cond.methodLink R_W 104 y_M_kind ∈ gw := gw_in (List.mem_append_right _ (show _ ∈ tables_1 from List.mem_append_right _ (List.mem_append_right _ (List.mem_of_getElem? (i := 111) rfl)))) rfl
theorem mi_M_kind : Cond.instanceMethod y_M_kind ∈ gw := gw_in (List.mem_append_right _ (show _ ∈ tables_1 from List.mem_append_right _ (List.mem_append_right _ (List.mem_of_getElem? (i := 112) rfl)))) rfl
theorem mq_M_kind : Cond.selects "LastingShapesModel" y_M_kind y_M_kind ∈ gw := gw_in (List.mem_append_right _ (show _ ∈ tables_1 from List.mem_append_right _ (List.mem_append_right _ (List.mem_of_getElem? (i := 113) rfl)))) rfl
theorem mm_W_108 : Cond.methodLink R_W 108 y_M_versions ∈ gw := gw_in (List.mem_append_right _ (show _ ∈ tables_1 from List.mem_append_right _ (List.mem_append_right _ (List.mem_of_getElem? (i := 115) rfl)))) rfl
theorem mi_M_versions : Cond.instanceMethod y_M_versions ∈ gw := gw_in (List.mem_append_right _ (show _ ∈ tables_1 from List.mem_append_right _ (List.mem_append_right _ (List.mem_of_getElem? (i := 116) rfl)))) rfl
theorem mq_M_versions : Cond.selects "LastingShapesModel" y_M_versions y_M_versions ∈ gw := gw_in (List.mem_append_right _ (show _ ∈ tables_1 from List.mem_append_right _ (List.mem_append_right _ (List.mem_of_getElem? (i := 117) rfl)))) rfl
theorem ma_long : Cond.arrayClass .long ∈ gw := gw_in (List.mem_append_right _ (show _ ∈ tables_1 from List.mem_append_right _ (List.mem_append_right _ (List.mem_of_getElem? (i := 119) rfl)))) rfl
theorem mo_A_getClass : Cond.sameMethod "[Ljava/lang/Object;" "java/lang/Object" "getClass" "()Ljava/lang/Class;" ∈ gw := gw_in (List.mem_append_right _ (show _ ∈ tables_1 from List.mem_append_right _ (List.mem_append_right _ (List.mem_of_getElem? (i := 122) rfl)))) rfl
theorem mq_L_refuseBeyondLimits : Cond.selects R_L y_L_refuseBeyondLimits y_L_refuseBeyondLimits ∈ gw := gw_in (List.mem_append_left _ (List.mem_of_getElem? (i := 1) rfl)) rfl
theorem mq_L_keep : Cond.selects R_L y_L_keep y_L_keep ∈ gw := gw_in (List.mem_append_left _ (List.mem_of_getElem? (i := 2) rfl)) rfl
theorem mq_AL_add3 : Cond.selects R_AL y_AL_add3 y_AL_add3 ∈ gw := gw_in (List.mem_append_left _ (List.mem_of_getElem? (i := 3) rfl)) rfl
theorem mq_AL_grow : Cond.selects R_AL y_AL_grow y_AL_grow ∈ gw := gw_in (List.mem_append_left _ (List.mem_of_getElem? (i := 4) rfl)) rfl
theorem mq_AL_growI : Cond.selects R_AL y_AL_growI y_AL_growI ∈ gw := gw_in (List.mem_append_left _ (List.mem_of_getElem? (i := 5) rfl)) rfl
theorem mq_L_foundButNoMap : Cond.selects R_L y_L_foundButNoMap y_L_foundButNoMap ∈ gw := gw_in (List.mem_append_left _ (List.mem_of_getElem? (i := 6) rfl)) rfl
theorem mq_L_found : Cond.selects R_L y_L_found y_L_found ∈ gw := gw_in (List.mem_append_left _ (List.mem_of_getElem? (i := 7) rfl)) rfl
theorem mq_V_with : Cond.selects R_V y_V_with y_V_with ∈ gw := gw_in (List.mem_append_left _ (List.mem_of_getElem? (i := 8) rfl)) rfl
theorem mq_L_foundOfKind : Cond.selects R_L y_L_foundOfKind y_L_foundOfKind ∈ gw := gw_in (List.mem_append_left _ (List.mem_of_getElem? (i := 9) rfl)) rfl
theorem mq_M_isFull : Cond.selects R_M y_M_isFull y_M_isFull ∈ gw := gw_in (List.mem_append_left _ (List.mem_of_getElem? (i := 10) rfl)) rfl
theorem mq_M_throwsBy : Cond.selects R_M y_M_throwsBy y_M_throwsBy ∈ gw := gw_in (List.mem_append_left _ (List.mem_of_getElem? (i := 11) rfl)) rfl
theorem mq_M_create : Cond.selects R_M y_M_create y_M_create ∈ gw := gw_in (List.mem_append_left _ (List.mem_of_getElem? (i := 12) rfl)) rfl
theorem mq_M_isRow : Cond.selects R_M y_M_isRow y_M_isRow ∈ gw := gw_in (List.mem_append_left _ (List.mem_of_getElem? (i := 13) rfl)) rfl
theorem mq_M_is : Cond.selects R_M y_M_is y_M_is ∈ gw := gw_in (List.mem_append_left _ (List.mem_of_getElem? (i := 14) rfl)) rfl
theorem mq_M_isMap : Cond.selects R_M y_M_isMap y_M_isMap ∈ gw := gw_in (List.mem_append_left _ (List.mem_of_getElem? (i := 15) rfl)) rfl
theorem mq_M_below : Cond.selects R_M y_M_below y_M_below ∈ gw := gw_in (List.mem_append_left _ (List.mem_of_getElem? (i := 16) rfl)) rfl
theorem mq_M_putAll : Cond.selects R_M y_M_putAll y_M_putAll ∈ gw := gw_in (List.mem_append_left _ (List.mem_of_getElem? (i := 17) rfl)) rfl
theorem mq_M_put : Cond.selects R_M y_M_put y_M_put ∈ gw := gw_in (List.mem_append_left _ (List.mem_of_getElem? (i := 18) rfl)) rfl
theorem mq_M_placeOf : Cond.selects R_M y_M_placeOf y_M_placeOf ∈ gw := gw_in (List.mem_append_left _ (List.mem_of_getElem? (i := 19) rfl)) rfl
theorem mq_M_hasAt : Cond.selects R_M y_M_hasAt y_M_hasAt ∈ gw := gw_in (List.mem_append_left _ (List.mem_of_getElem? (i := 20) rfl)) rfl
theorem wl_L : ∀ x ∈ u_ws R_L T_L 1, x ∈ gw := by
  intro x hx
  obtain ⟨k, hk, rfl⟩ := List.mem_map.mp hx
  have hk := List.mem_range.mp hk
  match k, hk with
  | 0, _ => exact ml_L_0
  | n + 1, h => exact absurd h (by omega)
theorem wl_V : ∀ x ∈ u_ws R_V T_V 4, x ∈ gw := by
  intro x hx
  obtain ⟨k, hk, rfl⟩ := List.mem_map.mp hx
  have hk := List.mem_range.mp hk
  match k, hk with
  | 0, _ => exact ml_V_0
  | 1, _ => exact ml_V_1
  | 2, _ => exact ml_V_2
  | 3, _ => exact ml_V_3
  | n + 4, h => exact absurd h (by omega)
theorem wl_M : ∀ x ∈ u_ws R_M T_M 8, x ∈ gw := by
  intro x hx
  obtain ⟨k, hk, rfl⟩ := List.mem_map.mp hx
  have hk := List.mem_range.mp hk
  match k, hk with
  | 0, _ => exact ml_M_0
  | 1, _ => exact ml_M_1
  | 2, _ => exact ml_M_2
  | 3, _ => exact ml_M_3
  | 4, _ => exact ml_M_4
  | 5, _ => exact ml_M_5
  | 6, _ => exact ml_M_6
  | 7, _ => exact ml_M_7
  | n + 8, h => exact absurd h (by omega)
theorem wl_AL : ∀ x ∈ u_ws R_AL T_AL 3, x ∈ gw := by
  intro x hx
  obtain ⟨k, hk, rfl⟩ := List.mem_map.mp hx
  have hk := List.mem_range.mp hk
  match k, hk with
  | 0, _ => exact ml_AL_0
  | 1, _ => exact ml_AL_1
  | 2, _ => exact ml_AL_2
  | n + 3, h => exact absurd h (by omega)
theorem mz_DEFAULTCAPACITY_EMPTY_ELEMENTDATA : Cond.laysStatic "java/util/ArrayList" "DEFAULTCAPACITY_EMPTY_ELEMENTDATA" "[Ljava/lang/Object;" ∈ lw_tbl := List.mem_append_right _ (show _ ∈ tables_1 from List.mem_append_left _ (List.mem_of_getElem? (i := 42) rfl))
theorem mz_FORMS : Cond.laysStatic "LastingShapes" "FORMS" "[I" ∈ lw_tbl := List.mem_append_right _ (show _ ∈ tables_1 from List.mem_append_left _ (List.mem_of_getElem? (i := 80) rfl))
theorem mp_IllegalArgumentException_IllegalArgumentException : Cond.castable "java/lang/IllegalArgumentException" "java/lang/IllegalArgumentException" ∈ lw_tbl := List.mem_append_right _ (show _ ∈ tables_1 from List.mem_append_left _ (List.mem_of_getElem? (i := 83) rfl))
theorem mz_UNASSIGNED_STACK : Cond.laysStatic "java/lang/Throwable" "UNASSIGNED_STACK" "[Ljava/lang/StackTraceElement;" ∈ lw_tbl := List.mem_append_right _ (show _ ∈ tables_1 from List.mem_append_left _ (List.mem_of_getElem? (i := 108) rfl))
theorem mz_SUPPRESSED_SENTINEL : Cond.laysStatic "java/lang/Throwable" "SUPPRESSED_SENTINEL" "Ljava/util/List;" ∈ lw_tbl := List.mem_append_right _ (show _ ∈ tables_1 from List.mem_append_left _ (List.mem_of_getElem? (i := 110) rfl))
theorem mr_L_22 : Cond.stringRef R_L 22 "no such kind or form" ∈ lw_tbl := List.mem_append_right _ (show _ ∈ tables_1 from List.mem_append_left _ (List.mem_of_getElem? (i := 123) rfl))
theorem mp_IllegalStateException_IllegalStateException : Cond.castable "java/lang/IllegalStateException" "java/lang/IllegalStateException" ∈ lw_tbl := List.mem_append_right _ (show _ ∈ tables_1 from List.mem_append_left _ (List.mem_of_getElem? (i := 156) rfl))
theorem mr_L_152 : Cond.stringRef R_L 152 "no room for a version more" ∈ lw_tbl := List.mem_append_right _ (show _ ∈ tables_1 from List.mem_append_left _ (List.mem_of_getElem? (i := 163) rfl))
theorem mr_L_155 : Cond.stringRef R_L 155 "too many elements" ∈ lw_tbl := List.mem_append_right _ (show _ ∈ tables_1 from List.mem_append_left _ (List.mem_of_getElem? (i := 170) rfl))
theorem nm_L_33 : Cond.methodLinkNest R_L 33 y_V_init "LastingShapes" ∈ lw_tbl := List.mem_append_right _ (show _ ∈ tables_1 from List.mem_append_left _ (List.mem_of_getElem? (i := 173) rfl))
theorem nf_L_78 : Cond.fieldLinkNest R_L 78 R_V "kind" "I" "LastingShapes" ∈ lw_tbl := List.mem_append_right _ (show _ ∈ tables_1 from List.mem_append_left _ (List.mem_of_getElem? (i := 178) rfl))
theorem nf_L_109 : Cond.fieldLinkNest R_L 109 R_V "form" "I" "LastingShapes" ∈ lw_tbl := List.mem_append_right _ (show _ ∈ tables_1 from List.mem_append_left _ (List.mem_of_getElem? (i := 180) rfl))
theorem nf_L_44 : Cond.fieldLinkNest R_L 44 R_V "elements" "[I" "LastingShapes" ∈ lw_tbl := List.mem_append_right _ (show _ ∈ tables_1 from List.mem_append_left _ (List.mem_of_getElem? (i := 182) rfl))
theorem nf_L_95 : Cond.fieldLinkNest R_L 95 R_V "keys" "[I" "LastingShapes" ∈ lw_tbl := List.mem_append_right _ (show _ ∈ tables_1 from List.mem_append_left _ (List.mem_of_getElem? (i := 184) rfl))
theorem mu_object : Cond.arrayOver (.object "java/lang/Object") ∈ lw_tbl := List.mem_append_right _ (show _ ∈ tables_1 from List.mem_append_right _ (List.mem_append_left _ (List.mem_of_getElem? (i := 4) rfl)))
theorem mr_L_140 : Cond.stringRef R_L 140 "no such version" ∈ lw_tbl := List.mem_append_right _ (show _ ∈ tables_1 from List.mem_append_right _ (List.mem_append_left _ (List.mem_of_getElem? (i := 29) rfl)))
theorem mr_L_148 : Cond.stringRef R_L 148 "the version is a map" ∈ lw_tbl := List.mem_append_right _ (show _ ∈ tables_1 from List.mem_append_right _ (List.mem_append_left _ (List.mem_of_getElem? (i := 44) rfl)))
theorem nm_L_56 : Cond.methodLinkNest R_L 56 y_V_with "LastingShapes" ∈ lw_tbl := List.mem_append_right _ (show _ ∈ tables_1 from List.mem_append_right _ (List.mem_append_left _ (List.mem_of_getElem? (i := 55) rfl)))
theorem mp_NoSuchElementException_NoSuchElementException : Cond.castable "java/util/NoSuchElementException" "java/util/NoSuchElementException" ∈ lw_tbl := List.mem_append_right _ (show _ ∈ tables_1 from List.mem_append_right _ (List.mem_append_left _ (List.mem_of_getElem? (i := 74) rfl)))
theorem mr_L_161 : Cond.stringRef R_L 161 "no element" ∈ lw_tbl := List.mem_append_right _ (show _ ∈ tables_1 from List.mem_append_right _ (List.mem_append_left _ (List.mem_of_getElem? (i := 81) rfl)))
theorem mp_I_Cloneable : Cond.castable "[I" "java/lang/Cloneable" ∈ lw_tbl := List.mem_append_right _ (show _ ∈ tables_1 from List.mem_append_right _ (List.mem_append_left _ (List.mem_of_getElem? (i := 109) rfl)))
theorem mr_L_76 : Cond.stringRef R_L 76 "not two heaps or two chains of one form" ∈ lw_tbl := List.mem_append_right _ (show _ ∈ tables_1 from List.mem_append_right _ (List.mem_append_left _ (List.mem_of_getElem? (i := 121) rfl)))
theorem mr_L_146 : Cond.stringRef R_L 146 "the version is of another kind" ∈ lw_tbl := List.mem_append_right _ (show _ ∈ tables_1 from List.mem_append_right _ (List.mem_append_left _ (List.mem_of_getElem? (i := 142) rfl)))
theorem mr_L_93 : Cond.stringRef R_L 93 "no key that a map may have" ∈ lw_tbl := List.mem_append_right _ (show _ ∈ tables_1 from List.mem_append_right _ (List.mem_append_left _ (List.mem_of_getElem? (i := 143) rfl)))
theorem mr_L_114 : Cond.stringRef R_L 114 "no such key" ∈ lw_tbl := List.mem_append_right _ (show _ ∈ tables_1 from List.mem_append_right _ (List.mem_append_left _ (List.mem_of_getElem? (i := 159) rfl)))
theorem mp_IndexOutOfBoundsException_IndexOutOfBoundsException : Cond.castable "java/lang/IndexOutOfBoundsException" "java/lang/IndexOutOfBoundsException" ∈ lw_tbl := List.mem_append_right _ (show _ ∈ tables_1 from List.mem_append_right _ (List.mem_append_left _ (List.mem_of_getElem? (i := 173) rfl)))
theorem mr_L_165 : Cond.stringRef R_L 165 "no such place" ∈ lw_tbl := List.mem_append_right _ (show _ ∈ tables_1 from List.mem_append_right _ (List.mem_append_left _ (List.mem_of_getElem? (i := 180) rfl)))
theorem mp_LastingShapesVersion_LastingShapesVersion : Cond.castable "LastingShapes$Version" "LastingShapes$Version" ∈ lw_tbl := List.mem_append_right _ (show _ ∈ tables_1 from List.mem_append_right _ (List.mem_append_right _ (List.mem_of_getElem? (i := 121) rfl)))
theorem mj_getClass : Cond.declares ⟨"java/lang/Object", "getClass", "()Ljava/lang/Class;"⟩ ∈ lw_tbl := List.mem_append_right _ (show _ ∈ tables_1 from List.mem_append_right _ (List.mem_append_right _ (List.mem_of_getElem? (i := 124) rfl)))
theorem mp_LastingShapes_Object : Cond.castable "LastingShapes" "java/lang/Object" ∈ lw_tbl := List.mem_append_right _ (show _ ∈ tables_1 from List.mem_append_right _ (List.mem_append_right _ (List.mem_of_getElem? (i := 125) rfl)))
theorem mp_LastingShapesModel_Object : Cond.castable "LastingShapesModel" "java/lang/Object" ∈ lw_tbl := List.mem_append_right _ (show _ ∈ tables_1 from List.mem_append_right _ (List.mem_append_right _ (List.mem_of_getElem? (i := 126) rfl)))
theorem mp_LastingShapesVersion_Object : Cond.castable "LastingShapes$Version" "java/lang/Object" ∈ lw_tbl := List.mem_append_right _ (show _ ∈ tables_1 from List.mem_append_right _ (List.mem_append_right _ (List.mem_of_getElem? (i := 127) rfl)))
theorem mp_String_Object : Cond.castable "java/lang/String" "java/lang/Object" ∈ lw_tbl := List.mem_append_right _ (show _ ∈ tables_1 from List.mem_append_right _ (List.mem_append_right _ (List.mem_of_getElem? (i := 128) rfl)))
