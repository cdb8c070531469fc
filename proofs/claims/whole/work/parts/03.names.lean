/-! ===== BEGIN printed: names, fields, word lists, decode rows ===== -/
def RX0 : String := "ReferenceMover$Area"
def TX0 : u_T := fun k => match k with
  | 0 => ("ReferenceMover$Area", "sheet", "I", true)
  | 1 => ("ReferenceMover$Area", "top", "I", true)
  | 2 => ("ReferenceMover$Area", "left", "I", true)
  | 3 => ("ReferenceMover$Area", "bottom", "I", true)
  | _ => ("ReferenceMover$Area", "right", "I", true)
def tyX0 : Nat → FieldType := fun k => match k with
  | 0 => .int
  | 1 => .int
  | 2 => .int
  | 3 => .int
  | _ => .int
abbrev wsX00 : List Cond := u_ws RX0 TX0 5
theorem nmX0 : ∀ a, a < 5 → ∀ b, b < 5 → a ≠ b → (TX0 a).2.1 ≠ (TX0 b).2.1 := by decide +kernel
theorem tyX0_ok : ∀ k, k < 5 → parseFieldDescriptor (TX0 k).2.2.1 = some (tyX0 k) := by decide +kernel
abbrev cX0_init : ByteArray := prog_2_method_1_code
def yX0_init : MethodName := ⟨RX0, "<init>", "(IIIII)V"⟩
abbrev cX0_holds : ByteArray := prog_2_method_2_code
def yX0_holds : MethodName := ⟨RX0, "holds", "(LReferenceMover$Reference;I)Z"⟩
def RX1 : String := "ReferenceMover$Change"
def TX1 : u_T := fun k => match k with
  | _ => ("", "", "", false)
def tyX1 : Nat → FieldType := fun k => match k with
  | _ => .int
abbrev wsX10 : List Cond := u_ws RX1 TX1 0
theorem nmX1 : ∀ a, a < 0 → ∀ b, b < 0 → a ≠ b → (TX1 a).2.1 ≠ (TX1 b).2.1 := by decide +kernel
theorem tyX1_ok : ∀ k, k < 0 → parseFieldDescriptor (TX1 k).2.2.1 = some (tyX1 k) := by decide +kernel
abbrev cX1_init : ByteArray := prog_3_method_1_code
def yX1_init : MethodName := ⟨RX1, "<init>", "()V"⟩
def RX2 : String := "ReferenceMover$Copying"
def TX2 : u_T := fun k => match k with
  | 0 => ("ReferenceMover$Copying", "down", "I", true)
  | _ => ("ReferenceMover$Copying", "along", "I", true)
def tyX2 : Nat → FieldType := fun k => match k with
  | 0 => .int
  | _ => .int
abbrev wsX20 : List Cond := u_ws RX2 TX2 2
theorem nmX2 : ∀ a, a < 2 → ∀ b, b < 2 → a ≠ b → (TX2 a).2.1 ≠ (TX2 b).2.1 := by decide +kernel
theorem tyX2_ok : ∀ k, k < 2 → parseFieldDescriptor (TX2 k).2.2.1 = some (tyX2 k) := by decide +kernel
abbrev cX2_init : ByteArray := prog_4_method_1_code
def yX2_init : MethodName := ⟨RX2, "<init>", "(II)V"⟩
abbrev cX2_keeps : ByteArray := prog_4_method_2_code
def yX2_keeps : MethodName := ⟨RX2, "keeps", "(LReferenceMover$Reference;)Z"⟩
def RX3 : String := "ReferenceMover$LineChange"
def TX3 : u_T := fun k => match k with
  | _ => ("", "", "", false)
def tyX3 : Nat → FieldType := fun k => match k with
  | _ => .int
abbrev wsX30 : List Cond := u_ws RX3 TX3 0
theorem nmX3 : ∀ a, a < 0 → ∀ b, b < 0 → a ≠ b → (TX3 a).2.1 ≠ (TX3 b).2.1 := by decide +kernel
theorem tyX3_ok : ∀ k, k < 0 → parseFieldDescriptor (TX3 k).2.2.1 = some (tyX3 k) := by decide +kernel
abbrev cX3_init : ByteArray := prog_5_method_1_code
def yX3_init : MethodName := ⟨RX3, "<init>", "(IIZII)V"⟩
abbrev cX3_keeps : ByteArray := prog_5_method_2_code
def yX3_keeps : MethodName := ⟨RX3, "keeps", "(LReferenceMover$Reference;)Z"⟩
def RX4 : String := "ReferenceMover$LinesPutIn"
def TX4 : u_T := fun k => match k with
  | 0 => ("ReferenceMover$LineChange", "home", "I", true)
  | 1 => ("ReferenceMover$LineChange", "sheet", "I", true)
  | 2 => ("ReferenceMover$LineChange", "columns", "Z", true)
  | 3 => ("ReferenceMover$LineChange", "at", "I", true)
  | _ => ("ReferenceMover$LineChange", "n", "I", true)
def tyX4 : Nat → FieldType := fun k => match k with
  | 0 => .int
  | 1 => .int
  | 2 => .boolean
  | 3 => .int
  | _ => .int
abbrev wsX40 : List Cond := u_ws RX4 TX4 5
theorem nmX4 : ∀ a, a < 5 → ∀ b, b < 5 → a ≠ b → (TX4 a).2.1 ≠ (TX4 b).2.1 := by decide +kernel
theorem tyX4_ok : ∀ k, k < 5 → parseFieldDescriptor (TX4 k).2.2.1 = some (tyX4 k) := by decide +kernel
abbrev cX4_init : ByteArray := prog_6_method_1_code
def yX4_init : MethodName := ⟨RX4, "<init>", "(IIZII)V"⟩
abbrev cX4_keepsLines : ByteArray := prog_6_method_2_code
def yX4_keepsLines : MethodName := ⟨RX4, "keepsLines", "(LReferenceMover$Span;)Z"⟩
def RX5 : String := "ReferenceMover$LinesTakenOut"
def TX5 : u_T := fun k => match k with
  | 0 => ("ReferenceMover$LineChange", "home", "I", true)
  | 1 => ("ReferenceMover$LineChange", "sheet", "I", true)
  | 2 => ("ReferenceMover$LineChange", "columns", "Z", true)
  | 3 => ("ReferenceMover$LineChange", "at", "I", true)
  | _ => ("ReferenceMover$LineChange", "n", "I", true)
def tyX5 : Nat → FieldType := fun k => match k with
  | 0 => .int
  | 1 => .int
  | 2 => .boolean
  | 3 => .int
  | _ => .int
abbrev wsX50 : List Cond := u_ws RX5 TX5 5
theorem nmX5 : ∀ a, a < 5 → ∀ b, b < 5 → a ≠ b → (TX5 a).2.1 ≠ (TX5 b).2.1 := by decide +kernel
theorem tyX5_ok : ∀ k, k < 5 → parseFieldDescriptor (TX5 k).2.2.1 = some (tyX5 k) := by decide +kernel
abbrev cX5_init : ByteArray := prog_7_method_1_code
def yX5_init : MethodName := ⟨RX5, "<init>", "(IIZII)V"⟩
abbrev cX5_keepsLines : ByteArray := prog_7_method_2_code
def yX5_keepsLines : MethodName := ⟨RX5, "keepsLines", "(LReferenceMover$Span;)Z"⟩
def RX6 : String := "ReferenceMover$Moving"
def TX6 : u_T := fun k => match k with
  | 0 => ("ReferenceMover$Moving", "home", "I", true)
  | 1 => ("ReferenceMover$Moving", "newHome", "I", true)
  | 2 => ("ReferenceMover$Moving", "cut", "LReferenceMover$Area;", true)
  | _ => ("ReferenceMover$Moving", "target", "LReferenceMover$Area;", true)
def tyX6 : Nat → FieldType := fun k => match k with
  | 0 => .int
  | 1 => .int
  | 2 => .object "ReferenceMover$Area"
  | _ => .object "ReferenceMover$Area"
abbrev wsX60 : List Cond := u_ws RX6 TX6 4
theorem nmX6 : ∀ a, a < 4 → ∀ b, b < 4 → a ≠ b → (TX6 a).2.1 ≠ (TX6 b).2.1 := by decide +kernel
theorem tyX6_ok : ∀ k, k < 4 → parseFieldDescriptor (TX6 k).2.2.1 = some (tyX6 k) := by decide +kernel
abbrev cX6_init : ByteArray := prog_8_method_1_code
def yX6_init : MethodName := ⟨RX6, "<init>", "(IILReferenceMover$Area;LReferenceMover$Area;)V"⟩
abbrev cX6_keeps : ByteArray := prog_8_method_2_code
def yX6_keeps : MethodName := ⟨RX6, "keeps", "(LReferenceMover$Reference;)Z"⟩
def RX7 : String := "ReferenceMover$Reference"
def TX7 : u_T := fun k => match k with
  | 0 => ("ReferenceMover$Reference", "rows", "LReferenceMover$Span;", true)
  | 1 => ("ReferenceMover$Reference", "columns", "LReferenceMover$Span;", true)
  | 2 => ("ReferenceMover$Reference", "isRange", "Z", false)
  | 3 => ("ReferenceMover$Reference", "whole", "I", false)
  | _ => ("ReferenceMover$Reference", "sheet", "I", false)
def tyX7 : Nat → FieldType := fun k => match k with
  | 0 => .object "ReferenceMover$Span"
  | 1 => .object "ReferenceMover$Span"
  | 2 => .boolean
  | 3 => .int
  | _ => .int
abbrev wsX70 : List Cond := u_ws RX7 TX7 5
theorem nmX7 : ∀ a, a < 5 → ∀ b, b < 5 → a ≠ b → (TX7 a).2.1 ≠ (TX7 b).2.1 := by decide +kernel
theorem tyX7_ok : ∀ k, k < 5 → parseFieldDescriptor (TX7 k).2.2.1 = some (tyX7 k) := by decide +kernel
abbrev cX7_init : ByteArray := prog_9_method_1_code
def yX7_init : MethodName := ⟨RX7, "<init>", "()V"⟩
abbrev cX7_sheetSeenFrom : ByteArray := prog_9_method_2_code
def yX7_sheetSeenFrom : MethodName := ⟨RX7, "sheetSeenFrom", "(I)I"⟩
abbrev cX7_wordAt : ByteArray := prog_9_method_3_code
def yX7_wordAt : MethodName := ⟨RX7, "wordAt", "(I)I"⟩
abbrev cX7_firstMarks : ByteArray := prog_9_method_4_code
def yX7_firstMarks : MethodName := ⟨RX7, "firstMarks", "()I"⟩
abbrev cX7_rangeMarks : ByteArray := prog_9_method_5_code
def yX7_rangeMarks : MethodName := ⟨RX7, "rangeMarks", "()I"⟩
abbrev cX7_cornerMarks : ByteArray := prog_9_method_6_code
def yX7_cornerMarks : MethodName := ⟨RX7, "cornerMarks", "(ZZ)I"⟩
def RX8 : String := "ReferenceMover$Span"
def TX8 : u_T := fun k => match k with
  | 0 => ("ReferenceMover$Span", "lastLine", "I", true)
  | 1 => ("ReferenceMover$Span", "first", "I", false)
  | 2 => ("ReferenceMover$Span", "last", "I", false)
  | 3 => ("ReferenceMover$Span", "firstFixed", "Z", false)
  | _ => ("ReferenceMover$Span", "lastFixed", "Z", false)
def tyX8 : Nat → FieldType := fun k => match k with
  | 0 => .int
  | 1 => .int
  | 2 => .int
  | 3 => .boolean
  | _ => .boolean
abbrev wsX80 : List Cond := u_ws RX8 TX8 5
theorem nmX8 : ∀ a, a < 5 → ∀ b, b < 5 → a ≠ b → (TX8 a).2.1 ≠ (TX8 b).2.1 := by decide +kernel
theorem tyX8_ok : ∀ k, k < 5 → parseFieldDescriptor (TX8 k).2.2.1 = some (tyX8 k) := by decide +kernel
abbrev cX8_init : ByteArray := prog_10_method_1_code
def yX8_init : MethodName := ⟨RX8, "<init>", "(I)V"⟩
abbrev cX8_setFirst : ByteArray := prog_10_method_2_code
def yX8_setFirst : MethodName := ⟨RX8, "setFirst", "(IZ)V"⟩
abbrev cX8_setLast : ByteArray := prog_10_method_3_code
def yX8_setLast : MethodName := ⟨RX8, "setLast", "(IZ)V"⟩
abbrev cX8_isWithin : ByteArray := prog_10_method_4_code
def yX8_isWithin : MethodName := ⟨RX8, "isWithin", "(II)Z"⟩
abbrev cX8_shift : ByteArray := prog_10_method_5_code
def yX8_shift : MethodName := ⟨RX8, "shift", "(I)V"⟩
abbrev cX8_shiftLoose : ByteArray := prog_10_method_6_code
def yX8_shiftLoose : MethodName := ⟨RX8, "shiftLoose", "(I)Z"⟩
abbrev cX8_exchange : ByteArray := prog_10_method_7_code
def yX8_exchange : MethodName := ⟨RX8, "exchange", "()V"⟩
abbrev cX8_openGap : ByteArray := prog_10_method_8_code
def yX8_openGap : MethodName := ⟨RX8, "openGap", "(II)Z"⟩
abbrev cX8_closeGap : ByteArray := prog_10_method_9_code
def yX8_closeGap : MethodName := ⟨RX8, "closeGap", "(II)Z"⟩
def RX9 : String := "ReferenceMover"
def TX9 : u_T := fun k => match k with
  | 0 => ("ReferenceMover", "code", "[I", true)
  | 1 => ("ReferenceMover", "size", "I", false)
  | 2 => ("ReferenceMover", "cut", "LReferenceMover$Area;", false)
  | _ => ("ReferenceMover", "reference", "LReferenceMover$Reference;", true)
def tyX9 : Nat → FieldType := fun k => match k with
  | 0 => .array .int
  | 1 => .int
  | 2 => .object "ReferenceMover$Area"
  | _ => .object "ReferenceMover$Reference"
abbrev wsX90 : List Cond := u_ws RX9 TX9 4
theorem nmX9 : ∀ a, a < 4 → ∀ b, b < 4 → a ≠ b → (TX9 a).2.1 ≠ (TX9 b).2.1 := by decide +kernel
theorem tyX9_ok : ∀ k, k < 4 → parseFieldDescriptor (TX9 k).2.2.1 = some (tyX9 k) := by decide +kernel
abbrev cX9_init : ByteArray := prog_1_method_1_code
def yX9_init : MethodName := ⟨RX9, "<init>", "()V"⟩
abbrev cX9_clear : ByteArray := prog_1_method_2_code
def yX9_clear : MethodName := ⟨RX9, "clear", "()V"⟩
abbrev cX9_other : ByteArray := prog_1_method_3_code
def yX9_other : MethodName := ⟨RX9, "other", "(I)Z"⟩
abbrev cX9_place : ByteArray := prog_1_method_4_code
def yX9_place : MethodName := ⟨RX9, "place", "(IIII)Z"⟩
abbrev cX9_range : ByteArray := prog_1_method_5_code
def yX9_range : MethodName := ⟨RX9, "range", "(IIIIII)Z"⟩
abbrev cX9_size : ByteArray := prog_1_method_6_code
def yX9_size : MethodName := ⟨RX9, "size", "()I"⟩
abbrev cX9_word : ByteArray := prog_1_method_7_code
def yX9_word : MethodName := ⟨RX9, "word", "(I)I"⟩
abbrev cX9_copy : ByteArray := prog_1_method_8_code
def yX9_copy : MethodName := ⟨RX9, "copy", "(II)I"⟩
abbrev cX9_insert : ByteArray := prog_1_method_9_code
def yX9_insert : MethodName := ⟨RX9, "insert", "(IIZII)I"⟩
abbrev cX9_delete : ByteArray := prog_1_method_10_code
def yX9_delete : MethodName := ⟨RX9, "delete", "(IIZII)I"⟩
abbrev cX9_rectangle : ByteArray := prog_1_method_11_code
def yX9_rectangle : MethodName := ⟨RX9, "rectangle", "(IIIII)Z"⟩
abbrev cX9_move : ByteArray := prog_1_method_12_code
def yX9_move : MethodName := ⟨RX9, "move", "(IIIII)I"⟩
abbrev cX9_isSheet : ByteArray := prog_1_method_13_code
def yX9_isSheet : MethodName := ⟨RX9, "isSheet", "(I)Z"⟩
abbrev cX9_isSheetOrNone : ByteArray := prog_1_method_14_code
def yX9_isSheetOrNone : MethodName := ⟨RX9, "isSheetOrNone", "(I)Z"⟩
abbrev cX9_isLine : ByteArray := prog_1_method_15_code
def yX9_isLine : MethodName := ⟨RX9, "isLine", "(II)Z"⟩
abbrev cX9_areLines : ByteArray := prog_1_method_16_code
def yX9_areLines : MethodName := ⟨RX9, "areLines", "(III)Z"⟩
abbrev cX9_areAllLines : ByteArray := prog_1_method_17_code
def yX9_areAllLines : MethodName := ⟨RX9, "areAllLines", "(III)Z"⟩
abbrev cX9_has : ByteArray := prog_1_method_18_code
def yX9_has : MethodName := ⟨RX9, "has", "(II)Z"⟩
abbrev cX9_isOfKind : ByteArray := prog_1_method_19_code
def yX9_isOfKind : MethodName := ⟨RX9, "isOfKind", "(II)Z"⟩
abbrev cX9_checkLines : ByteArray := prog_1_method_20_code
def yX9_checkLines : MethodName := ⟨RX9, "checkLines", "(IIZII)V"⟩
abbrev cX9_hasRoomFor : ByteArray := prog_1_method_21_code
def yX9_hasRoomFor : MethodName := ⟨RX9, "hasRoomFor", "(I)Z"⟩
abbrev cX9_append : ByteArray := prog_1_method_22_code
def yX9_append : MethodName := ⟨RX9, "append", "(I)V"⟩
abbrev cX9_put : ByteArray := prog_1_method_23_code
def yX9_put : MethodName := ⟨RX9, "put", "(II)V"⟩
abbrev cX9_changeReferences : ByteArray := prog_1_method_24_code
def yX9_changeReferences : MethodName := ⟨RX9, "changeReferences", "(LReferenceMover$Change;)I"⟩
abbrev cX9_itemLength : ByteArray := prog_1_method_25_code
def yX9_itemLength : MethodName := ⟨RX9, "itemLength", "(I)I"⟩
abbrev cX9_load : ByteArray := prog_1_method_26_code
def yX9_load : MethodName := ⟨RX9, "load", "(II)V"⟩
abbrev cX9_store : ByteArray := prog_1_method_27_code
def yX9_store : MethodName := ⟨RX9, "store", "(III)Z"⟩
def RX10 : String := "ReferenceMoverModel"
def TX10 : u_T := fun k => match k with
  | 0 => ("ReferenceMoverModel", "code", "I", false)
  | 1 => ("ReferenceMoverModel", "size", "I", false)
  | 2 => ("ReferenceMoverModel", "words", "[I", true)
  | 3 => ("ReferenceMoverModel", "made", "I", false)
  | 4 => ("ReferenceMoverModel", "making", "[I", true)
  | 5 => ("ReferenceMoverModel", "changed", "I", false)
  | 6 => ("ReferenceMoverModel", "sheet", "I", false)
  | 7 => ("ReferenceMoverModel", "top", "I", false)
  | 8 => ("ReferenceMoverModel", "left", "I", false)
  | 9 => ("ReferenceMoverModel", "bottom", "I", false)
  | _ => ("ReferenceMoverModel", "right", "I", false)
def tyX10 : Nat → FieldType := fun k => match k with
  | 0 => .int
  | 1 => .int
  | 2 => .array .int
  | 3 => .int
  | 4 => .array .int
  | 5 => .int
  | 6 => .int
  | 7 => .int
  | 8 => .int
  | 9 => .int
  | _ => .int
abbrev wsX100 : List Cond := u_ws RX10 TX10 11
theorem nmX10 : ∀ a, a < 11 → ∀ b, b < 11 → a ≠ b → (TX10 a).2.1 ≠ (TX10 b).2.1 := by decide +kernel
theorem tyX10_ok : ∀ k, k < 11 → parseFieldDescriptor (TX10 k).2.2.1 = some (tyX10 k) := by decide +kernel
abbrev cX10_init : ByteArray := prog_12_method_1_code
def yX10_init : MethodName := ⟨RX10, "<init>", "()V"⟩
abbrev cX10_thrown : ByteArray := prog_12_method_2_code
def yX10_thrown : MethodName := ⟨RX10, "thrown", "()I"⟩
abbrev cX10_within : ByteArray := prog_12_method_3_code
def yX10_within : MethodName := ⟨RX10, "within", "(III)Z"⟩
abbrev cX10_clear : ByteArray := prog_12_method_4_code
def yX10_clear : MethodName := ⟨RX10, "clear", "()V"⟩
abbrev cX10_put : ByteArray := prog_12_method_5_code
def yX10_put : MethodName := ⟨RX10, "put", "(I)V"⟩
abbrev cX10_other : ByteArray := prog_12_method_6_code
def yX10_other : MethodName := ⟨RX10, "other", "(I)Z"⟩
abbrev cX10_isCell : ByteArray := prog_12_method_7_code
def yX10_isCell : MethodName := ⟨RX10, "isCell", "(II)Z"⟩
abbrev cX10_place : ByteArray := prog_12_method_8_code
def yX10_place : MethodName := ⟨RX10, "place", "(IIII)Z"⟩
abbrev cX10_range : ByteArray := prog_12_method_9_code
def yX10_range : MethodName := ⟨RX10, "range", "(IIIIII)Z"⟩
abbrev cX10_size : ByteArray := prog_12_method_10_code
def yX10_size : MethodName := ⟨RX10, "size", "()I"⟩
abbrev cX10_word : ByteArray := prog_12_method_11_code
def yX10_word : MethodName := ⟨RX10, "word", "(I)I"⟩
abbrev cX10_make : ByteArray := prog_12_method_12_code
def yX10_make : MethodName := ⟨RX10, "make", "(I)V"⟩
abbrev cX10_lengthAt : ByteArray := prog_12_method_13_code
def yX10_lengthAt : MethodName := ⟨RX10, "lengthAt", "(I)I"⟩
abbrev cX10_lose : ByteArray := prog_12_method_14_code
def yX10_lose : MethodName := ⟨RX10, "lose", "()V"⟩
abbrev cX10_makePlace : ByteArray := prog_12_method_15_code
def yX10_makePlace : MethodName := ⟨RX10, "makePlace", "(IIII)V"⟩
abbrev cX10_makeRange : ByteArray := prog_12_method_16_code
def yX10_makeRange : MethodName := ⟨RX10, "makeRange", "(IIIIIII)V"⟩
abbrev cX10_finish : ByteArray := prog_12_method_17_code
def yX10_finish : MethodName := ⟨RX10, "finish", "()I"⟩
abbrev cX10_begin : ByteArray := prog_12_method_18_code
def yX10_begin : MethodName := ⟨RX10, "begin", "()V"⟩
abbrev cX10_moved : ByteArray := prog_12_method_19_code
def yX10_moved : MethodName := ⟨RX10, "moved", "(IZII)I"⟩
abbrev cX10_copyRange : ByteArray := prog_12_method_20_code
def yX10_copyRange : MethodName := ⟨RX10, "copyRange", "(III)V"⟩
abbrev cX10_copy : ByteArray := prog_12_method_21_code
def yX10_copy : MethodName := ⟨RX10, "copy", "(II)I"⟩
abbrev cX10_lines : ByteArray := prog_12_method_22_code
def yX10_lines : MethodName := ⟨RX10, "lines", "(Z)I"⟩
abbrev cX10_shifted : ByteArray := prog_12_method_23_code
def yX10_shifted : MethodName := ⟨RX10, "shifted", "(IZII)I"⟩
abbrev cX10_firstLeft : ByteArray := prog_12_method_24_code
def yX10_firstLeft : MethodName := ⟨RX10, "firstLeft", "(IIZII)I"⟩
abbrev cX10_lastLeft : ByteArray := prog_12_method_25_code
def yX10_lastLeft : MethodName := ⟨RX10, "lastLeft", "(IIZII)I"⟩
abbrev cX10_shiftRange : ByteArray := prog_12_method_26_code
def yX10_shiftRange : MethodName := ⟨RX10, "shiftRange", "(IZII)V"⟩
abbrev cX10_shift : ByteArray := prog_12_method_27_code
def yX10_shift : MethodName := ⟨RX10, "shift", "(IIZII)I"⟩
abbrev cX10_isLine : ByteArray := prog_12_method_28_code
def yX10_isLine : MethodName := ⟨RX10, "isLine", "(IIZII)Z"⟩
abbrev cX10_insert : ByteArray := prog_12_method_29_code
def yX10_insert : MethodName := ⟨RX10, "insert", "(IIZII)I"⟩
abbrev cX10_delete : ByteArray := prog_12_method_30_code
def yX10_delete : MethodName := ⟨RX10, "delete", "(IIZII)I"⟩
abbrev cX10_rectangle : ByteArray := prog_12_method_31_code
def yX10_rectangle : MethodName := ⟨RX10, "rectangle", "(IIIII)Z"⟩
abbrev cX10_moveItem : ByteArray := prog_12_method_32_code
def yX10_moveItem : MethodName := ⟨RX10, "moveItem", "(IIIIII)V"⟩
abbrev cX10_move : ByteArray := prog_12_method_33_code
def yX10_move : MethodName := ⟨RX10, "move", "(IIIII)I"⟩
def RJ9 : String := "java/lang/Math"
def TJ9 : u_T := fun k => match k with
  | _ => ("", "", "", false)
def tyJ9 : Nat → FieldType := fun k => match k with
  | _ => .int
abbrev wsJ90 : List Cond := u_ws RJ9 TJ9 0
theorem nmJ9 : ∀ a, a < 0 → ∀ b, b < 0 → a ≠ b → (TJ9 a).2.1 ≠ (TJ9 b).2.1 := by decide +kernel
theorem tyJ9_ok : ∀ k, k < 0 → parseFieldDescriptor (TJ9 k).2.2.1 = some (tyJ9 k) := by decide +kernel
abbrev cJ9_min_7cf53 : ByteArray := prog_15_method_69_code
def yJ9_min_7cf53 : MethodName := ⟨RJ9, "min", "(II)I"⟩
def RJ0 : String := "java/lang/String"
def TJ0 : u_T := fun k => match k with
  | _ => ("", "", "", false)
def tyJ0 : Nat → FieldType := fun k => match k with
  | _ => .int
abbrev wsJ00 : List Cond := u_ws RJ0 TJ0 0
theorem nmJ0 : ∀ a, a < 0 → ∀ b, b < 0 → a ≠ b → (TJ0 a).2.1 ≠ (TJ0 b).2.1 := by decide +kernel
theorem tyJ0_ok : ∀ k, k < 0 → parseFieldDescriptor (TJ0 k).2.2.1 = some (tyJ0 k) := by decide +kernel
def RL : String := "ReferenceMoverLaw"
def wsX0_init : List Cond := .code yX0_init cX0_init 6 none :: ([.methodLink RX0 1 objectInit, .instanceMethod objectInit, .code objectInit ⟨#[0xb1]⟩ 1 none, .fieldLink RX0 7 "ReferenceMover$Area" "sheet" "I", .fieldLink RX0 13 "ReferenceMover$Area" "top" "I", .fieldLink RX0 16 "ReferenceMover$Area" "left" "I", .fieldLink RX0 19 "ReferenceMover$Area" "bottom" "I", .fieldLink RX0 22 "ReferenceMover$Area" "right" "I"] ++ wsX00)
def wsX7_sheetSeenFrom : List Cond := .code yX7_sheetSeenFrom cX7_sheetSeenFrom 2 (some .int) :: ([.fieldLink RX7 24 "ReferenceMover$Reference" "sheet" "I"] ++ wsX70)
def wsX8_isWithin : List Cond := .code yX8_isWithin cX8_isWithin 3 (some .boolean) :: ([.fieldLink RX8 13 "ReferenceMover$Span" "first" "I", .fieldLink RX8 20 "ReferenceMover$Span" "last" "I"] ++ wsX80)
def wsX0_holds : List Cond := .code yX0_holds cX0_holds 3 (some .boolean) :: ([.fieldLink RX0 7 "ReferenceMover$Area" "sheet" "I", .fieldLink RX0 31 "ReferenceMover$Reference" "rows" "LReferenceMover$Span;", .fieldLink RX0 13 "ReferenceMover$Area" "top" "I", .fieldLink RX0 19 "ReferenceMover$Area" "bottom" "I", .fieldLink RX0 41 "ReferenceMover$Reference" "columns" "LReferenceMover$Span;", .fieldLink RX0 16 "ReferenceMover$Area" "left" "I", .fieldLink RX0 22 "ReferenceMover$Area" "right" "I", .methodLink RX0 25 yX7_sheetSeenFrom, .instanceMethod yX7_sheetSeenFrom, .selects RX7 yX7_sheetSeenFrom yX7_sheetSeenFrom, .initialized RX7, .code yX7_sheetSeenFrom cX7_sheetSeenFrom 2 (some .int), .fieldLink RX7 24 "ReferenceMover$Reference" "sheet" "I", .methodLink RX0 35 yX8_isWithin, .instanceMethod yX8_isWithin, .selects RX8 yX8_isWithin yX8_isWithin, .initialized RX8, .code yX8_isWithin cX8_isWithin 3 (some .boolean), .fieldLink RX8 13 "ReferenceMover$Span" "first" "I", .fieldLink RX8 20 "ReferenceMover$Span" "last" "I"] ++ wsX00 ++ wsX70 ++ wsX80)
def wsX1_init : List Cond := .code yX1_init cX1_init 1 none :: ([.methodLink RX1 1 objectInit, .instanceMethod objectInit, .code objectInit ⟨#[0xb1]⟩ 1 none])
def wsX2_init : List Cond := .code yX2_init cX2_init 3 none :: ([.fieldLink RX2 9 "ReferenceMover$Copying" "down" "I", .fieldLink RX2 15 "ReferenceMover$Copying" "along" "I", .instanceMethod yX1_init, .initialized RX1, .code yX1_init cX1_init 1 none, .methodLink RX1 1 objectInit, .instanceMethod objectInit, .code objectInit ⟨#[0xb1]⟩ 1 none] ++ wsX20)
def wsX9_has : List Cond := .code yX9_has cX9_has 2 (some .boolean) :: ([])
def wsX9_isLine : List Cond := .code yX9_isLine cX9_isLine 2 (some .boolean) :: ([])
def wsX8_setFirst : List Cond := .code yX8_setFirst cX8_setFirst 3 none :: ([.fieldLink RX8 13 "ReferenceMover$Span" "first" "I", .fieldLink RX8 16 "ReferenceMover$Span" "firstFixed" "Z"] ++ wsX80)
def wsX8_setLast : List Cond := .code yX8_setLast cX8_setLast 3 none :: ([.fieldLink RX8 20 "ReferenceMover$Span" "last" "I", .fieldLink RX8 23 "ReferenceMover$Span" "lastFixed" "Z"] ++ wsX80)
def wsX8_exchange : List Cond := .code yX8_exchange cX8_exchange 3 none :: ([.fieldLink RX8 13 "ReferenceMover$Span" "first" "I", .fieldLink RX8 16 "ReferenceMover$Span" "firstFixed" "Z", .fieldLink RX8 20 "ReferenceMover$Span" "last" "I", .fieldLink RX8 23 "ReferenceMover$Span" "lastFixed" "Z", .methodLink RX8 35 yX8_setFirst, .instanceMethod yX8_setFirst, .selects RX8 yX8_setFirst yX8_setFirst, .initialized RX8, .code yX8_setFirst cX8_setFirst 3 none, .methodLink RX8 39 yX8_setLast, .instanceMethod yX8_setLast, .selects RX8 yX8_setLast yX8_setLast, .code yX8_setLast cX8_setLast 3 none] ++ wsX80)
def wsX8_shiftLoose : List Cond := .code yX8_shiftLoose cX8_shiftLoose 2 (some .boolean) :: ([.fieldLink RX8 16 "ReferenceMover$Span" "firstFixed" "Z", .fieldLink RX8 13 "ReferenceMover$Span" "first" "I", .fieldLink RX8 23 "ReferenceMover$Span" "lastFixed" "Z", .fieldLink RX8 20 "ReferenceMover$Span" "last" "I", .fieldLink RX8 7 "ReferenceMover$Span" "lastLine" "I", .static yX9_isLine, .initialized RX9, .code yX9_isLine cX9_isLine 2 (some .boolean), .methodLink RX8 32 yX8_exchange, .instanceMethod yX8_exchange, .selects RX8 yX8_exchange yX8_exchange, .initialized RX8, .code yX8_exchange cX8_exchange 3 none, .methodLink RX8 35 yX8_setFirst, .instanceMethod yX8_setFirst, .selects RX8 yX8_setFirst yX8_setFirst, .code yX8_setFirst cX8_setFirst 3 none, .methodLink RX8 39 yX8_setLast, .instanceMethod yX8_setLast, .selects RX8 yX8_setLast yX8_setLast, .code yX8_setLast cX8_setLast 3 none] ++ wsX80)
def wsX2_keeps_r1 : List Cond := [Cond.fieldLink RX2 18 "ReferenceMover$Reference" "whole" "I", Cond.fieldLink RX2 27 "ReferenceMover$Reference" "rows" "LReferenceMover$Span;", Cond.fieldLink RX2 9 "ReferenceMover$Copying" "down" "I", Cond.fieldLink RX2 37 "ReferenceMover$Reference" "columns" "LReferenceMover$Span;", Cond.fieldLink RX2 15 "ReferenceMover$Copying" "along" "I", Cond.static yX9_has, Cond.initialized RX9, Cond.code yX9_has cX9_has 2 (some .boolean), Cond.methodLink RX2 31 yX8_shiftLoose, Cond.instanceMethod yX8_shiftLoose, Cond.selects RX8 yX8_shiftLoose yX8_shiftLoose, Cond.initialized RX8, Cond.code yX8_shiftLoose cX8_shiftLoose 2 (some .boolean), Cond.fieldLink RX8 16 "ReferenceMover$Span" "firstFixed" "Z", Cond.fieldLink RX8 13 "ReferenceMover$Span" "first" "I", Cond.fieldLink RX8 23 "ReferenceMover$Span" "lastFixed" "Z", Cond.fieldLink RX8 20 "ReferenceMover$Span" "last" "I", Cond.fieldLink RX8 7 "ReferenceMover$Span" "lastLine" "I", Cond.static yX9_isLine, Cond.code yX9_isLine cX9_isLine 2 (some .boolean), Cond.methodLink RX8 32 yX8_exchange, Cond.instanceMethod yX8_exchange, Cond.selects RX8 yX8_exchange yX8_exchange, Cond.code yX8_exchange cX8_exchange 3 none]
def wsX2_keeps_r2 : List Cond := [Cond.methodLink RX8 35 yX8_setFirst, Cond.instanceMethod yX8_setFirst, Cond.selects RX8 yX8_setFirst yX8_setFirst, Cond.code yX8_setFirst cX8_setFirst 3 none, Cond.methodLink RX8 39 yX8_setLast, Cond.instanceMethod yX8_setLast, Cond.selects RX8 yX8_setLast yX8_setLast, Cond.code yX8_setLast cX8_setLast 3 none]
def wsX2_keeps : List Cond := .code yX2_keeps cX2_keeps 2 (some .boolean) :: ((wsX2_keeps_r1 ++ wsX2_keeps_r2) ++ wsX70 ++ wsX20 ++ wsX80)
def wsX3_init : List Cond := .code yX3_init cX3_init 6 none :: ([.fieldLink RX3 7 "ReferenceMover$LineChange" "home" "I", .fieldLink RX3 13 "ReferenceMover$LineChange" "sheet" "I", .fieldLink RX3 16 "ReferenceMover$LineChange" "columns" "Z", .fieldLink RX3 20 "ReferenceMover$LineChange" "at" "I", .fieldLink RX3 23 "ReferenceMover$LineChange" "n" "I", .instanceMethod yX1_init, .initialized RX1, .code yX1_init cX1_init 1 none, .methodLink RX1 1 objectInit, .instanceMethod objectInit, .code objectInit ⟨#[0xb1]⟩ 1 none] ++ wsX40 ++ wsX50)
def wsX9_areAllLines : List Cond := .code yX9_areAllLines cX9_areAllLines 3 (some .boolean) :: ([])
def wsX8_openGap : List Cond := .code yX8_openGap cX8_openGap 3 (some .boolean) :: ([.fieldLink RX8 13 "ReferenceMover$Span" "first" "I", .fieldLink RX8 20 "ReferenceMover$Span" "last" "I", .fieldLink RX8 7 "ReferenceMover$Span" "lastLine" "I", .methodLink RX8 46 Lib.Math.min.name, .static Lib.Math.min.name, .initialized "java/lang/Math", .code Lib.Math.min.name Lib.Math.min.code 2 (some .int), .static yX9_areAllLines, .initialized RX9, .code yX9_areAllLines cX9_areAllLines 3 (some .boolean)] ++ wsX80)
def wsX4_keepsLines : List Cond := .code yX4_keepsLines cX4_keepsLines 2 (some .boolean) :: ([.fieldLink RX4 7 "ReferenceMover$LinesPutIn" "at" "I", .sameField "ReferenceMover$LinesPutIn" "ReferenceMover$LineChange" "at" "I", .fieldLink RX4 13 "ReferenceMover$LinesPutIn" "n" "I", .sameField "ReferenceMover$LinesPutIn" "ReferenceMover$LineChange" "n" "I", .methodLink RX4 16 yX8_openGap, .instanceMethod yX8_openGap, .selects RX8 yX8_openGap yX8_openGap, .initialized RX8, .code yX8_openGap cX8_openGap 3 (some .boolean), .fieldLink RX8 13 "ReferenceMover$Span" "first" "I", .fieldLink RX8 20 "ReferenceMover$Span" "last" "I", .fieldLink RX8 7 "ReferenceMover$Span" "lastLine" "I", .methodLink RX8 46 Lib.Math.min.name, .static Lib.Math.min.name, .initialized "java/lang/Math", .code Lib.Math.min.name Lib.Math.min.code 2 (some .int), .static yX9_areAllLines, .initialized RX9, .code yX9_areAllLines cX9_areAllLines 3 (some .boolean)] ++ wsX40 ++ wsX50 ++ wsX80)
def wsX8_closeGap : List Cond := .code yX8_closeGap cX8_closeGap 4 (some .boolean) :: ([.fieldLink RX8 13 "ReferenceMover$Span" "first" "I", .fieldLink RX8 20 "ReferenceMover$Span" "last" "I", .fieldLink RX8 7 "ReferenceMover$Span" "lastLine" "I", .static yX9_areAllLines, .initialized RX9, .code yX9_areAllLines cX9_areAllLines 3 (some .boolean)] ++ wsX80)
def wsX5_keepsLines : List Cond := .code yX5_keepsLines cX5_keepsLines 2 (some .boolean) :: ([.fieldLink RX5 7 "ReferenceMover$LinesTakenOut" "at" "I", .sameField "ReferenceMover$LinesTakenOut" "ReferenceMover$LineChange" "at" "I", .fieldLink RX5 13 "ReferenceMover$LinesTakenOut" "n" "I", .sameField "ReferenceMover$LinesTakenOut" "ReferenceMover$LineChange" "n" "I", .methodLink RX5 16 yX8_closeGap, .instanceMethod yX8_closeGap, .selects RX8 yX8_closeGap yX8_closeGap, .initialized RX8, .code yX8_closeGap cX8_closeGap 4 (some .boolean), .fieldLink RX8 13 "ReferenceMover$Span" "first" "I", .fieldLink RX8 20 "ReferenceMover$Span" "last" "I", .fieldLink RX8 7 "ReferenceMover$Span" "lastLine" "I", .static yX9_areAllLines, .initialized RX9, .code yX9_areAllLines cX9_areAllLines 3 (some .boolean)] ++ wsX40 ++ wsX50 ++ wsX80)
def wsX3_keeps_r1 : List Cond := [Cond.fieldLink RX3 7 "ReferenceMover$LineChange" "home" "I", Cond.fieldLink RX3 13 "ReferenceMover$LineChange" "sheet" "I", Cond.fieldLink RX3 16 "ReferenceMover$LineChange" "columns" "Z", Cond.fieldLink RX3 32 "ReferenceMover$Reference" "columns" "LReferenceMover$Span;", Cond.fieldLink RX3 35 "ReferenceMover$Reference" "rows" "LReferenceMover$Span;", Cond.methodLink RX3 26 yX7_sheetSeenFrom, Cond.instanceMethod yX7_sheetSeenFrom, Cond.selects RX7 yX7_sheetSeenFrom yX7_sheetSeenFrom, Cond.initialized RX7, Cond.code yX7_sheetSeenFrom cX7_sheetSeenFrom 2 (some .int), Cond.fieldLink RX7 24 "ReferenceMover$Reference" "sheet" "I", Cond.methodLink RX3 38 ⟨"ReferenceMover$LineChange", "keepsLines", "(LReferenceMover$Span;)Z"⟩, Cond.sameMethod "ReferenceMover$LineChange" "ReferenceMover$LineChange" "keepsLines" "(LReferenceMover$Span;)Z", Cond.selects RX4 ⟨"ReferenceMover$LineChange", "keepsLines", "(LReferenceMover$Span;)Z"⟩ yX4_keepsLines, Cond.instanceMethod yX4_keepsLines, Cond.initialized RX4, Cond.code yX4_keepsLines cX4_keepsLines 2 (some .boolean), Cond.fieldLink RX4 7 "ReferenceMover$LinesPutIn" "at" "I", Cond.sameField "ReferenceMover$LinesPutIn" "ReferenceMover$LineChange" "at" "I", Cond.fieldLink RX4 13 "ReferenceMover$LinesPutIn" "n" "I", Cond.sameField "ReferenceMover$LinesPutIn" "ReferenceMover$LineChange" "n" "I", Cond.methodLink RX4 16 yX8_openGap, Cond.instanceMethod yX8_openGap, Cond.selects RX8 yX8_openGap yX8_openGap]
def wsX3_keeps_r2 : List Cond := [Cond.initialized RX8, Cond.code yX8_openGap cX8_openGap 3 (some .boolean), Cond.fieldLink RX8 13 "ReferenceMover$Span" "first" "I", Cond.fieldLink RX8 20 "ReferenceMover$Span" "last" "I", Cond.fieldLink RX8 7 "ReferenceMover$Span" "lastLine" "I", Cond.methodLink RX8 46 Lib.Math.min.name, Cond.static Lib.Math.min.name, Cond.initialized "java/lang/Math", Cond.code Lib.Math.min.name Lib.Math.min.code 2 (some .int), Cond.static yX9_areAllLines, Cond.initialized RX9, Cond.code yX9_areAllLines cX9_areAllLines 3 (some .boolean), Cond.selects RX5 ⟨"ReferenceMover$LineChange", "keepsLines", "(LReferenceMover$Span;)Z"⟩ yX5_keepsLines, Cond.instanceMethod yX5_keepsLines, Cond.initialized RX5, Cond.code yX5_keepsLines cX5_keepsLines 2 (some .boolean), Cond.fieldLink RX5 7 "ReferenceMover$LinesTakenOut" "at" "I", Cond.sameField "ReferenceMover$LinesTakenOut" "ReferenceMover$LineChange" "at" "I", Cond.fieldLink RX5 13 "ReferenceMover$LinesTakenOut" "n" "I", Cond.sameField "ReferenceMover$LinesTakenOut" "ReferenceMover$LineChange" "n" "I", Cond.methodLink RX5 16 yX8_closeGap, Cond.instanceMethod yX8_closeGap, Cond.selects RX8 yX8_closeGap yX8_closeGap, Cond.code yX8_closeGap cX8_closeGap 4 (some .boolean)]
def wsX3_keeps : List Cond := .code yX3_keeps cX3_keeps 2 (some .boolean) :: ((wsX3_keeps_r1 ++ wsX3_keeps_r2) ++ wsX40 ++ wsX50 ++ wsX70 ++ wsX80)
def wsX4_init : List Cond := .code yX4_init cX4_init 6 none :: ([.methodLink RX4 1 yX3_init, .instanceMethod yX3_init, .initialized RX3, .code yX3_init cX3_init 6 none, .fieldLink RX3 7 "ReferenceMover$LineChange" "home" "I", .fieldLink RX3 13 "ReferenceMover$LineChange" "sheet" "I", .fieldLink RX3 16 "ReferenceMover$LineChange" "columns" "Z", .fieldLink RX3 20 "ReferenceMover$LineChange" "at" "I", .fieldLink RX3 23 "ReferenceMover$LineChange" "n" "I", .instanceMethod yX1_init, .initialized RX1, .code yX1_init cX1_init 1 none, .methodLink RX1 1 objectInit, .instanceMethod objectInit, .code objectInit ⟨#[0xb1]⟩ 1 none] ++ wsX40 ++ wsX50)
def wsX5_init : List Cond := .code yX5_init cX5_init 6 none :: ([.methodLink RX5 1 yX3_init, .instanceMethod yX3_init, .initialized RX3, .code yX3_init cX3_init 6 none, .fieldLink RX3 7 "ReferenceMover$LineChange" "home" "I", .fieldLink RX3 13 "ReferenceMover$LineChange" "sheet" "I", .fieldLink RX3 16 "ReferenceMover$LineChange" "columns" "Z", .fieldLink RX3 20 "ReferenceMover$LineChange" "at" "I", .fieldLink RX3 23 "ReferenceMover$LineChange" "n" "I", .instanceMethod yX1_init, .initialized RX1, .code yX1_init cX1_init 1 none, .methodLink RX1 1 objectInit, .instanceMethod objectInit, .code objectInit ⟨#[0xb1]⟩ 1 none] ++ wsX40 ++ wsX50)
def wsX6_init : List Cond := .code yX6_init cX6_init 5 none :: ([.fieldLink RX6 9 "ReferenceMover$Moving" "home" "I", .fieldLink RX6 15 "ReferenceMover$Moving" "newHome" "I", .fieldLink RX6 18 "ReferenceMover$Moving" "cut" "LReferenceMover$Area;", .fieldLink RX6 22 "ReferenceMover$Moving" "target" "LReferenceMover$Area;", .instanceMethod yX1_init, .initialized RX1, .code yX1_init cX1_init 1 none, .methodLink RX1 1 objectInit, .instanceMethod objectInit, .code objectInit ⟨#[0xb1]⟩ 1 none] ++ wsX60)
def wsX8_shift : List Cond := .code yX8_shift cX8_shift 2 none :: ([.fieldLink RX8 13 "ReferenceMover$Span" "first" "I", .fieldLink RX8 20 "ReferenceMover$Span" "last" "I"] ++ wsX80)
def wsX6_keeps_r1 : List Cond := [Cond.fieldLink RX6 9 "ReferenceMover$Moving" "home" "I", Cond.fieldLink RX6 18 "ReferenceMover$Moving" "cut" "LReferenceMover$Area;", Cond.fieldLink RX6 37 "ReferenceMover$Reference" "rows" "LReferenceMover$Span;", Cond.fieldLink RX6 22 "ReferenceMover$Moving" "target" "LReferenceMover$Area;", Cond.fieldLink RX6 41 "ReferenceMover$Area" "top" "I", Cond.fieldLink RX6 50 "ReferenceMover$Reference" "columns" "LReferenceMover$Span;", Cond.fieldLink RX6 53 "ReferenceMover$Area" "left" "I", Cond.fieldLink RX6 56 "ReferenceMover$Area" "sheet" "I", Cond.fieldLink RX6 59 "ReferenceMover$Reference" "sheet" "I", Cond.fieldLink RX6 15 "ReferenceMover$Moving" "newHome" "I", Cond.methodLink RX6 25 yX7_sheetSeenFrom, Cond.instanceMethod yX7_sheetSeenFrom, Cond.selects RX7 yX7_sheetSeenFrom yX7_sheetSeenFrom, Cond.initialized RX7, Cond.code yX7_sheetSeenFrom cX7_sheetSeenFrom 2 (some .int), Cond.fieldLink RX7 24 "ReferenceMover$Reference" "sheet" "I", Cond.methodLink RX6 31 yX0_holds, Cond.instanceMethod yX0_holds, Cond.selects RX0 yX0_holds yX0_holds, Cond.initialized RX0, Cond.code yX0_holds cX0_holds 3 (some .boolean), Cond.fieldLink RX0 7 "ReferenceMover$Area" "sheet" "I", Cond.fieldLink RX0 31 "ReferenceMover$Reference" "rows" "LReferenceMover$Span;", Cond.fieldLink RX0 13 "ReferenceMover$Area" "top" "I"]
def wsX6_keeps_r2 : List Cond := [Cond.fieldLink RX0 19 "ReferenceMover$Area" "bottom" "I", Cond.fieldLink RX0 41 "ReferenceMover$Reference" "columns" "LReferenceMover$Span;", Cond.fieldLink RX0 16 "ReferenceMover$Area" "left" "I", Cond.fieldLink RX0 22 "ReferenceMover$Area" "right" "I", Cond.methodLink RX0 25 yX7_sheetSeenFrom, Cond.methodLink RX0 35 yX8_isWithin, Cond.instanceMethod yX8_isWithin, Cond.selects RX8 yX8_isWithin yX8_isWithin, Cond.initialized RX8, Cond.code yX8_isWithin cX8_isWithin 3 (some .boolean), Cond.fieldLink RX8 13 "ReferenceMover$Span" "first" "I", Cond.fieldLink RX8 20 "ReferenceMover$Span" "last" "I", Cond.methodLink RX6 44 yX8_shift, Cond.instanceMethod yX8_shift, Cond.selects RX8 yX8_shift yX8_shift, Cond.code yX8_shift cX8_shift 2 none]
def wsX6_keeps : List Cond := .code yX6_keeps cX6_keeps 3 (some .boolean) :: ((wsX6_keeps_r1 ++ wsX6_keeps_r2) ++ wsX60 ++ wsX70 ++ wsX00 ++ wsX80)
def wsX8_init : List Cond := .code yX8_init cX8_init 2 none :: ([.methodLink RX8 1 objectInit, .instanceMethod objectInit, .code objectInit ⟨#[0xb1]⟩ 1 none, .fieldLink RX8 7 "ReferenceMover$Span" "lastLine" "I"] ++ wsX80)
def wsX7_init : List Cond := .code yX7_init cX7_init 1 none :: ([.methodLink RX7 3 objectInit, .instanceMethod objectInit, .code objectInit ⟨#[0xb1]⟩ 1 none, .classLink RX7 9 RX8, .instantiable RX8 5, .initialized RX8, .constant RX7 11 (1048576), .fieldLink RX7 15 "ReferenceMover$Reference" "rows" "LReferenceMover$Span;", .fieldLink RX7 21 "ReferenceMover$Reference" "columns" "LReferenceMover$Span;", .methodLink RX7 12 yX8_init, .instanceMethod yX8_init, .code yX8_init cX8_init 2 none, .methodLink RX8 1 objectInit, .fieldLink RX8 7 "ReferenceMover$Span" "lastLine" "I"] ++ wsX80 ++ wsX70)
def wsX7_cornerMarks : List Cond := .code yX7_cornerMarks cX7_cornerMarks 2 (some .int) :: ([])
def wsX7_firstMarks : List Cond := .code yX7_firstMarks cX7_firstMarks 1 (some .int) :: ([.fieldLink RX7 15 "ReferenceMover$Reference" "rows" "LReferenceMover$Span;", .fieldLink RX7 45 "ReferenceMover$Span" "firstFixed" "Z", .fieldLink RX7 21 "ReferenceMover$Reference" "columns" "LReferenceMover$Span;", .methodLink RX7 48 yX7_cornerMarks, .static yX7_cornerMarks, .initialized RX7, .code yX7_cornerMarks cX7_cornerMarks 2 (some .int)] ++ wsX70 ++ wsX80)
def wsX7_rangeMarks : List Cond := .code yX7_rangeMarks cX7_rangeMarks 2 (some .int) :: ([.fieldLink RX7 15 "ReferenceMover$Reference" "rows" "LReferenceMover$Span;", .fieldLink RX7 52 "ReferenceMover$Span" "lastFixed" "Z", .fieldLink RX7 21 "ReferenceMover$Reference" "columns" "LReferenceMover$Span;", .fieldLink RX7 55 "ReferenceMover$Reference" "whole" "I", .methodLink RX7 48 yX7_cornerMarks, .static yX7_cornerMarks, .initialized RX7, .code yX7_cornerMarks cX7_cornerMarks 2 (some .int), .methodLink RX7 36 yX7_firstMarks, .instanceMethod yX7_firstMarks, .selects RX7 yX7_firstMarks yX7_firstMarks, .code yX7_firstMarks cX7_firstMarks 1 (some .int), .fieldLink RX7 45 "ReferenceMover$Span" "firstFixed" "Z"] ++ wsX70 ++ wsX80)
def wsX7_wordAt : List Cond := .code yX7_wordAt cX7_wordAt 2 (some .int) :: ([.fieldLink RX7 28 "ReferenceMover$Reference" "isRange" "Z", .fieldLink RX7 24 "ReferenceMover$Reference" "sheet" "I", .fieldLink RX7 15 "ReferenceMover$Reference" "rows" "LReferenceMover$Span;", .fieldLink RX7 39 "ReferenceMover$Span" "first" "I", .fieldLink RX7 21 "ReferenceMover$Reference" "columns" "LReferenceMover$Span;", .fieldLink RX7 42 "ReferenceMover$Span" "last" "I", .methodLink RX7 32 yX7_rangeMarks, .instanceMethod yX7_rangeMarks, .selects RX7 yX7_rangeMarks yX7_rangeMarks, .initialized RX7, .code yX7_rangeMarks cX7_rangeMarks 2 (some .int), .fieldLink RX7 52 "ReferenceMover$Span" "lastFixed" "Z", .fieldLink RX7 55 "ReferenceMover$Reference" "whole" "I", .methodLink RX7 48 yX7_cornerMarks, .static yX7_cornerMarks, .code yX7_cornerMarks cX7_cornerMarks 2 (some .int), .methodLink RX7 36 yX7_firstMarks, .instanceMethod yX7_firstMarks, .selects RX7 yX7_firstMarks yX7_firstMarks, .code yX7_firstMarks cX7_firstMarks 1 (some .int), .fieldLink RX7 45 "ReferenceMover$Span" "firstFixed" "Z"] ++ wsX70 ++ wsX80)
def wsX9_init_r1 : List Cond := [Cond.methodLink RX9 3 objectInit, Cond.instanceMethod objectInit, Cond.code objectInit ⟨#[0xb1]⟩ 1 none, Cond.arrayClass .int, Cond.fieldLink RX9 9 "ReferenceMover" "code" "[I", Cond.fieldLink RX9 13 "ReferenceMover" "size" "I", Cond.classLink RX9 17 RX0, Cond.instantiable RX0 5, Cond.initialized RX0, Cond.fieldLink RX9 22 "ReferenceMover" "cut" "LReferenceMover$Area;", Cond.classLink RX9 26 RX7, Cond.instantiable RX7 5, Cond.initialized RX7, Cond.fieldLink RX9 29 "ReferenceMover" "reference" "LReferenceMover$Reference;", Cond.methodLink RX9 19 yX0_init, Cond.instanceMethod yX0_init, Cond.code yX0_init cX0_init 6 none, Cond.methodLink RX0 1 objectInit, Cond.fieldLink RX0 7 "ReferenceMover$Area" "sheet" "I", Cond.fieldLink RX0 13 "ReferenceMover$Area" "top" "I", Cond.fieldLink RX0 16 "ReferenceMover$Area" "left" "I", Cond.fieldLink RX0 19 "ReferenceMover$Area" "bottom" "I", Cond.fieldLink RX0 22 "ReferenceMover$Area" "right" "I", Cond.instanceMethod yX7_init]
def wsX9_init_r2 : List Cond := [Cond.code yX7_init cX7_init 1 none, Cond.methodLink RX7 3 objectInit, Cond.classLink RX7 9 RX8, Cond.instantiable RX8 5, Cond.initialized RX8, Cond.constant RX7 11 (1048576), Cond.fieldLink RX7 15 "ReferenceMover$Reference" "rows" "LReferenceMover$Span;", Cond.fieldLink RX7 21 "ReferenceMover$Reference" "columns" "LReferenceMover$Span;", Cond.methodLink RX7 12 yX8_init, Cond.instanceMethod yX8_init, Cond.code yX8_init cX8_init 2 none, Cond.methodLink RX8 1 objectInit, Cond.fieldLink RX8 7 "ReferenceMover$Span" "lastLine" "I"]
def wsX9_init : List Cond := .code yX9_init cX9_init 1 none :: ((wsX9_init_r1 ++ wsX9_init_r2) ++ wsX90 ++ wsX00 ++ wsX70 ++ wsX80)
def wsX9_clear : List Cond := .code yX9_clear cX9_clear 1 none :: ([.fieldLink RX9 13 "ReferenceMover" "size" "I"] ++ wsX90)
def wsX9_isOfKind : List Cond := .code yX9_isOfKind cX9_isOfKind 2 (some .boolean) :: ([])
def wsX9_hasRoomFor : List Cond := .code yX9_hasRoomFor cX9_hasRoomFor 2 (some .boolean) :: ([.fieldLink RX9 13 "ReferenceMover" "size" "I"] ++ wsX90)
def wsX9_put : List Cond := .code yX9_put cX9_put 3 none :: ([.fieldLink RX9 9 "ReferenceMover" "code" "[I"] ++ wsX90)
def wsX9_append : List Cond := .code yX9_append cX9_append 2 none :: ([.fieldLink RX9 13 "ReferenceMover" "size" "I", .methodLink RX9 122 yX9_put, .instanceMethod yX9_put, .selects RX9 yX9_put yX9_put, .initialized RX9, .code yX9_put cX9_put 3 none, .fieldLink RX9 9 "ReferenceMover" "code" "[I"] ++ wsX90)
def wsX9_other : List Cond := .code yX9_other cX9_other 2 (some .boolean) :: ([.methodLink RX9 33 yX9_isOfKind, .static yX9_isOfKind, .initialized RX9, .code yX9_isOfKind cX9_isOfKind 2 (some .boolean), .methodLink RX9 37 yX9_hasRoomFor, .instanceMethod yX9_hasRoomFor, .selects RX9 yX9_hasRoomFor yX9_hasRoomFor, .code yX9_hasRoomFor cX9_hasRoomFor 2 (some .boolean), .fieldLink RX9 13 "ReferenceMover" "size" "I", .methodLink RX9 41 yX9_append, .instanceMethod yX9_append, .selects RX9 yX9_append yX9_append, .code yX9_append cX9_append 2 none, .methodLink RX9 122 yX9_put, .instanceMethod yX9_put, .selects RX9 yX9_put yX9_put, .code yX9_put cX9_put 3 none, .fieldLink RX9 9 "ReferenceMover" "code" "[I"] ++ wsX90)
def wsX9_isSheet : List Cond := .code yX9_isSheet cX9_isSheet 1 (some .boolean) :: ([])
def wsX9_isSheetOrNone : List Cond := .code yX9_isSheetOrNone cX9_isSheetOrNone 1 (some .boolean) :: ([.methodLink RX9 92 yX9_isSheet, .static yX9_isSheet, .initialized RX9, .code yX9_isSheet cX9_isSheet 1 (some .boolean)])
def wsX9_place_r1 : List Cond := [Cond.constant RX9 48 (1048576), Cond.methodLink RX9 45 yX9_isSheetOrNone, Cond.static yX9_isSheetOrNone, Cond.initialized RX9, Cond.code yX9_isSheetOrNone cX9_isSheetOrNone 1 (some .boolean), Cond.methodLink RX9 92 yX9_isSheet, Cond.static yX9_isSheet, Cond.code yX9_isSheet cX9_isSheet 1 (some .boolean), Cond.methodLink RX9 49 yX9_isLine, Cond.static yX9_isLine, Cond.code yX9_isLine cX9_isLine 2 (some .boolean), Cond.methodLink RX9 37 yX9_hasRoomFor, Cond.instanceMethod yX9_hasRoomFor, Cond.selects RX9 yX9_hasRoomFor yX9_hasRoomFor, Cond.code yX9_hasRoomFor cX9_hasRoomFor 2 (some .boolean), Cond.fieldLink RX9 13 "ReferenceMover" "size" "I", Cond.methodLink RX9 41 yX9_append, Cond.instanceMethod yX9_append, Cond.selects RX9 yX9_append yX9_append, Cond.code yX9_append cX9_append 2 none, Cond.methodLink RX9 122 yX9_put, Cond.instanceMethod yX9_put, Cond.selects RX9 yX9_put yX9_put, Cond.code yX9_put cX9_put 3 none]
def wsX9_place_r2 : List Cond := [Cond.fieldLink RX9 9 "ReferenceMover" "code" "[I"]
def wsX9_place : List Cond := .code yX9_place cX9_place 5 (some .boolean) :: ((wsX9_place_r1 ++ wsX9_place_r2) ++ wsX90)
def wsX9_areLines : List Cond := .code yX9_areLines cX9_areLines 3 (some .boolean) :: ([])
def wsX9_range_r1 : List Cond := [Cond.constant RX9 48 (1048576), Cond.methodLink RX9 45 yX9_isSheetOrNone, Cond.static yX9_isSheetOrNone, Cond.initialized RX9, Cond.code yX9_isSheetOrNone cX9_isSheetOrNone 1 (some .boolean), Cond.methodLink RX9 92 yX9_isSheet, Cond.static yX9_isSheet, Cond.code yX9_isSheet cX9_isSheet 1 (some .boolean), Cond.methodLink RX9 52 yX9_areLines, Cond.static yX9_areLines, Cond.code yX9_areLines cX9_areLines 3 (some .boolean), Cond.methodLink RX9 37 yX9_hasRoomFor, Cond.instanceMethod yX9_hasRoomFor, Cond.selects RX9 yX9_hasRoomFor yX9_hasRoomFor, Cond.code yX9_hasRoomFor cX9_hasRoomFor 2 (some .boolean), Cond.fieldLink RX9 13 "ReferenceMover" "size" "I", Cond.methodLink RX9 56 yX9_has, Cond.static yX9_has, Cond.code yX9_has cX9_has 2 (some .boolean), Cond.methodLink RX9 59 yX9_areAllLines, Cond.static yX9_areAllLines, Cond.code yX9_areAllLines cX9_areAllLines 3 (some .boolean), Cond.methodLink RX9 41 yX9_append, Cond.instanceMethod yX9_append]
def wsX9_range_r2 : List Cond := [Cond.selects RX9 yX9_append yX9_append, Cond.code yX9_append cX9_append 2 none, Cond.methodLink RX9 122 yX9_put, Cond.instanceMethod yX9_put, Cond.selects RX9 yX9_put yX9_put, Cond.code yX9_put cX9_put 3 none, Cond.fieldLink RX9 9 "ReferenceMover" "code" "[I"]
def wsX9_range : List Cond := .code yX9_range cX9_range 7 (some .boolean) :: ((wsX9_range_r1 ++ wsX9_range_r2) ++ wsX90)
def wsX9_size : List Cond := .code yX9_size cX9_size 1 (some .int) :: ([.fieldLink RX9 13 "ReferenceMover" "size" "I"] ++ wsX90)
def wsX9_word : List Cond := .code yX9_word cX9_word 2 (some .int) :: ([.fieldLink RX9 13 "ReferenceMover" "size" "I", .fieldLink RX9 9 "ReferenceMover" "code" "[I"] ++ wsX90)
def wsX9_itemLength : List Cond := .code yX9_itemLength cX9_itemLength 1 (some .int) :: ([.methodLink RX9 33 yX9_isOfKind, .static yX9_isOfKind, .initialized RX9, .code yX9_isOfKind cX9_isOfKind 2 (some .boolean)])
def wsX9_load_r1 : List Cond := [Cond.fieldLink RX9 29 "ReferenceMover" "reference" "LReferenceMover$Reference;", Cond.fieldLink RX9 144 "ReferenceMover$Reference" "isRange" "Z", Cond.fieldLink RX9 148 "ReferenceMover$Reference" "whole" "I", Cond.fieldLink RX9 151 "ReferenceMover$Reference" "sheet" "I", Cond.fieldLink RX9 154 "ReferenceMover$Reference" "rows" "LReferenceMover$Span;", Cond.fieldLink RX9 164 "ReferenceMover$Reference" "columns" "LReferenceMover$Span;", Cond.methodLink RX9 125 yX9_word, Cond.instanceMethod yX9_word, Cond.selects RX9 yX9_word yX9_word, Cond.initialized RX9, Cond.code yX9_word cX9_word 2 (some .int), Cond.fieldLink RX9 13 "ReferenceMover" "size" "I", Cond.fieldLink RX9 9 "ReferenceMover" "code" "[I", Cond.methodLink RX9 56 yX9_has, Cond.static yX9_has, Cond.code yX9_has cX9_has 2 (some .boolean), Cond.methodLink RX9 158 yX8_setFirst, Cond.instanceMethod yX8_setFirst, Cond.selects RX8 yX8_setFirst yX8_setFirst, Cond.initialized RX8, Cond.code yX8_setFirst cX8_setFirst 3 none, Cond.fieldLink RX8 13 "ReferenceMover$Span" "first" "I", Cond.fieldLink RX8 16 "ReferenceMover$Span" "firstFixed" "Z", Cond.methodLink RX9 167 yX8_setLast]
def wsX9_load_r2 : List Cond := [Cond.instanceMethod yX8_setLast, Cond.selects RX8 yX8_setLast yX8_setLast, Cond.code yX8_setLast cX8_setLast 3 none, Cond.fieldLink RX8 20 "ReferenceMover$Span" "last" "I", Cond.fieldLink RX8 23 "ReferenceMover$Span" "lastFixed" "Z"]
def wsX9_load : List Cond := .code yX9_load cX9_load 6 none :: ((wsX9_load_r1 ++ wsX9_load_r2) ++ wsX90 ++ wsX70 ++ wsX80)
def wsX9_store_r1 : List Cond := [Cond.fieldLink RX9 29 "ReferenceMover" "reference" "LReferenceMover$Reference;", Cond.methodLink RX9 170 yX7_wordAt, Cond.instanceMethod yX7_wordAt, Cond.selects RX7 yX7_wordAt yX7_wordAt, Cond.initialized RX7, Cond.code yX7_wordAt cX7_wordAt 2 (some .int), Cond.fieldLink RX7 28 "ReferenceMover$Reference" "isRange" "Z", Cond.fieldLink RX7 24 "ReferenceMover$Reference" "sheet" "I", Cond.fieldLink RX7 15 "ReferenceMover$Reference" "rows" "LReferenceMover$Span;", Cond.fieldLink RX7 39 "ReferenceMover$Span" "first" "I", Cond.fieldLink RX7 21 "ReferenceMover$Reference" "columns" "LReferenceMover$Span;", Cond.fieldLink RX7 42 "ReferenceMover$Span" "last" "I", Cond.methodLink RX7 32 yX7_rangeMarks, Cond.instanceMethod yX7_rangeMarks, Cond.selects RX7 yX7_rangeMarks yX7_rangeMarks, Cond.code yX7_rangeMarks cX7_rangeMarks 2 (some .int), Cond.fieldLink RX7 52 "ReferenceMover$Span" "lastFixed" "Z", Cond.fieldLink RX7 55 "ReferenceMover$Reference" "whole" "I", Cond.methodLink RX7 48 yX7_cornerMarks, Cond.static yX7_cornerMarks, Cond.code yX7_cornerMarks cX7_cornerMarks 2 (some .int), Cond.methodLink RX7 36 yX7_firstMarks, Cond.instanceMethod yX7_firstMarks, Cond.selects RX7 yX7_firstMarks yX7_firstMarks]
def wsX9_store_r2 : List Cond := [Cond.code yX7_firstMarks cX7_firstMarks 1 (some .int), Cond.fieldLink RX7 45 "ReferenceMover$Span" "firstFixed" "Z", Cond.methodLink RX9 125 yX9_word, Cond.instanceMethod yX9_word, Cond.selects RX9 yX9_word yX9_word, Cond.initialized RX9, Cond.code yX9_word cX9_word 2 (some .int), Cond.fieldLink RX9 13 "ReferenceMover" "size" "I", Cond.fieldLink RX9 9 "ReferenceMover" "code" "[I", Cond.methodLink RX9 122 yX9_put, Cond.instanceMethod yX9_put, Cond.selects RX9 yX9_put yX9_put, Cond.code yX9_put cX9_put 3 none]
def wsX9_store : List Cond := .code yX9_store cX9_store 7 (some .boolean) :: ((wsX9_store_r1 ++ wsX9_store_r2) ++ wsX90 ++ wsX70 ++ wsX80)
def wsX9_changeReferences_r1 : List Cond := [Cond.fieldLink RX9 13 "ReferenceMover" "size" "I", Cond.fieldLink RX9 29 "ReferenceMover" "reference" "LReferenceMover$Reference;", Cond.methodLink RX9 125 yX9_word, Cond.instanceMethod yX9_word, Cond.selects RX9 yX9_word yX9_word, Cond.initialized RX9, Cond.code yX9_word cX9_word 2 (some .int), Cond.fieldLink RX9 9 "ReferenceMover" "code" "[I", Cond.methodLink RX9 129 yX9_itemLength, Cond.static yX9_itemLength, Cond.code yX9_itemLength cX9_itemLength 1 (some .int), Cond.methodLink RX9 33 yX9_isOfKind, Cond.static yX9_isOfKind, Cond.code yX9_isOfKind cX9_isOfKind 2 (some .boolean), Cond.methodLink RX9 122 yX9_put, Cond.instanceMethod yX9_put, Cond.selects RX9 yX9_put yX9_put, Cond.code yX9_put cX9_put 3 none, Cond.methodLink RX9 132 yX9_load, Cond.instanceMethod yX9_load, Cond.selects RX9 yX9_load yX9_load, Cond.code yX9_load cX9_load 6 none, Cond.fieldLink RX9 144 "ReferenceMover$Reference" "isRange" "Z", Cond.fieldLink RX9 148 "ReferenceMover$Reference" "whole" "I"]
def wsX9_changeReferences_r2 : List Cond := [Cond.fieldLink RX9 151 "ReferenceMover$Reference" "sheet" "I", Cond.fieldLink RX9 154 "ReferenceMover$Reference" "rows" "LReferenceMover$Span;", Cond.fieldLink RX9 164 "ReferenceMover$Reference" "columns" "LReferenceMover$Span;", Cond.methodLink RX9 56 yX9_has, Cond.static yX9_has, Cond.code yX9_has cX9_has 2 (some .boolean), Cond.methodLink RX9 158 yX8_setFirst, Cond.instanceMethod yX8_setFirst, Cond.selects RX8 yX8_setFirst yX8_setFirst, Cond.initialized RX8, Cond.code yX8_setFirst cX8_setFirst 3 none, Cond.fieldLink RX8 13 "ReferenceMover$Span" "first" "I", Cond.fieldLink RX8 16 "ReferenceMover$Span" "firstFixed" "Z", Cond.methodLink RX9 167 yX8_setLast, Cond.instanceMethod yX8_setLast, Cond.selects RX8 yX8_setLast yX8_setLast, Cond.code yX8_setLast cX8_setLast 3 none, Cond.fieldLink RX8 20 "ReferenceMover$Span" "last" "I", Cond.fieldLink RX8 23 "ReferenceMover$Span" "lastFixed" "Z", Cond.methodLink RX9 135 ⟨"ReferenceMover$Change", "keeps", "(LReferenceMover$Reference;)Z"⟩, Cond.sameMethod "ReferenceMover$Change" "ReferenceMover$Change" "keeps" "(LReferenceMover$Reference;)Z", Cond.selects RX2 ⟨"ReferenceMover$Change", "keeps", "(LReferenceMover$Reference;)Z"⟩ yX2_keeps, Cond.instanceMethod yX2_keeps, Cond.initialized RX2]
def wsX9_changeReferences_r3 : List Cond := [Cond.code yX2_keeps cX2_keeps 2 (some .boolean), Cond.fieldLink RX2 18 "ReferenceMover$Reference" "whole" "I", Cond.fieldLink RX2 27 "ReferenceMover$Reference" "rows" "LReferenceMover$Span;", Cond.fieldLink RX2 9 "ReferenceMover$Copying" "down" "I", Cond.fieldLink RX2 37 "ReferenceMover$Reference" "columns" "LReferenceMover$Span;", Cond.fieldLink RX2 15 "ReferenceMover$Copying" "along" "I", Cond.methodLink RX2 31 yX8_shiftLoose, Cond.instanceMethod yX8_shiftLoose, Cond.selects RX8 yX8_shiftLoose yX8_shiftLoose, Cond.code yX8_shiftLoose cX8_shiftLoose 2 (some .boolean), Cond.fieldLink RX8 7 "ReferenceMover$Span" "lastLine" "I", Cond.static yX9_isLine, Cond.code yX9_isLine cX9_isLine 2 (some .boolean), Cond.methodLink RX8 32 yX8_exchange, Cond.instanceMethod yX8_exchange, Cond.selects RX8 yX8_exchange yX8_exchange, Cond.code yX8_exchange cX8_exchange 3 none, Cond.methodLink RX8 35 yX8_setFirst, Cond.methodLink RX8 39 yX8_setLast, Cond.selects RX4 ⟨"ReferenceMover$Change", "keeps", "(LReferenceMover$Reference;)Z"⟩ yX3_keeps, Cond.instanceMethod yX3_keeps, Cond.initialized RX3, Cond.code yX3_keeps cX3_keeps 2 (some .boolean), Cond.fieldLink RX3 7 "ReferenceMover$LineChange" "home" "I"]
def wsX9_changeReferences_r4 : List Cond := [Cond.fieldLink RX3 13 "ReferenceMover$LineChange" "sheet" "I", Cond.fieldLink RX3 16 "ReferenceMover$LineChange" "columns" "Z", Cond.fieldLink RX3 32 "ReferenceMover$Reference" "columns" "LReferenceMover$Span;", Cond.fieldLink RX3 35 "ReferenceMover$Reference" "rows" "LReferenceMover$Span;", Cond.methodLink RX3 26 yX7_sheetSeenFrom, Cond.instanceMethod yX7_sheetSeenFrom, Cond.selects RX7 yX7_sheetSeenFrom yX7_sheetSeenFrom, Cond.initialized RX7, Cond.code yX7_sheetSeenFrom cX7_sheetSeenFrom 2 (some .int), Cond.fieldLink RX7 24 "ReferenceMover$Reference" "sheet" "I", Cond.methodLink RX3 38 ⟨"ReferenceMover$LineChange", "keepsLines", "(LReferenceMover$Span;)Z"⟩, Cond.sameMethod "ReferenceMover$LineChange" "ReferenceMover$LineChange" "keepsLines" "(LReferenceMover$Span;)Z", Cond.selects RX4 ⟨"ReferenceMover$LineChange", "keepsLines", "(LReferenceMover$Span;)Z"⟩ yX4_keepsLines, Cond.instanceMethod yX4_keepsLines, Cond.initialized RX4, Cond.code yX4_keepsLines cX4_keepsLines 2 (some .boolean), Cond.fieldLink RX4 7 "ReferenceMover$LinesPutIn" "at" "I", Cond.sameField "ReferenceMover$LinesPutIn" "ReferenceMover$LineChange" "at" "I", Cond.fieldLink RX4 13 "ReferenceMover$LinesPutIn" "n" "I", Cond.sameField "ReferenceMover$LinesPutIn" "ReferenceMover$LineChange" "n" "I", Cond.methodLink RX4 16 yX8_openGap, Cond.instanceMethod yX8_openGap, Cond.selects RX8 yX8_openGap yX8_openGap, Cond.code yX8_openGap cX8_openGap 3 (some .boolean)]
def wsX9_changeReferences_r5 : List Cond := [Cond.methodLink RX8 46 Lib.Math.min.name, Cond.static Lib.Math.min.name, Cond.initialized "java/lang/Math", Cond.code Lib.Math.min.name Lib.Math.min.code 2 (some .int), Cond.static yX9_areAllLines, Cond.code yX9_areAllLines cX9_areAllLines 3 (some .boolean), Cond.selects RX5 ⟨"ReferenceMover$LineChange", "keepsLines", "(LReferenceMover$Span;)Z"⟩ yX5_keepsLines, Cond.instanceMethod yX5_keepsLines, Cond.initialized RX5, Cond.code yX5_keepsLines cX5_keepsLines 2 (some .boolean), Cond.fieldLink RX5 7 "ReferenceMover$LinesTakenOut" "at" "I", Cond.sameField "ReferenceMover$LinesTakenOut" "ReferenceMover$LineChange" "at" "I", Cond.fieldLink RX5 13 "ReferenceMover$LinesTakenOut" "n" "I", Cond.sameField "ReferenceMover$LinesTakenOut" "ReferenceMover$LineChange" "n" "I", Cond.methodLink RX5 16 yX8_closeGap, Cond.instanceMethod yX8_closeGap, Cond.selects RX8 yX8_closeGap yX8_closeGap, Cond.code yX8_closeGap cX8_closeGap 4 (some .boolean), Cond.selects RX5 ⟨"ReferenceMover$Change", "keeps", "(LReferenceMover$Reference;)Z"⟩ yX3_keeps, Cond.selects RX6 ⟨"ReferenceMover$Change", "keeps", "(LReferenceMover$Reference;)Z"⟩ yX6_keeps, Cond.instanceMethod yX6_keeps, Cond.initialized RX6, Cond.code yX6_keeps cX6_keeps 3 (some .boolean), Cond.fieldLink RX6 9 "ReferenceMover$Moving" "home" "I"]
def wsX9_changeReferences_r6 : List Cond := [Cond.fieldLink RX6 18 "ReferenceMover$Moving" "cut" "LReferenceMover$Area;", Cond.fieldLink RX6 37 "ReferenceMover$Reference" "rows" "LReferenceMover$Span;", Cond.fieldLink RX6 22 "ReferenceMover$Moving" "target" "LReferenceMover$Area;", Cond.fieldLink RX6 41 "ReferenceMover$Area" "top" "I", Cond.fieldLink RX6 50 "ReferenceMover$Reference" "columns" "LReferenceMover$Span;", Cond.fieldLink RX6 53 "ReferenceMover$Area" "left" "I", Cond.fieldLink RX6 56 "ReferenceMover$Area" "sheet" "I", Cond.fieldLink RX6 59 "ReferenceMover$Reference" "sheet" "I", Cond.fieldLink RX6 15 "ReferenceMover$Moving" "newHome" "I", Cond.methodLink RX6 25 yX7_sheetSeenFrom, Cond.methodLink RX6 31 yX0_holds, Cond.instanceMethod yX0_holds, Cond.selects RX0 yX0_holds yX0_holds, Cond.initialized RX0, Cond.code yX0_holds cX0_holds 3 (some .boolean), Cond.fieldLink RX0 7 "ReferenceMover$Area" "sheet" "I", Cond.fieldLink RX0 31 "ReferenceMover$Reference" "rows" "LReferenceMover$Span;", Cond.fieldLink RX0 13 "ReferenceMover$Area" "top" "I", Cond.fieldLink RX0 19 "ReferenceMover$Area" "bottom" "I", Cond.fieldLink RX0 41 "ReferenceMover$Reference" "columns" "LReferenceMover$Span;", Cond.fieldLink RX0 16 "ReferenceMover$Area" "left" "I", Cond.fieldLink RX0 22 "ReferenceMover$Area" "right" "I", Cond.methodLink RX0 25 yX7_sheetSeenFrom, Cond.methodLink RX0 35 yX8_isWithin]
def wsX9_changeReferences_r7 : List Cond := [Cond.instanceMethod yX8_isWithin, Cond.selects RX8 yX8_isWithin yX8_isWithin, Cond.code yX8_isWithin cX8_isWithin 3 (some .boolean), Cond.methodLink RX6 44 yX8_shift, Cond.instanceMethod yX8_shift, Cond.selects RX8 yX8_shift yX8_shift, Cond.code yX8_shift cX8_shift 2 none, Cond.methodLink RX9 141 yX9_store, Cond.instanceMethod yX9_store, Cond.selects RX9 yX9_store yX9_store, Cond.code yX9_store cX9_store 7 (some .boolean), Cond.methodLink RX9 170 yX7_wordAt, Cond.instanceMethod yX7_wordAt, Cond.selects RX7 yX7_wordAt yX7_wordAt, Cond.code yX7_wordAt cX7_wordAt 2 (some .int), Cond.fieldLink RX7 28 "ReferenceMover$Reference" "isRange" "Z", Cond.fieldLink RX7 15 "ReferenceMover$Reference" "rows" "LReferenceMover$Span;", Cond.fieldLink RX7 39 "ReferenceMover$Span" "first" "I", Cond.fieldLink RX7 21 "ReferenceMover$Reference" "columns" "LReferenceMover$Span;", Cond.fieldLink RX7 42 "ReferenceMover$Span" "last" "I", Cond.methodLink RX7 32 yX7_rangeMarks, Cond.instanceMethod yX7_rangeMarks, Cond.selects RX7 yX7_rangeMarks yX7_rangeMarks, Cond.code yX7_rangeMarks cX7_rangeMarks 2 (some .int)]
def wsX9_changeReferences_r8 : List Cond := [Cond.fieldLink RX7 52 "ReferenceMover$Span" "lastFixed" "Z", Cond.fieldLink RX7 55 "ReferenceMover$Reference" "whole" "I", Cond.methodLink RX7 48 yX7_cornerMarks, Cond.static yX7_cornerMarks, Cond.code yX7_cornerMarks cX7_cornerMarks 2 (some .int), Cond.methodLink RX7 36 yX7_firstMarks, Cond.instanceMethod yX7_firstMarks, Cond.selects RX7 yX7_firstMarks yX7_firstMarks, Cond.code yX7_firstMarks cX7_firstMarks 1 (some .int), Cond.fieldLink RX7 45 "ReferenceMover$Span" "firstFixed" "Z"]
def wsX9_changeReferences : List Cond := .code yX9_changeReferences cX9_changeReferences 6 (some .int) :: ((wsX9_changeReferences_r1 ++ (wsX9_changeReferences_r2 ++ (wsX9_changeReferences_r3 ++ (wsX9_changeReferences_r4 ++ (wsX9_changeReferences_r5 ++ (wsX9_changeReferences_r6 ++ (wsX9_changeReferences_r7 ++ wsX9_changeReferences_r8))))))) ++ wsX90 ++ wsX70 ++ wsX80 ++ wsX20 ++ wsX40 ++ wsX50 ++ wsX60 ++ wsX00)
def wsX9_copy_r1 : List Cond := [Cond.classLink RX9 63 "java/lang/IllegalArgumentException", Cond.initialized "java/lang/IllegalArgumentException", Cond.constant RX9 62 (-1048576), Cond.constant RX9 48 (1048576), Cond.classLink RX9 72 RX2, Cond.instantiable RX2 2, Cond.initialized RX2, Cond.methodLink RX9 74 yX2_init, Cond.instanceMethod yX2_init, Cond.code yX2_init cX2_init 3 none, Cond.fieldLink RX2 9 "ReferenceMover$Copying" "down" "I", Cond.fieldLink RX2 15 "ReferenceMover$Copying" "along" "I", Cond.instanceMethod yX1_init, Cond.initialized RX1, Cond.code yX1_init cX1_init 1 none, Cond.methodLink RX1 1 objectInit, Cond.instanceMethod objectInit, Cond.code objectInit ⟨#[0xb1]⟩ 1 none, Cond.methodLink RX9 77 yX9_changeReferences, Cond.instanceMethod yX9_changeReferences, Cond.selects RX9 yX9_changeReferences yX9_changeReferences, Cond.initialized RX9, Cond.code yX9_changeReferences cX9_changeReferences 6 (some .int), Cond.fieldLink RX9 13 "ReferenceMover" "size" "I"]
def wsX9_copy_r2 : List Cond := [Cond.fieldLink RX9 29 "ReferenceMover" "reference" "LReferenceMover$Reference;", Cond.methodLink RX9 125 yX9_word, Cond.instanceMethod yX9_word, Cond.selects RX9 yX9_word yX9_word, Cond.code yX9_word cX9_word 2 (some .int), Cond.fieldLink RX9 9 "ReferenceMover" "code" "[I", Cond.methodLink RX9 129 yX9_itemLength, Cond.static yX9_itemLength, Cond.code yX9_itemLength cX9_itemLength 1 (some .int), Cond.methodLink RX9 33 yX9_isOfKind, Cond.static yX9_isOfKind, Cond.code yX9_isOfKind cX9_isOfKind 2 (some .boolean), Cond.methodLink RX9 122 yX9_put, Cond.instanceMethod yX9_put, Cond.selects RX9 yX9_put yX9_put, Cond.code yX9_put cX9_put 3 none, Cond.methodLink RX9 132 yX9_load, Cond.instanceMethod yX9_load, Cond.selects RX9 yX9_load yX9_load, Cond.code yX9_load cX9_load 6 none, Cond.fieldLink RX9 144 "ReferenceMover$Reference" "isRange" "Z", Cond.fieldLink RX9 148 "ReferenceMover$Reference" "whole" "I", Cond.fieldLink RX9 151 "ReferenceMover$Reference" "sheet" "I", Cond.fieldLink RX9 154 "ReferenceMover$Reference" "rows" "LReferenceMover$Span;"]
def wsX9_copy_r3 : List Cond := [Cond.fieldLink RX9 164 "ReferenceMover$Reference" "columns" "LReferenceMover$Span;", Cond.methodLink RX9 56 yX9_has, Cond.static yX9_has, Cond.code yX9_has cX9_has 2 (some .boolean), Cond.methodLink RX9 158 yX8_setFirst, Cond.instanceMethod yX8_setFirst, Cond.selects RX8 yX8_setFirst yX8_setFirst, Cond.initialized RX8, Cond.code yX8_setFirst cX8_setFirst 3 none, Cond.fieldLink RX8 13 "ReferenceMover$Span" "first" "I", Cond.fieldLink RX8 16 "ReferenceMover$Span" "firstFixed" "Z", Cond.methodLink RX9 167 yX8_setLast, Cond.instanceMethod yX8_setLast, Cond.selects RX8 yX8_setLast yX8_setLast, Cond.code yX8_setLast cX8_setLast 3 none, Cond.fieldLink RX8 20 "ReferenceMover$Span" "last" "I", Cond.fieldLink RX8 23 "ReferenceMover$Span" "lastFixed" "Z", Cond.methodLink RX9 135 ⟨"ReferenceMover$Change", "keeps", "(LReferenceMover$Reference;)Z"⟩, Cond.sameMethod "ReferenceMover$Change" "ReferenceMover$Change" "keeps" "(LReferenceMover$Reference;)Z", Cond.selects RX2 ⟨"ReferenceMover$Change", "keeps", "(LReferenceMover$Reference;)Z"⟩ yX2_keeps, Cond.instanceMethod yX2_keeps, Cond.code yX2_keeps cX2_keeps 2 (some .boolean), Cond.fieldLink RX2 18 "ReferenceMover$Reference" "whole" "I", Cond.fieldLink RX2 27 "ReferenceMover$Reference" "rows" "LReferenceMover$Span;"]
def wsX9_copy_r4 : List Cond := [Cond.fieldLink RX2 37 "ReferenceMover$Reference" "columns" "LReferenceMover$Span;", Cond.methodLink RX2 31 yX8_shiftLoose, Cond.instanceMethod yX8_shiftLoose, Cond.selects RX8 yX8_shiftLoose yX8_shiftLoose, Cond.code yX8_shiftLoose cX8_shiftLoose 2 (some .boolean), Cond.fieldLink RX8 7 "ReferenceMover$Span" "lastLine" "I", Cond.static yX9_isLine, Cond.code yX9_isLine cX9_isLine 2 (some .boolean), Cond.methodLink RX8 32 yX8_exchange, Cond.instanceMethod yX8_exchange, Cond.selects RX8 yX8_exchange yX8_exchange, Cond.code yX8_exchange cX8_exchange 3 none, Cond.methodLink RX8 35 yX8_setFirst, Cond.methodLink RX8 39 yX8_setLast, Cond.selects RX4 ⟨"ReferenceMover$Change", "keeps", "(LReferenceMover$Reference;)Z"⟩ yX3_keeps, Cond.instanceMethod yX3_keeps, Cond.initialized RX3, Cond.code yX3_keeps cX3_keeps 2 (some .boolean), Cond.fieldLink RX3 7 "ReferenceMover$LineChange" "home" "I", Cond.fieldLink RX3 13 "ReferenceMover$LineChange" "sheet" "I", Cond.fieldLink RX3 16 "ReferenceMover$LineChange" "columns" "Z", Cond.fieldLink RX3 32 "ReferenceMover$Reference" "columns" "LReferenceMover$Span;", Cond.fieldLink RX3 35 "ReferenceMover$Reference" "rows" "LReferenceMover$Span;", Cond.methodLink RX3 26 yX7_sheetSeenFrom]
def wsX9_copy_r5 : List Cond := [Cond.instanceMethod yX7_sheetSeenFrom, Cond.selects RX7 yX7_sheetSeenFrom yX7_sheetSeenFrom, Cond.initialized RX7, Cond.code yX7_sheetSeenFrom cX7_sheetSeenFrom 2 (some .int), Cond.fieldLink RX7 24 "ReferenceMover$Reference" "sheet" "I", Cond.methodLink RX3 38 ⟨"ReferenceMover$LineChange", "keepsLines", "(LReferenceMover$Span;)Z"⟩, Cond.sameMethod "ReferenceMover$LineChange" "ReferenceMover$LineChange" "keepsLines" "(LReferenceMover$Span;)Z", Cond.selects RX4 ⟨"ReferenceMover$LineChange", "keepsLines", "(LReferenceMover$Span;)Z"⟩ yX4_keepsLines, Cond.instanceMethod yX4_keepsLines, Cond.initialized RX4, Cond.code yX4_keepsLines cX4_keepsLines 2 (some .boolean), Cond.fieldLink RX4 7 "ReferenceMover$LinesPutIn" "at" "I", Cond.sameField "ReferenceMover$LinesPutIn" "ReferenceMover$LineChange" "at" "I", Cond.fieldLink RX4 13 "ReferenceMover$LinesPutIn" "n" "I", Cond.sameField "ReferenceMover$LinesPutIn" "ReferenceMover$LineChange" "n" "I", Cond.methodLink RX4 16 yX8_openGap, Cond.instanceMethod yX8_openGap, Cond.selects RX8 yX8_openGap yX8_openGap, Cond.code yX8_openGap cX8_openGap 3 (some .boolean), Cond.methodLink RX8 46 Lib.Math.min.name, Cond.static Lib.Math.min.name, Cond.initialized "java/lang/Math", Cond.code Lib.Math.min.name Lib.Math.min.code 2 (some .int), Cond.static yX9_areAllLines]
def wsX9_copy_r6 : List Cond := [Cond.code yX9_areAllLines cX9_areAllLines 3 (some .boolean), Cond.selects RX5 ⟨"ReferenceMover$LineChange", "keepsLines", "(LReferenceMover$Span;)Z"⟩ yX5_keepsLines, Cond.instanceMethod yX5_keepsLines, Cond.initialized RX5, Cond.code yX5_keepsLines cX5_keepsLines 2 (some .boolean), Cond.fieldLink RX5 7 "ReferenceMover$LinesTakenOut" "at" "I", Cond.sameField "ReferenceMover$LinesTakenOut" "ReferenceMover$LineChange" "at" "I", Cond.fieldLink RX5 13 "ReferenceMover$LinesTakenOut" "n" "I", Cond.sameField "ReferenceMover$LinesTakenOut" "ReferenceMover$LineChange" "n" "I", Cond.methodLink RX5 16 yX8_closeGap, Cond.instanceMethod yX8_closeGap, Cond.selects RX8 yX8_closeGap yX8_closeGap, Cond.code yX8_closeGap cX8_closeGap 4 (some .boolean), Cond.selects RX5 ⟨"ReferenceMover$Change", "keeps", "(LReferenceMover$Reference;)Z"⟩ yX3_keeps, Cond.selects RX6 ⟨"ReferenceMover$Change", "keeps", "(LReferenceMover$Reference;)Z"⟩ yX6_keeps, Cond.instanceMethod yX6_keeps, Cond.initialized RX6, Cond.code yX6_keeps cX6_keeps 3 (some .boolean), Cond.fieldLink RX6 9 "ReferenceMover$Moving" "home" "I", Cond.fieldLink RX6 18 "ReferenceMover$Moving" "cut" "LReferenceMover$Area;", Cond.fieldLink RX6 37 "ReferenceMover$Reference" "rows" "LReferenceMover$Span;", Cond.fieldLink RX6 22 "ReferenceMover$Moving" "target" "LReferenceMover$Area;", Cond.fieldLink RX6 41 "ReferenceMover$Area" "top" "I", Cond.fieldLink RX6 50 "ReferenceMover$Reference" "columns" "LReferenceMover$Span;"]
def wsX9_copy_r7 : List Cond := [Cond.fieldLink RX6 53 "ReferenceMover$Area" "left" "I", Cond.fieldLink RX6 56 "ReferenceMover$Area" "sheet" "I", Cond.fieldLink RX6 59 "ReferenceMover$Reference" "sheet" "I", Cond.fieldLink RX6 15 "ReferenceMover$Moving" "newHome" "I", Cond.methodLink RX6 25 yX7_sheetSeenFrom, Cond.methodLink RX6 31 yX0_holds, Cond.instanceMethod yX0_holds, Cond.selects RX0 yX0_holds yX0_holds, Cond.initialized RX0, Cond.code yX0_holds cX0_holds 3 (some .boolean), Cond.fieldLink RX0 7 "ReferenceMover$Area" "sheet" "I", Cond.fieldLink RX0 31 "ReferenceMover$Reference" "rows" "LReferenceMover$Span;", Cond.fieldLink RX0 13 "ReferenceMover$Area" "top" "I", Cond.fieldLink RX0 19 "ReferenceMover$Area" "bottom" "I", Cond.fieldLink RX0 41 "ReferenceMover$Reference" "columns" "LReferenceMover$Span;", Cond.fieldLink RX0 16 "ReferenceMover$Area" "left" "I", Cond.fieldLink RX0 22 "ReferenceMover$Area" "right" "I", Cond.methodLink RX0 25 yX7_sheetSeenFrom, Cond.methodLink RX0 35 yX8_isWithin, Cond.instanceMethod yX8_isWithin, Cond.selects RX8 yX8_isWithin yX8_isWithin, Cond.code yX8_isWithin cX8_isWithin 3 (some .boolean), Cond.methodLink RX6 44 yX8_shift, Cond.instanceMethod yX8_shift]
def wsX9_copy_r8 : List Cond := [Cond.selects RX8 yX8_shift yX8_shift, Cond.code yX8_shift cX8_shift 2 none, Cond.methodLink RX9 141 yX9_store, Cond.instanceMethod yX9_store, Cond.selects RX9 yX9_store yX9_store, Cond.code yX9_store cX9_store 7 (some .boolean), Cond.methodLink RX9 170 yX7_wordAt, Cond.instanceMethod yX7_wordAt, Cond.selects RX7 yX7_wordAt yX7_wordAt, Cond.code yX7_wordAt cX7_wordAt 2 (some .int), Cond.fieldLink RX7 28 "ReferenceMover$Reference" "isRange" "Z", Cond.fieldLink RX7 15 "ReferenceMover$Reference" "rows" "LReferenceMover$Span;", Cond.fieldLink RX7 39 "ReferenceMover$Span" "first" "I", Cond.fieldLink RX7 21 "ReferenceMover$Reference" "columns" "LReferenceMover$Span;", Cond.fieldLink RX7 42 "ReferenceMover$Span" "last" "I", Cond.methodLink RX7 32 yX7_rangeMarks, Cond.instanceMethod yX7_rangeMarks, Cond.selects RX7 yX7_rangeMarks yX7_rangeMarks, Cond.code yX7_rangeMarks cX7_rangeMarks 2 (some .int), Cond.fieldLink RX7 52 "ReferenceMover$Span" "lastFixed" "Z", Cond.fieldLink RX7 55 "ReferenceMover$Reference" "whole" "I", Cond.methodLink RX7 48 yX7_cornerMarks, Cond.static yX7_cornerMarks, Cond.code yX7_cornerMarks cX7_cornerMarks 2 (some .int)]
def wsX9_copy_r9 : List Cond := [Cond.methodLink RX7 36 yX7_firstMarks, Cond.instanceMethod yX7_firstMarks, Cond.selects RX7 yX7_firstMarks yX7_firstMarks, Cond.code yX7_firstMarks cX7_firstMarks 1 (some .int), Cond.fieldLink RX7 45 "ReferenceMover$Span" "firstFixed" "Z"]
def wsX9_insert_r1 : List Cond := [Cond.classLink RX9 85 RX4, Cond.instantiable RX4 5, Cond.initialized RX4, Cond.methodLink RX9 81 yX9_checkLines, Cond.static yX9_checkLines, Cond.initialized RX9, Cond.code yX9_checkLines cX9_checkLines 5 none, Cond.classLink RX9 63 "java/lang/IllegalArgumentException", Cond.initialized "java/lang/IllegalArgumentException", Cond.constant RX9 48 (1048576), Cond.methodLink RX9 92 yX9_isSheet, Cond.static yX9_isSheet, Cond.code yX9_isSheet cX9_isSheet 1 (some .boolean), Cond.methodLink RX9 49 yX9_isLine, Cond.static yX9_isLine, Cond.code yX9_isLine cX9_isLine 2 (some .boolean), Cond.methodLink RX9 87 yX4_init, Cond.instanceMethod yX4_init, Cond.code yX4_init cX4_init 6 none, Cond.methodLink RX4 1 yX3_init, Cond.instanceMethod yX3_init, Cond.initialized RX3, Cond.code yX3_init cX3_init 6 none, Cond.fieldLink RX3 7 "ReferenceMover$LineChange" "home" "I"]
def wsX9_insert_r2 : List Cond := [Cond.fieldLink RX3 13 "ReferenceMover$LineChange" "sheet" "I", Cond.fieldLink RX3 16 "ReferenceMover$LineChange" "columns" "Z", Cond.fieldLink RX3 20 "ReferenceMover$LineChange" "at" "I", Cond.fieldLink RX3 23 "ReferenceMover$LineChange" "n" "I", Cond.instanceMethod yX1_init, Cond.initialized RX1, Cond.code yX1_init cX1_init 1 none, Cond.methodLink RX1 1 objectInit, Cond.instanceMethod objectInit, Cond.code objectInit ⟨#[0xb1]⟩ 1 none, Cond.methodLink RX9 77 yX9_changeReferences, Cond.instanceMethod yX9_changeReferences, Cond.selects RX9 yX9_changeReferences yX9_changeReferences, Cond.code yX9_changeReferences cX9_changeReferences 6 (some .int), Cond.fieldLink RX9 13 "ReferenceMover" "size" "I", Cond.fieldLink RX9 29 "ReferenceMover" "reference" "LReferenceMover$Reference;", Cond.methodLink RX9 125 yX9_word, Cond.instanceMethod yX9_word, Cond.selects RX9 yX9_word yX9_word, Cond.code yX9_word cX9_word 2 (some .int), Cond.fieldLink RX9 9 "ReferenceMover" "code" "[I", Cond.methodLink RX9 129 yX9_itemLength, Cond.static yX9_itemLength, Cond.code yX9_itemLength cX9_itemLength 1 (some .int)]
def wsX9_insert_r3 : List Cond := [Cond.methodLink RX9 33 yX9_isOfKind, Cond.static yX9_isOfKind, Cond.code yX9_isOfKind cX9_isOfKind 2 (some .boolean), Cond.methodLink RX9 122 yX9_put, Cond.instanceMethod yX9_put, Cond.selects RX9 yX9_put yX9_put, Cond.code yX9_put cX9_put 3 none, Cond.methodLink RX9 132 yX9_load, Cond.instanceMethod yX9_load, Cond.selects RX9 yX9_load yX9_load, Cond.code yX9_load cX9_load 6 none, Cond.fieldLink RX9 144 "ReferenceMover$Reference" "isRange" "Z", Cond.fieldLink RX9 148 "ReferenceMover$Reference" "whole" "I", Cond.fieldLink RX9 151 "ReferenceMover$Reference" "sheet" "I", Cond.fieldLink RX9 154 "ReferenceMover$Reference" "rows" "LReferenceMover$Span;", Cond.fieldLink RX9 164 "ReferenceMover$Reference" "columns" "LReferenceMover$Span;", Cond.methodLink RX9 56 yX9_has, Cond.static yX9_has, Cond.code yX9_has cX9_has 2 (some .boolean), Cond.methodLink RX9 158 yX8_setFirst, Cond.instanceMethod yX8_setFirst, Cond.selects RX8 yX8_setFirst yX8_setFirst, Cond.initialized RX8, Cond.code yX8_setFirst cX8_setFirst 3 none]
def wsX9_insert_r4 : List Cond := [Cond.fieldLink RX8 13 "ReferenceMover$Span" "first" "I", Cond.fieldLink RX8 16 "ReferenceMover$Span" "firstFixed" "Z", Cond.methodLink RX9 167 yX8_setLast, Cond.instanceMethod yX8_setLast, Cond.selects RX8 yX8_setLast yX8_setLast, Cond.code yX8_setLast cX8_setLast 3 none, Cond.fieldLink RX8 20 "ReferenceMover$Span" "last" "I", Cond.fieldLink RX8 23 "ReferenceMover$Span" "lastFixed" "Z", Cond.methodLink RX9 135 ⟨"ReferenceMover$Change", "keeps", "(LReferenceMover$Reference;)Z"⟩, Cond.sameMethod "ReferenceMover$Change" "ReferenceMover$Change" "keeps" "(LReferenceMover$Reference;)Z", Cond.selects RX2 ⟨"ReferenceMover$Change", "keeps", "(LReferenceMover$Reference;)Z"⟩ yX2_keeps, Cond.instanceMethod yX2_keeps, Cond.initialized RX2, Cond.code yX2_keeps cX2_keeps 2 (some .boolean), Cond.fieldLink RX2 18 "ReferenceMover$Reference" "whole" "I", Cond.fieldLink RX2 27 "ReferenceMover$Reference" "rows" "LReferenceMover$Span;", Cond.fieldLink RX2 9 "ReferenceMover$Copying" "down" "I", Cond.fieldLink RX2 37 "ReferenceMover$Reference" "columns" "LReferenceMover$Span;", Cond.fieldLink RX2 15 "ReferenceMover$Copying" "along" "I", Cond.methodLink RX2 31 yX8_shiftLoose, Cond.instanceMethod yX8_shiftLoose, Cond.selects RX8 yX8_shiftLoose yX8_shiftLoose, Cond.code yX8_shiftLoose cX8_shiftLoose 2 (some .boolean), Cond.fieldLink RX8 7 "ReferenceMover$Span" "lastLine" "I"]
def wsX9_insert_r5 : List Cond := [Cond.methodLink RX8 32 yX8_exchange, Cond.instanceMethod yX8_exchange, Cond.selects RX8 yX8_exchange yX8_exchange, Cond.code yX8_exchange cX8_exchange 3 none, Cond.methodLink RX8 35 yX8_setFirst, Cond.methodLink RX8 39 yX8_setLast, Cond.selects RX4 ⟨"ReferenceMover$Change", "keeps", "(LReferenceMover$Reference;)Z"⟩ yX3_keeps, Cond.instanceMethod yX3_keeps, Cond.code yX3_keeps cX3_keeps 2 (some .boolean), Cond.fieldLink RX3 32 "ReferenceMover$Reference" "columns" "LReferenceMover$Span;", Cond.fieldLink RX3 35 "ReferenceMover$Reference" "rows" "LReferenceMover$Span;", Cond.methodLink RX3 26 yX7_sheetSeenFrom, Cond.instanceMethod yX7_sheetSeenFrom, Cond.selects RX7 yX7_sheetSeenFrom yX7_sheetSeenFrom, Cond.initialized RX7, Cond.code yX7_sheetSeenFrom cX7_sheetSeenFrom 2 (some .int), Cond.fieldLink RX7 24 "ReferenceMover$Reference" "sheet" "I", Cond.methodLink RX3 38 ⟨"ReferenceMover$LineChange", "keepsLines", "(LReferenceMover$Span;)Z"⟩, Cond.sameMethod "ReferenceMover$LineChange" "ReferenceMover$LineChange" "keepsLines" "(LReferenceMover$Span;)Z", Cond.selects RX4 ⟨"ReferenceMover$LineChange", "keepsLines", "(LReferenceMover$Span;)Z"⟩ yX4_keepsLines, Cond.instanceMethod yX4_keepsLines, Cond.code yX4_keepsLines cX4_keepsLines 2 (some .boolean), Cond.fieldLink RX4 7 "ReferenceMover$LinesPutIn" "at" "I", Cond.sameField "ReferenceMover$LinesPutIn" "ReferenceMover$LineChange" "at" "I"]
def wsX9_insert_r6 : List Cond := [Cond.fieldLink RX4 13 "ReferenceMover$LinesPutIn" "n" "I", Cond.sameField "ReferenceMover$LinesPutIn" "ReferenceMover$LineChange" "n" "I", Cond.methodLink RX4 16 yX8_openGap, Cond.instanceMethod yX8_openGap, Cond.selects RX8 yX8_openGap yX8_openGap, Cond.code yX8_openGap cX8_openGap 3 (some .boolean), Cond.methodLink RX8 46 Lib.Math.min.name, Cond.static Lib.Math.min.name, Cond.initialized "java/lang/Math", Cond.code Lib.Math.min.name Lib.Math.min.code 2 (some .int), Cond.static yX9_areAllLines, Cond.code yX9_areAllLines cX9_areAllLines 3 (some .boolean), Cond.selects RX5 ⟨"ReferenceMover$LineChange", "keepsLines", "(LReferenceMover$Span;)Z"⟩ yX5_keepsLines, Cond.instanceMethod yX5_keepsLines, Cond.initialized RX5, Cond.code yX5_keepsLines cX5_keepsLines 2 (some .boolean), Cond.fieldLink RX5 7 "ReferenceMover$LinesTakenOut" "at" "I", Cond.sameField "ReferenceMover$LinesTakenOut" "ReferenceMover$LineChange" "at" "I", Cond.fieldLink RX5 13 "ReferenceMover$LinesTakenOut" "n" "I", Cond.sameField "ReferenceMover$LinesTakenOut" "ReferenceMover$LineChange" "n" "I", Cond.methodLink RX5 16 yX8_closeGap, Cond.instanceMethod yX8_closeGap, Cond.selects RX8 yX8_closeGap yX8_closeGap, Cond.code yX8_closeGap cX8_closeGap 4 (some .boolean)]
def wsX9_insert_r7 : List Cond := [Cond.selects RX5 ⟨"ReferenceMover$Change", "keeps", "(LReferenceMover$Reference;)Z"⟩ yX3_keeps, Cond.selects RX6 ⟨"ReferenceMover$Change", "keeps", "(LReferenceMover$Reference;)Z"⟩ yX6_keeps, Cond.instanceMethod yX6_keeps, Cond.initialized RX6, Cond.code yX6_keeps cX6_keeps 3 (some .boolean), Cond.fieldLink RX6 9 "ReferenceMover$Moving" "home" "I", Cond.fieldLink RX6 18 "ReferenceMover$Moving" "cut" "LReferenceMover$Area;", Cond.fieldLink RX6 37 "ReferenceMover$Reference" "rows" "LReferenceMover$Span;", Cond.fieldLink RX6 22 "ReferenceMover$Moving" "target" "LReferenceMover$Area;", Cond.fieldLink RX6 41 "ReferenceMover$Area" "top" "I", Cond.fieldLink RX6 50 "ReferenceMover$Reference" "columns" "LReferenceMover$Span;", Cond.fieldLink RX6 53 "ReferenceMover$Area" "left" "I", Cond.fieldLink RX6 56 "ReferenceMover$Area" "sheet" "I", Cond.fieldLink RX6 59 "ReferenceMover$Reference" "sheet" "I", Cond.fieldLink RX6 15 "ReferenceMover$Moving" "newHome" "I", Cond.methodLink RX6 25 yX7_sheetSeenFrom, Cond.methodLink RX6 31 yX0_holds, Cond.instanceMethod yX0_holds, Cond.selects RX0 yX0_holds yX0_holds, Cond.initialized RX0, Cond.code yX0_holds cX0_holds 3 (some .boolean), Cond.fieldLink RX0 7 "ReferenceMover$Area" "sheet" "I", Cond.fieldLink RX0 31 "ReferenceMover$Reference" "rows" "LReferenceMover$Span;", Cond.fieldLink RX0 13 "ReferenceMover$Area" "top" "I"]
def wsX9_insert_r8 : List Cond := [Cond.fieldLink RX0 19 "ReferenceMover$Area" "bottom" "I", Cond.fieldLink RX0 41 "ReferenceMover$Reference" "columns" "LReferenceMover$Span;", Cond.fieldLink RX0 16 "ReferenceMover$Area" "left" "I", Cond.fieldLink RX0 22 "ReferenceMover$Area" "right" "I", Cond.methodLink RX0 25 yX7_sheetSeenFrom, Cond.methodLink RX0 35 yX8_isWithin, Cond.instanceMethod yX8_isWithin, Cond.selects RX8 yX8_isWithin yX8_isWithin, Cond.code yX8_isWithin cX8_isWithin 3 (some .boolean), Cond.methodLink RX6 44 yX8_shift, Cond.instanceMethod yX8_shift, Cond.selects RX8 yX8_shift yX8_shift, Cond.code yX8_shift cX8_shift 2 none, Cond.methodLink RX9 141 yX9_store, Cond.instanceMethod yX9_store, Cond.selects RX9 yX9_store yX9_store, Cond.code yX9_store cX9_store 7 (some .boolean), Cond.methodLink RX9 170 yX7_wordAt, Cond.instanceMethod yX7_wordAt, Cond.selects RX7 yX7_wordAt yX7_wordAt, Cond.code yX7_wordAt cX7_wordAt 2 (some .int), Cond.fieldLink RX7 28 "ReferenceMover$Reference" "isRange" "Z", Cond.fieldLink RX7 15 "ReferenceMover$Reference" "rows" "LReferenceMover$Span;", Cond.fieldLink RX7 39 "ReferenceMover$Span" "first" "I"]
def wsX9_insert_r9 : List Cond := [Cond.fieldLink RX7 21 "ReferenceMover$Reference" "columns" "LReferenceMover$Span;", Cond.fieldLink RX7 42 "ReferenceMover$Span" "last" "I", Cond.methodLink RX7 32 yX7_rangeMarks, Cond.instanceMethod yX7_rangeMarks, Cond.selects RX7 yX7_rangeMarks yX7_rangeMarks, Cond.code yX7_rangeMarks cX7_rangeMarks 2 (some .int), Cond.fieldLink RX7 52 "ReferenceMover$Span" "lastFixed" "Z", Cond.fieldLink RX7 55 "ReferenceMover$Reference" "whole" "I", Cond.methodLink RX7 48 yX7_cornerMarks, Cond.static yX7_cornerMarks, Cond.code yX7_cornerMarks cX7_cornerMarks 2 (some .int), Cond.methodLink RX7 36 yX7_firstMarks, Cond.instanceMethod yX7_firstMarks, Cond.selects RX7 yX7_firstMarks yX7_firstMarks, Cond.code yX7_firstMarks cX7_firstMarks 1 (some .int), Cond.fieldLink RX7 45 "ReferenceMover$Span" "firstFixed" "Z"]
def wsX9_delete_r1 : List Cond := [Cond.classLink RX9 89 RX5, Cond.instantiable RX5 5, Cond.initialized RX5, Cond.methodLink RX9 81 yX9_checkLines, Cond.static yX9_checkLines, Cond.initialized RX9, Cond.code yX9_checkLines cX9_checkLines 5 none, Cond.classLink RX9 63 "java/lang/IllegalArgumentException", Cond.initialized "java/lang/IllegalArgumentException", Cond.constant RX9 48 (1048576), Cond.methodLink RX9 92 yX9_isSheet, Cond.static yX9_isSheet, Cond.code yX9_isSheet cX9_isSheet 1 (some .boolean), Cond.methodLink RX9 49 yX9_isLine, Cond.static yX9_isLine, Cond.code yX9_isLine cX9_isLine 2 (some .boolean), Cond.methodLink RX9 91 yX5_init, Cond.instanceMethod yX5_init, Cond.code yX5_init cX5_init 6 none, Cond.methodLink RX5 1 yX3_init, Cond.instanceMethod yX3_init, Cond.initialized RX3, Cond.code yX3_init cX3_init 6 none, Cond.fieldLink RX3 7 "ReferenceMover$LineChange" "home" "I"]
def wsX9_delete_r2 : List Cond := [Cond.fieldLink RX3 13 "ReferenceMover$LineChange" "sheet" "I", Cond.fieldLink RX3 16 "ReferenceMover$LineChange" "columns" "Z", Cond.fieldLink RX3 20 "ReferenceMover$LineChange" "at" "I", Cond.fieldLink RX3 23 "ReferenceMover$LineChange" "n" "I", Cond.instanceMethod yX1_init, Cond.initialized RX1, Cond.code yX1_init cX1_init 1 none, Cond.methodLink RX1 1 objectInit, Cond.instanceMethod objectInit, Cond.code objectInit ⟨#[0xb1]⟩ 1 none, Cond.methodLink RX9 77 yX9_changeReferences, Cond.instanceMethod yX9_changeReferences, Cond.selects RX9 yX9_changeReferences yX9_changeReferences, Cond.code yX9_changeReferences cX9_changeReferences 6 (some .int), Cond.fieldLink RX9 13 "ReferenceMover" "size" "I", Cond.fieldLink RX9 29 "ReferenceMover" "reference" "LReferenceMover$Reference;", Cond.methodLink RX9 125 yX9_word, Cond.instanceMethod yX9_word, Cond.selects RX9 yX9_word yX9_word, Cond.code yX9_word cX9_word 2 (some .int), Cond.fieldLink RX9 9 "ReferenceMover" "code" "[I", Cond.methodLink RX9 129 yX9_itemLength, Cond.static yX9_itemLength, Cond.code yX9_itemLength cX9_itemLength 1 (some .int)]
def wsX9_delete_r3 : List Cond := [Cond.methodLink RX9 33 yX9_isOfKind, Cond.static yX9_isOfKind, Cond.code yX9_isOfKind cX9_isOfKind 2 (some .boolean), Cond.methodLink RX9 122 yX9_put, Cond.instanceMethod yX9_put, Cond.selects RX9 yX9_put yX9_put, Cond.code yX9_put cX9_put 3 none, Cond.methodLink RX9 132 yX9_load, Cond.instanceMethod yX9_load, Cond.selects RX9 yX9_load yX9_load, Cond.code yX9_load cX9_load 6 none, Cond.fieldLink RX9 144 "ReferenceMover$Reference" "isRange" "Z", Cond.fieldLink RX9 148 "ReferenceMover$Reference" "whole" "I", Cond.fieldLink RX9 151 "ReferenceMover$Reference" "sheet" "I", Cond.fieldLink RX9 154 "ReferenceMover$Reference" "rows" "LReferenceMover$Span;", Cond.fieldLink RX9 164 "ReferenceMover$Reference" "columns" "LReferenceMover$Span;", Cond.methodLink RX9 56 yX9_has, Cond.static yX9_has, Cond.code yX9_has cX9_has 2 (some .boolean), Cond.methodLink RX9 158 yX8_setFirst, Cond.instanceMethod yX8_setFirst, Cond.selects RX8 yX8_setFirst yX8_setFirst, Cond.initialized RX8, Cond.code yX8_setFirst cX8_setFirst 3 none]
def wsX9_delete_r4 : List Cond := [Cond.fieldLink RX8 13 "ReferenceMover$Span" "first" "I", Cond.fieldLink RX8 16 "ReferenceMover$Span" "firstFixed" "Z", Cond.methodLink RX9 167 yX8_setLast, Cond.instanceMethod yX8_setLast, Cond.selects RX8 yX8_setLast yX8_setLast, Cond.code yX8_setLast cX8_setLast 3 none, Cond.fieldLink RX8 20 "ReferenceMover$Span" "last" "I", Cond.fieldLink RX8 23 "ReferenceMover$Span" "lastFixed" "Z", Cond.methodLink RX9 135 ⟨"ReferenceMover$Change", "keeps", "(LReferenceMover$Reference;)Z"⟩, Cond.sameMethod "ReferenceMover$Change" "ReferenceMover$Change" "keeps" "(LReferenceMover$Reference;)Z", Cond.selects RX2 ⟨"ReferenceMover$Change", "keeps", "(LReferenceMover$Reference;)Z"⟩ yX2_keeps, Cond.instanceMethod yX2_keeps, Cond.initialized RX2, Cond.code yX2_keeps cX2_keeps 2 (some .boolean), Cond.fieldLink RX2 18 "ReferenceMover$Reference" "whole" "I", Cond.fieldLink RX2 27 "ReferenceMover$Reference" "rows" "LReferenceMover$Span;", Cond.fieldLink RX2 9 "ReferenceMover$Copying" "down" "I", Cond.fieldLink RX2 37 "ReferenceMover$Reference" "columns" "LReferenceMover$Span;", Cond.fieldLink RX2 15 "ReferenceMover$Copying" "along" "I", Cond.methodLink RX2 31 yX8_shiftLoose, Cond.instanceMethod yX8_shiftLoose, Cond.selects RX8 yX8_shiftLoose yX8_shiftLoose, Cond.code yX8_shiftLoose cX8_shiftLoose 2 (some .boolean), Cond.fieldLink RX8 7 "ReferenceMover$Span" "lastLine" "I"]
def wsX9_delete_r5 : List Cond := [Cond.methodLink RX8 32 yX8_exchange, Cond.instanceMethod yX8_exchange, Cond.selects RX8 yX8_exchange yX8_exchange, Cond.code yX8_exchange cX8_exchange 3 none, Cond.methodLink RX8 35 yX8_setFirst, Cond.methodLink RX8 39 yX8_setLast, Cond.selects RX4 ⟨"ReferenceMover$Change", "keeps", "(LReferenceMover$Reference;)Z"⟩ yX3_keeps, Cond.instanceMethod yX3_keeps, Cond.code yX3_keeps cX3_keeps 2 (some .boolean), Cond.fieldLink RX3 32 "ReferenceMover$Reference" "columns" "LReferenceMover$Span;", Cond.fieldLink RX3 35 "ReferenceMover$Reference" "rows" "LReferenceMover$Span;", Cond.methodLink RX3 26 yX7_sheetSeenFrom, Cond.instanceMethod yX7_sheetSeenFrom, Cond.selects RX7 yX7_sheetSeenFrom yX7_sheetSeenFrom, Cond.initialized RX7, Cond.code yX7_sheetSeenFrom cX7_sheetSeenFrom 2 (some .int), Cond.fieldLink RX7 24 "ReferenceMover$Reference" "sheet" "I", Cond.methodLink RX3 38 ⟨"ReferenceMover$LineChange", "keepsLines", "(LReferenceMover$Span;)Z"⟩, Cond.sameMethod "ReferenceMover$LineChange" "ReferenceMover$LineChange" "keepsLines" "(LReferenceMover$Span;)Z", Cond.selects RX4 ⟨"ReferenceMover$LineChange", "keepsLines", "(LReferenceMover$Span;)Z"⟩ yX4_keepsLines, Cond.instanceMethod yX4_keepsLines, Cond.initialized RX4, Cond.code yX4_keepsLines cX4_keepsLines 2 (some .boolean), Cond.fieldLink RX4 7 "ReferenceMover$LinesPutIn" "at" "I"]
def wsX9_delete_r6 : List Cond := [Cond.sameField "ReferenceMover$LinesPutIn" "ReferenceMover$LineChange" "at" "I", Cond.fieldLink RX4 13 "ReferenceMover$LinesPutIn" "n" "I", Cond.sameField "ReferenceMover$LinesPutIn" "ReferenceMover$LineChange" "n" "I", Cond.methodLink RX4 16 yX8_openGap, Cond.instanceMethod yX8_openGap, Cond.selects RX8 yX8_openGap yX8_openGap, Cond.code yX8_openGap cX8_openGap 3 (some .boolean), Cond.methodLink RX8 46 Lib.Math.min.name, Cond.static Lib.Math.min.name, Cond.initialized "java/lang/Math", Cond.code Lib.Math.min.name Lib.Math.min.code 2 (some .int), Cond.static yX9_areAllLines, Cond.code yX9_areAllLines cX9_areAllLines 3 (some .boolean), Cond.selects RX5 ⟨"ReferenceMover$LineChange", "keepsLines", "(LReferenceMover$Span;)Z"⟩ yX5_keepsLines, Cond.instanceMethod yX5_keepsLines, Cond.code yX5_keepsLines cX5_keepsLines 2 (some .boolean), Cond.fieldLink RX5 7 "ReferenceMover$LinesTakenOut" "at" "I", Cond.sameField "ReferenceMover$LinesTakenOut" "ReferenceMover$LineChange" "at" "I", Cond.fieldLink RX5 13 "ReferenceMover$LinesTakenOut" "n" "I", Cond.sameField "ReferenceMover$LinesTakenOut" "ReferenceMover$LineChange" "n" "I", Cond.methodLink RX5 16 yX8_closeGap, Cond.instanceMethod yX8_closeGap, Cond.selects RX8 yX8_closeGap yX8_closeGap, Cond.code yX8_closeGap cX8_closeGap 4 (some .boolean)]
def wsX9_delete_r7 : List Cond := [Cond.selects RX5 ⟨"ReferenceMover$Change", "keeps", "(LReferenceMover$Reference;)Z"⟩ yX3_keeps, Cond.selects RX6 ⟨"ReferenceMover$Change", "keeps", "(LReferenceMover$Reference;)Z"⟩ yX6_keeps, Cond.instanceMethod yX6_keeps, Cond.initialized RX6, Cond.code yX6_keeps cX6_keeps 3 (some .boolean), Cond.fieldLink RX6 9 "ReferenceMover$Moving" "home" "I", Cond.fieldLink RX6 18 "ReferenceMover$Moving" "cut" "LReferenceMover$Area;", Cond.fieldLink RX6 37 "ReferenceMover$Reference" "rows" "LReferenceMover$Span;", Cond.fieldLink RX6 22 "ReferenceMover$Moving" "target" "LReferenceMover$Area;", Cond.fieldLink RX6 41 "ReferenceMover$Area" "top" "I", Cond.fieldLink RX6 50 "ReferenceMover$Reference" "columns" "LReferenceMover$Span;", Cond.fieldLink RX6 53 "ReferenceMover$Area" "left" "I", Cond.fieldLink RX6 56 "ReferenceMover$Area" "sheet" "I", Cond.fieldLink RX6 59 "ReferenceMover$Reference" "sheet" "I", Cond.fieldLink RX6 15 "ReferenceMover$Moving" "newHome" "I", Cond.methodLink RX6 25 yX7_sheetSeenFrom, Cond.methodLink RX6 31 yX0_holds, Cond.instanceMethod yX0_holds, Cond.selects RX0 yX0_holds yX0_holds, Cond.initialized RX0, Cond.code yX0_holds cX0_holds 3 (some .boolean), Cond.fieldLink RX0 7 "ReferenceMover$Area" "sheet" "I", Cond.fieldLink RX0 31 "ReferenceMover$Reference" "rows" "LReferenceMover$Span;", Cond.fieldLink RX0 13 "ReferenceMover$Area" "top" "I"]
def wsX9_delete_r8 : List Cond := [Cond.fieldLink RX0 19 "ReferenceMover$Area" "bottom" "I", Cond.fieldLink RX0 41 "ReferenceMover$Reference" "columns" "LReferenceMover$Span;", Cond.fieldLink RX0 16 "ReferenceMover$Area" "left" "I", Cond.fieldLink RX0 22 "ReferenceMover$Area" "right" "I", Cond.methodLink RX0 25 yX7_sheetSeenFrom, Cond.methodLink RX0 35 yX8_isWithin, Cond.instanceMethod yX8_isWithin, Cond.selects RX8 yX8_isWithin yX8_isWithin, Cond.code yX8_isWithin cX8_isWithin 3 (some .boolean), Cond.methodLink RX6 44 yX8_shift, Cond.instanceMethod yX8_shift, Cond.selects RX8 yX8_shift yX8_shift, Cond.code yX8_shift cX8_shift 2 none, Cond.methodLink RX9 141 yX9_store, Cond.instanceMethod yX9_store, Cond.selects RX9 yX9_store yX9_store, Cond.code yX9_store cX9_store 7 (some .boolean), Cond.methodLink RX9 170 yX7_wordAt, Cond.instanceMethod yX7_wordAt, Cond.selects RX7 yX7_wordAt yX7_wordAt, Cond.code yX7_wordAt cX7_wordAt 2 (some .int), Cond.fieldLink RX7 28 "ReferenceMover$Reference" "isRange" "Z", Cond.fieldLink RX7 15 "ReferenceMover$Reference" "rows" "LReferenceMover$Span;", Cond.fieldLink RX7 39 "ReferenceMover$Span" "first" "I"]
def wsX9_delete_r9 : List Cond := [Cond.fieldLink RX7 21 "ReferenceMover$Reference" "columns" "LReferenceMover$Span;", Cond.fieldLink RX7 42 "ReferenceMover$Span" "last" "I", Cond.methodLink RX7 32 yX7_rangeMarks, Cond.instanceMethod yX7_rangeMarks, Cond.selects RX7 yX7_rangeMarks yX7_rangeMarks, Cond.code yX7_rangeMarks cX7_rangeMarks 2 (some .int), Cond.fieldLink RX7 52 "ReferenceMover$Span" "lastFixed" "Z", Cond.fieldLink RX7 55 "ReferenceMover$Reference" "whole" "I", Cond.methodLink RX7 48 yX7_cornerMarks, Cond.static yX7_cornerMarks, Cond.code yX7_cornerMarks cX7_cornerMarks 2 (some .int), Cond.methodLink RX7 36 yX7_firstMarks, Cond.instanceMethod yX7_firstMarks, Cond.selects RX7 yX7_firstMarks yX7_firstMarks, Cond.code yX7_firstMarks cX7_firstMarks 1 (some .int), Cond.fieldLink RX7 45 "ReferenceMover$Span" "firstFixed" "Z"]
def wsX9_rectangle : List Cond := .code yX9_rectangle cX9_rectangle 6 (some .boolean) :: ([.constant RX9 48 (1048576), .classLink RX9 17 RX0, .instantiable RX0 5, .initialized RX0, .fieldLink RX9 22 "ReferenceMover" "cut" "LReferenceMover$Area;", .methodLink RX9 92 yX9_isSheet, .static yX9_isSheet, .initialized RX9, .code yX9_isSheet cX9_isSheet 1 (some .boolean), .methodLink RX9 52 yX9_areLines, .static yX9_areLines, .code yX9_areLines cX9_areLines 3 (some .boolean), .methodLink RX9 19 yX0_init, .instanceMethod yX0_init, .code yX0_init cX0_init 6 none, .methodLink RX0 1 objectInit, .instanceMethod objectInit, .code objectInit ⟨#[0xb1]⟩ 1 none, .fieldLink RX0 7 "ReferenceMover$Area" "sheet" "I", .fieldLink RX0 13 "ReferenceMover$Area" "top" "I", .fieldLink RX0 16 "ReferenceMover$Area" "left" "I", .fieldLink RX0 19 "ReferenceMover$Area" "bottom" "I", .fieldLink RX0 22 "ReferenceMover$Area" "right" "I"] ++ wsX00 ++ wsX90)
def wsX9_move_r1 : List Cond := [Cond.classLink RX9 63 "java/lang/IllegalArgumentException", Cond.initialized "java/lang/IllegalArgumentException", Cond.constant RX9 48 (1048576), Cond.fieldLink RX9 22 "ReferenceMover" "cut" "LReferenceMover$Area;", Cond.fieldLink RX9 99 "ReferenceMover$Area" "bottom" "I", Cond.fieldLink RX9 102 "ReferenceMover$Area" "top" "I", Cond.fieldLink RX9 105 "ReferenceMover$Area" "right" "I", Cond.fieldLink RX9 108 "ReferenceMover$Area" "left" "I", Cond.classLink RX9 17 RX0, Cond.instantiable RX0 5, Cond.initialized RX0, Cond.classLink RX9 113 RX6, Cond.instantiable RX6 4, Cond.initialized RX6, Cond.methodLink RX9 92 yX9_isSheet, Cond.static yX9_isSheet, Cond.initialized RX9, Cond.code yX9_isSheet cX9_isSheet 1 (some .boolean), Cond.methodLink RX9 49 yX9_isLine, Cond.static yX9_isLine, Cond.code yX9_isLine cX9_isLine 2 (some .boolean), Cond.methodLink RX9 19 yX0_init, Cond.instanceMethod yX0_init, Cond.code yX0_init cX0_init 6 none]
def wsX9_move_r2 : List Cond := [Cond.methodLink RX0 1 objectInit, Cond.instanceMethod objectInit, Cond.code objectInit ⟨#[0xb1]⟩ 1 none, Cond.fieldLink RX0 7 "ReferenceMover$Area" "sheet" "I", Cond.fieldLink RX0 13 "ReferenceMover$Area" "top" "I", Cond.fieldLink RX0 16 "ReferenceMover$Area" "left" "I", Cond.fieldLink RX0 19 "ReferenceMover$Area" "bottom" "I", Cond.fieldLink RX0 22 "ReferenceMover$Area" "right" "I", Cond.methodLink RX9 115 yX6_init, Cond.instanceMethod yX6_init, Cond.code yX6_init cX6_init 5 none, Cond.fieldLink RX6 9 "ReferenceMover$Moving" "home" "I", Cond.fieldLink RX6 15 "ReferenceMover$Moving" "newHome" "I", Cond.fieldLink RX6 18 "ReferenceMover$Moving" "cut" "LReferenceMover$Area;", Cond.fieldLink RX6 22 "ReferenceMover$Moving" "target" "LReferenceMover$Area;", Cond.instanceMethod yX1_init, Cond.initialized RX1, Cond.code yX1_init cX1_init 1 none, Cond.methodLink RX1 1 objectInit, Cond.methodLink RX9 77 yX9_changeReferences, Cond.instanceMethod yX9_changeReferences, Cond.selects RX9 yX9_changeReferences yX9_changeReferences, Cond.code yX9_changeReferences cX9_changeReferences 6 (some .int), Cond.fieldLink RX9 13 "ReferenceMover" "size" "I"]
def wsX9_move_r3 : List Cond := [Cond.fieldLink RX9 29 "ReferenceMover" "reference" "LReferenceMover$Reference;", Cond.methodLink RX9 125 yX9_word, Cond.instanceMethod yX9_word, Cond.selects RX9 yX9_word yX9_word, Cond.code yX9_word cX9_word 2 (some .int), Cond.fieldLink RX9 9 "ReferenceMover" "code" "[I", Cond.methodLink RX9 129 yX9_itemLength, Cond.static yX9_itemLength, Cond.code yX9_itemLength cX9_itemLength 1 (some .int), Cond.methodLink RX9 33 yX9_isOfKind, Cond.static yX9_isOfKind, Cond.code yX9_isOfKind cX9_isOfKind 2 (some .boolean), Cond.methodLink RX9 122 yX9_put, Cond.instanceMethod yX9_put, Cond.selects RX9 yX9_put yX9_put, Cond.code yX9_put cX9_put 3 none, Cond.methodLink RX9 132 yX9_load, Cond.instanceMethod yX9_load, Cond.selects RX9 yX9_load yX9_load, Cond.code yX9_load cX9_load 6 none, Cond.fieldLink RX9 144 "ReferenceMover$Reference" "isRange" "Z", Cond.fieldLink RX9 148 "ReferenceMover$Reference" "whole" "I", Cond.fieldLink RX9 151 "ReferenceMover$Reference" "sheet" "I", Cond.fieldLink RX9 154 "ReferenceMover$Reference" "rows" "LReferenceMover$Span;"]
def wsX9_move_r4 : List Cond := [Cond.fieldLink RX9 164 "ReferenceMover$Reference" "columns" "LReferenceMover$Span;", Cond.methodLink RX9 56 yX9_has, Cond.static yX9_has, Cond.code yX9_has cX9_has 2 (some .boolean), Cond.methodLink RX9 158 yX8_setFirst, Cond.instanceMethod yX8_setFirst, Cond.selects RX8 yX8_setFirst yX8_setFirst, Cond.initialized RX8, Cond.code yX8_setFirst cX8_setFirst 3 none, Cond.fieldLink RX8 13 "ReferenceMover$Span" "first" "I", Cond.fieldLink RX8 16 "ReferenceMover$Span" "firstFixed" "Z", Cond.methodLink RX9 167 yX8_setLast, Cond.instanceMethod yX8_setLast, Cond.selects RX8 yX8_setLast yX8_setLast, Cond.code yX8_setLast cX8_setLast 3 none, Cond.fieldLink RX8 20 "ReferenceMover$Span" "last" "I", Cond.fieldLink RX8 23 "ReferenceMover$Span" "lastFixed" "Z", Cond.methodLink RX9 135 ⟨"ReferenceMover$Change", "keeps", "(LReferenceMover$Reference;)Z"⟩, Cond.sameMethod "ReferenceMover$Change" "ReferenceMover$Change" "keeps" "(LReferenceMover$Reference;)Z", Cond.selects RX2 ⟨"ReferenceMover$Change", "keeps", "(LReferenceMover$Reference;)Z"⟩ yX2_keeps, Cond.instanceMethod yX2_keeps, Cond.initialized RX2, Cond.code yX2_keeps cX2_keeps 2 (some .boolean), Cond.fieldLink RX2 18 "ReferenceMover$Reference" "whole" "I"]
def wsX9_move_r5 : List Cond := [Cond.fieldLink RX2 27 "ReferenceMover$Reference" "rows" "LReferenceMover$Span;", Cond.fieldLink RX2 9 "ReferenceMover$Copying" "down" "I", Cond.fieldLink RX2 37 "ReferenceMover$Reference" "columns" "LReferenceMover$Span;", Cond.fieldLink RX2 15 "ReferenceMover$Copying" "along" "I", Cond.methodLink RX2 31 yX8_shiftLoose, Cond.instanceMethod yX8_shiftLoose, Cond.selects RX8 yX8_shiftLoose yX8_shiftLoose, Cond.code yX8_shiftLoose cX8_shiftLoose 2 (some .boolean), Cond.fieldLink RX8 7 "ReferenceMover$Span" "lastLine" "I", Cond.methodLink RX8 32 yX8_exchange, Cond.instanceMethod yX8_exchange, Cond.selects RX8 yX8_exchange yX8_exchange, Cond.code yX8_exchange cX8_exchange 3 none, Cond.methodLink RX8 35 yX8_setFirst, Cond.methodLink RX8 39 yX8_setLast, Cond.selects RX4 ⟨"ReferenceMover$Change", "keeps", "(LReferenceMover$Reference;)Z"⟩ yX3_keeps, Cond.instanceMethod yX3_keeps, Cond.initialized RX3, Cond.code yX3_keeps cX3_keeps 2 (some .boolean), Cond.fieldLink RX3 7 "ReferenceMover$LineChange" "home" "I", Cond.fieldLink RX3 13 "ReferenceMover$LineChange" "sheet" "I", Cond.fieldLink RX3 16 "ReferenceMover$LineChange" "columns" "Z", Cond.fieldLink RX3 32 "ReferenceMover$Reference" "columns" "LReferenceMover$Span;", Cond.fieldLink RX3 35 "ReferenceMover$Reference" "rows" "LReferenceMover$Span;"]
def wsX9_move_r6 : List Cond := [Cond.methodLink RX3 26 yX7_sheetSeenFrom, Cond.instanceMethod yX7_sheetSeenFrom, Cond.selects RX7 yX7_sheetSeenFrom yX7_sheetSeenFrom, Cond.initialized RX7, Cond.code yX7_sheetSeenFrom cX7_sheetSeenFrom 2 (some .int), Cond.fieldLink RX7 24 "ReferenceMover$Reference" "sheet" "I", Cond.methodLink RX3 38 ⟨"ReferenceMover$LineChange", "keepsLines", "(LReferenceMover$Span;)Z"⟩, Cond.sameMethod "ReferenceMover$LineChange" "ReferenceMover$LineChange" "keepsLines" "(LReferenceMover$Span;)Z", Cond.selects RX4 ⟨"ReferenceMover$LineChange", "keepsLines", "(LReferenceMover$Span;)Z"⟩ yX4_keepsLines, Cond.instanceMethod yX4_keepsLines, Cond.initialized RX4, Cond.code yX4_keepsLines cX4_keepsLines 2 (some .boolean), Cond.fieldLink RX4 7 "ReferenceMover$LinesPutIn" "at" "I", Cond.sameField "ReferenceMover$LinesPutIn" "ReferenceMover$LineChange" "at" "I", Cond.fieldLink RX4 13 "ReferenceMover$LinesPutIn" "n" "I", Cond.sameField "ReferenceMover$LinesPutIn" "ReferenceMover$LineChange" "n" "I", Cond.methodLink RX4 16 yX8_openGap, Cond.instanceMethod yX8_openGap, Cond.selects RX8 yX8_openGap yX8_openGap, Cond.code yX8_openGap cX8_openGap 3 (some .boolean), Cond.methodLink RX8 46 Lib.Math.min.name, Cond.static Lib.Math.min.name, Cond.initialized "java/lang/Math", Cond.code Lib.Math.min.name Lib.Math.min.code 2 (some .int)]
def wsX9_move_r7 : List Cond := [Cond.static yX9_areAllLines, Cond.code yX9_areAllLines cX9_areAllLines 3 (some .boolean), Cond.selects RX5 ⟨"ReferenceMover$LineChange", "keepsLines", "(LReferenceMover$Span;)Z"⟩ yX5_keepsLines, Cond.instanceMethod yX5_keepsLines, Cond.initialized RX5, Cond.code yX5_keepsLines cX5_keepsLines 2 (some .boolean), Cond.fieldLink RX5 7 "ReferenceMover$LinesTakenOut" "at" "I", Cond.sameField "ReferenceMover$LinesTakenOut" "ReferenceMover$LineChange" "at" "I", Cond.fieldLink RX5 13 "ReferenceMover$LinesTakenOut" "n" "I", Cond.sameField "ReferenceMover$LinesTakenOut" "ReferenceMover$LineChange" "n" "I", Cond.methodLink RX5 16 yX8_closeGap, Cond.instanceMethod yX8_closeGap, Cond.selects RX8 yX8_closeGap yX8_closeGap, Cond.code yX8_closeGap cX8_closeGap 4 (some .boolean), Cond.selects RX5 ⟨"ReferenceMover$Change", "keeps", "(LReferenceMover$Reference;)Z"⟩ yX3_keeps, Cond.selects RX6 ⟨"ReferenceMover$Change", "keeps", "(LReferenceMover$Reference;)Z"⟩ yX6_keeps, Cond.instanceMethod yX6_keeps, Cond.code yX6_keeps cX6_keeps 3 (some .boolean), Cond.fieldLink RX6 37 "ReferenceMover$Reference" "rows" "LReferenceMover$Span;", Cond.fieldLink RX6 41 "ReferenceMover$Area" "top" "I", Cond.fieldLink RX6 50 "ReferenceMover$Reference" "columns" "LReferenceMover$Span;", Cond.fieldLink RX6 53 "ReferenceMover$Area" "left" "I", Cond.fieldLink RX6 56 "ReferenceMover$Area" "sheet" "I", Cond.fieldLink RX6 59 "ReferenceMover$Reference" "sheet" "I"]
def wsX9_move_r8 : List Cond := [Cond.methodLink RX6 25 yX7_sheetSeenFrom, Cond.methodLink RX6 31 yX0_holds, Cond.instanceMethod yX0_holds, Cond.selects RX0 yX0_holds yX0_holds, Cond.code yX0_holds cX0_holds 3 (some .boolean), Cond.fieldLink RX0 31 "ReferenceMover$Reference" "rows" "LReferenceMover$Span;", Cond.fieldLink RX0 41 "ReferenceMover$Reference" "columns" "LReferenceMover$Span;", Cond.methodLink RX0 25 yX7_sheetSeenFrom, Cond.methodLink RX0 35 yX8_isWithin, Cond.instanceMethod yX8_isWithin, Cond.selects RX8 yX8_isWithin yX8_isWithin, Cond.code yX8_isWithin cX8_isWithin 3 (some .boolean), Cond.methodLink RX6 44 yX8_shift, Cond.instanceMethod yX8_shift, Cond.selects RX8 yX8_shift yX8_shift, Cond.code yX8_shift cX8_shift 2 none, Cond.methodLink RX9 141 yX9_store, Cond.instanceMethod yX9_store, Cond.selects RX9 yX9_store yX9_store, Cond.code yX9_store cX9_store 7 (some .boolean), Cond.methodLink RX9 170 yX7_wordAt, Cond.instanceMethod yX7_wordAt, Cond.selects RX7 yX7_wordAt yX7_wordAt, Cond.code yX7_wordAt cX7_wordAt 2 (some .int)]
def wsX9_move_r9 : List Cond := [Cond.fieldLink RX7 28 "ReferenceMover$Reference" "isRange" "Z", Cond.fieldLink RX7 15 "ReferenceMover$Reference" "rows" "LReferenceMover$Span;", Cond.fieldLink RX7 39 "ReferenceMover$Span" "first" "I", Cond.fieldLink RX7 21 "ReferenceMover$Reference" "columns" "LReferenceMover$Span;", Cond.fieldLink RX7 42 "ReferenceMover$Span" "last" "I", Cond.methodLink RX7 32 yX7_rangeMarks, Cond.instanceMethod yX7_rangeMarks, Cond.selects RX7 yX7_rangeMarks yX7_rangeMarks, Cond.code yX7_rangeMarks cX7_rangeMarks 2 (some .int), Cond.fieldLink RX7 52 "ReferenceMover$Span" "lastFixed" "Z", Cond.fieldLink RX7 55 "ReferenceMover$Reference" "whole" "I", Cond.methodLink RX7 48 yX7_cornerMarks, Cond.static yX7_cornerMarks, Cond.code yX7_cornerMarks cX7_cornerMarks 2 (some .int), Cond.methodLink RX7 36 yX7_firstMarks, Cond.instanceMethod yX7_firstMarks, Cond.selects RX7 yX7_firstMarks yX7_firstMarks, Cond.code yX7_firstMarks cX7_firstMarks 1 (some .int), Cond.fieldLink RX7 45 "ReferenceMover$Span" "firstFixed" "Z"]
def wsX10_init : List Cond := .code yX10_init cX10_init 1 none :: ([.methodLink RX10 1 objectInit, .instanceMethod objectInit, .code objectInit ⟨#[0xb1]⟩ 1 none, .arrayClass .int, .fieldLink RX10 7 "ReferenceMoverModel" "words" "[I", .fieldLink RX10 13 "ReferenceMoverModel" "making" "[I", .fieldLink RX10 16 "ReferenceMoverModel" "top" "I", .fieldLink RX10 20 "ReferenceMoverModel" "left" "I", .fieldLink RX10 23 "ReferenceMoverModel" "bottom" "I", .fieldLink RX10 26 "ReferenceMoverModel" "right" "I"] ++ wsX100)
def wsX10_thrown : List Cond := .code yX10_thrown cX10_thrown 1 (some .int) :: ([.fieldLink RX10 29 "ReferenceMoverModel" "code" "I"] ++ wsX100)
def wsX10_within : List Cond := .code yX10_within cX10_within 3 (some .boolean) :: ([])
def wsX10_clear : List Cond := .code yX10_clear cX10_clear 1 none :: ([.fieldLink RX10 29 "ReferenceMoverModel" "code" "I", .fieldLink RX10 32 "ReferenceMoverModel" "size" "I"] ++ wsX100)
def wsX10_put : List Cond := .code yX10_put cX10_put 2 none :: ([.fieldLink RX10 7 "ReferenceMoverModel" "words" "[I", .fieldLink RX10 32 "ReferenceMoverModel" "size" "I"] ++ wsX100)
def wsX10_other : List Cond := .code yX10_other cX10_other 2 (some .boolean) :: ([.fieldLink RX10 29 "ReferenceMoverModel" "code" "I", .fieldLink RX10 32 "ReferenceMoverModel" "size" "I", .methodLink RX10 35 yX10_put, .instanceMethod yX10_put, .selects RX10 yX10_put yX10_put, .initialized RX10, .code yX10_put cX10_put 2 none, .fieldLink RX10 7 "ReferenceMoverModel" "words" "[I"] ++ wsX100)
def wsX10_isCell : List Cond := .code yX10_isCell cX10_isCell 2 (some .boolean) :: ([.constant RX10 39 (1048576), .methodLink RX10 40 yX10_within, .static yX10_within, .initialized RX10, .code yX10_within cX10_within 3 (some .boolean)])
def wsX10_place : List Cond := .code yX10_place cX10_place 5 (some .boolean) :: ([.fieldLink RX10 29 "ReferenceMoverModel" "code" "I", .fieldLink RX10 32 "ReferenceMoverModel" "size" "I", .methodLink RX10 40 yX10_within, .static yX10_within, .initialized RX10, .code yX10_within cX10_within 3 (some .boolean), .methodLink RX10 44 yX10_isCell, .static yX10_isCell, .code yX10_isCell cX10_isCell 2 (some .boolean), .constant RX10 39 (1048576), .methodLink RX10 35 yX10_put, .instanceMethod yX10_put, .selects RX10 yX10_put yX10_put, .code yX10_put cX10_put 2 none, .fieldLink RX10 7 "ReferenceMoverModel" "words" "[I"] ++ wsX100)
def wsX10_range : List Cond := .code yX10_range cX10_range 9 (some .boolean) :: ([.fieldLink RX10 29 "ReferenceMoverModel" "code" "I", .constant RX10 39 (1048576), .fieldLink RX10 32 "ReferenceMoverModel" "size" "I", .methodLink RX10 40 yX10_within, .static yX10_within, .initialized RX10, .code yX10_within cX10_within 3 (some .boolean), .methodLink RX10 44 yX10_isCell, .static yX10_isCell, .code yX10_isCell cX10_isCell 2 (some .boolean), .methodLink RX10 35 yX10_put, .instanceMethod yX10_put, .selects RX10 yX10_put yX10_put, .code yX10_put cX10_put 2 none, .fieldLink RX10 7 "ReferenceMoverModel" "words" "[I"] ++ wsX100)
def wsX10_size : List Cond := .code yX10_size cX10_size 1 (some .int) :: ([.fieldLink RX10 29 "ReferenceMoverModel" "code" "I", .fieldLink RX10 32 "ReferenceMoverModel" "size" "I"] ++ wsX100)
def wsX10_word : List Cond := .code yX10_word cX10_word 2 (some .int) :: ([.fieldLink RX10 29 "ReferenceMoverModel" "code" "I", .fieldLink RX10 32 "ReferenceMoverModel" "size" "I", .fieldLink RX10 7 "ReferenceMoverModel" "words" "[I"] ++ wsX100)
def wsX10_make : List Cond := .code yX10_make cX10_make 2 none :: ([.fieldLink RX10 13 "ReferenceMoverModel" "making" "[I", .fieldLink RX10 48 "ReferenceMoverModel" "made" "I"] ++ wsX100)
def wsX10_lengthAt : List Cond := .code yX10_lengthAt cX10_lengthAt 2 (some .int) :: ([.fieldLink RX10 7 "ReferenceMoverModel" "words" "[I"] ++ wsX100)
def wsX10_lose : List Cond := .code yX10_lose cX10_lose 1 none :: ([.fieldLink RX10 54 "ReferenceMoverModel" "changed" "I", .methodLink RX10 51 yX10_make, .instanceMethod yX10_make, .selects RX10 yX10_make yX10_make, .initialized RX10, .code yX10_make cX10_make 2 none, .fieldLink RX10 13 "ReferenceMoverModel" "making" "[I", .fieldLink RX10 48 "ReferenceMoverModel" "made" "I"] ++ wsX100)
def wsX10_makePlace : List Cond := .code yX10_makePlace cX10_makePlace 5 none :: ([.fieldLink RX10 54 "ReferenceMoverModel" "changed" "I", .fieldLink RX10 7 "ReferenceMoverModel" "words" "[I", .methodLink RX10 51 yX10_make, .instanceMethod yX10_make, .selects RX10 yX10_make yX10_make, .initialized RX10, .code yX10_make cX10_make 2 none, .fieldLink RX10 13 "ReferenceMoverModel" "making" "[I", .fieldLink RX10 48 "ReferenceMoverModel" "made" "I"] ++ wsX100)
def wsX10_makeRange : List Cond := .code yX10_makeRange cX10_makeRange 9 none :: ([.fieldLink RX10 54 "ReferenceMoverModel" "changed" "I", .fieldLink RX10 7 "ReferenceMoverModel" "words" "[I", .methodLink RX10 51 yX10_make, .instanceMethod yX10_make, .selects RX10 yX10_make yX10_make, .initialized RX10, .code yX10_make cX10_make 2 none, .fieldLink RX10 13 "ReferenceMoverModel" "making" "[I", .fieldLink RX10 48 "ReferenceMoverModel" "made" "I"] ++ wsX100)
def wsX10_finish : List Cond := .code yX10_finish cX10_finish 2 (some .int) :: ([.fieldLink RX10 48 "ReferenceMoverModel" "made" "I", .fieldLink RX10 7 "ReferenceMoverModel" "words" "[I", .fieldLink RX10 13 "ReferenceMoverModel" "making" "[I", .fieldLink RX10 32 "ReferenceMoverModel" "size" "I", .fieldLink RX10 54 "ReferenceMoverModel" "changed" "I"] ++ wsX100)
def wsX10_begin : List Cond := .code yX10_begin cX10_begin 1 none :: ([.fieldLink RX10 48 "ReferenceMoverModel" "made" "I", .fieldLink RX10 54 "ReferenceMoverModel" "changed" "I"] ++ wsX100)
def wsX10_moved : List Cond := .code yX10_moved cX10_moved 4 (some .int) :: ([.methodLink RX10 40 yX10_within, .static yX10_within, .initialized RX10, .code yX10_within cX10_within 3 (some .boolean)])
def wsX10_copyRange : List Cond := .code yX10_copyRange cX10_copyRange 14 none :: ([.fieldLink RX10 7 "ReferenceMoverModel" "words" "[I", .constant RX10 39 (1048576), .methodLink RX10 57 yX10_moved, .static yX10_moved, .initialized RX10, .code yX10_moved cX10_moved 4 (some .int), .methodLink RX10 40 yX10_within, .static yX10_within, .code yX10_within cX10_within 3 (some .boolean), .methodLink RX10 61 yX10_lose, .instanceMethod yX10_lose, .selects RX10 yX10_lose yX10_lose, .code yX10_lose cX10_lose 1 none, .fieldLink RX10 54 "ReferenceMoverModel" "changed" "I", .methodLink RX10 51 yX10_make, .instanceMethod yX10_make, .selects RX10 yX10_make yX10_make, .code yX10_make cX10_make 2 none, .fieldLink RX10 13 "ReferenceMoverModel" "making" "[I", .fieldLink RX10 48 "ReferenceMoverModel" "made" "I", .methodLink RX10 64 yX10_makeRange, .instanceMethod yX10_makeRange, .selects RX10 yX10_makeRange yX10_makeRange, .code yX10_makeRange cX10_makeRange 9 none] ++ wsX100)
def wsX10_copy_r1 : List Cond := [Cond.constant RX10 68 (-1048575), Cond.constant RX10 69 (1048575), Cond.fieldLink RX10 29 "ReferenceMoverModel" "code" "I", Cond.fieldLink RX10 32 "ReferenceMoverModel" "size" "I", Cond.fieldLink RX10 7 "ReferenceMoverModel" "words" "[I", Cond.constant RX10 39 (1048576), Cond.methodLink RX10 40 yX10_within, Cond.static yX10_within, Cond.initialized RX10, Cond.code yX10_within cX10_within 3 (some .boolean), Cond.methodLink RX10 70 yX10_begin, Cond.instanceMethod yX10_begin, Cond.selects RX10 yX10_begin yX10_begin, Cond.code yX10_begin cX10_begin 1 none, Cond.fieldLink RX10 48 "ReferenceMoverModel" "made" "I", Cond.fieldLink RX10 54 "ReferenceMoverModel" "changed" "I", Cond.methodLink RX10 73 yX10_lengthAt, Cond.instanceMethod yX10_lengthAt, Cond.selects RX10 yX10_lengthAt yX10_lengthAt, Cond.code yX10_lengthAt cX10_lengthAt 2 (some .int), Cond.methodLink RX10 57 yX10_moved, Cond.static yX10_moved, Cond.code yX10_moved cX10_moved 4 (some .int), Cond.methodLink RX10 51 yX10_make]
def wsX10_copy_r2 : List Cond := [Cond.instanceMethod yX10_make, Cond.selects RX10 yX10_make yX10_make, Cond.code yX10_make cX10_make 2 none, Cond.fieldLink RX10 13 "ReferenceMoverModel" "making" "[I", Cond.methodLink RX10 77 yX10_copyRange, Cond.instanceMethod yX10_copyRange, Cond.selects RX10 yX10_copyRange yX10_copyRange, Cond.code yX10_copyRange cX10_copyRange 14 none, Cond.methodLink RX10 61 yX10_lose, Cond.instanceMethod yX10_lose, Cond.selects RX10 yX10_lose yX10_lose, Cond.code yX10_lose cX10_lose 1 none, Cond.methodLink RX10 64 yX10_makeRange, Cond.instanceMethod yX10_makeRange, Cond.selects RX10 yX10_makeRange yX10_makeRange, Cond.code yX10_makeRange cX10_makeRange 9 none, Cond.methodLink RX10 81 yX10_makePlace, Cond.instanceMethod yX10_makePlace, Cond.selects RX10 yX10_makePlace yX10_makePlace, Cond.code yX10_makePlace cX10_makePlace 5 none, Cond.methodLink RX10 85 yX10_finish, Cond.instanceMethod yX10_finish, Cond.selects RX10 yX10_finish yX10_finish, Cond.code yX10_finish cX10_finish 2 (some .int)]
def wsX10_copy : List Cond := .code yX10_copy cX10_copy 7 (some .int) :: ((wsX10_copy_r1 ++ wsX10_copy_r2) ++ wsX100)
def wsX10_lines : List Cond := .code yX10_lines cX10_lines 1 (some .int) :: ([.constant RX10 39 (1048576)])
def wsX10_shifted : List Cond := .code yX10_shifted cX10_shifted 4 (some .int) :: ([.methodLink RX10 89 yX10_lines, .static yX10_lines, .initialized RX10, .code yX10_lines cX10_lines 1 (some .int), .constant RX10 39 (1048576)])
def wsX10_firstLeft : List Cond := .code yX10_firstLeft cX10_firstLeft 6 (some .int) :: ([.methodLink RX10 93 yX10_shifted, .static yX10_shifted, .initialized RX10, .code yX10_shifted cX10_shifted 4 (some .int), .methodLink RX10 89 yX10_lines, .static yX10_lines, .code yX10_lines cX10_lines 1 (some .int), .constant RX10 39 (1048576)])
def wsX10_lastLeft : List Cond := .code yX10_lastLeft cX10_lastLeft 6 (some .int) :: ([.methodLink RX10 93 yX10_shifted, .static yX10_shifted, .initialized RX10, .code yX10_shifted cX10_shifted 4 (some .int), .methodLink RX10 89 yX10_lines, .static yX10_lines, .code yX10_lines cX10_lines 1 (some .int), .constant RX10 39 (1048576)])
def wsX10_shiftRange_r1 : List Cond := [Cond.fieldLink RX10 7 "ReferenceMoverModel" "words" "[I", Cond.methodLink RX10 89 yX10_lines, Cond.static yX10_lines, Cond.initialized RX10, Cond.code yX10_lines cX10_lines 1 (some .int), Cond.constant RX10 39 (1048576), Cond.methodLink RX10 96 yX10_firstLeft, Cond.static yX10_firstLeft, Cond.code yX10_firstLeft cX10_firstLeft 6 (some .int), Cond.methodLink RX10 93 yX10_shifted, Cond.static yX10_shifted, Cond.code yX10_shifted cX10_shifted 4 (some .int), Cond.methodLink RX10 100 yX10_lastLeft, Cond.static yX10_lastLeft, Cond.code yX10_lastLeft cX10_lastLeft 6 (some .int), Cond.methodLink RX10 61 yX10_lose, Cond.instanceMethod yX10_lose, Cond.selects RX10 yX10_lose yX10_lose, Cond.code yX10_lose cX10_lose 1 none, Cond.fieldLink RX10 54 "ReferenceMoverModel" "changed" "I", Cond.methodLink RX10 51 yX10_make, Cond.instanceMethod yX10_make, Cond.selects RX10 yX10_make yX10_make, Cond.code yX10_make cX10_make 2 none]
def wsX10_shiftRange_r2 : List Cond := [Cond.fieldLink RX10 13 "ReferenceMoverModel" "making" "[I", Cond.fieldLink RX10 48 "ReferenceMoverModel" "made" "I", Cond.methodLink RX10 64 yX10_makeRange, Cond.instanceMethod yX10_makeRange, Cond.selects RX10 yX10_makeRange yX10_makeRange, Cond.code yX10_makeRange cX10_makeRange 9 none]
def wsX10_shiftRange : List Cond := .code yX10_shiftRange cX10_shiftRange 10 none :: ((wsX10_shiftRange_r1 ++ wsX10_shiftRange_r2) ++ wsX100)
def wsX10_shift_r1 : List Cond := [Cond.fieldLink RX10 32 "ReferenceMoverModel" "size" "I", Cond.fieldLink RX10 7 "ReferenceMoverModel" "words" "[I", Cond.methodLink RX10 70 yX10_begin, Cond.instanceMethod yX10_begin, Cond.selects RX10 yX10_begin yX10_begin, Cond.initialized RX10, Cond.code yX10_begin cX10_begin 1 none, Cond.fieldLink RX10 48 "ReferenceMoverModel" "made" "I", Cond.fieldLink RX10 54 "ReferenceMoverModel" "changed" "I", Cond.methodLink RX10 73 yX10_lengthAt, Cond.instanceMethod yX10_lengthAt, Cond.selects RX10 yX10_lengthAt yX10_lengthAt, Cond.code yX10_lengthAt cX10_lengthAt 2 (some .int), Cond.methodLink RX10 51 yX10_make, Cond.instanceMethod yX10_make, Cond.selects RX10 yX10_make yX10_make, Cond.code yX10_make cX10_make 2 none, Cond.fieldLink RX10 13 "ReferenceMoverModel" "making" "[I", Cond.methodLink RX10 103 yX10_shiftRange, Cond.instanceMethod yX10_shiftRange, Cond.selects RX10 yX10_shiftRange yX10_shiftRange, Cond.code yX10_shiftRange cX10_shiftRange 10 none, Cond.methodLink RX10 89 yX10_lines, Cond.static yX10_lines]
def wsX10_shift_r2 : List Cond := [Cond.code yX10_lines cX10_lines 1 (some .int), Cond.constant RX10 39 (1048576), Cond.methodLink RX10 96 yX10_firstLeft, Cond.static yX10_firstLeft, Cond.code yX10_firstLeft cX10_firstLeft 6 (some .int), Cond.methodLink RX10 93 yX10_shifted, Cond.static yX10_shifted, Cond.code yX10_shifted cX10_shifted 4 (some .int), Cond.methodLink RX10 100 yX10_lastLeft, Cond.static yX10_lastLeft, Cond.code yX10_lastLeft cX10_lastLeft 6 (some .int), Cond.methodLink RX10 61 yX10_lose, Cond.instanceMethod yX10_lose, Cond.selects RX10 yX10_lose yX10_lose, Cond.code yX10_lose cX10_lose 1 none, Cond.methodLink RX10 64 yX10_makeRange, Cond.instanceMethod yX10_makeRange, Cond.selects RX10 yX10_makeRange yX10_makeRange, Cond.code yX10_makeRange cX10_makeRange 9 none, Cond.methodLink RX10 81 yX10_makePlace, Cond.instanceMethod yX10_makePlace, Cond.selects RX10 yX10_makePlace yX10_makePlace, Cond.code yX10_makePlace cX10_makePlace 5 none, Cond.methodLink RX10 85 yX10_finish]
def wsX10_shift_r3 : List Cond := [Cond.instanceMethod yX10_finish, Cond.selects RX10 yX10_finish yX10_finish, Cond.code yX10_finish cX10_finish 2 (some .int)]
def wsX10_shift : List Cond := .code yX10_shift cX10_shift 11 (some .int) :: ((wsX10_shift_r1 ++ (wsX10_shift_r2 ++ wsX10_shift_r3)) ++ wsX100)
def wsX10_isLine : List Cond := .code yX10_isLine cX10_isLine 5 (some .boolean) :: ([.methodLink RX10 40 yX10_within, .static yX10_within, .initialized RX10, .code yX10_within cX10_within 3 (some .boolean), .methodLink RX10 89 yX10_lines, .static yX10_lines, .code yX10_lines cX10_lines 1 (some .int), .constant RX10 39 (1048576)])
def wsX10_insert_r1 : List Cond := [Cond.fieldLink RX10 29 "ReferenceMoverModel" "code" "I", Cond.methodLink RX10 107 yX10_isLine, Cond.static yX10_isLine, Cond.initialized RX10, Cond.code yX10_isLine cX10_isLine 5 (some .boolean), Cond.methodLink RX10 40 yX10_within, Cond.static yX10_within, Cond.code yX10_within cX10_within 3 (some .boolean), Cond.methodLink RX10 89 yX10_lines, Cond.static yX10_lines, Cond.code yX10_lines cX10_lines 1 (some .int), Cond.constant RX10 39 (1048576), Cond.methodLink RX10 111 yX10_shift, Cond.instanceMethod yX10_shift, Cond.selects RX10 yX10_shift yX10_shift, Cond.code yX10_shift cX10_shift 11 (some .int), Cond.fieldLink RX10 32 "ReferenceMoverModel" "size" "I", Cond.fieldLink RX10 7 "ReferenceMoverModel" "words" "[I", Cond.methodLink RX10 70 yX10_begin, Cond.instanceMethod yX10_begin, Cond.selects RX10 yX10_begin yX10_begin, Cond.code yX10_begin cX10_begin 1 none, Cond.fieldLink RX10 48 "ReferenceMoverModel" "made" "I", Cond.fieldLink RX10 54 "ReferenceMoverModel" "changed" "I"]
def wsX10_insert_r2 : List Cond := [Cond.methodLink RX10 73 yX10_lengthAt, Cond.instanceMethod yX10_lengthAt, Cond.selects RX10 yX10_lengthAt yX10_lengthAt, Cond.code yX10_lengthAt cX10_lengthAt 2 (some .int), Cond.methodLink RX10 51 yX10_make, Cond.instanceMethod yX10_make, Cond.selects RX10 yX10_make yX10_make, Cond.code yX10_make cX10_make 2 none, Cond.fieldLink RX10 13 "ReferenceMoverModel" "making" "[I", Cond.methodLink RX10 103 yX10_shiftRange, Cond.instanceMethod yX10_shiftRange, Cond.selects RX10 yX10_shiftRange yX10_shiftRange, Cond.code yX10_shiftRange cX10_shiftRange 10 none, Cond.methodLink RX10 96 yX10_firstLeft, Cond.static yX10_firstLeft, Cond.code yX10_firstLeft cX10_firstLeft 6 (some .int), Cond.methodLink RX10 93 yX10_shifted, Cond.static yX10_shifted, Cond.code yX10_shifted cX10_shifted 4 (some .int), Cond.methodLink RX10 100 yX10_lastLeft, Cond.static yX10_lastLeft, Cond.code yX10_lastLeft cX10_lastLeft 6 (some .int), Cond.methodLink RX10 61 yX10_lose, Cond.instanceMethod yX10_lose]
def wsX10_insert_r3 : List Cond := [Cond.selects RX10 yX10_lose yX10_lose, Cond.code yX10_lose cX10_lose 1 none, Cond.methodLink RX10 64 yX10_makeRange, Cond.instanceMethod yX10_makeRange, Cond.selects RX10 yX10_makeRange yX10_makeRange, Cond.code yX10_makeRange cX10_makeRange 9 none, Cond.methodLink RX10 81 yX10_makePlace, Cond.instanceMethod yX10_makePlace, Cond.selects RX10 yX10_makePlace yX10_makePlace, Cond.code yX10_makePlace cX10_makePlace 5 none, Cond.methodLink RX10 85 yX10_finish, Cond.instanceMethod yX10_finish, Cond.selects RX10 yX10_finish yX10_finish, Cond.code yX10_finish cX10_finish 2 (some .int)]
def wsX10_insert : List Cond := .code yX10_insert cX10_insert 6 (some .int) :: ((wsX10_insert_r1 ++ (wsX10_insert_r2 ++ wsX10_insert_r3)) ++ wsX100)
def wsX10_delete_r1 : List Cond := [Cond.fieldLink RX10 29 "ReferenceMoverModel" "code" "I", Cond.methodLink RX10 107 yX10_isLine, Cond.static yX10_isLine, Cond.initialized RX10, Cond.code yX10_isLine cX10_isLine 5 (some .boolean), Cond.methodLink RX10 40 yX10_within, Cond.static yX10_within, Cond.code yX10_within cX10_within 3 (some .boolean), Cond.methodLink RX10 89 yX10_lines, Cond.static yX10_lines, Cond.code yX10_lines cX10_lines 1 (some .int), Cond.constant RX10 39 (1048576), Cond.methodLink RX10 111 yX10_shift, Cond.instanceMethod yX10_shift, Cond.selects RX10 yX10_shift yX10_shift, Cond.code yX10_shift cX10_shift 11 (some .int), Cond.fieldLink RX10 32 "ReferenceMoverModel" "size" "I", Cond.fieldLink RX10 7 "ReferenceMoverModel" "words" "[I", Cond.methodLink RX10 70 yX10_begin, Cond.instanceMethod yX10_begin, Cond.selects RX10 yX10_begin yX10_begin, Cond.code yX10_begin cX10_begin 1 none, Cond.fieldLink RX10 48 "ReferenceMoverModel" "made" "I", Cond.fieldLink RX10 54 "ReferenceMoverModel" "changed" "I"]
def wsX10_delete_r2 : List Cond := [Cond.methodLink RX10 73 yX10_lengthAt, Cond.instanceMethod yX10_lengthAt, Cond.selects RX10 yX10_lengthAt yX10_lengthAt, Cond.code yX10_lengthAt cX10_lengthAt 2 (some .int), Cond.methodLink RX10 51 yX10_make, Cond.instanceMethod yX10_make, Cond.selects RX10 yX10_make yX10_make, Cond.code yX10_make cX10_make 2 none, Cond.fieldLink RX10 13 "ReferenceMoverModel" "making" "[I", Cond.methodLink RX10 103 yX10_shiftRange, Cond.instanceMethod yX10_shiftRange, Cond.selects RX10 yX10_shiftRange yX10_shiftRange, Cond.code yX10_shiftRange cX10_shiftRange 10 none, Cond.methodLink RX10 96 yX10_firstLeft, Cond.static yX10_firstLeft, Cond.code yX10_firstLeft cX10_firstLeft 6 (some .int), Cond.methodLink RX10 93 yX10_shifted, Cond.static yX10_shifted, Cond.code yX10_shifted cX10_shifted 4 (some .int), Cond.methodLink RX10 100 yX10_lastLeft, Cond.static yX10_lastLeft, Cond.code yX10_lastLeft cX10_lastLeft 6 (some .int), Cond.methodLink RX10 61 yX10_lose, Cond.instanceMethod yX10_lose]
def wsX10_delete_r3 : List Cond := [Cond.selects RX10 yX10_lose yX10_lose, Cond.code yX10_lose cX10_lose 1 none, Cond.methodLink RX10 64 yX10_makeRange, Cond.instanceMethod yX10_makeRange, Cond.selects RX10 yX10_makeRange yX10_makeRange, Cond.code yX10_makeRange cX10_makeRange 9 none, Cond.methodLink RX10 81 yX10_makePlace, Cond.instanceMethod yX10_makePlace, Cond.selects RX10 yX10_makePlace yX10_makePlace, Cond.code yX10_makePlace cX10_makePlace 5 none, Cond.methodLink RX10 85 yX10_finish, Cond.instanceMethod yX10_finish, Cond.selects RX10 yX10_finish yX10_finish, Cond.code yX10_finish cX10_finish 2 (some .int)]
def wsX10_delete : List Cond := .code yX10_delete cX10_delete 6 (some .int) :: ((wsX10_delete_r1 ++ (wsX10_delete_r2 ++ wsX10_delete_r3)) ++ wsX100)
def wsX10_rectangle : List Cond := .code yX10_rectangle cX10_rectangle 6 (some .boolean) :: ([.fieldLink RX10 29 "ReferenceMoverModel" "code" "I", .fieldLink RX10 114 "ReferenceMoverModel" "sheet" "I", .fieldLink RX10 16 "ReferenceMoverModel" "top" "I", .fieldLink RX10 20 "ReferenceMoverModel" "left" "I", .fieldLink RX10 23 "ReferenceMoverModel" "bottom" "I", .fieldLink RX10 26 "ReferenceMoverModel" "right" "I", .methodLink RX10 40 yX10_within, .static yX10_within, .initialized RX10, .code yX10_within cX10_within 3 (some .boolean), .methodLink RX10 44 yX10_isCell, .static yX10_isCell, .code yX10_isCell cX10_isCell 2 (some .boolean), .constant RX10 39 (1048576)] ++ wsX100)
def wsX10_moveItem_r1 : List Cond := [Cond.fieldLink RX10 7 "ReferenceMoverModel" "words" "[I", Cond.fieldLink RX10 16 "ReferenceMoverModel" "top" "I", Cond.fieldLink RX10 20 "ReferenceMoverModel" "left" "I", Cond.fieldLink RX10 114 "ReferenceMoverModel" "sheet" "I", Cond.fieldLink RX10 23 "ReferenceMoverModel" "bottom" "I", Cond.fieldLink RX10 26 "ReferenceMoverModel" "right" "I", Cond.methodLink RX10 73 yX10_lengthAt, Cond.instanceMethod yX10_lengthAt, Cond.selects RX10 yX10_lengthAt yX10_lengthAt, Cond.initialized RX10, Cond.code yX10_lengthAt cX10_lengthAt 2 (some .int), Cond.methodLink RX10 61 yX10_lose, Cond.instanceMethod yX10_lose, Cond.selects RX10 yX10_lose yX10_lose, Cond.code yX10_lose cX10_lose 1 none, Cond.fieldLink RX10 54 "ReferenceMoverModel" "changed" "I", Cond.methodLink RX10 51 yX10_make, Cond.instanceMethod yX10_make, Cond.selects RX10 yX10_make yX10_make, Cond.code yX10_make cX10_make 2 none, Cond.fieldLink RX10 13 "ReferenceMoverModel" "making" "[I", Cond.fieldLink RX10 48 "ReferenceMoverModel" "made" "I", Cond.methodLink RX10 81 yX10_makePlace, Cond.instanceMethod yX10_makePlace]
def wsX10_moveItem_r2 : List Cond := [Cond.selects RX10 yX10_makePlace yX10_makePlace, Cond.code yX10_makePlace cX10_makePlace 5 none, Cond.methodLink RX10 64 yX10_makeRange, Cond.instanceMethod yX10_makeRange, Cond.selects RX10 yX10_makeRange yX10_makeRange, Cond.code yX10_makeRange cX10_makeRange 9 none]
def wsX10_moveItem : List Cond := .code yX10_moveItem cX10_moveItem 19 none :: ((wsX10_moveItem_r1 ++ wsX10_moveItem_r2) ++ wsX100)
def wsX10_move_r1 : List Cond := [Cond.fieldLink RX10 23 "ReferenceMoverModel" "bottom" "I", Cond.fieldLink RX10 16 "ReferenceMoverModel" "top" "I", Cond.constant RX10 39 (1048576), Cond.fieldLink RX10 26 "ReferenceMoverModel" "right" "I", Cond.fieldLink RX10 20 "ReferenceMoverModel" "left" "I", Cond.fieldLink RX10 29 "ReferenceMoverModel" "code" "I", Cond.fieldLink RX10 32 "ReferenceMoverModel" "size" "I", Cond.fieldLink RX10 7 "ReferenceMoverModel" "words" "[I", Cond.methodLink RX10 40 yX10_within, Cond.static yX10_within, Cond.initialized RX10, Cond.code yX10_within cX10_within 3 (some .boolean), Cond.methodLink RX10 44 yX10_isCell, Cond.static yX10_isCell, Cond.code yX10_isCell cX10_isCell 2 (some .boolean), Cond.methodLink RX10 70 yX10_begin, Cond.instanceMethod yX10_begin, Cond.selects RX10 yX10_begin yX10_begin, Cond.code yX10_begin cX10_begin 1 none, Cond.fieldLink RX10 48 "ReferenceMoverModel" "made" "I", Cond.fieldLink RX10 54 "ReferenceMoverModel" "changed" "I", Cond.methodLink RX10 73 yX10_lengthAt, Cond.instanceMethod yX10_lengthAt, Cond.selects RX10 yX10_lengthAt yX10_lengthAt]
def wsX10_move_r2 : List Cond := [Cond.code yX10_lengthAt cX10_lengthAt 2 (some .int), Cond.methodLink RX10 51 yX10_make, Cond.instanceMethod yX10_make, Cond.selects RX10 yX10_make yX10_make, Cond.code yX10_make cX10_make 2 none, Cond.fieldLink RX10 13 "ReferenceMoverModel" "making" "[I", Cond.methodLink RX10 117 yX10_moveItem, Cond.instanceMethod yX10_moveItem, Cond.selects RX10 yX10_moveItem yX10_moveItem, Cond.code yX10_moveItem cX10_moveItem 19 none, Cond.fieldLink RX10 114 "ReferenceMoverModel" "sheet" "I", Cond.methodLink RX10 61 yX10_lose, Cond.instanceMethod yX10_lose, Cond.selects RX10 yX10_lose yX10_lose, Cond.code yX10_lose cX10_lose 1 none, Cond.methodLink RX10 81 yX10_makePlace, Cond.instanceMethod yX10_makePlace, Cond.selects RX10 yX10_makePlace yX10_makePlace, Cond.code yX10_makePlace cX10_makePlace 5 none, Cond.methodLink RX10 64 yX10_makeRange, Cond.instanceMethod yX10_makeRange, Cond.selects RX10 yX10_makeRange yX10_makeRange, Cond.code yX10_makeRange cX10_makeRange 9 none, Cond.methodLink RX10 85 yX10_finish]
def wsX10_move_r3 : List Cond := [Cond.instanceMethod yX10_finish, Cond.selects RX10 yX10_finish yX10_finish, Cond.code yX10_finish cX10_finish 2 (some .int)]
def wsX10_move : List Cond := .code yX10_move cX10_move 8 (some .int) :: ((wsX10_move_r1 ++ (wsX10_move_r2 ++ wsX10_move_r3)) ++ wsX100)
def wsJ9_min_7cf53 : List Cond := .code yJ9_min_7cf53 cJ9_min_7cf53 2 (some .int) :: ([])
theorem inX1 : ∀ w ∈ wsX10, w ∈ lw_tbl := by decide +kernel
theorem inX3 : ∀ w ∈ wsX30, w ∈ lw_tbl := by decide +kernel
theorem inJ9 : ∀ w ∈ wsJ90, w ∈ lw_tbl := by decide +kernel
theorem inJ0 : ∀ w ∈ wsJ00, w ∈ lw_tbl := by decide +kernel
set_option maxRecDepth 20000 in
theorem ggX0_holds_X7_sheetSeenFrom : GoodIn wsX0_holds wsX7_sheetSeenFrom := goodIn_r _ [12, 13, 26, 27, 28, 29, 30] (by decide +kernel) (by decide +kernel)
set_option maxRecDepth 20000 in
theorem gX0_holds_X7_sheetSeenFrom : GoodIn wsX0_holds (wsV RX0 25 RX7 yX7_sheetSeenFrom wsX7_sheetSeenFrom) := goodIn_app (goodIn_of _ (by decide +kernel)) ggX0_holds_X7_sheetSeenFrom
set_option maxRecDepth 20000 in
theorem ggX0_holds_X8_isWithin : GoodIn wsX0_holds wsX8_isWithin := goodIn_r _ [18, 19, 20, 31, 32, 33, 34, 35] (by decide +kernel) (by decide +kernel)
set_option maxRecDepth 20000 in
theorem gX0_holds_X8_isWithin : GoodIn wsX0_holds (wsV RX0 35 RX8 yX8_isWithin wsX8_isWithin) := goodIn_app (goodIn_of _ (by decide +kernel)) ggX0_holds_X8_isWithin
set_option maxRecDepth 20000 in
theorem ggX2_init_X1_init : GoodIn wsX2_init wsX1_init := goodIn_r _ [5, 6, 7, 8] (by decide +kernel) (by decide +kernel)
set_option maxRecDepth 20000 in
theorem gX2_init_X1_init_n3 : GoodIn wsX2_init (wsX1_init) := ggX2_init_X1_init
set_option maxRecDepth 20000 in
theorem ggX2_keeps_X9_has : GoodIn wsX2_keeps wsX9_has := goodIn_r _ [8] (by decide +kernel) (by decide +kernel)
set_option maxRecDepth 20000 in
theorem gX2_keeps_X9_has_n23 : GoodIn wsX2_keeps (wsX9_has) := ggX2_keeps_X9_has
set_option maxRecDepth 20000 in
theorem ggX2_keeps_X8_shiftLoose : GoodIn wsX2_keeps wsX8_shiftLoose := goodIn_r _ [13, 14, 15, 16, 17, 18, 19, 7, 20, 21, 22, 23, 12, 24, 25, 26, 27, 28, 29, 30, 31, 32, 40, 41, 42, 43, 44] (by decide +kernel) (by decide +kernel)
set_option maxRecDepth 20000 in
theorem gX2_keeps_X8_shiftLoose : GoodIn wsX2_keeps (wsV RX2 31 RX8 yX8_shiftLoose wsX8_shiftLoose) := goodIn_app (goodIn_of _ (by decide +kernel)) ggX2_keeps_X8_shiftLoose
set_option maxRecDepth 20000 in
theorem ggX3_init_X1_init : GoodIn wsX3_init wsX1_init := goodIn_r _ [8, 9, 10, 11] (by decide +kernel) (by decide +kernel)
set_option maxRecDepth 20000 in
theorem gX3_init_X1_init_n1 : GoodIn wsX3_init (wsX1_init) := ggX3_init_X1_init
set_option maxRecDepth 20000 in
theorem ggX3_keeps_X7_sheetSeenFrom : GoodIn wsX3_keeps wsX7_sheetSeenFrom := goodIn_r _ [10, 11, 59, 60, 61, 62, 63] (by decide +kernel) (by decide +kernel)
set_option maxRecDepth 20000 in
theorem gX3_keeps_X7_sheetSeenFrom : GoodIn wsX3_keeps (wsV RX3 26 RX7 yX7_sheetSeenFrom wsX7_sheetSeenFrom) := goodIn_app (goodIn_of _ (by decide +kernel)) ggX3_keeps_X7_sheetSeenFrom
set_option maxRecDepth 20000 in
theorem ggX3_keeps_X4_keepsLines : GoodIn wsX3_keeps wsX4_keepsLines := goodIn_r _ [17, 18, 19, 20, 21, 22, 23, 24, 25, 26, 27, 28, 29, 30, 31, 32, 33, 34, 35, 36, 49, 50, 51, 52, 53, 54, 55, 56, 57, 58, 64, 65, 66, 67, 68] (by decide +kernel) (by decide +kernel)
set_option maxRecDepth 20000 in
theorem gX3_keeps_X4_keepsLines_u38X4 : GoodIn wsX3_keeps (va_wsU RX3 38 RX4 "ReferenceMover$LineChange" ⟨"ReferenceMover$LineChange", "keepsLines", "(LReferenceMover$Span;)Z"⟩ yX4_keepsLines wsX4_keepsLines) := goodIn_app (goodIn_of _ (by decide +kernel)) ggX3_keeps_X4_keepsLines
set_option maxRecDepth 20000 in
theorem ggX3_keeps_X5_keepsLines : GoodIn wsX3_keeps wsX5_keepsLines := goodIn_r _ [40, 41, 42, 43, 44, 45, 46, 47, 25, 48, 27, 28, 29, 34, 35, 36, 49, 50, 51, 52, 53, 54, 55, 56, 57, 58, 64, 65, 66, 67, 68] (by decide +kernel) (by decide +kernel)
set_option maxRecDepth 20000 in
theorem gX3_keeps_X5_keepsLines_u38X5 : GoodIn wsX3_keeps (va_wsU RX3 38 RX5 "ReferenceMover$LineChange" ⟨"ReferenceMover$LineChange", "keepsLines", "(LReferenceMover$Span;)Z"⟩ yX5_keepsLines wsX5_keepsLines) := goodIn_app (goodIn_of _ (by decide +kernel)) ggX3_keeps_X5_keepsLines
set_option maxRecDepth 20000 in
theorem ggX4_init_X3_init : GoodIn wsX4_init wsX3_init := goodIn_r _ [4, 5, 6, 7, 8, 9, 10, 11, 12, 13, 14, 15, 16, 17, 18, 19, 20, 21, 22, 23, 24, 25] (by decide +kernel) (by decide +kernel)
set_option maxRecDepth 20000 in
theorem gX4_init_X3_init : GoodIn wsX4_init (wsX3_init) := ggX4_init_X3_init
set_option maxRecDepth 20000 in
theorem ggX4_keepsLines_X8_openGap : GoodIn wsX4_keepsLines wsX8_openGap := goodIn_r _ [9, 10, 11, 12, 13, 14, 15, 16, 17, 18, 19, 30, 31, 32, 33, 34] (by decide +kernel) (by decide +kernel)
set_option maxRecDepth 20000 in
theorem gX4_keepsLines_X8_openGap : GoodIn wsX4_keepsLines (wsV RX4 16 RX8 yX8_openGap wsX8_openGap) := goodIn_app (goodIn_of _ (by decide +kernel)) ggX4_keepsLines_X8_openGap
set_option maxRecDepth 20000 in
theorem ggX5_init_X3_init : GoodIn wsX5_init wsX3_init := goodIn_r _ [4, 5, 6, 7, 8, 9, 10, 11, 12, 13, 14, 15, 16, 17, 18, 19, 20, 21, 22, 23, 24, 25] (by decide +kernel) (by decide +kernel)
set_option maxRecDepth 20000 in
theorem gX5_init_X3_init : GoodIn wsX5_init (wsX3_init) := ggX5_init_X3_init
set_option maxRecDepth 20000 in
theorem ggX5_keepsLines_X8_closeGap : GoodIn wsX5_keepsLines wsX8_closeGap := goodIn_r _ [9, 10, 11, 12, 13, 14, 15, 26, 27, 28, 29, 30] (by decide +kernel) (by decide +kernel)
set_option maxRecDepth 20000 in
theorem gX5_keepsLines_X8_closeGap : GoodIn wsX5_keepsLines (wsV RX5 16 RX8 yX8_closeGap wsX8_closeGap) := goodIn_app (goodIn_of _ (by decide +kernel)) ggX5_keepsLines_X8_closeGap
set_option maxRecDepth 20000 in
theorem ggX6_init_X1_init : GoodIn wsX6_init wsX1_init := goodIn_r _ [7, 8, 9, 10] (by decide +kernel) (by decide +kernel)
set_option maxRecDepth 20000 in
theorem gX6_init_X1_init_n3 : GoodIn wsX6_init (wsX1_init) := ggX6_init_X1_init
set_option maxRecDepth 20000 in
theorem ggX6_keeps_X7_sheetSeenFrom : GoodIn wsX6_keeps wsX7_sheetSeenFrom := goodIn_r _ [15, 16, 45, 46, 47, 48, 49] (by decide +kernel) (by decide +kernel)
set_option maxRecDepth 20000 in
theorem gX6_keeps_X7_sheetSeenFrom : GoodIn wsX6_keeps (wsV RX6 25 RX7 yX7_sheetSeenFrom wsX7_sheetSeenFrom) := goodIn_app (goodIn_of _ (by decide +kernel)) ggX6_keeps_X7_sheetSeenFrom
set_option maxRecDepth 20000 in
theorem ggX6_keeps_X0_holds : GoodIn wsX6_keeps wsX0_holds := goodIn_r _ [21, 22, 23, 24, 25, 26, 27, 28, 29, 12, 13, 14, 15, 16, 30, 31, 32, 33, 34, 35, 36, 50, 51, 52, 53, 54, 45, 46, 47, 48, 49, 55, 56, 57, 58, 59] (by decide +kernel) (by decide +kernel)
set_option maxRecDepth 20000 in
theorem gX6_keeps_X0_holds : GoodIn wsX6_keeps (wsV RX6 31 RX0 yX0_holds wsX0_holds) := goodIn_app (goodIn_of _ (by decide +kernel)) ggX6_keeps_X0_holds
set_option maxRecDepth 20000 in
theorem ggX6_keeps_X8_shift : GoodIn wsX6_keeps wsX8_shift := goodIn_r _ [40, 35, 36, 55, 56, 57, 58, 59] (by decide +kernel) (by decide +kernel)
set_option maxRecDepth 20000 in
theorem gX6_keeps_X8_shift : GoodIn wsX6_keeps (wsV RX6 44 RX8 yX8_shift wsX8_shift) := goodIn_app (goodIn_of _ (by decide +kernel)) ggX6_keeps_X8_shift
set_option maxRecDepth 20000 in
theorem ggX7_init_X8_init : GoodIn wsX7_init wsX8_init := goodIn_r _ [12, 13, 2, 3, 14, 15, 16, 17, 18, 19] (by decide +kernel) (by decide +kernel)
set_option maxRecDepth 20000 in
theorem gX7_init_X8_init : GoodIn wsX7_init (wsX8_init) := ggX7_init_X8_init
set_option maxRecDepth 20000 in
theorem ggX7_wordAt_X7_rangeMarks : GoodIn wsX7_wordAt wsX7_rangeMarks := goodIn_r _ [11, 3, 12, 5, 13, 14, 15, 10, 16, 17, 18, 19, 20, 21, 22, 23, 24, 25, 26, 27, 28, 29, 30, 31] (by decide +kernel) (by decide +kernel)
set_option maxRecDepth 20000 in
theorem gX7_wordAt_X7_rangeMarks : GoodIn wsX7_wordAt (wsV RX7 32 RX7 yX7_rangeMarks wsX7_rangeMarks) := goodIn_app (goodIn_of _ (by decide +kernel)) ggX7_wordAt_X7_rangeMarks
set_option maxRecDepth 20000 in
theorem ggX7_wordAt_X7_firstMarks : GoodIn wsX7_wordAt wsX7_firstMarks := goodIn_r _ [20, 3, 21, 5, 14, 15, 10, 16, 22, 23, 24, 25, 26, 27, 28, 29, 30, 31] (by decide +kernel) (by decide +kernel)
set_option maxRecDepth 20000 in
theorem gX7_wordAt_X7_firstMarks : GoodIn wsX7_wordAt (wsV RX7 36 RX7 yX7_firstMarks wsX7_firstMarks) := goodIn_app (goodIn_of _ (by decide +kernel)) ggX7_wordAt_X7_firstMarks
set_option maxRecDepth 20000 in
theorem ggX7_firstMarks_X7_cornerMarks : GoodIn wsX7_firstMarks wsX7_cornerMarks := goodIn_r _ [7] (by decide +kernel) (by decide +kernel)
set_option maxRecDepth 20000 in
theorem gX7_firstMarks_X7_cornerMarks : GoodIn wsX7_firstMarks (va_wsS RX7 48 yX7_cornerMarks wsX7_cornerMarks) := goodIn_app (goodIn_of _ (by decide +kernel)) ggX7_firstMarks_X7_cornerMarks
set_option maxRecDepth 20000 in
theorem ggX7_rangeMarks_X7_cornerMarks : GoodIn wsX7_rangeMarks wsX7_cornerMarks := goodIn_r _ [8] (by decide +kernel) (by decide +kernel)
set_option maxRecDepth 20000 in
theorem gX7_rangeMarks_X7_cornerMarks : GoodIn wsX7_rangeMarks (va_wsS RX7 48 yX7_cornerMarks wsX7_cornerMarks) := goodIn_app (goodIn_of _ (by decide +kernel)) ggX7_rangeMarks_X7_cornerMarks
set_option maxRecDepth 20000 in
theorem ggX7_rangeMarks_X7_firstMarks : GoodIn wsX7_rangeMarks wsX7_firstMarks := goodIn_r _ [12, 1, 13, 3, 5, 6, 7, 8, 14, 15, 16, 17, 18, 19, 20, 21, 22, 23] (by decide +kernel) (by decide +kernel)
set_option maxRecDepth 20000 in
theorem gX7_rangeMarks_X7_firstMarks : GoodIn wsX7_rangeMarks (wsV RX7 36 RX7 yX7_firstMarks wsX7_firstMarks) := goodIn_app (goodIn_of _ (by decide +kernel)) ggX7_rangeMarks_X7_firstMarks
set_option maxRecDepth 20000 in
theorem ggX8_shiftLoose_X9_isLine : GoodIn wsX8_shiftLoose wsX9_isLine := goodIn_r _ [8] (by decide +kernel) (by decide +kernel)
set_option maxRecDepth 20000 in
theorem gX8_shiftLoose_X9_isLine_n26 : GoodIn wsX8_shiftLoose (wsX9_isLine) := ggX8_shiftLoose_X9_isLine
set_option maxRecDepth 20000 in
theorem ggX8_shiftLoose_X8_exchange : GoodIn wsX8_shiftLoose wsX8_exchange := goodIn_r _ [13, 2, 1, 4, 3, 14, 15, 16, 12, 17, 18, 19, 20, 21, 22, 23, 24, 25, 26] (by decide +kernel) (by decide +kernel)
set_option maxRecDepth 20000 in
theorem gX8_shiftLoose_X8_exchange : GoodIn wsX8_shiftLoose (wsV RX8 32 RX8 yX8_exchange wsX8_exchange) := goodIn_app (goodIn_of _ (by decide +kernel)) ggX8_shiftLoose_X8_exchange
set_option maxRecDepth 20000 in
theorem ggX8_exchange_X8_setFirst : GoodIn wsX8_exchange wsX8_setFirst := goodIn_r _ [9, 1, 2, 14, 15, 16, 17, 18] (by decide +kernel) (by decide +kernel)
set_option maxRecDepth 20000 in
theorem gX8_exchange_X8_setFirst : GoodIn wsX8_exchange (wsV RX8 35 RX8 yX8_setFirst wsX8_setFirst) := goodIn_app (goodIn_of _ (by decide +kernel)) ggX8_exchange_X8_setFirst
set_option maxRecDepth 20000 in
theorem ggX8_exchange_X8_setLast : GoodIn wsX8_exchange wsX8_setLast := goodIn_r _ [13, 3, 4, 14, 15, 16, 17, 18] (by decide +kernel) (by decide +kernel)
set_option maxRecDepth 20000 in
theorem gX8_exchange_X8_setLast : GoodIn wsX8_exchange (wsV RX8 39 RX8 yX8_setLast wsX8_setLast) := goodIn_app (goodIn_of _ (by decide +kernel)) ggX8_exchange_X8_setLast
set_option maxRecDepth 20000 in
theorem ggX8_openGap_X9_areAllLines : GoodIn wsX8_openGap wsX9_areAllLines := goodIn_r _ [10] (by decide +kernel) (by decide +kernel)
set_option maxRecDepth 20000 in
theorem gX8_openGap_X9_areAllLines_n42 : GoodIn wsX8_openGap (wsX9_areAllLines) := ggX8_openGap_X9_areAllLines
set_option maxRecDepth 20000 in
theorem ggX8_closeGap_X9_areAllLines : GoodIn wsX8_closeGap wsX9_areAllLines := goodIn_r _ [6] (by decide +kernel) (by decide +kernel)
set_option maxRecDepth 20000 in
theorem gX8_closeGap_X9_areAllLines_n42 : GoodIn wsX8_closeGap (wsX9_areAllLines) := ggX8_closeGap_X9_areAllLines
set_option maxRecDepth 20000 in
theorem ggX9_init_X0_init : GoodIn wsX9_init wsX0_init := goodIn_r _ [17, 18, 2, 3, 19, 20, 21, 22, 23, 42, 43, 44, 45, 46] (by decide +kernel) (by decide +kernel)
set_option maxRecDepth 20000 in
theorem gX9_init_X0_init : GoodIn wsX9_init (wsX0_init) := ggX9_init_X0_init
set_option maxRecDepth 20000 in
theorem ggX9_init_X7_init : GoodIn wsX9_init wsX7_init := goodIn_r _ [25, 26, 2, 3, 27, 28, 29, 30, 31, 32, 33, 34, 35, 36, 37, 52, 53, 54, 55, 56, 47, 48, 49, 50, 51] (by decide +kernel) (by decide +kernel)
set_option maxRecDepth 20000 in
theorem gX9_init_X7_init_n28 : GoodIn wsX9_init (wsX7_init) := ggX9_init_X7_init
set_option maxRecDepth 20000 in
theorem ggX9_other_X9_isOfKind : GoodIn wsX9_other wsX9_isOfKind := goodIn_r _ [4] (by decide +kernel) (by decide +kernel)
set_option maxRecDepth 20000 in
theorem gX9_other_X9_isOfKind : GoodIn wsX9_other (va_wsS RX9 33 yX9_isOfKind wsX9_isOfKind) := goodIn_app (goodIn_of _ (by decide +kernel)) ggX9_other_X9_isOfKind
set_option maxRecDepth 20000 in
theorem ggX9_other_X9_hasRoomFor : GoodIn wsX9_other wsX9_hasRoomFor := goodIn_r _ [8, 9, 19, 20, 21, 22] (by decide +kernel) (by decide +kernel)
set_option maxRecDepth 20000 in
theorem gX9_other_X9_hasRoomFor : GoodIn wsX9_other (wsV RX9 37 RX9 yX9_hasRoomFor wsX9_hasRoomFor) := goodIn_app (goodIn_of _ (by decide +kernel)) ggX9_other_X9_hasRoomFor
set_option maxRecDepth 20000 in
theorem ggX9_other_X9_append : GoodIn wsX9_other wsX9_append := goodIn_r _ [13, 9, 14, 15, 16, 3, 17, 18, 19, 20, 21, 22] (by decide +kernel) (by decide +kernel)
set_option maxRecDepth 20000 in
theorem gX9_other_X9_append : GoodIn wsX9_other (wsV RX9 41 RX9 yX9_append wsX9_append) := goodIn_app (goodIn_of _ (by decide +kernel)) ggX9_other_X9_append
set_option maxRecDepth 20000 in
theorem ggX9_place_X9_isSheetOrNone : GoodIn wsX9_place wsX9_isSheetOrNone := goodIn_r _ [5, 6, 7, 4, 8] (by decide +kernel) (by decide +kernel)
set_option maxRecDepth 20000 in
theorem gX9_place_X9_isSheetOrNone : GoodIn wsX9_place (va_wsS RX9 45 yX9_isSheetOrNone wsX9_isSheetOrNone) := goodIn_app (goodIn_of _ (by decide +kernel)) ggX9_place_X9_isSheetOrNone
set_option maxRecDepth 20000 in
theorem ggX9_place_X9_isLine : GoodIn wsX9_place wsX9_isLine := goodIn_r _ [11] (by decide +kernel) (by decide +kernel)
set_option maxRecDepth 20000 in
theorem gX9_place_X9_isLine : GoodIn wsX9_place (va_wsS RX9 49 yX9_isLine wsX9_isLine) := goodIn_app (goodIn_of _ (by decide +kernel)) ggX9_place_X9_isLine
set_option maxRecDepth 20000 in
theorem ggX9_place_X9_hasRoomFor : GoodIn wsX9_place wsX9_hasRoomFor := goodIn_r _ [15, 16, 26, 27, 28, 29] (by decide +kernel) (by decide +kernel)
set_option maxRecDepth 20000 in
theorem gX9_place_X9_hasRoomFor : GoodIn wsX9_place (wsV RX9 37 RX9 yX9_hasRoomFor wsX9_hasRoomFor) := goodIn_app (goodIn_of _ (by decide +kernel)) ggX9_place_X9_hasRoomFor
set_option maxRecDepth 20000 in
theorem ggX9_place_X9_append : GoodIn wsX9_place wsX9_append := goodIn_r _ [20, 16, 21, 22, 23, 4, 24, 25, 26, 27, 28, 29] (by decide +kernel) (by decide +kernel)
set_option maxRecDepth 20000 in
theorem gX9_place_X9_append : GoodIn wsX9_place (wsV RX9 41 RX9 yX9_append wsX9_append) := goodIn_app (goodIn_of _ (by decide +kernel)) ggX9_place_X9_append
set_option maxRecDepth 20000 in
theorem ggX9_range_X9_isSheetOrNone : GoodIn wsX9_range wsX9_isSheetOrNone := goodIn_r _ [5, 6, 7, 4, 8] (by decide +kernel) (by decide +kernel)
set_option maxRecDepth 20000 in
theorem gX9_range_X9_isSheetOrNone : GoodIn wsX9_range (va_wsS RX9 45 yX9_isSheetOrNone wsX9_isSheetOrNone) := goodIn_app (goodIn_of _ (by decide +kernel)) ggX9_range_X9_isSheetOrNone
set_option maxRecDepth 20000 in
theorem ggX9_range_X9_areLines : GoodIn wsX9_range wsX9_areLines := goodIn_r _ [11] (by decide +kernel) (by decide +kernel)
set_option maxRecDepth 20000 in
theorem gX9_range_X9_areLines : GoodIn wsX9_range (va_wsS RX9 52 yX9_areLines wsX9_areLines) := goodIn_app (goodIn_of _ (by decide +kernel)) ggX9_range_X9_areLines
set_option maxRecDepth 20000 in
theorem ggX9_range_X9_hasRoomFor : GoodIn wsX9_range wsX9_hasRoomFor := goodIn_r _ [15, 16, 32, 33, 34, 35] (by decide +kernel) (by decide +kernel)
set_option maxRecDepth 20000 in
theorem gX9_range_X9_hasRoomFor : GoodIn wsX9_range (wsV RX9 37 RX9 yX9_hasRoomFor wsX9_hasRoomFor) := goodIn_app (goodIn_of _ (by decide +kernel)) ggX9_range_X9_hasRoomFor
set_option maxRecDepth 20000 in
theorem ggX9_range_X9_has : GoodIn wsX9_range wsX9_has := goodIn_r _ [19] (by decide +kernel) (by decide +kernel)
set_option maxRecDepth 20000 in
theorem gX9_range_X9_has : GoodIn wsX9_range (va_wsS RX9 56 yX9_has wsX9_has) := goodIn_app (goodIn_of _ (by decide +kernel)) ggX9_range_X9_has
set_option maxRecDepth 20000 in
theorem ggX9_range_X9_areAllLines : GoodIn wsX9_range wsX9_areAllLines := goodIn_r _ [22] (by decide +kernel) (by decide +kernel)
set_option maxRecDepth 20000 in
theorem gX9_range_X9_areAllLines : GoodIn wsX9_range (va_wsS RX9 59 yX9_areAllLines wsX9_areAllLines) := goodIn_app (goodIn_of _ (by decide +kernel)) ggX9_range_X9_areAllLines
set_option maxRecDepth 20000 in
theorem ggX9_range_X9_append : GoodIn wsX9_range wsX9_append := goodIn_r _ [26, 16, 27, 28, 29, 4, 30, 31, 32, 33, 34, 35] (by decide +kernel) (by decide +kernel)
set_option maxRecDepth 20000 in
theorem gX9_range_X9_append : GoodIn wsX9_range (wsV RX9 41 RX9 yX9_append wsX9_append) := goodIn_app (goodIn_of _ (by decide +kernel)) ggX9_range_X9_append
set_option maxRecDepth 20000 in
theorem ggX9_rectangle_X9_isSheet : GoodIn wsX9_rectangle wsX9_isSheet := goodIn_r _ [9] (by decide +kernel) (by decide +kernel)
set_option maxRecDepth 20000 in
theorem gX9_rectangle_X9_isSheet : GoodIn wsX9_rectangle (va_wsS RX9 92 yX9_isSheet wsX9_isSheet) := goodIn_app (goodIn_of _ (by decide +kernel)) ggX9_rectangle_X9_isSheet
set_option maxRecDepth 20000 in
theorem ggX9_rectangle_X9_areLines : GoodIn wsX9_rectangle wsX9_areLines := goodIn_r _ [12] (by decide +kernel) (by decide +kernel)
set_option maxRecDepth 20000 in
theorem gX9_rectangle_X9_areLines : GoodIn wsX9_rectangle (va_wsS RX9 52 yX9_areLines wsX9_areLines) := goodIn_app (goodIn_of _ (by decide +kernel)) ggX9_rectangle_X9_areLines
set_option maxRecDepth 20000 in
theorem ggX9_rectangle_X0_init : GoodIn wsX9_rectangle wsX0_init := goodIn_r _ [15, 16, 17, 18, 19, 20, 21, 22, 23, 24, 25, 26, 27, 28] (by decide +kernel) (by decide +kernel)
set_option maxRecDepth 20000 in
theorem gX9_rectangle_X0_init : GoodIn wsX9_rectangle (wsX0_init) := ggX9_rectangle_X0_init
set_option maxRecDepth 20000 in
theorem ggX9_isSheetOrNone_X9_isSheet : GoodIn wsX9_isSheetOrNone wsX9_isSheet := goodIn_r _ [4] (by decide +kernel) (by decide +kernel)
set_option maxRecDepth 20000 in
theorem gX9_isSheetOrNone_X9_isSheet : GoodIn wsX9_isSheetOrNone (va_wsS RX9 92 yX9_isSheet wsX9_isSheet) := goodIn_app (goodIn_of _ (by decide +kernel)) ggX9_isSheetOrNone_X9_isSheet
set_option maxRecDepth 20000 in
theorem ggX9_append_X9_put : GoodIn wsX9_append wsX9_put := goodIn_r _ [6, 7, 8, 9, 10, 11] (by decide +kernel) (by decide +kernel)
set_option maxRecDepth 20000 in
theorem gX9_append_X9_put : GoodIn wsX9_append (wsV RX9 122 RX9 yX9_put wsX9_put) := goodIn_app (goodIn_of _ (by decide +kernel)) ggX9_append_X9_put
set_option maxRecDepth 20000 in
theorem ggX9_changeReferences_X9_word : GoodIn wsX9_changeReferences wsX9_word := goodIn_r _ [7, 1, 8, 179, 180, 181, 182] (by decide +kernel) (by decide +kernel)
set_option maxRecDepth 20000 in
theorem gX9_changeReferences_X9_word : GoodIn wsX9_changeReferences (wsV RX9 125 RX9 yX9_word wsX9_word) := goodIn_app (goodIn_of _ (by decide +kernel)) ggX9_changeReferences_X9_word
set_option maxRecDepth 20000 in
theorem ggX9_changeReferences_X9_itemLength : GoodIn wsX9_changeReferences wsX9_itemLength := goodIn_r _ [11, 12, 13, 6, 14] (by decide +kernel) (by decide +kernel)
set_option maxRecDepth 20000 in
theorem gX9_changeReferences_X9_itemLength : GoodIn wsX9_changeReferences (va_wsS RX9 129 yX9_itemLength wsX9_itemLength) := goodIn_app (goodIn_of _ (by decide +kernel)) ggX9_changeReferences_X9_itemLength
set_option maxRecDepth 20000 in
theorem ggX9_changeReferences_X9_put : GoodIn wsX9_changeReferences wsX9_put := goodIn_r _ [18, 8, 179, 180, 181, 182] (by decide +kernel) (by decide +kernel)
set_option maxRecDepth 20000 in
theorem gX9_changeReferences_X9_put : GoodIn wsX9_changeReferences (wsV RX9 122 RX9 yX9_put wsX9_put) := goodIn_app (goodIn_of _ (by decide +kernel)) ggX9_changeReferences_X9_put
set_option maxRecDepth 20000 in
theorem ggX9_changeReferences_X9_load : GoodIn wsX9_changeReferences wsX9_load := goodIn_r _ [22, 2, 23, 24, 25, 26, 27, 3, 4, 5, 6, 7, 1, 8, 28, 29, 30, 31, 32, 33, 34, 35, 36, 37, 38, 39, 40, 41, 42, 43, 179, 180, 181, 182, 183, 184, 185, 186, 187, 188, 189, 190, 191, 192] (by decide +kernel) (by decide +kernel)
set_option maxRecDepth 20000 in
theorem gX9_changeReferences_X9_load : GoodIn wsX9_changeReferences (wsV RX9 132 RX9 yX9_load wsX9_load) := goodIn_app (goodIn_of _ (by decide +kernel)) ggX9_changeReferences_X9_load
set_option maxRecDepth 20000 in
theorem ggX9_changeReferences_X2_keeps : GoodIn wsX9_changeReferences wsX2_keeps := goodIn_r _ [49, 50, 51, 52, 53, 54, 29, 6, 30, 55, 56, 57, 34, 58, 37, 36, 43, 42, 59, 60, 61, 62, 63, 64, 65, 66, 32, 33, 35, 67, 39, 40, 41, 183, 184, 185, 186, 187, 193, 194, 188, 189, 190, 191, 192] (by decide +kernel) (by decide +kernel)
set_option maxRecDepth 20000 in
theorem gX9_changeReferences_X2_keeps_u135X2 : GoodIn wsX9_changeReferences (va_wsU RX9 135 RX2 "ReferenceMover$Change" ⟨"ReferenceMover$Change", "keeps", "(LReferenceMover$Reference;)Z"⟩ yX2_keeps wsX2_keeps) := goodIn_app (goodIn_of _ (by decide +kernel)) ggX9_changeReferences_X2_keeps
set_option maxRecDepth 20000 in
theorem ggX9_changeReferences_X3_keeps : GoodIn wsX9_changeReferences wsX3_keeps := goodIn_r _ [71, 72, 73, 74, 75, 76, 77, 78, 79, 80, 81, 82, 83, 84, 85, 86, 87, 88, 89, 90, 91, 92, 93, 94, 95, 34, 96, 36, 42, 59, 97, 98, 99, 100, 101, 6, 102, 103, 104, 105, 106, 107, 108, 109, 110, 111, 112, 113, 114, 195, 196, 197, 198, 199, 200, 201, 202, 203, 204, 183, 184, 185, 186, 187, 188, 189, 190, 191, 192] (by decide +kernel) (by decide +kernel)
set_option maxRecDepth 20000 in
theorem gX9_changeReferences_X3_keeps_u135X4 : GoodIn wsX9_changeReferences (va_wsU RX9 135 RX4 "ReferenceMover$Change" ⟨"ReferenceMover$Change", "keeps", "(LReferenceMover$Reference;)Z"⟩ yX3_keeps wsX3_keeps) := goodIn_app (goodIn_of _ (by decide +kernel)) ggX9_changeReferences_X3_keeps
set_option maxRecDepth 20000 in
theorem gX9_changeReferences_X3_keeps_u135X5 : GoodIn wsX9_changeReferences (va_wsU RX9 135 RX5 "ReferenceMover$Change" ⟨"ReferenceMover$Change", "keeps", "(LReferenceMover$Reference;)Z"⟩ yX3_keeps wsX3_keeps) := goodIn_app (goodIn_of _ (by decide +kernel)) ggX9_changeReferences_X3_keeps
set_option maxRecDepth 20000 in
theorem ggX9_changeReferences_X6_keeps : GoodIn wsX9_changeReferences wsX6_keeps := goodIn_r _ [119, 120, 121, 122, 123, 124, 125, 126, 127, 128, 129, 130, 78, 79, 80, 81, 82, 131, 132, 133, 134, 135, 136, 137, 138, 139, 140, 141, 142, 143, 144, 145, 146, 34, 147, 36, 42, 148, 149, 150, 151, 205, 206, 207, 208, 183, 184, 185, 186, 187, 209, 210, 211, 212, 213, 188, 189, 190, 191, 192] (by decide +kernel) (by decide +kernel)
set_option maxRecDepth 20000 in
theorem gX9_changeReferences_X6_keeps_u135X6 : GoodIn wsX9_changeReferences (va_wsU RX9 135 RX6 "ReferenceMover$Change" ⟨"ReferenceMover$Change", "keeps", "(LReferenceMover$Reference;)Z"⟩ yX6_keeps wsX6_keeps) := goodIn_app (goodIn_of _ (by decide +kernel)) ggX9_changeReferences_X6_keeps
set_option maxRecDepth 20000 in
theorem ggX9_changeReferences_X9_store : GoodIn wsX9_changeReferences wsX9_store := goodIn_r _ [155, 2, 156, 157, 158, 80, 159, 160, 82, 161, 162, 163, 164, 165, 166, 167, 168, 169, 170, 171, 172, 173, 174, 175, 176, 177, 178, 3, 4, 5, 6, 7, 1, 8, 15, 16, 17, 18, 179, 180, 181, 182, 183, 184, 185, 186, 187, 188, 189, 190, 191, 192] (by decide +kernel) (by decide +kernel)
set_option maxRecDepth 20000 in
theorem gX9_changeReferences_X9_store : GoodIn wsX9_changeReferences (wsV RX9 141 RX9 yX9_store wsX9_store) := goodIn_app (goodIn_of _ (by decide +kernel)) ggX9_changeReferences_X9_store
set_option maxRecDepth 20000 in
theorem ggX9_itemLength_X9_isOfKind : GoodIn wsX9_itemLength wsX9_isOfKind := goodIn_r _ [4] (by decide +kernel) (by decide +kernel)
set_option maxRecDepth 20000 in
theorem gX9_itemLength_X9_isOfKind : GoodIn wsX9_itemLength (va_wsS RX9 33 yX9_isOfKind wsX9_isOfKind) := goodIn_app (goodIn_of _ (by decide +kernel)) ggX9_itemLength_X9_isOfKind
set_option maxRecDepth 20000 in
theorem ggX9_load_X9_word : GoodIn wsX9_load wsX9_word := goodIn_r _ [11, 12, 13, 30, 31, 32, 33] (by decide +kernel) (by decide +kernel)
set_option maxRecDepth 20000 in
theorem gX9_load_X9_word : GoodIn wsX9_load (wsV RX9 125 RX9 yX9_word wsX9_word) := goodIn_app (goodIn_of _ (by decide +kernel)) ggX9_load_X9_word
set_option maxRecDepth 20000 in
theorem ggX9_load_X9_has : GoodIn wsX9_load wsX9_has := goodIn_r _ [16] (by decide +kernel) (by decide +kernel)
set_option maxRecDepth 20000 in
theorem gX9_load_X9_has : GoodIn wsX9_load (va_wsS RX9 56 yX9_has wsX9_has) := goodIn_app (goodIn_of _ (by decide +kernel)) ggX9_load_X9_has
set_option maxRecDepth 20000 in
theorem ggX9_load_X8_setFirst : GoodIn wsX9_load wsX8_setFirst := goodIn_r _ [21, 22, 23, 39, 40, 41, 42, 43] (by decide +kernel) (by decide +kernel)
set_option maxRecDepth 20000 in
theorem gX9_load_X8_setFirst : GoodIn wsX9_load (wsV RX9 158 RX8 yX8_setFirst wsX8_setFirst) := goodIn_app (goodIn_of _ (by decide +kernel)) ggX9_load_X8_setFirst
set_option maxRecDepth 20000 in
theorem ggX9_load_X8_setLast : GoodIn wsX9_load wsX8_setLast := goodIn_r _ [27, 28, 29, 39, 40, 41, 42, 43] (by decide +kernel) (by decide +kernel)
set_option maxRecDepth 20000 in
theorem gX9_load_X8_setLast : GoodIn wsX9_load (wsV RX9 167 RX8 yX8_setLast wsX8_setLast) := goodIn_app (goodIn_of _ (by decide +kernel)) ggX9_load_X8_setLast
set_option maxRecDepth 20000 in
theorem ggX9_store_X7_wordAt : GoodIn wsX9_store wsX7_wordAt := goodIn_r _ [6, 7, 8, 9, 10, 11, 12, 13, 14, 15, 5, 16, 17, 18, 19, 20, 21, 22, 23, 24, 25, 26, 42, 43, 44, 45, 46, 47, 48, 49, 50, 51] (by decide +kernel) (by decide +kernel)
set_option maxRecDepth 20000 in
theorem gX9_store_X7_wordAt : GoodIn wsX9_store (wsV RX9 170 RX7 yX7_wordAt wsX7_wordAt) := goodIn_app (goodIn_of _ (by decide +kernel)) ggX9_store_X7_wordAt
set_option maxRecDepth 20000 in
theorem ggX9_store_X9_word : GoodIn wsX9_store wsX9_word := goodIn_r _ [31, 32, 33, 38, 39, 40, 41] (by decide +kernel) (by decide +kernel)
set_option maxRecDepth 20000 in
theorem gX9_store_X9_word : GoodIn wsX9_store (wsV RX9 125 RX9 yX9_word wsX9_word) := goodIn_app (goodIn_of _ (by decide +kernel)) ggX9_store_X9_word
set_option maxRecDepth 20000 in
theorem ggX9_store_X9_put : GoodIn wsX9_store wsX9_put := goodIn_r _ [37, 33, 38, 39, 40, 41] (by decide +kernel) (by decide +kernel)
set_option maxRecDepth 20000 in
theorem gX9_store_X9_put : GoodIn wsX9_store (wsV RX9 122 RX9 yX9_put wsX9_put) := goodIn_app (goodIn_of _ (by decide +kernel)) ggX9_store_X9_put
set_option maxRecDepth 20000 in
theorem ggX10_other_X10_put : GoodIn wsX10_other wsX10_put := goodIn_r _ [7, 8, 2, 9, 10, 11, 12, 13, 14, 15, 16, 17, 18, 19] (by decide +kernel) (by decide +kernel)
set_option maxRecDepth 20000 in
theorem gX10_other_X10_put : GoodIn wsX10_other (wsV RX10 35 RX10 yX10_put wsX10_put) := goodIn_app (goodIn_of _ (by decide +kernel)) ggX10_other_X10_put
set_option maxRecDepth 20000 in
theorem ggX10_isCell_X10_within : GoodIn wsX10_isCell wsX10_within := goodIn_r _ [5] (by decide +kernel) (by decide +kernel)
set_option maxRecDepth 20000 in
theorem gX10_isCell_X10_within : GoodIn wsX10_isCell (va_wsS RX10 40 yX10_within wsX10_within) := goodIn_app (goodIn_of _ (by decide +kernel)) ggX10_isCell_X10_within
set_option maxRecDepth 20000 in
theorem ggX10_place_X10_within : GoodIn wsX10_place wsX10_within := goodIn_r _ [6] (by decide +kernel) (by decide +kernel)
set_option maxRecDepth 20000 in
theorem gX10_place_X10_within : GoodIn wsX10_place (va_wsS RX10 40 yX10_within wsX10_within) := goodIn_app (goodIn_of _ (by decide +kernel)) ggX10_place_X10_within
set_option maxRecDepth 20000 in
theorem ggX10_place_X10_isCell : GoodIn wsX10_place wsX10_isCell := goodIn_r _ [9, 10, 3, 4, 5, 6] (by decide +kernel) (by decide +kernel)
set_option maxRecDepth 20000 in
theorem gX10_place_X10_isCell : GoodIn wsX10_place (va_wsS RX10 44 yX10_isCell wsX10_isCell) := goodIn_app (goodIn_of _ (by decide +kernel)) ggX10_place_X10_isCell
set_option maxRecDepth 20000 in
theorem ggX10_place_X10_put : GoodIn wsX10_place wsX10_put := goodIn_r _ [14, 15, 2, 16, 17, 18, 19, 20, 21, 22, 23, 24, 25, 26] (by decide +kernel) (by decide +kernel)
set_option maxRecDepth 20000 in
theorem gX10_place_X10_put : GoodIn wsX10_place (wsV RX10 35 RX10 yX10_put wsX10_put) := goodIn_app (goodIn_of _ (by decide +kernel)) ggX10_place_X10_put
set_option maxRecDepth 20000 in
theorem ggX10_range_X10_within : GoodIn wsX10_range wsX10_within := goodIn_r _ [7] (by decide +kernel) (by decide +kernel)
set_option maxRecDepth 20000 in
theorem gX10_range_X10_within : GoodIn wsX10_range (va_wsS RX10 40 yX10_within wsX10_within) := goodIn_app (goodIn_of _ (by decide +kernel)) ggX10_range_X10_within
set_option maxRecDepth 20000 in
theorem ggX10_range_X10_isCell : GoodIn wsX10_range wsX10_isCell := goodIn_r _ [10, 2, 4, 5, 6, 7] (by decide +kernel) (by decide +kernel)
set_option maxRecDepth 20000 in
theorem gX10_range_X10_isCell : GoodIn wsX10_range (va_wsS RX10 44 yX10_isCell wsX10_isCell) := goodIn_app (goodIn_of _ (by decide +kernel)) ggX10_range_X10_isCell
set_option maxRecDepth 20000 in
theorem ggX10_range_X10_put : GoodIn wsX10_range wsX10_put := goodIn_r _ [14, 15, 3, 16, 17, 18, 19, 20, 21, 22, 23, 24, 25, 26] (by decide +kernel) (by decide +kernel)
set_option maxRecDepth 20000 in
theorem gX10_range_X10_put : GoodIn wsX10_range (wsV RX10 35 RX10 yX10_put wsX10_put) := goodIn_app (goodIn_of _ (by decide +kernel)) ggX10_range_X10_put
set_option maxRecDepth 20000 in
theorem ggX10_lose_X10_make : GoodIn wsX10_lose wsX10_make := goodIn_r _ [6, 7, 8, 9, 10, 11, 12, 13, 14, 15, 16, 17, 18, 19] (by decide +kernel) (by decide +kernel)
set_option maxRecDepth 20000 in
theorem gX10_lose_X10_make : GoodIn wsX10_lose (wsV RX10 51 RX10 yX10_make wsX10_make) := goodIn_app (goodIn_of _ (by decide +kernel)) ggX10_lose_X10_make
set_option maxRecDepth 20000 in
theorem ggX10_makePlace_X10_make : GoodIn wsX10_makePlace wsX10_make := goodIn_r _ [7, 8, 9, 10, 11, 12, 13, 14, 15, 16, 17, 18, 19, 20] (by decide +kernel) (by decide +kernel)
set_option maxRecDepth 20000 in
theorem gX10_makePlace_X10_make : GoodIn wsX10_makePlace (wsV RX10 51 RX10 yX10_make wsX10_make) := goodIn_app (goodIn_of _ (by decide +kernel)) ggX10_makePlace_X10_make
set_option maxRecDepth 20000 in
theorem ggX10_makeRange_X10_make : GoodIn wsX10_makeRange wsX10_make := goodIn_r _ [7, 8, 9, 10, 11, 12, 13, 14, 15, 16, 17, 18, 19, 20] (by decide +kernel) (by decide +kernel)
set_option maxRecDepth 20000 in
theorem gX10_makeRange_X10_make : GoodIn wsX10_makeRange (wsV RX10 51 RX10 yX10_make wsX10_make) := goodIn_app (goodIn_of _ (by decide +kernel)) ggX10_makeRange_X10_make
set_option maxRecDepth 20000 in
theorem ggX10_moved_X10_within : GoodIn wsX10_moved wsX10_within := goodIn_r _ [4] (by decide +kernel) (by decide +kernel)
set_option maxRecDepth 20000 in
theorem gX10_moved_X10_within : GoodIn wsX10_moved (va_wsS RX10 40 yX10_within wsX10_within) := goodIn_app (goodIn_of _ (by decide +kernel)) ggX10_moved_X10_within
set_option maxRecDepth 20000 in
theorem ggX10_copyRange_X10_moved : GoodIn wsX10_copyRange wsX10_moved := goodIn_r _ [6, 7, 8, 5, 9] (by decide +kernel) (by decide +kernel)
set_option maxRecDepth 20000 in
theorem gX10_copyRange_X10_moved : GoodIn wsX10_copyRange (va_wsS RX10 57 yX10_moved wsX10_moved) := goodIn_app (goodIn_of _ (by decide +kernel)) ggX10_copyRange_X10_moved
set_option maxRecDepth 20000 in
theorem ggX10_copyRange_X10_lose : GoodIn wsX10_copyRange wsX10_lose := goodIn_r _ [13, 14, 15, 16, 17, 5, 18, 19, 20, 25, 26, 27, 28, 29, 30, 31, 32, 33, 34, 35] (by decide +kernel) (by decide +kernel)
set_option maxRecDepth 20000 in
theorem gX10_copyRange_X10_lose : GoodIn wsX10_copyRange (wsV RX10 61 RX10 yX10_lose wsX10_lose) := goodIn_app (goodIn_of _ (by decide +kernel)) ggX10_copyRange_X10_lose
set_option maxRecDepth 20000 in
theorem ggX10_copyRange_X10_makeRange : GoodIn wsX10_copyRange wsX10_makeRange := goodIn_r _ [24, 14, 1, 15, 16, 17, 5, 18, 19, 20, 25, 26, 27, 28, 29, 30, 31, 32, 33, 34, 35] (by decide +kernel) (by decide +kernel)
set_option maxRecDepth 20000 in
theorem gX10_copyRange_X10_makeRange : GoodIn wsX10_copyRange (wsV RX10 64 RX10 yX10_makeRange wsX10_makeRange) := goodIn_app (goodIn_of _ (by decide +kernel)) ggX10_copyRange_X10_makeRange
set_option maxRecDepth 20000 in
theorem ggX10_copy_X10_within : GoodIn wsX10_copy wsX10_within := goodIn_r _ [10] (by decide +kernel) (by decide +kernel)
set_option maxRecDepth 20000 in
theorem gX10_copy_X10_within : GoodIn wsX10_copy (va_wsS RX10 40 yX10_within wsX10_within) := goodIn_app (goodIn_of _ (by decide +kernel)) ggX10_copy_X10_within
set_option maxRecDepth 20000 in
theorem ggX10_copy_X10_begin : GoodIn wsX10_copy wsX10_begin := goodIn_r _ [14, 15, 16, 49, 50, 51, 52, 53, 54, 55, 56, 57, 58, 59] (by decide +kernel) (by decide +kernel)
set_option maxRecDepth 20000 in
theorem gX10_copy_X10_begin : GoodIn wsX10_copy (wsV RX10 70 RX10 yX10_begin wsX10_begin) := goodIn_app (goodIn_of _ (by decide +kernel)) ggX10_copy_X10_begin
set_option maxRecDepth 20000 in
theorem ggX10_copy_X10_lengthAt : GoodIn wsX10_copy wsX10_lengthAt := goodIn_r _ [20, 5, 49, 50, 51, 52, 53, 54, 55, 56, 57, 58, 59] (by decide +kernel) (by decide +kernel)
set_option maxRecDepth 20000 in
theorem gX10_copy_X10_lengthAt : GoodIn wsX10_copy (wsV RX10 73 RX10 yX10_lengthAt wsX10_lengthAt) := goodIn_app (goodIn_of _ (by decide +kernel)) ggX10_copy_X10_lengthAt
set_option maxRecDepth 20000 in
theorem ggX10_copy_X10_moved : GoodIn wsX10_copy wsX10_moved := goodIn_r _ [23, 7, 8, 9, 10] (by decide +kernel) (by decide +kernel)
set_option maxRecDepth 20000 in
theorem gX10_copy_X10_moved : GoodIn wsX10_copy (va_wsS RX10 57 yX10_moved wsX10_moved) := goodIn_app (goodIn_of _ (by decide +kernel)) ggX10_copy_X10_moved
set_option maxRecDepth 20000 in
theorem ggX10_copy_X10_make : GoodIn wsX10_copy wsX10_make := goodIn_r _ [27, 28, 15, 49, 50, 51, 52, 53, 54, 55, 56, 57, 58, 59] (by decide +kernel) (by decide +kernel)
set_option maxRecDepth 20000 in
theorem gX10_copy_X10_make : GoodIn wsX10_copy (wsV RX10 51 RX10 yX10_make wsX10_make) := goodIn_app (goodIn_of _ (by decide +kernel)) ggX10_copy_X10_make
set_option maxRecDepth 20000 in
theorem ggX10_copy_X10_copyRange : GoodIn wsX10_copy wsX10_copyRange := goodIn_r _ [32, 5, 6, 21, 22, 9, 23, 7, 8, 10, 33, 34, 35, 36, 16, 24, 25, 26, 27, 28, 15, 37, 38, 39, 40, 49, 50, 51, 52, 53, 54, 55, 56, 57, 58, 59] (by decide +kernel) (by decide +kernel)
set_option maxRecDepth 20000 in
theorem gX10_copy_X10_copyRange : GoodIn wsX10_copy (wsV RX10 77 RX10 yX10_copyRange wsX10_copyRange) := goodIn_app (goodIn_of _ (by decide +kernel)) ggX10_copy_X10_copyRange
set_option maxRecDepth 20000 in
theorem ggX10_copy_X10_lose : GoodIn wsX10_copy wsX10_lose := goodIn_r _ [36, 16, 24, 25, 26, 9, 27, 28, 15, 49, 50, 51, 52, 53, 54, 55, 56, 57, 58, 59] (by decide +kernel) (by decide +kernel)
set_option maxRecDepth 20000 in
theorem gX10_copy_X10_lose : GoodIn wsX10_copy (wsV RX10 61 RX10 yX10_lose wsX10_lose) := goodIn_app (goodIn_of _ (by decide +kernel)) ggX10_copy_X10_lose
set_option maxRecDepth 20000 in
theorem ggX10_copy_X10_makePlace : GoodIn wsX10_copy wsX10_makePlace := goodIn_r _ [44, 16, 5, 24, 25, 26, 9, 27, 28, 15, 49, 50, 51, 52, 53, 54, 55, 56, 57, 58, 59] (by decide +kernel) (by decide +kernel)
set_option maxRecDepth 20000 in
theorem gX10_copy_X10_makePlace : GoodIn wsX10_copy (wsV RX10 81 RX10 yX10_makePlace wsX10_makePlace) := goodIn_app (goodIn_of _ (by decide +kernel)) ggX10_copy_X10_makePlace
set_option maxRecDepth 20000 in
theorem ggX10_copy_X10_finish : GoodIn wsX10_copy wsX10_finish := goodIn_r _ [48, 15, 5, 28, 4, 16, 49, 50, 51, 52, 53, 54, 55, 56, 57, 58, 59] (by decide +kernel) (by decide +kernel)
set_option maxRecDepth 20000 in
theorem gX10_copy_X10_finish : GoodIn wsX10_copy (wsV RX10 85 RX10 yX10_finish wsX10_finish) := goodIn_app (goodIn_of _ (by decide +kernel)) ggX10_copy_X10_finish
set_option maxRecDepth 20000 in
theorem ggX10_shifted_X10_lines : GoodIn wsX10_shifted wsX10_lines := goodIn_r _ [4, 5] (by decide +kernel) (by decide +kernel)
set_option maxRecDepth 20000 in
theorem gX10_shifted_X10_lines : GoodIn wsX10_shifted (va_wsS RX10 89 yX10_lines wsX10_lines) := goodIn_app (goodIn_of _ (by decide +kernel)) ggX10_shifted_X10_lines
set_option maxRecDepth 20000 in
theorem ggX10_firstLeft_X10_shifted : GoodIn wsX10_firstLeft wsX10_shifted := goodIn_r _ [4, 5, 6, 3, 7, 8] (by decide +kernel) (by decide +kernel)
set_option maxRecDepth 20000 in
theorem gX10_firstLeft_X10_shifted : GoodIn wsX10_firstLeft (va_wsS RX10 93 yX10_shifted wsX10_shifted) := goodIn_app (goodIn_of _ (by decide +kernel)) ggX10_firstLeft_X10_shifted
set_option maxRecDepth 20000 in
theorem ggX10_lastLeft_X10_shifted : GoodIn wsX10_lastLeft wsX10_shifted := goodIn_r _ [4, 5, 6, 3, 7, 8] (by decide +kernel) (by decide +kernel)
set_option maxRecDepth 20000 in
theorem gX10_lastLeft_X10_shifted : GoodIn wsX10_lastLeft (va_wsS RX10 93 yX10_shifted wsX10_shifted) := goodIn_app (goodIn_of _ (by decide +kernel)) ggX10_lastLeft_X10_shifted
set_option maxRecDepth 20000 in
theorem ggX10_lastLeft_X10_lines : GoodIn wsX10_lastLeft wsX10_lines := goodIn_r _ [7, 8] (by decide +kernel) (by decide +kernel)
set_option maxRecDepth 20000 in
theorem gX10_lastLeft_X10_lines : GoodIn wsX10_lastLeft (va_wsS RX10 89 yX10_lines wsX10_lines) := goodIn_app (goodIn_of _ (by decide +kernel)) ggX10_lastLeft_X10_lines
set_option maxRecDepth 20000 in
theorem ggX10_shiftRange_X10_lines : GoodIn wsX10_shiftRange wsX10_lines := goodIn_r _ [5, 6] (by decide +kernel) (by decide +kernel)
set_option maxRecDepth 20000 in
theorem gX10_shiftRange_X10_lines : GoodIn wsX10_shiftRange (va_wsS RX10 89 yX10_lines wsX10_lines) := goodIn_app (goodIn_of _ (by decide +kernel)) ggX10_shiftRange_X10_lines
set_option maxRecDepth 20000 in
theorem ggX10_shiftRange_X10_firstLeft : GoodIn wsX10_shiftRange wsX10_firstLeft := goodIn_r _ [9, 10, 11, 4, 12, 2, 3, 5, 6] (by decide +kernel) (by decide +kernel)
set_option maxRecDepth 20000 in
theorem gX10_shiftRange_X10_firstLeft : GoodIn wsX10_shiftRange (va_wsS RX10 96 yX10_firstLeft wsX10_firstLeft) := goodIn_app (goodIn_of _ (by decide +kernel)) ggX10_shiftRange_X10_firstLeft
set_option maxRecDepth 20000 in
theorem ggX10_shiftRange_X10_lastLeft : GoodIn wsX10_shiftRange wsX10_lastLeft := goodIn_r _ [15, 10, 11, 4, 12, 2, 3, 5, 6] (by decide +kernel) (by decide +kernel)
set_option maxRecDepth 20000 in
theorem gX10_shiftRange_X10_lastLeft : GoodIn wsX10_shiftRange (va_wsS RX10 100 yX10_lastLeft wsX10_lastLeft) := goodIn_app (goodIn_of _ (by decide +kernel)) ggX10_shiftRange_X10_lastLeft
set_option maxRecDepth 20000 in
theorem ggX10_shiftRange_X10_lose : GoodIn wsX10_shiftRange wsX10_lose := goodIn_r _ [19, 20, 21, 22, 23, 4, 24, 25, 26, 31, 32, 33, 34, 35, 36, 37, 38, 39, 40, 41] (by decide +kernel) (by decide +kernel)
set_option maxRecDepth 20000 in
theorem gX10_shiftRange_X10_lose : GoodIn wsX10_shiftRange (wsV RX10 61 RX10 yX10_lose wsX10_lose) := goodIn_app (goodIn_of _ (by decide +kernel)) ggX10_shiftRange_X10_lose
set_option maxRecDepth 20000 in
theorem ggX10_shiftRange_X10_makeRange : GoodIn wsX10_shiftRange wsX10_makeRange := goodIn_r _ [30, 20, 1, 21, 22, 23, 4, 24, 25, 26, 31, 32, 33, 34, 35, 36, 37, 38, 39, 40, 41] (by decide +kernel) (by decide +kernel)
set_option maxRecDepth 20000 in
theorem gX10_shiftRange_X10_makeRange : GoodIn wsX10_shiftRange (wsV RX10 64 RX10 yX10_makeRange wsX10_makeRange) := goodIn_app (goodIn_of _ (by decide +kernel)) ggX10_shiftRange_X10_makeRange
set_option maxRecDepth 20000 in
theorem ggX10_shift_X10_begin : GoodIn wsX10_shift wsX10_begin := goodIn_r _ [7, 8, 9, 52, 53, 54, 55, 56, 57, 58, 59, 60, 61, 62] (by decide +kernel) (by decide +kernel)
set_option maxRecDepth 20000 in
theorem gX10_shift_X10_begin : GoodIn wsX10_shift (wsV RX10 70 RX10 yX10_begin wsX10_begin) := goodIn_app (goodIn_of _ (by decide +kernel)) ggX10_shift_X10_begin
set_option maxRecDepth 20000 in
theorem ggX10_shift_X10_lengthAt : GoodIn wsX10_shift wsX10_lengthAt := goodIn_r _ [13, 2, 52, 53, 54, 55, 56, 57, 58, 59, 60, 61, 62] (by decide +kernel) (by decide +kernel)
set_option maxRecDepth 20000 in
theorem gX10_shift_X10_lengthAt : GoodIn wsX10_shift (wsV RX10 73 RX10 yX10_lengthAt wsX10_lengthAt) := goodIn_app (goodIn_of _ (by decide +kernel)) ggX10_shift_X10_lengthAt
set_option maxRecDepth 20000 in
theorem ggX10_shift_X10_make : GoodIn wsX10_shift wsX10_make := goodIn_r _ [17, 18, 8, 52, 53, 54, 55, 56, 57, 58, 59, 60, 61, 62] (by decide +kernel) (by decide +kernel)
set_option maxRecDepth 20000 in
theorem gX10_shift_X10_make : GoodIn wsX10_shift (wsV RX10 51 RX10 yX10_make wsX10_make) := goodIn_app (goodIn_of _ (by decide +kernel)) ggX10_shift_X10_make
set_option maxRecDepth 20000 in
theorem ggX10_shift_X10_shiftRange : GoodIn wsX10_shift wsX10_shiftRange := goodIn_r _ [22, 2, 23, 24, 6, 25, 26, 27, 28, 29, 30, 31, 32, 33, 34, 35, 36, 37, 38, 39, 9, 14, 15, 16, 17, 18, 8, 40, 41, 42, 43, 52, 53, 54, 55, 56, 57, 58, 59, 60, 61, 62] (by decide +kernel) (by decide +kernel)
set_option maxRecDepth 20000 in
theorem gX10_shift_X10_shiftRange : GoodIn wsX10_shift (wsV RX10 103 RX10 yX10_shiftRange wsX10_shiftRange) := goodIn_app (goodIn_of _ (by decide +kernel)) ggX10_shift_X10_shiftRange
set_option maxRecDepth 20000 in
theorem ggX10_shift_X10_shifted : GoodIn wsX10_shift wsX10_shifted := goodIn_r _ [32, 23, 24, 6, 25, 26] (by decide +kernel) (by decide +kernel)
set_option maxRecDepth 20000 in
theorem gX10_shift_X10_shifted : GoodIn wsX10_shift (va_wsS RX10 93 yX10_shifted wsX10_shifted) := goodIn_app (goodIn_of _ (by decide +kernel)) ggX10_shift_X10_shifted
set_option maxRecDepth 20000 in
theorem ggX10_shift_X10_lose : GoodIn wsX10_shift wsX10_lose := goodIn_r _ [39, 9, 14, 15, 16, 6, 17, 18, 8, 52, 53, 54, 55, 56, 57, 58, 59, 60, 61, 62] (by decide +kernel) (by decide +kernel)
set_option maxRecDepth 20000 in
theorem gX10_shift_X10_lose : GoodIn wsX10_shift (wsV RX10 61 RX10 yX10_lose wsX10_lose) := goodIn_app (goodIn_of _ (by decide +kernel)) ggX10_shift_X10_lose
set_option maxRecDepth 20000 in
theorem ggX10_shift_X10_makePlace : GoodIn wsX10_shift wsX10_makePlace := goodIn_r _ [47, 9, 2, 14, 15, 16, 6, 17, 18, 8, 52, 53, 54, 55, 56, 57, 58, 59, 60, 61, 62] (by decide +kernel) (by decide +kernel)
set_option maxRecDepth 20000 in
theorem gX10_shift_X10_makePlace : GoodIn wsX10_shift (wsV RX10 81 RX10 yX10_makePlace wsX10_makePlace) := goodIn_app (goodIn_of _ (by decide +kernel)) ggX10_shift_X10_makePlace
set_option maxRecDepth 20000 in
theorem ggX10_shift_X10_finish : GoodIn wsX10_shift wsX10_finish := goodIn_r _ [51, 8, 2, 18, 1, 9, 52, 53, 54, 55, 56, 57, 58, 59, 60, 61, 62] (by decide +kernel) (by decide +kernel)
set_option maxRecDepth 20000 in
theorem gX10_shift_X10_finish : GoodIn wsX10_shift (wsV RX10 85 RX10 yX10_finish wsX10_finish) := goodIn_app (goodIn_of _ (by decide +kernel)) ggX10_shift_X10_finish
set_option maxRecDepth 20000 in
theorem ggX10_isLine_X10_within : GoodIn wsX10_isLine wsX10_within := goodIn_r _ [4] (by decide +kernel) (by decide +kernel)
set_option maxRecDepth 20000 in
theorem gX10_isLine_X10_within : GoodIn wsX10_isLine (va_wsS RX10 40 yX10_within wsX10_within) := goodIn_app (goodIn_of _ (by decide +kernel)) ggX10_isLine_X10_within
set_option maxRecDepth 20000 in
theorem ggX10_isLine_X10_lines : GoodIn wsX10_isLine wsX10_lines := goodIn_r _ [7, 8] (by decide +kernel) (by decide +kernel)
set_option maxRecDepth 20000 in
theorem gX10_isLine_X10_lines : GoodIn wsX10_isLine (va_wsS RX10 89 yX10_lines wsX10_lines) := goodIn_app (goodIn_of _ (by decide +kernel)) ggX10_isLine_X10_lines
set_option maxRecDepth 20000 in
theorem ggX10_insert_X10_isLine : GoodIn wsX10_insert wsX10_isLine := goodIn_r _ [5, 6, 7, 4, 8, 9, 10, 11, 12] (by decide +kernel) (by decide +kernel)
set_option maxRecDepth 20000 in
theorem gX10_insert_X10_isLine : GoodIn wsX10_insert (va_wsS RX10 107 yX10_isLine wsX10_isLine) := goodIn_app (goodIn_of _ (by decide +kernel)) ggX10_insert_X10_isLine
set_option maxRecDepth 20000 in
theorem ggX10_insert_X10_shift : GoodIn wsX10_insert wsX10_shift := goodIn_r _ [16, 17, 18, 19, 20, 21, 4, 22, 23, 24, 25, 26, 27, 28, 29, 30, 31, 32, 33, 34, 35, 36, 37, 9, 10, 11, 12, 38, 39, 40, 41, 42, 43, 44, 45, 46, 47, 48, 49, 50, 51, 52, 53, 54, 55, 56, 57, 58, 59, 60, 61, 62, 63, 64, 65, 66, 67, 68, 69, 70, 71, 72, 73] (by decide +kernel) (by decide +kernel)
set_option maxRecDepth 20000 in
theorem gX10_insert_X10_shift : GoodIn wsX10_insert (wsV RX10 111 RX10 yX10_shift wsX10_shift) := goodIn_app (goodIn_of _ (by decide +kernel)) ggX10_insert_X10_shift
set_option maxRecDepth 20000 in
theorem ggX10_delete_X10_isLine : GoodIn wsX10_delete wsX10_isLine := goodIn_r _ [5, 6, 7, 4, 8, 9, 10, 11, 12] (by decide +kernel) (by decide +kernel)
set_option maxRecDepth 20000 in
theorem gX10_delete_X10_isLine : GoodIn wsX10_delete (va_wsS RX10 107 yX10_isLine wsX10_isLine) := goodIn_app (goodIn_of _ (by decide +kernel)) ggX10_delete_X10_isLine
set_option maxRecDepth 20000 in
theorem ggX10_delete_X10_shift : GoodIn wsX10_delete wsX10_shift := goodIn_r _ [16, 17, 18, 19, 20, 21, 4, 22, 23, 24, 25, 26, 27, 28, 29, 30, 31, 32, 33, 34, 35, 36, 37, 9, 10, 11, 12, 38, 39, 40, 41, 42, 43, 44, 45, 46, 47, 48, 49, 50, 51, 52, 53, 54, 55, 56, 57, 58, 59, 60, 61, 62, 63, 64, 65, 66, 67, 68, 69, 70, 71, 72, 73] (by decide +kernel) (by decide +kernel)
set_option maxRecDepth 20000 in
theorem gX10_delete_X10_shift : GoodIn wsX10_delete (wsV RX10 111 RX10 yX10_shift wsX10_shift) := goodIn_app (goodIn_of _ (by decide +kernel)) ggX10_delete_X10_shift
set_option maxRecDepth 20000 in
theorem ggX10_rectangle_X10_within : GoodIn wsX10_rectangle wsX10_within := goodIn_r _ [10] (by decide +kernel) (by decide +kernel)
set_option maxRecDepth 20000 in
theorem gX10_rectangle_X10_within : GoodIn wsX10_rectangle (va_wsS RX10 40 yX10_within wsX10_within) := goodIn_app (goodIn_of _ (by decide +kernel)) ggX10_rectangle_X10_within
set_option maxRecDepth 20000 in
theorem ggX10_rectangle_X10_isCell : GoodIn wsX10_rectangle wsX10_isCell := goodIn_r _ [13, 14, 7, 8, 9, 10] (by decide +kernel) (by decide +kernel)
set_option maxRecDepth 20000 in
theorem gX10_rectangle_X10_isCell : GoodIn wsX10_rectangle (va_wsS RX10 44 yX10_isCell wsX10_isCell) := goodIn_app (goodIn_of _ (by decide +kernel)) ggX10_rectangle_X10_isCell
set_option maxRecDepth 20000 in
theorem ggX10_moveItem_X10_lengthAt : GoodIn wsX10_moveItem wsX10_lengthAt := goodIn_r _ [11, 1, 31, 32, 33, 34, 35, 36, 37, 38, 39, 40, 41] (by decide +kernel) (by decide +kernel)
set_option maxRecDepth 20000 in
theorem gX10_moveItem_X10_lengthAt : GoodIn wsX10_moveItem (wsV RX10 73 RX10 yX10_lengthAt wsX10_lengthAt) := goodIn_app (goodIn_of _ (by decide +kernel)) ggX10_moveItem_X10_lengthAt
set_option maxRecDepth 20000 in
theorem ggX10_moveItem_X10_lose : GoodIn wsX10_moveItem wsX10_lose := goodIn_r _ [15, 16, 17, 18, 19, 10, 20, 21, 22, 31, 32, 33, 34, 35, 36, 37, 38, 39, 40, 41] (by decide +kernel) (by decide +kernel)
set_option maxRecDepth 20000 in
theorem gX10_moveItem_X10_lose : GoodIn wsX10_moveItem (wsV RX10 61 RX10 yX10_lose wsX10_lose) := goodIn_app (goodIn_of _ (by decide +kernel)) ggX10_moveItem_X10_lose
set_option maxRecDepth 20000 in
theorem ggX10_moveItem_X10_makePlace : GoodIn wsX10_moveItem wsX10_makePlace := goodIn_r _ [26, 16, 1, 17, 18, 19, 10, 20, 21, 22, 31, 32, 33, 34, 35, 36, 37, 38, 39, 40, 41] (by decide +kernel) (by decide +kernel)
set_option maxRecDepth 20000 in
theorem gX10_moveItem_X10_makePlace : GoodIn wsX10_moveItem (wsV RX10 81 RX10 yX10_makePlace wsX10_makePlace) := goodIn_app (goodIn_of _ (by decide +kernel)) ggX10_moveItem_X10_makePlace
set_option maxRecDepth 20000 in
theorem ggX10_moveItem_X10_makeRange : GoodIn wsX10_moveItem wsX10_makeRange := goodIn_r _ [30, 16, 1, 17, 18, 19, 10, 20, 21, 22, 31, 32, 33, 34, 35, 36, 37, 38, 39, 40, 41] (by decide +kernel) (by decide +kernel)
set_option maxRecDepth 20000 in
theorem gX10_moveItem_X10_makeRange : GoodIn wsX10_moveItem (wsV RX10 64 RX10 yX10_makeRange wsX10_makeRange) := goodIn_app (goodIn_of _ (by decide +kernel)) ggX10_moveItem_X10_makeRange
set_option maxRecDepth 20000 in
theorem ggX10_move_X10_within : GoodIn wsX10_move wsX10_within := goodIn_r _ [12] (by decide +kernel) (by decide +kernel)
set_option maxRecDepth 20000 in
theorem gX10_move_X10_within : GoodIn wsX10_move (va_wsS RX10 40 yX10_within wsX10_within) := goodIn_app (goodIn_of _ (by decide +kernel)) ggX10_move_X10_within
set_option maxRecDepth 20000 in
theorem ggX10_move_X10_isCell : GoodIn wsX10_move wsX10_isCell := goodIn_r _ [15, 3, 9, 10, 11, 12] (by decide +kernel) (by decide +kernel)
set_option maxRecDepth 20000 in
theorem gX10_move_X10_isCell : GoodIn wsX10_move (va_wsS RX10 44 yX10_isCell wsX10_isCell) := goodIn_app (goodIn_of _ (by decide +kernel)) ggX10_move_X10_isCell
set_option maxRecDepth 20000 in
theorem ggX10_move_X10_begin : GoodIn wsX10_move wsX10_begin := goodIn_r _ [19, 20, 21, 52, 53, 54, 55, 56, 57, 58, 59, 60, 61, 62] (by decide +kernel) (by decide +kernel)
set_option maxRecDepth 20000 in
theorem gX10_move_X10_begin : GoodIn wsX10_move (wsV RX10 70 RX10 yX10_begin wsX10_begin) := goodIn_app (goodIn_of _ (by decide +kernel)) ggX10_move_X10_begin
set_option maxRecDepth 20000 in
theorem ggX10_move_X10_lengthAt : GoodIn wsX10_move wsX10_lengthAt := goodIn_r _ [25, 8, 52, 53, 54, 55, 56, 57, 58, 59, 60, 61, 62] (by decide +kernel) (by decide +kernel)
set_option maxRecDepth 20000 in
theorem gX10_move_X10_lengthAt : GoodIn wsX10_move (wsV RX10 73 RX10 yX10_lengthAt wsX10_lengthAt) := goodIn_app (goodIn_of _ (by decide +kernel)) ggX10_move_X10_lengthAt
set_option maxRecDepth 20000 in
theorem ggX10_move_X10_make : GoodIn wsX10_move wsX10_make := goodIn_r _ [29, 30, 20, 52, 53, 54, 55, 56, 57, 58, 59, 60, 61, 62] (by decide +kernel) (by decide +kernel)
set_option maxRecDepth 20000 in
theorem gX10_move_X10_make : GoodIn wsX10_move (wsV RX10 51 RX10 yX10_make wsX10_make) := goodIn_app (goodIn_of _ (by decide +kernel)) ggX10_move_X10_make
set_option maxRecDepth 20000 in
theorem ggX10_move_X10_moveItem : GoodIn wsX10_move wsX10_moveItem := goodIn_r _ [34, 8, 2, 5, 35, 1, 4, 22, 23, 24, 11, 25, 36, 37, 38, 39, 21, 26, 27, 28, 29, 30, 20, 40, 41, 42, 43, 44, 45, 46, 47, 52, 53, 54, 55, 56, 57, 58, 59, 60, 61, 62] (by decide +kernel) (by decide +kernel)
set_option maxRecDepth 20000 in
theorem gX10_move_X10_moveItem : GoodIn wsX10_move (wsV RX10 117 RX10 yX10_moveItem wsX10_moveItem) := goodIn_app (goodIn_of _ (by decide +kernel)) ggX10_move_X10_moveItem
set_option maxRecDepth 20000 in
theorem ggX10_move_X10_finish : GoodIn wsX10_move wsX10_finish := goodIn_r _ [51, 20, 8, 30, 7, 21, 52, 53, 54, 55, 56, 57, 58, 59, 60, 61, 62] (by decide +kernel) (by decide +kernel)
set_option maxRecDepth 20000 in
theorem gX10_move_X10_finish : GoodIn wsX10_move (wsV RX10 85 RX10 yX10_finish wsX10_finish) := goodIn_app (goodIn_of _ (by decide +kernel)) ggX10_move_X10_finish
abbrev vwCl : List vw_C := [(RX0, TX0, 5), (RX2, TX2, 2), (RX4, TX4, 5), (RX5, TX5, 5), (RX6, TX6, 4), (RX7, TX7, 5), (RX8, TX8, 5), (RX9, TX9, 4), (RX10, TX10, 11)]

