/-! ===== BEGIN printed: names, fields, word lists, decode rows ===== -/
def RX0 : String := "Windowhouse$Window"
def TX0 : u_T := fun k => match k with
  | 0 => ("Windowhouse$Window", "kind", "C", false)
  | 1 => ("Windowhouse$Window", "onlyReads", "Z", false)
  | 2 => ("Windowhouse$Window", "store", "[J", false)
  | 3 => ("Windowhouse$Window", "start", "I", false)
  | 4 => ("Windowhouse$Window", "capacity", "I", false)
  | 5 => ("Windowhouse$Window", "place", "I", false)
  | 6 => ("Windowhouse$Window", "end", "I", false)
  | _ => ("Windowhouse$Window", "mark", "I", false)
def tyX0 : Nat → FieldType := fun k => match k with
  | 0 => .char
  | 1 => .boolean
  | 2 => .array .long
  | 3 => .int
  | 4 => .int
  | 5 => .int
  | 6 => .int
  | _ => .int
abbrev wsX00 : List Cond := u_ws RX0 TX0 8
theorem nmX0 : ∀ a, a < 8 → ∀ b, b < 8 → a ≠ b → (TX0 a).2.1 ≠ (TX0 b).2.1 := by decide +kernel
theorem tyX0_ok : ∀ k, k < 8 → parseFieldDescriptor (TX0 k).2.2.1 = some (tyX0 k) := by decide +kernel
abbrev cX0_init : ByteArray := prog_2_method_1_code
def yX0_init : MethodName := ⟨RX0, "<init>", "()V"⟩
abbrev cX0_isThere : ByteArray := prog_2_method_2_code
def yX0_isThere : MethodName := ⟨RX0, "isThere", "()Z"⟩
abbrev cX0_rest : ByteArray := prog_2_method_3_code
def yX0_rest : MethodName := ⟨RX0, "rest", "()I"⟩
abbrev cX0_isInBounds : ByteArray := prog_2_method_4_code
def yX0_isInBounds : MethodName := ⟨RX0, "isInBounds", "()Z"⟩
abbrev cX0_layOver : ByteArray := prog_2_method_5_code
def yX0_layOver : MethodName := ⟨RX0, "layOver", "(C[J)V"⟩
abbrev cX0_becomeSlice : ByteArray := prog_2_method_6_code
def yX0_becomeSlice : MethodName := ⟨RX0, "becomeSlice", "(LWindowhouse$Window;II)V"⟩
abbrev cX0_becomeDuplicate : ByteArray := prog_2_method_7_code
def yX0_becomeDuplicate : MethodName := ⟨RX0, "becomeDuplicate", "(LWindowhouse$Window;)V"⟩
abbrev cX0_moveTo : ByteArray := prog_2_method_8_code
def yX0_moveTo : MethodName := ⟨RX0, "moveTo", "(II)V"⟩
abbrev cX0_dropMarkBeyond : ByteArray := prog_2_method_9_code
def yX0_dropMarkBeyond : MethodName := ⟨RX0, "dropMarkBeyond", "(I)V"⟩
abbrev cX0_valueAt : ByteArray := prog_2_method_10_code
def yX0_valueAt : MethodName := ⟨RX0, "valueAt", "(I)J"⟩
abbrev cX0_changeAt : ByteArray := prog_2_method_11_code
def yX0_changeAt : MethodName := ⟨RX0, "changeAt", "(IJ)V"⟩
abbrev cX0_takeNext : ByteArray := prog_2_method_12_code
def yX0_takeNext : MethodName := ⟨RX0, "takeNext", "()J"⟩
abbrev cX0_putNext : ByteArray := prog_2_method_13_code
def yX0_putNext : MethodName := ⟨RX0, "putNext", "(J)V"⟩
abbrev cX0_cut : ByteArray := prog_2_method_14_code
def yX0_cut : MethodName := ⟨RX0, "cut", "(J)J"⟩
abbrev cX0_sumOver : ByteArray := prog_2_method_15_code
def yX0_sumOver : MethodName := ⟨RX0, "sumOver", "(JI)J"⟩
abbrev cX0_sumOfAll : ByteArray := prog_2_method_16_code
def yX0_sumOfAll : MethodName := ⟨RX0, "sumOfAll", "(J)J"⟩
def RX1 : String := "Windowhouse"
def TX1 : u_T := fun k => match k with
  | 0 => ("Windowhouse", "windows", "[LWindowhouse$Window;", true)
  | 1 => ("Windowhouse", "rows", "[[J", true)
  | 2 => ("Windowhouse", "probe", "LWindowhouse$Window;", true)
  | _ => ("Windowhouse", "twin", "LWindowhouse$Window;", true)
def tyX1 : Nat → FieldType := fun k => match k with
  | 0 => .array (.object "Windowhouse$Window")
  | 1 => .array (.array .long)
  | 2 => .object "Windowhouse$Window"
  | _ => .object "Windowhouse$Window"
abbrev wsX10 : List Cond := u_ws RX1 TX1 4
theorem nmX1 : ∀ a, a < 4 → ∀ b, b < 4 → a ≠ b → (TX1 a).2.1 ≠ (TX1 b).2.1 := by decide +kernel
theorem tyX1_ok : ∀ k, k < 4 → parseFieldDescriptor (TX1 k).2.2.1 = some (tyX1 k) := by decide +kernel
abbrev cX1_init : ByteArray := prog_1_method_1_code
def yX1_init : MethodName := ⟨RX1, "<init>", "()V"⟩
abbrev cX1_make : ByteArray := prog_1_method_2_code
def yX1_make : MethodName := ⟨RX1, "make", "(II)I"⟩
abbrev cX1_rowAt : ByteArray := prog_1_method_3_code
def yX1_rowAt : MethodName := ⟨RX1, "rowAt", "(II)I"⟩
abbrev cX1_rowPut : ByteArray := prog_1_method_4_code
def yX1_rowPut : MethodName := ⟨RX1, "rowPut", "(III)I"⟩
abbrev cX1_allocate : ByteArray := prog_1_method_5_code
def yX1_allocate : MethodName := ⟨RX1, "allocate", "(ICI)Z"⟩
abbrev cX1_wrap : ByteArray := prog_1_method_6_code
def yX1_wrap : MethodName := ⟨RX1, "wrap", "(II)I"⟩
abbrev cX1_slice : ByteArray := prog_1_method_7_code
def yX1_slice : MethodName := ⟨RX1, "slice", "(II)I"⟩
abbrev cX1_sliceAt : ByteArray := prog_1_method_8_code
def yX1_sliceAt : MethodName := ⟨RX1, "sliceAt", "(IIII)I"⟩
abbrev cX1_duplicate : ByteArray := prog_1_method_9_code
def yX1_duplicate : MethodName := ⟨RX1, "duplicate", "(II)I"⟩
abbrev cX1_readOnly : ByteArray := prog_1_method_10_code
def yX1_readOnly : MethodName := ⟨RX1, "readOnly", "(II)I"⟩
abbrev cX1_kind : ByteArray := prog_1_method_11_code
def yX1_kind : MethodName := ⟨RX1, "kind", "(I)C"⟩
abbrev cX1_capacity : ByteArray := prog_1_method_12_code
def yX1_capacity : MethodName := ⟨RX1, "capacity", "(I)I"⟩
abbrev cX1_place : ByteArray := prog_1_method_13_code
def yX1_place : MethodName := ⟨RX1, "place", "(I)I"⟩
abbrev cX1_end : ByteArray := prog_1_method_14_code
def yX1_end : MethodName := ⟨RX1, "end", "(I)I"⟩
abbrev cX1_left : ByteArray := prog_1_method_15_code
def yX1_left : MethodName := ⟨RX1, "left", "(I)I"⟩
abbrev cX1_hasLeft : ByteArray := prog_1_method_16_code
def yX1_hasLeft : MethodName := ⟨RX1, "hasLeft", "(I)Z"⟩
abbrev cX1_isReadOnly : ByteArray := prog_1_method_17_code
def yX1_isReadOnly : MethodName := ⟨RX1, "isReadOnly", "(I)Z"⟩
abbrev cX1_placeAt : ByteArray := prog_1_method_18_code
def yX1_placeAt : MethodName := ⟨RX1, "placeAt", "(II)I"⟩
abbrev cX1_endAt : ByteArray := prog_1_method_19_code
def yX1_endAt : MethodName := ⟨RX1, "endAt", "(II)I"⟩
abbrev cX1_mark : ByteArray := prog_1_method_20_code
def yX1_mark : MethodName := ⟨RX1, "mark", "(I)I"⟩
abbrev cX1_back : ByteArray := prog_1_method_21_code
def yX1_back : MethodName := ⟨RX1, "back", "(I)I"⟩
abbrev cX1_clear : ByteArray := prog_1_method_22_code
def yX1_clear : MethodName := ⟨RX1, "clear", "(I)I"⟩
abbrev cX1_flip : ByteArray := prog_1_method_23_code
def yX1_flip : MethodName := ⟨RX1, "flip", "(I)I"⟩
abbrev cX1_rewind : ByteArray := prog_1_method_24_code
def yX1_rewind : MethodName := ⟨RX1, "rewind", "(I)I"⟩
abbrev cX1_compact : ByteArray := prog_1_method_25_code
def yX1_compact : MethodName := ⟨RX1, "compact", "(I)I"⟩
abbrev cX1_get : ByteArray := prog_1_method_26_code
def yX1_get : MethodName := ⟨RX1, "get", "(I)J"⟩
abbrev cX1_put : ByteArray := prog_1_method_27_code
def yX1_put : MethodName := ⟨RX1, "put", "(IJ)I"⟩
abbrev cX1_getAt : ByteArray := prog_1_method_28_code
def yX1_getAt : MethodName := ⟨RX1, "getAt", "(II)J"⟩
abbrev cX1_putAt : ByteArray := prog_1_method_29_code
def yX1_putAt : MethodName := ⟨RX1, "putAt", "(IIJ)J"⟩
abbrev cX1_fill : ByteArray := prog_1_method_30_code
def yX1_fill : MethodName := ⟨RX1, "fill", "(IIJJ)I"⟩
abbrev cX1_pour : ByteArray := prog_1_method_31_code
def yX1_pour : MethodName := ⟨RX1, "pour", "(III)I"⟩
abbrev cX1_signAt : ByteArray := prog_1_method_32_code
def yX1_signAt : MethodName := ⟨RX1, "signAt", "(II)C"⟩
abbrev cX1_signsLeft : ByteArray := prog_1_method_33_code
def yX1_signsLeft : MethodName := ⟨RX1, "signsLeft", "(I)I"⟩
abbrev cX1_append : ByteArray := prog_1_method_34_code
def yX1_append : MethodName := ⟨RX1, "append", "(IC)I"⟩
abbrev cX1_text : ByteArray := prog_1_method_35_code
def yX1_text : MethodName := ⟨RX1, "text", "(I)J"⟩
abbrev cX1_isAlike : ByteArray := prog_1_method_36_code
def yX1_isAlike : MethodName := ⟨RX1, "isAlike", "(II)Z"⟩
abbrev cX1_fullShare : ByteArray := prog_1_method_37_code
def yX1_fullShare : MethodName := ⟨RX1, "fullShare", "(I)F"⟩
abbrev cX1_meanLeft : ByteArray := prog_1_method_38_code
def yX1_meanLeft : MethodName := ⟨RX1, "meanLeft", "()D"⟩
abbrev cX1_checksum : ByteArray := prog_1_method_39_code
def yX1_checksum : MethodName := ⟨RX1, "checksum", "()J"⟩
abbrev cX1_isTrue : ByteArray := prog_1_method_40_code
def yX1_isTrue : MethodName := ⟨RX1, "isTrue", "()Z"⟩
abbrev cX1_keepsTheorem : ByteArray := prog_1_method_41_code
def yX1_keepsTheorem : MethodName := ⟨RX1, "keepsTheorem", "(LWindowhouse$Window;)Z"⟩
abbrev cX1_showsChange : ByteArray := prog_1_method_42_code
def yX1_showsChange : MethodName := ⟨RX1, "showsChange", "(LWindowhouse$Window;I)Z"⟩
abbrev cX1_sumOfRow : ByteArray := prog_1_method_43_code
def yX1_sumOfRow : MethodName := ⟨RX1, "sumOfRow", "(J[J)J"⟩
abbrev cX1_summed : ByteArray := prog_1_method_44_code
def yX1_summed : MethodName := ⟨RX1, "summed", "(JJ)J"⟩
abbrev cX1_slotOf : ByteArray := prog_1_method_45_code
def yX1_slotOf : MethodName := ⟨RX1, "slotOf", "(I)LWindowhouse$Window;"⟩
abbrev cX1_windowOf : ByteArray := prog_1_method_46_code
def yX1_windowOf : MethodName := ⟨RX1, "windowOf", "(I)LWindowhouse$Window;"⟩
abbrev cX1_rowOf : ByteArray := prog_1_method_47_code
def yX1_rowOf : MethodName := ⟨RX1, "rowOf", "(I)[J"⟩
abbrev cX1_checkIndex : ByteArray := prog_1_method_48_code
def yX1_checkIndex : MethodName := ⟨RX1, "checkIndex", "(II)V"⟩
abbrev cX1_checkPart : ByteArray := prog_1_method_49_code
def yX1_checkPart : MethodName := ⟨RX1, "checkPart", "(III)V"⟩
abbrev cX1_checkBound : ByteArray := prog_1_method_50_code
def yX1_checkBound : MethodName := ⟨RX1, "checkBound", "(II)V"⟩
abbrev cX1_checkLength : ByteArray := prog_1_method_51_code
def yX1_checkLength : MethodName := ⟨RX1, "checkLength", "(I)V"⟩
abbrev cX1_checkKind : ByteArray := prog_1_method_52_code
def yX1_checkKind : MethodName := ⟨RX1, "checkKind", "(C)V"⟩
abbrev cX1_checkMany : ByteArray := prog_1_method_53_code
def yX1_checkMany : MethodName := ⟨RX1, "checkMany", "(I)V"⟩
abbrev cX1_checkWritable : ByteArray := prog_1_method_54_code
def yX1_checkWritable : MethodName := ⟨RX1, "checkWritable", "(LWindowhouse$Window;)V"⟩
abbrev cX1_checkOfChars : ByteArray := prog_1_method_55_code
def yX1_checkOfChars : MethodName := ⟨RX1, "checkOfChars", "(LWindowhouse$Window;)V"⟩
abbrev cX1_checkEnoughToGet : ByteArray := prog_1_method_56_code
def yX1_checkEnoughToGet : MethodName := ⟨RX1, "checkEnoughToGet", "(LWindowhouse$Window;I)V"⟩
abbrev cX1_checkEnoughToPut : ByteArray := prog_1_method_57_code
def yX1_checkEnoughToPut : MethodName := ⟨RX1, "checkEnoughToPut", "(LWindowhouse$Window;I)V"⟩
def RX2 : String := "WindowhouseModel"
def TX2 : u_T := fun k => match k with
  | 0 => ("WindowhouseModel", "stores", "[J", true)
  | 1 => ("WindowhouseModel", "kinds", "[I", true)
  | 2 => ("WindowhouseModel", "store", "[I", true)
  | 3 => ("WindowhouseModel", "from", "[I", true)
  | 4 => ("WindowhouseModel", "size", "[I", true)
  | 5 => ("WindowhouseModel", "place", "[I", true)
  | 6 => ("WindowhouseModel", "end", "[I", true)
  | 7 => ("WindowhouseModel", "mark", "[I", true)
  | 8 => ("WindowhouseModel", "reads", "[Z", true)
  | 9 => ("WindowhouseModel", "rowStore", "[I", true)
  | 10 => ("WindowhouseModel", "rowSize", "[I", true)
  | 11 => ("WindowhouseModel", "beside", "[J", true)
  | _ => ("WindowhouseModel", "thrown", "I", false)
def tyX2 : Nat → FieldType := fun k => match k with
  | 0 => .array .long
  | 1 => .array .int
  | 2 => .array .int
  | 3 => .array .int
  | 4 => .array .int
  | 5 => .array .int
  | 6 => .array .int
  | 7 => .array .int
  | 8 => .array .boolean
  | 9 => .array .int
  | 10 => .array .int
  | 11 => .array .long
  | _ => .int
abbrev wsX20 : List Cond := u_ws RX2 TX2 13
theorem nmX2 : ∀ a, a < 13 → ∀ b, b < 13 → a ≠ b → (TX2 a).2.1 ≠ (TX2 b).2.1 := by decide +kernel
theorem tyX2_ok : ∀ k, k < 13 → parseFieldDescriptor (TX2 k).2.2.1 = some (tyX2 k) := by decide +kernel
abbrev cX2_init : ByteArray := prog_4_method_1_code
def yX2_init : MethodName := ⟨RX2, "<init>", "()V"⟩
abbrev cX2_thrown : ByteArray := prog_4_method_2_code
def yX2_thrown : MethodName := ⟨RX2, "thrown", "()I"⟩
abbrev cX2_in : ByteArray := prog_4_method_3_code
def yX2_in : MethodName := ⟨RX2, "in", "(III)Z"⟩
abbrev cX2_is : ByteArray := prog_4_method_4_code
def yX2_is : MethodName := ⟨RX2, "is", "(I)Z"⟩
abbrev cX2_isWindow : ByteArray := prog_4_method_5_code
def yX2_isWindow : MethodName := ⟨RX2, "isWindow", "(I)Z"⟩
abbrev cX2_free : ByteArray := prog_4_method_6_code
def yX2_free : MethodName := ⟨RX2, "free", "()I"⟩
abbrev cX2_make : ByteArray := prog_4_method_7_code
def yX2_make : MethodName := ⟨RX2, "make", "(II)I"⟩
abbrev cX2_isPlace : ByteArray := prog_4_method_8_code
def yX2_isPlace : MethodName := ⟨RX2, "isPlace", "(II)Z"⟩
abbrev cX2_rowAt : ByteArray := prog_4_method_9_code
def yX2_rowAt : MethodName := ⟨RX2, "rowAt", "(II)I"⟩
abbrev cX2_rowPut : ByteArray := prog_4_method_10_code
def yX2_rowPut : MethodName := ⟨RX2, "rowPut", "(III)I"⟩
abbrev cX2_becomes : ByteArray := prog_4_method_11_code
def yX2_becomes : MethodName := ⟨RX2, "becomes", "(IIIIIZ)V"⟩
abbrev cX2_allocate : ByteArray := prog_4_method_12_code
def yX2_allocate : MethodName := ⟨RX2, "allocate", "(ICI)Z"⟩
abbrev cX2_wrap : ByteArray := prog_4_method_13_code
def yX2_wrap : MethodName := ⟨RX2, "wrap", "(II)I"⟩
abbrev cX2_kind : ByteArray := prog_4_method_14_code
def yX2_kind : MethodName := ⟨RX2, "kind", "(I)C"⟩
abbrev cX2_capacity : ByteArray := prog_4_method_15_code
def yX2_capacity : MethodName := ⟨RX2, "capacity", "(I)I"⟩
abbrev cX2_place : ByteArray := prog_4_method_16_code
def yX2_place : MethodName := ⟨RX2, "place", "(I)I"⟩
abbrev cX2_end : ByteArray := prog_4_method_17_code
def yX2_end : MethodName := ⟨RX2, "end", "(I)I"⟩
abbrev cX2_left : ByteArray := prog_4_method_18_code
def yX2_left : MethodName := ⟨RX2, "left", "(I)I"⟩
abbrev cX2_hasLeft : ByteArray := prog_4_method_19_code
def yX2_hasLeft : MethodName := ⟨RX2, "hasLeft", "(I)Z"⟩
abbrev cX2_isReadOnly : ByteArray := prog_4_method_20_code
def yX2_isReadOnly : MethodName := ⟨RX2, "isReadOnly", "(I)Z"⟩
abbrev cX2_placeAt : ByteArray := prog_4_method_21_code
def yX2_placeAt : MethodName := ⟨RX2, "placeAt", "(II)I"⟩
abbrev cX2_endAt : ByteArray := prog_4_method_22_code
def yX2_endAt : MethodName := ⟨RX2, "endAt", "(II)I"⟩
abbrev cX2_mark : ByteArray := prog_4_method_23_code
def yX2_mark : MethodName := ⟨RX2, "mark", "(I)I"⟩
abbrev cX2_back : ByteArray := prog_4_method_24_code
def yX2_back : MethodName := ⟨RX2, "back", "(I)I"⟩
abbrev cX2_stands : ByteArray := prog_4_method_25_code
def yX2_stands : MethodName := ⟨RX2, "stands", "(III)V"⟩
abbrev cX2_clear : ByteArray := prog_4_method_26_code
def yX2_clear : MethodName := ⟨RX2, "clear", "(I)I"⟩
abbrev cX2_flip : ByteArray := prog_4_method_27_code
def yX2_flip : MethodName := ⟨RX2, "flip", "(I)I"⟩
abbrev cX2_rewind : ByteArray := prog_4_method_28_code
def yX2_rewind : MethodName := ⟨RX2, "rewind", "(I)I"⟩
abbrev cX2_value : ByteArray := prog_4_method_29_code
def yX2_value : MethodName := ⟨RX2, "value", "(II)J"⟩
abbrev cX2_lays : ByteArray := prog_4_method_30_code
def yX2_lays : MethodName := ⟨RX2, "lays", "(IIJ)V"⟩
abbrev cX2_compact : ByteArray := prog_4_method_31_code
def yX2_compact : MethodName := ⟨RX2, "compact", "(I)I"⟩
abbrev cX2_get : ByteArray := prog_4_method_32_code
def yX2_get : MethodName := ⟨RX2, "get", "(I)J"⟩
abbrev cX2_put : ByteArray := prog_4_method_33_code
def yX2_put : MethodName := ⟨RX2, "put", "(IJ)I"⟩
abbrev cX2_getAt : ByteArray := prog_4_method_34_code
def yX2_getAt : MethodName := ⟨RX2, "getAt", "(II)J"⟩
abbrev cX2_putAt : ByteArray := prog_4_method_35_code
def yX2_putAt : MethodName := ⟨RX2, "putAt", "(IIJ)J"⟩
abbrev cX2_fill : ByteArray := prog_4_method_36_code
def yX2_fill : MethodName := ⟨RX2, "fill", "(IIJJ)I"⟩
abbrev cX2_pour : ByteArray := prog_4_method_37_code
def yX2_pour : MethodName := ⟨RX2, "pour", "(III)I"⟩
abbrev cX2_slice : ByteArray := prog_4_method_38_code
def yX2_slice : MethodName := ⟨RX2, "slice", "(II)I"⟩
abbrev cX2_sliceAt : ByteArray := prog_4_method_39_code
def yX2_sliceAt : MethodName := ⟨RX2, "sliceAt", "(IIII)I"⟩
abbrev cX2_twin : ByteArray := prog_4_method_40_code
def yX2_twin : MethodName := ⟨RX2, "twin", "(IIZ)I"⟩
abbrev cX2_duplicate : ByteArray := prog_4_method_41_code
def yX2_duplicate : MethodName := ⟨RX2, "duplicate", "(II)I"⟩
abbrev cX2_readOnly : ByteArray := prog_4_method_42_code
def yX2_readOnly : MethodName := ⟨RX2, "readOnly", "(II)I"⟩
abbrev cX2_signAt : ByteArray := prog_4_method_43_code
def yX2_signAt : MethodName := ⟨RX2, "signAt", "(II)C"⟩
abbrev cX2_signsLeft : ByteArray := prog_4_method_44_code
def yX2_signsLeft : MethodName := ⟨RX2, "signsLeft", "(I)I"⟩
abbrev cX2_append : ByteArray := prog_4_method_45_code
def yX2_append : MethodName := ⟨RX2, "append", "(IC)I"⟩
abbrev cX2_text : ByteArray := prog_4_method_46_code
def yX2_text : MethodName := ⟨RX2, "text", "(I)J"⟩
abbrev cX2_isAlike : ByteArray := prog_4_method_47_code
def yX2_isAlike : MethodName := ⟨RX2, "isAlike", "(II)Z"⟩
abbrev cX2_fullShare : ByteArray := prog_4_method_48_code
def yX2_fullShare : MethodName := ⟨RX2, "fullShare", "(I)F"⟩
abbrev cX2_meanLeft : ByteArray := prog_4_method_49_code
def yX2_meanLeft : MethodName := ⟨RX2, "meanLeft", "()D"⟩
abbrev cX2_checksum : ByteArray := prog_4_method_50_code
def yX2_checksum : MethodName := ⟨RX2, "checksum", "()J"⟩
abbrev cX2_isTrue : ByteArray := prog_4_method_51_code
def yX2_isTrue : MethodName := ⟨RX2, "isTrue", "()Z"⟩
def RJx145de : String := "java/io/Serializable"
def TJx145de : u_T := fun k => match k with
  | _ => ("", "", "", false)
def tyJx145de : Nat → FieldType := fun k => match k with
  | _ => .int
abbrev wsJx145de0 : List Cond := u_ws RJx145de TJx145de 0
theorem nmJx145de : ∀ a, a < 0 → ∀ b, b < 0 → a ≠ b → (TJx145de a).2.1 ≠ (TJx145de b).2.1 := by decide +kernel
theorem tyJx145de_ok : ∀ k, k < 0 → parseFieldDescriptor (TJx145de k).2.2.1 = some (tyJx145de k) := by decide +kernel
def RJx00060 : String := "java/lang/ArrayIndexOutOfBoundsException"
def TJx00060 : u_T := fun k => match k with
  | 0 => ("java/lang/Throwable", "backtrace", "Ljava/lang/Object;", false)
  | 1 => ("java/lang/Throwable", "detailMessage", "Ljava/lang/String;", false)
  | 2 => ("java/lang/Throwable", "cause", "Ljava/lang/Throwable;", false)
  | 3 => ("java/lang/Throwable", "stackTrace", "[Ljava/lang/StackTraceElement;", false)
  | 4 => ("java/lang/Throwable", "depth", "I", false)
  | _ => ("java/lang/Throwable", "suppressedExceptions", "Ljava/util/List;", false)
def tyJx00060 : Nat → FieldType := fun k => match k with
  | 0 => .object "java/lang/Object"
  | 1 => .object "java/lang/String"
  | 2 => .object "java/lang/Throwable"
  | 3 => .array (.object "java/lang/StackTraceElement")
  | 4 => .int
  | _ => .object "java/util/List"
abbrev wsJx000600 : List Cond := u_ws RJx00060 TJx00060 6
theorem nmJx00060 : ∀ a, a < 6 → ∀ b, b < 6 → a ≠ b → (TJx00060 a).2.1 ≠ (TJx00060 b).2.1 := by decide +kernel
theorem tyJx00060_ok : ∀ k, k < 6 → parseFieldDescriptor (TJx00060 k).2.2.1 = some (tyJx00060 k) := by decide +kernel
abbrev cJx00060_init_a7421 : ByteArray := prog_7_method_2_code
def yJx00060_init_a7421 : MethodName := ⟨RJx00060, "<init>", "(Ljava/lang/String;)V"⟩
def RJ9 : String := "java/lang/Math"
def TJ9 : u_T := fun k => match k with
  | _ => ("", "", "", false)
def tyJ9 : Nat → FieldType := fun k => match k with
  | _ => .int
abbrev wsJ90 : List Cond := u_ws RJ9 TJ9 0
theorem nmJ9 : ∀ a, a < 0 → ∀ b, b < 0 → a ≠ b → (TJ9 a).2.1 ≠ (TJ9 b).2.1 := by decide +kernel
theorem tyJ9_ok : ∀ k, k < 0 → parseFieldDescriptor (TJ9 k).2.2.1 = some (tyJ9 k) := by decide +kernel
abbrev cJ9_min_7cf53 : ByteArray := prog_12_method_69_code
def yJ9_min_7cf53 : MethodName := ⟨RJ9, "min", "(II)I"⟩
def RJ0 : String := "java/lang/String"
def TJ0 : u_T := fun k => match k with
  | 0 => ("java/lang/String", "value", "[B", true)
  | _ => ("java/lang/String", "coder", "B", true)
def tyJ0 : Nat → FieldType := fun k => match k with
  | 0 => .array .byte
  | _ => .byte
abbrev wsJ00 : List Cond := u_ws RJ0 TJ0 2
theorem nmJ0 : ∀ a, a < 2 → ∀ b, b < 2 → a ≠ b → (TJ0 a).2.1 ≠ (TJ0 b).2.1 := by decide +kernel
theorem tyJ0_ok : ∀ k, k < 2 → parseFieldDescriptor (TJ0 k).2.2.1 = some (tyJ0 k) := by decide +kernel
def RJ10 : String := "java/lang/System"
def TJ10 : u_T := fun k => match k with
  | _ => ("", "", "", false)
def tyJ10 : Nat → FieldType := fun k => match k with
  | _ => .int
abbrev wsJ100 : List Cond := u_ws RJ10 TJ10 0
theorem nmJ10 : ∀ a, a < 0 → ∀ b, b < 0 → a ≠ b → (TJ10 a).2.1 ≠ (TJ10 b).2.1 := by decide +kernel
theorem tyJ10_ok : ∀ k, k < 0 → parseFieldDescriptor (TJ10 k).2.2.1 = some (tyJ10 k) := by decide +kernel
def wsX0_init : List Cond := .code yX0_init cX0_init 1 none :: ([.methodLink RX0 3 objectInit, .instanceMethod objectInit, .code objectInit ⟨#[0xb1]⟩ 1 none, .fieldLink RX0 9 "Windowhouse$Window" "kind" "C", .arrayClass .long, .fieldLink RX0 15 "Windowhouse$Window" "store" "[J", .fieldLink RX0 19 "Windowhouse$Window" "mark" "I"] ++ wsX00)
def wsX0_isThere : List Cond := .code yX0_isThere cX0_isThere 1 (some .boolean) :: ([.fieldLink RX0 9 "Windowhouse$Window" "kind" "C"] ++ wsX00)
def wsX0_rest : List Cond := .code yX0_rest cX0_rest 1 (some .int) :: ([.fieldLink RX0 23 "Windowhouse$Window" "end" "I", .fieldLink RX0 26 "Windowhouse$Window" "place" "I"] ++ wsX00)
def wsX0_isInBounds : List Cond := .code yX0_isInBounds cX0_isInBounds 1 (some .boolean) :: ([.fieldLink RX0 26 "Windowhouse$Window" "place" "I", .fieldLink RX0 23 "Windowhouse$Window" "end" "I", .fieldLink RX0 29 "Windowhouse$Window" "capacity" "I", .fieldLink RX0 32 "Windowhouse$Window" "start" "I", .fieldLink RX0 15 "Windowhouse$Window" "store" "[J"] ++ wsX00)
def wsX0_moveTo : List Cond := .code yX0_moveTo cX0_moveTo 3 none :: ([.fieldLink RX0 26 "Windowhouse$Window" "place" "I", .fieldLink RX0 23 "Windowhouse$Window" "end" "I", .fieldLink RX0 19 "Windowhouse$Window" "mark" "I"] ++ wsX00)
def wsX0_layOver : List Cond := .code yX0_layOver cX0_layOver 3 none :: ([.fieldLink RX0 9 "Windowhouse$Window" "kind" "C", .fieldLink RX0 35 "Windowhouse$Window" "onlyReads" "Z", .fieldLink RX0 15 "Windowhouse$Window" "store" "[J", .fieldLink RX0 32 "Windowhouse$Window" "start" "I", .fieldLink RX0 29 "Windowhouse$Window" "capacity" "I", .methodLink RX0 39 yX0_moveTo, .instanceMethod yX0_moveTo, .selects RX0 yX0_moveTo yX0_moveTo, .initialized RX0, .code yX0_moveTo cX0_moveTo 3 none, .fieldLink RX0 26 "Windowhouse$Window" "place" "I", .fieldLink RX0 23 "Windowhouse$Window" "end" "I", .fieldLink RX0 19 "Windowhouse$Window" "mark" "I"] ++ wsX00)
def wsX0_becomeSlice : List Cond := .code yX0_becomeSlice cX0_becomeSlice 4 none :: ([.fieldLink RX0 9 "Windowhouse$Window" "kind" "C", .fieldLink RX0 35 "Windowhouse$Window" "onlyReads" "Z", .fieldLink RX0 15 "Windowhouse$Window" "store" "[J", .fieldLink RX0 32 "Windowhouse$Window" "start" "I", .fieldLink RX0 29 "Windowhouse$Window" "capacity" "I", .methodLink RX0 39 yX0_moveTo, .instanceMethod yX0_moveTo, .selects RX0 yX0_moveTo yX0_moveTo, .initialized RX0, .code yX0_moveTo cX0_moveTo 3 none, .fieldLink RX0 26 "Windowhouse$Window" "place" "I", .fieldLink RX0 23 "Windowhouse$Window" "end" "I", .fieldLink RX0 19 "Windowhouse$Window" "mark" "I"] ++ wsX00)
def wsX0_becomeDuplicate : List Cond := .code yX0_becomeDuplicate cX0_becomeDuplicate 2 none :: ([.fieldLink RX0 9 "Windowhouse$Window" "kind" "C", .fieldLink RX0 35 "Windowhouse$Window" "onlyReads" "Z", .fieldLink RX0 15 "Windowhouse$Window" "store" "[J", .fieldLink RX0 32 "Windowhouse$Window" "start" "I", .fieldLink RX0 29 "Windowhouse$Window" "capacity" "I", .fieldLink RX0 26 "Windowhouse$Window" "place" "I", .fieldLink RX0 23 "Windowhouse$Window" "end" "I", .fieldLink RX0 19 "Windowhouse$Window" "mark" "I"] ++ wsX00)
def wsX0_dropMarkBeyond : List Cond := .code yX0_dropMarkBeyond cX0_dropMarkBeyond 2 none :: ([.fieldLink RX0 19 "Windowhouse$Window" "mark" "I"] ++ wsX00)
def wsX0_valueAt : List Cond := .code yX0_valueAt cX0_valueAt 2 (some .long) :: ([.fieldLink RX0 15 "Windowhouse$Window" "store" "[J", .fieldLink RX0 32 "Windowhouse$Window" "start" "I"] ++ wsX00 ++ (vx_atM "java/lang/ArrayIndexOutOfBoundsException" ["java/lang/IndexOutOfBoundsException", "java/lang/RuntimeException", "java/lang/Exception"]).filter goodWord)
def wsX0_cut : List Cond := .code yX0_cut cX0_cut 3 (some .long) :: ([.fieldLink RX0 9 "Windowhouse$Window" "kind" "C", .constantLong RX0 55 (255)] ++ wsX00)
def wsX0_changeAt : List Cond := .code yX0_changeAt cX0_changeAt 4 none :: ([.fieldLink RX0 15 "Windowhouse$Window" "store" "[J", .fieldLink RX0 32 "Windowhouse$Window" "start" "I", .methodLink RX0 43 yX0_cut, .instanceMethod yX0_cut, .selects RX0 yX0_cut yX0_cut, .initialized RX0, .code yX0_cut cX0_cut 3 (some .long), .fieldLink RX0 9 "Windowhouse$Window" "kind" "C", .constantLong RX0 55 (255)] ++ wsX00 ++ (vx_atM "java/lang/ArrayIndexOutOfBoundsException" ["java/lang/IndexOutOfBoundsException", "java/lang/RuntimeException", "java/lang/Exception"]).filter goodWord)
def wsX0_takeNext : List Cond := .code yX0_takeNext cX0_takeNext 3 (some .long) :: ([.fieldLink RX0 26 "Windowhouse$Window" "place" "I", .methodLink RX0 47 yX0_valueAt, .instanceMethod yX0_valueAt, .selects RX0 yX0_valueAt yX0_valueAt, .initialized RX0, .code yX0_valueAt cX0_valueAt 2 (some .long), .fieldLink RX0 15 "Windowhouse$Window" "store" "[J", .fieldLink RX0 32 "Windowhouse$Window" "start" "I"] ++ wsX00 ++ (vx_atM "java/lang/ArrayIndexOutOfBoundsException" ["java/lang/IndexOutOfBoundsException", "java/lang/RuntimeException", "java/lang/Exception"]).filter goodWord)
def wsX0_putNext : List Cond := .code yX0_putNext cX0_putNext 3 none :: ([.fieldLink RX0 26 "Windowhouse$Window" "place" "I", .methodLink RX0 51 yX0_changeAt, .instanceMethod yX0_changeAt, .selects RX0 yX0_changeAt yX0_changeAt, .initialized RX0, .code yX0_changeAt cX0_changeAt 4 none, .fieldLink RX0 15 "Windowhouse$Window" "store" "[J", .fieldLink RX0 32 "Windowhouse$Window" "start" "I", .methodLink RX0 43 yX0_cut, .instanceMethod yX0_cut, .selects RX0 yX0_cut yX0_cut, .code yX0_cut cX0_cut 3 (some .long), .fieldLink RX0 9 "Windowhouse$Window" "kind" "C", .constantLong RX0 55 (255)] ++ wsX00 ++ (vx_atM "java/lang/ArrayIndexOutOfBoundsException" ["java/lang/IndexOutOfBoundsException", "java/lang/RuntimeException", "java/lang/Exception"]).filter goodWord)
def wsX1_summed : List Cond := .code yX1_summed cX1_summed 4 (some .long) :: ([.constantLong RX1 214 (31)])
def wsX0_sumOver : List Cond := .code yX0_sumOver cX0_sumOver 7 (some .long) :: ([.fieldLink RX0 23 "Windowhouse$Window" "end" "I", .methodLink RX0 47 yX0_valueAt, .instanceMethod yX0_valueAt, .selects RX0 yX0_valueAt yX0_valueAt, .initialized RX0, .code yX0_valueAt cX0_valueAt 2 (some .long), .fieldLink RX0 15 "Windowhouse$Window" "store" "[J", .fieldLink RX0 32 "Windowhouse$Window" "start" "I", .static yX1_summed, .initialized RX1, .code yX1_summed cX1_summed 4 (some .long), .constantLong RX1 214 (31)] ++ wsX00 ++ (vx_atM "java/lang/ArrayIndexOutOfBoundsException" ["java/lang/IndexOutOfBoundsException", "java/lang/RuntimeException", "java/lang/Exception"]).filter goodWord)
def wsX0_sumOfAll : List Cond := .code yX0_sumOfAll cX0_sumOfAll 5 (some .long) :: ([.fieldLink RX0 9 "Windowhouse$Window" "kind" "C", .fieldLink RX0 26 "Windowhouse$Window" "place" "I", .fieldLink RX0 23 "Windowhouse$Window" "end" "I", .fieldLink RX0 29 "Windowhouse$Window" "capacity" "I", .static yX1_summed, .initialized RX1, .code yX1_summed cX1_summed 4 (some .long), .constantLong RX1 214 (31), .methodLink RX0 61 yX0_isThere, .instanceMethod yX0_isThere, .selects RX0 yX0_isThere yX0_isThere, .initialized RX0, .code yX0_isThere cX0_isThere 1 (some .boolean), .methodLink RX0 65 yX0_sumOver, .instanceMethod yX0_sumOver, .selects RX0 yX0_sumOver yX0_sumOver, .code yX0_sumOver cX0_sumOver 7 (some .long), .methodLink RX0 47 yX0_valueAt, .instanceMethod yX0_valueAt, .selects RX0 yX0_valueAt yX0_valueAt, .code yX0_valueAt cX0_valueAt 2 (some .long), .fieldLink RX0 15 "Windowhouse$Window" "store" "[J", .fieldLink RX0 32 "Windowhouse$Window" "start" "I"] ++ wsX00 ++ (vx_atM "java/lang/ArrayIndexOutOfBoundsException" ["java/lang/IndexOutOfBoundsException", "java/lang/RuntimeException", "java/lang/Exception"]).filter goodWord)
def wsX1_init : List Cond := .code yX1_init cX1_init 2 none :: ([.methodLink RX1 1 objectInit, .instanceMethod objectInit, .code objectInit ⟨#[0xb1]⟩ 1 none, .classLink RX1 9 "[[J", .arrayClass .long, .fieldLink RX1 11 "Windowhouse" "rows" "[[J", .classLink RX1 14 RX0, .fieldLink RX1 16 "Windowhouse" "windows" "[LWindowhouse$Window;", .instantiable RX0 8, .initialized RX0, .fieldLink RX1 21 "Windowhouse" "probe" "LWindowhouse$Window;", .fieldLink RX1 25 "Windowhouse" "twin" "LWindowhouse$Window;", .methodLink RX1 20 yX0_init, .instanceMethod yX0_init, .code yX0_init cX0_init 1 none, .methodLink RX0 3 objectInit, .fieldLink RX0 9 "Windowhouse$Window" "kind" "C", .fieldLink RX0 15 "Windowhouse$Window" "store" "[J", .fieldLink RX0 19 "Windowhouse$Window" "mark" "I"] ++ wsX10 ++ wsX00)
def wsX1_checkIndex : List Cond := .code yX1_checkIndex cX1_checkIndex 2 none :: ([.classLink RX1 216 "java/lang/IndexOutOfBoundsException", .initialized "java/lang/IndexOutOfBoundsException"] ++ (vx_atS RX1 220 "java/lang/IndexOutOfBoundsException" ["java/lang/RuntimeException", "java/lang/Exception"]).filter goodWord)
def wsX1_rowOf : List Cond := .code yX1_rowOf cX1_rowOf 2 (some (.array .long)) :: ([.fieldLink RX1 11 "Windowhouse" "rows" "[[J", .methodLink RX1 36 yX1_checkIndex, .static yX1_checkIndex, .initialized RX1, .code yX1_checkIndex cX1_checkIndex 2 none, .classLink RX1 216 "java/lang/IndexOutOfBoundsException", .initialized "java/lang/IndexOutOfBoundsException"] ++ wsX10 ++ (vx_atS RX1 220 "java/lang/IndexOutOfBoundsException" ["java/lang/RuntimeException", "java/lang/Exception"]).filter goodWord)
def wsX1_checkLength : List Cond := .code yX1_checkLength cX1_checkLength 1 none :: ([.classLink RX1 160 "java/lang/IllegalArgumentException", .initialized "java/lang/IllegalArgumentException"] ++ (vx_atS RX1 164 "java/lang/IllegalArgumentException" ["java/lang/RuntimeException", "java/lang/Exception"]).filter goodWord)
def wsX1_make : List Cond := .code yX1_make cX1_make 4 (some .int) :: ([.fieldLink RX1 11 "Windowhouse" "rows" "[[J", .arrayClass .long, .methodLink RX1 28 yX1_rowOf, .instanceMethod yX1_rowOf, .selects RX1 yX1_rowOf yX1_rowOf, .initialized RX1, .code yX1_rowOf cX1_rowOf 2 (some (.array .long)), .methodLink RX1 36 yX1_checkIndex, .static yX1_checkIndex, .code yX1_checkIndex cX1_checkIndex 2 none, .classLink RX1 216 "java/lang/IndexOutOfBoundsException", .initialized "java/lang/IndexOutOfBoundsException", .methodLink RX1 32 yX1_checkLength, .static yX1_checkLength, .code yX1_checkLength cX1_checkLength 1 none, .classLink RX1 160 "java/lang/IllegalArgumentException", .initialized "java/lang/IllegalArgumentException"] ++ wsX10 ++ (vx_atS RX1 220 "java/lang/IndexOutOfBoundsException" ["java/lang/RuntimeException", "java/lang/Exception"]).filter goodWord ++ (vx_atS RX1 164 "java/lang/IllegalArgumentException" ["java/lang/RuntimeException", "java/lang/Exception"]).filter goodWord)
def wsX1_rowAt : List Cond := .code yX1_rowAt cX1_rowAt 4 (some .int) :: ([.methodLink RX1 28 yX1_rowOf, .instanceMethod yX1_rowOf, .selects RX1 yX1_rowOf yX1_rowOf, .initialized RX1, .code yX1_rowOf cX1_rowOf 2 (some (.array .long)), .fieldLink RX1 11 "Windowhouse" "rows" "[[J", .methodLink RX1 36 yX1_checkIndex, .static yX1_checkIndex, .code yX1_checkIndex cX1_checkIndex 2 none, .classLink RX1 216 "java/lang/IndexOutOfBoundsException", .initialized "java/lang/IndexOutOfBoundsException"] ++ wsX10 ++ (vx_atM "java/lang/ArrayIndexOutOfBoundsException" ["java/lang/IndexOutOfBoundsException", "java/lang/RuntimeException", "java/lang/Exception"]).filter goodWord ++ (vx_atS RX1 220 "java/lang/IndexOutOfBoundsException" ["java/lang/RuntimeException", "java/lang/Exception"]).filter goodWord)
def wsX1_rowPut : List Cond := .code yX1_rowPut cX1_rowPut 6 (some .int) :: ([.methodLink RX1 28 yX1_rowOf, .instanceMethod yX1_rowOf, .selects RX1 yX1_rowOf yX1_rowOf, .initialized RX1, .code yX1_rowOf cX1_rowOf 2 (some (.array .long)), .fieldLink RX1 11 "Windowhouse" "rows" "[[J", .methodLink RX1 36 yX1_checkIndex, .static yX1_checkIndex, .code yX1_checkIndex cX1_checkIndex 2 none, .classLink RX1 216 "java/lang/IndexOutOfBoundsException", .initialized "java/lang/IndexOutOfBoundsException"] ++ wsX10 ++ (vx_atM "java/lang/ArrayIndexOutOfBoundsException" ["java/lang/IndexOutOfBoundsException", "java/lang/RuntimeException", "java/lang/Exception"]).filter goodWord ++ (vx_atS RX1 220 "java/lang/IndexOutOfBoundsException" ["java/lang/RuntimeException", "java/lang/Exception"]).filter goodWord)
def wsX1_slotOf : List Cond := .code yX1_slotOf cX1_slotOf 2 (some (.object "Windowhouse$Window")) :: ([.fieldLink RX1 16 "Windowhouse" "windows" "[LWindowhouse$Window;", .methodLink RX1 36 yX1_checkIndex, .static yX1_checkIndex, .initialized RX1, .code yX1_checkIndex cX1_checkIndex 2 none, .classLink RX1 216 "java/lang/IndexOutOfBoundsException", .initialized "java/lang/IndexOutOfBoundsException"] ++ wsX10 ++ (vx_atS RX1 220 "java/lang/IndexOutOfBoundsException" ["java/lang/RuntimeException", "java/lang/Exception"]).filter goodWord)
def wsX1_checkKind : List Cond := .code yX1_checkKind cX1_checkKind 1 none :: ([.classLink RX1 160 "java/lang/IllegalArgumentException", .initialized "java/lang/IllegalArgumentException"] ++ (vx_atS RX1 164 "java/lang/IllegalArgumentException" ["java/lang/RuntimeException", "java/lang/Exception"]).filter goodWord)
def wsX1_allocate_r1 : List Cond := [Cond.arrayClass .long, Cond.methodLink RX1 40 yX1_slotOf, Cond.instanceMethod yX1_slotOf, Cond.selects RX1 yX1_slotOf yX1_slotOf, Cond.initialized RX1, Cond.code yX1_slotOf cX1_slotOf 2 (some (.object "Windowhouse$Window")), Cond.fieldLink RX1 16 "Windowhouse" "windows" "[LWindowhouse$Window;", Cond.methodLink RX1 36 yX1_checkIndex, Cond.static yX1_checkIndex, Cond.code yX1_checkIndex cX1_checkIndex 2 none, Cond.classLink RX1 216 "java/lang/IndexOutOfBoundsException", Cond.initialized "java/lang/IndexOutOfBoundsException", Cond.methodLink RX1 44 yX1_checkKind, Cond.static yX1_checkKind, Cond.code yX1_checkKind cX1_checkKind 1 none, Cond.classLink RX1 160 "java/lang/IllegalArgumentException", Cond.initialized "java/lang/IllegalArgumentException", Cond.methodLink RX1 32 yX1_checkLength, Cond.static yX1_checkLength, Cond.code yX1_checkLength cX1_checkLength 1 none, Cond.methodLink RX1 48 yX0_isThere, Cond.instanceMethod yX0_isThere, Cond.selects RX0 yX0_isThere yX0_isThere, Cond.initialized RX0]
def wsX1_allocate_r2 : List Cond := [Cond.code yX0_isThere cX0_isThere 1 (some .boolean), Cond.fieldLink RX0 9 "Windowhouse$Window" "kind" "C", Cond.methodLink RX1 52 yX0_layOver, Cond.instanceMethod yX0_layOver, Cond.selects RX0 yX0_layOver yX0_layOver, Cond.code yX0_layOver cX0_layOver 3 none, Cond.fieldLink RX0 35 "Windowhouse$Window" "onlyReads" "Z", Cond.fieldLink RX0 15 "Windowhouse$Window" "store" "[J", Cond.fieldLink RX0 32 "Windowhouse$Window" "start" "I", Cond.fieldLink RX0 29 "Windowhouse$Window" "capacity" "I", Cond.methodLink RX0 39 yX0_moveTo, Cond.instanceMethod yX0_moveTo, Cond.selects RX0 yX0_moveTo yX0_moveTo, Cond.code yX0_moveTo cX0_moveTo 3 none, Cond.fieldLink RX0 26 "Windowhouse$Window" "place" "I", Cond.fieldLink RX0 23 "Windowhouse$Window" "end" "I", Cond.fieldLink RX0 19 "Windowhouse$Window" "mark" "I"]
def wsX1_allocate : List Cond := .code yX1_allocate cX1_allocate 6 (some .boolean) :: ((wsX1_allocate_r1 ++ wsX1_allocate_r2) ++ wsX10 ++ wsX00 ++ (vx_atS RX1 220 "java/lang/IndexOutOfBoundsException" ["java/lang/RuntimeException", "java/lang/Exception"]).filter goodWord ++ (vx_atS RX1 164 "java/lang/IllegalArgumentException" ["java/lang/RuntimeException", "java/lang/Exception"]).filter goodWord)
def wsX1_wrap_r1 : List Cond := [Cond.fieldLink RX1 56 "Windowhouse$Window" "capacity" "I", Cond.methodLink RX1 40 yX1_slotOf, Cond.instanceMethod yX1_slotOf, Cond.selects RX1 yX1_slotOf yX1_slotOf, Cond.initialized RX1, Cond.code yX1_slotOf cX1_slotOf 2 (some (.object "Windowhouse$Window")), Cond.fieldLink RX1 16 "Windowhouse" "windows" "[LWindowhouse$Window;", Cond.methodLink RX1 36 yX1_checkIndex, Cond.static yX1_checkIndex, Cond.code yX1_checkIndex cX1_checkIndex 2 none, Cond.classLink RX1 216 "java/lang/IndexOutOfBoundsException", Cond.initialized "java/lang/IndexOutOfBoundsException", Cond.methodLink RX1 28 yX1_rowOf, Cond.instanceMethod yX1_rowOf, Cond.selects RX1 yX1_rowOf yX1_rowOf, Cond.code yX1_rowOf cX1_rowOf 2 (some (.array .long)), Cond.fieldLink RX1 11 "Windowhouse" "rows" "[[J", Cond.methodLink RX1 52 yX0_layOver, Cond.instanceMethod yX0_layOver, Cond.selects RX0 yX0_layOver yX0_layOver, Cond.initialized RX0, Cond.code yX0_layOver cX0_layOver 3 none, Cond.fieldLink RX0 9 "Windowhouse$Window" "kind" "C", Cond.fieldLink RX0 35 "Windowhouse$Window" "onlyReads" "Z"]
def wsX1_wrap_r2 : List Cond := [Cond.fieldLink RX0 15 "Windowhouse$Window" "store" "[J", Cond.fieldLink RX0 32 "Windowhouse$Window" "start" "I", Cond.fieldLink RX0 29 "Windowhouse$Window" "capacity" "I", Cond.methodLink RX0 39 yX0_moveTo, Cond.instanceMethod yX0_moveTo, Cond.selects RX0 yX0_moveTo yX0_moveTo, Cond.code yX0_moveTo cX0_moveTo 3 none, Cond.fieldLink RX0 26 "Windowhouse$Window" "place" "I", Cond.fieldLink RX0 23 "Windowhouse$Window" "end" "I", Cond.fieldLink RX0 19 "Windowhouse$Window" "mark" "I"]
def wsX1_wrap : List Cond := .code yX1_wrap cX1_wrap 5 (some .int) :: ((wsX1_wrap_r1 ++ wsX1_wrap_r2) ++ wsX00 ++ wsX10 ++ (vx_atS RX1 220 "java/lang/IndexOutOfBoundsException" ["java/lang/RuntimeException", "java/lang/Exception"]).filter goodWord)
def wsX1_windowOf : List Cond := .code yX1_windowOf cX1_windowOf 3 (some (.object "Windowhouse$Window")) :: ([.classLink RX1 216 "java/lang/IndexOutOfBoundsException", .initialized "java/lang/IndexOutOfBoundsException", .methodLink RX1 40 yX1_slotOf, .instanceMethod yX1_slotOf, .selects RX1 yX1_slotOf yX1_slotOf, .initialized RX1, .code yX1_slotOf cX1_slotOf 2 (some (.object "Windowhouse$Window")), .fieldLink RX1 16 "Windowhouse" "windows" "[LWindowhouse$Window;", .methodLink RX1 36 yX1_checkIndex, .static yX1_checkIndex, .code yX1_checkIndex cX1_checkIndex 2 none, .methodLink RX1 48 yX0_isThere, .instanceMethod yX0_isThere, .selects RX0 yX0_isThere yX0_isThere, .initialized RX0, .code yX0_isThere cX0_isThere 1 (some .boolean), .fieldLink RX0 9 "Windowhouse$Window" "kind" "C"] ++ wsX10 ++ wsX00 ++ (vx_atS RX1 220 "java/lang/IndexOutOfBoundsException" ["java/lang/RuntimeException", "java/lang/Exception"]).filter goodWord)
def wsX1_slice_r1 : List Cond := [Cond.fieldLink RX1 63 "Windowhouse$Window" "place" "I", Cond.fieldLink RX1 56 "Windowhouse$Window" "capacity" "I", Cond.methodLink RX1 60 yX1_windowOf, Cond.instanceMethod yX1_windowOf, Cond.selects RX1 yX1_windowOf yX1_windowOf, Cond.initialized RX1, Cond.code yX1_windowOf cX1_windowOf 3 (some (.object "Windowhouse$Window")), Cond.classLink RX1 216 "java/lang/IndexOutOfBoundsException", Cond.initialized "java/lang/IndexOutOfBoundsException", Cond.methodLink RX1 40 yX1_slotOf, Cond.instanceMethod yX1_slotOf, Cond.selects RX1 yX1_slotOf yX1_slotOf, Cond.code yX1_slotOf cX1_slotOf 2 (some (.object "Windowhouse$Window")), Cond.fieldLink RX1 16 "Windowhouse" "windows" "[LWindowhouse$Window;", Cond.methodLink RX1 36 yX1_checkIndex, Cond.static yX1_checkIndex, Cond.code yX1_checkIndex cX1_checkIndex 2 none, Cond.methodLink RX1 48 yX0_isThere, Cond.instanceMethod yX0_isThere, Cond.selects RX0 yX0_isThere yX0_isThere, Cond.initialized RX0, Cond.code yX0_isThere cX0_isThere 1 (some .boolean), Cond.fieldLink RX0 9 "Windowhouse$Window" "kind" "C", Cond.methodLink RX1 66 yX0_rest]
def wsX1_slice_r2 : List Cond := [Cond.instanceMethod yX0_rest, Cond.selects RX0 yX0_rest yX0_rest, Cond.code yX0_rest cX0_rest 1 (some .int), Cond.fieldLink RX0 23 "Windowhouse$Window" "end" "I", Cond.fieldLink RX0 26 "Windowhouse$Window" "place" "I", Cond.methodLink RX1 70 yX0_becomeSlice, Cond.instanceMethod yX0_becomeSlice, Cond.selects RX0 yX0_becomeSlice yX0_becomeSlice, Cond.code yX0_becomeSlice cX0_becomeSlice 4 none, Cond.fieldLink RX0 35 "Windowhouse$Window" "onlyReads" "Z", Cond.fieldLink RX0 15 "Windowhouse$Window" "store" "[J", Cond.fieldLink RX0 32 "Windowhouse$Window" "start" "I", Cond.fieldLink RX0 29 "Windowhouse$Window" "capacity" "I", Cond.methodLink RX0 39 yX0_moveTo, Cond.instanceMethod yX0_moveTo, Cond.selects RX0 yX0_moveTo yX0_moveTo, Cond.code yX0_moveTo cX0_moveTo 3 none, Cond.fieldLink RX0 19 "Windowhouse$Window" "mark" "I"]
def wsX1_slice : List Cond := .code yX1_slice cX1_slice 5 (some .int) :: ((wsX1_slice_r1 ++ wsX1_slice_r2) ++ wsX00 ++ wsX10 ++ (vx_atS RX1 220 "java/lang/IndexOutOfBoundsException" ["java/lang/RuntimeException", "java/lang/Exception"]).filter goodWord)
def wsX1_checkPart : List Cond := .code yX1_checkPart cX1_checkPart 3 none :: ([.classLink RX1 216 "java/lang/IndexOutOfBoundsException", .initialized "java/lang/IndexOutOfBoundsException"] ++ (vx_atS RX1 220 "java/lang/IndexOutOfBoundsException" ["java/lang/RuntimeException", "java/lang/Exception"]).filter goodWord)
def wsX1_sliceAt_r1 : List Cond := [Cond.fieldLink RX1 74 "Windowhouse$Window" "end" "I", Cond.fieldLink RX1 56 "Windowhouse$Window" "capacity" "I", Cond.methodLink RX1 60 yX1_windowOf, Cond.instanceMethod yX1_windowOf, Cond.selects RX1 yX1_windowOf yX1_windowOf, Cond.initialized RX1, Cond.code yX1_windowOf cX1_windowOf 3 (some (.object "Windowhouse$Window")), Cond.classLink RX1 216 "java/lang/IndexOutOfBoundsException", Cond.initialized "java/lang/IndexOutOfBoundsException", Cond.methodLink RX1 40 yX1_slotOf, Cond.instanceMethod yX1_slotOf, Cond.selects RX1 yX1_slotOf yX1_slotOf, Cond.code yX1_slotOf cX1_slotOf 2 (some (.object "Windowhouse$Window")), Cond.fieldLink RX1 16 "Windowhouse" "windows" "[LWindowhouse$Window;", Cond.methodLink RX1 36 yX1_checkIndex, Cond.static yX1_checkIndex, Cond.code yX1_checkIndex cX1_checkIndex 2 none, Cond.methodLink RX1 48 yX0_isThere, Cond.instanceMethod yX0_isThere, Cond.selects RX0 yX0_isThere yX0_isThere, Cond.initialized RX0, Cond.code yX0_isThere cX0_isThere 1 (some .boolean), Cond.fieldLink RX0 9 "Windowhouse$Window" "kind" "C", Cond.methodLink RX1 77 yX1_checkPart]
def wsX1_sliceAt_r2 : List Cond := [Cond.static yX1_checkPart, Cond.code yX1_checkPart cX1_checkPart 3 none, Cond.methodLink RX1 70 yX0_becomeSlice, Cond.instanceMethod yX0_becomeSlice, Cond.selects RX0 yX0_becomeSlice yX0_becomeSlice, Cond.code yX0_becomeSlice cX0_becomeSlice 4 none, Cond.fieldLink RX0 35 "Windowhouse$Window" "onlyReads" "Z", Cond.fieldLink RX0 15 "Windowhouse$Window" "store" "[J", Cond.fieldLink RX0 32 "Windowhouse$Window" "start" "I", Cond.fieldLink RX0 29 "Windowhouse$Window" "capacity" "I", Cond.methodLink RX0 39 yX0_moveTo, Cond.instanceMethod yX0_moveTo, Cond.selects RX0 yX0_moveTo yX0_moveTo, Cond.code yX0_moveTo cX0_moveTo 3 none, Cond.fieldLink RX0 26 "Windowhouse$Window" "place" "I", Cond.fieldLink RX0 23 "Windowhouse$Window" "end" "I", Cond.fieldLink RX0 19 "Windowhouse$Window" "mark" "I"]
def wsX1_sliceAt : List Cond := .code yX1_sliceAt cX1_sliceAt 7 (some .int) :: ((wsX1_sliceAt_r1 ++ wsX1_sliceAt_r2) ++ wsX00 ++ wsX10 ++ (vx_atS RX1 220 "java/lang/IndexOutOfBoundsException" ["java/lang/RuntimeException", "java/lang/Exception"]).filter goodWord)
def wsX1_duplicate_r1 : List Cond := [Cond.methodLink RX1 60 yX1_windowOf, Cond.instanceMethod yX1_windowOf, Cond.selects RX1 yX1_windowOf yX1_windowOf, Cond.initialized RX1, Cond.code yX1_windowOf cX1_windowOf 3 (some (.object "Windowhouse$Window")), Cond.classLink RX1 216 "java/lang/IndexOutOfBoundsException", Cond.initialized "java/lang/IndexOutOfBoundsException", Cond.methodLink RX1 40 yX1_slotOf, Cond.instanceMethod yX1_slotOf, Cond.selects RX1 yX1_slotOf yX1_slotOf, Cond.code yX1_slotOf cX1_slotOf 2 (some (.object "Windowhouse$Window")), Cond.fieldLink RX1 16 "Windowhouse" "windows" "[LWindowhouse$Window;", Cond.methodLink RX1 36 yX1_checkIndex, Cond.static yX1_checkIndex, Cond.code yX1_checkIndex cX1_checkIndex 2 none, Cond.methodLink RX1 48 yX0_isThere, Cond.instanceMethod yX0_isThere, Cond.selects RX0 yX0_isThere yX0_isThere, Cond.initialized RX0, Cond.code yX0_isThere cX0_isThere 1 (some .boolean), Cond.fieldLink RX0 9 "Windowhouse$Window" "kind" "C", Cond.methodLink RX1 81 yX0_becomeDuplicate, Cond.instanceMethod yX0_becomeDuplicate, Cond.selects RX0 yX0_becomeDuplicate yX0_becomeDuplicate]
def wsX1_duplicate_r2 : List Cond := [Cond.code yX0_becomeDuplicate cX0_becomeDuplicate 2 none, Cond.fieldLink RX0 35 "Windowhouse$Window" "onlyReads" "Z", Cond.fieldLink RX0 15 "Windowhouse$Window" "store" "[J", Cond.fieldLink RX0 32 "Windowhouse$Window" "start" "I", Cond.fieldLink RX0 29 "Windowhouse$Window" "capacity" "I", Cond.fieldLink RX0 26 "Windowhouse$Window" "place" "I", Cond.fieldLink RX0 23 "Windowhouse$Window" "end" "I", Cond.fieldLink RX0 19 "Windowhouse$Window" "mark" "I", Cond.methodLink RX1 66 yX0_rest, Cond.instanceMethod yX0_rest, Cond.selects RX0 yX0_rest yX0_rest, Cond.code yX0_rest cX0_rest 1 (some .int)]
def wsX1_duplicate : List Cond := .code yX1_duplicate cX1_duplicate 5 (some .int) :: ((wsX1_duplicate_r1 ++ wsX1_duplicate_r2) ++ wsX10 ++ wsX00 ++ (vx_atS RX1 220 "java/lang/IndexOutOfBoundsException" ["java/lang/RuntimeException", "java/lang/Exception"]).filter goodWord)
def wsX1_readOnly_r1 : List Cond := [Cond.fieldLink RX1 85 "Windowhouse$Window" "onlyReads" "Z", Cond.methodLink RX1 60 yX1_windowOf, Cond.instanceMethod yX1_windowOf, Cond.selects RX1 yX1_windowOf yX1_windowOf, Cond.initialized RX1, Cond.code yX1_windowOf cX1_windowOf 3 (some (.object "Windowhouse$Window")), Cond.classLink RX1 216 "java/lang/IndexOutOfBoundsException", Cond.initialized "java/lang/IndexOutOfBoundsException", Cond.methodLink RX1 40 yX1_slotOf, Cond.instanceMethod yX1_slotOf, Cond.selects RX1 yX1_slotOf yX1_slotOf, Cond.code yX1_slotOf cX1_slotOf 2 (some (.object "Windowhouse$Window")), Cond.fieldLink RX1 16 "Windowhouse" "windows" "[LWindowhouse$Window;", Cond.methodLink RX1 36 yX1_checkIndex, Cond.static yX1_checkIndex, Cond.code yX1_checkIndex cX1_checkIndex 2 none, Cond.methodLink RX1 48 yX0_isThere, Cond.instanceMethod yX0_isThere, Cond.selects RX0 yX0_isThere yX0_isThere, Cond.initialized RX0, Cond.code yX0_isThere cX0_isThere 1 (some .boolean), Cond.fieldLink RX0 9 "Windowhouse$Window" "kind" "C", Cond.methodLink RX1 81 yX0_becomeDuplicate, Cond.instanceMethod yX0_becomeDuplicate]
def wsX1_readOnly_r2 : List Cond := [Cond.selects RX0 yX0_becomeDuplicate yX0_becomeDuplicate, Cond.code yX0_becomeDuplicate cX0_becomeDuplicate 2 none, Cond.fieldLink RX0 35 "Windowhouse$Window" "onlyReads" "Z", Cond.fieldLink RX0 15 "Windowhouse$Window" "store" "[J", Cond.fieldLink RX0 32 "Windowhouse$Window" "start" "I", Cond.fieldLink RX0 29 "Windowhouse$Window" "capacity" "I", Cond.fieldLink RX0 26 "Windowhouse$Window" "place" "I", Cond.fieldLink RX0 23 "Windowhouse$Window" "end" "I", Cond.fieldLink RX0 19 "Windowhouse$Window" "mark" "I", Cond.methodLink RX1 66 yX0_rest, Cond.instanceMethod yX0_rest, Cond.selects RX0 yX0_rest yX0_rest, Cond.code yX0_rest cX0_rest 1 (some .int)]
def wsX1_readOnly : List Cond := .code yX1_readOnly cX1_readOnly 5 (some .int) :: ((wsX1_readOnly_r1 ++ wsX1_readOnly_r2) ++ wsX00 ++ wsX10 ++ (vx_atS RX1 220 "java/lang/IndexOutOfBoundsException" ["java/lang/RuntimeException", "java/lang/Exception"]).filter goodWord)
def wsX1_kind : List Cond := .code yX1_kind cX1_kind 2 (some .char) :: ([.fieldLink RX1 89 "Windowhouse$Window" "kind" "C", .methodLink RX1 40 yX1_slotOf, .instanceMethod yX1_slotOf, .selects RX1 yX1_slotOf yX1_slotOf, .initialized RX1, .code yX1_slotOf cX1_slotOf 2 (some (.object "Windowhouse$Window")), .fieldLink RX1 16 "Windowhouse" "windows" "[LWindowhouse$Window;", .methodLink RX1 36 yX1_checkIndex, .static yX1_checkIndex, .code yX1_checkIndex cX1_checkIndex 2 none, .classLink RX1 216 "java/lang/IndexOutOfBoundsException", .initialized "java/lang/IndexOutOfBoundsException"] ++ wsX00 ++ wsX10 ++ (vx_atS RX1 220 "java/lang/IndexOutOfBoundsException" ["java/lang/RuntimeException", "java/lang/Exception"]).filter goodWord)
def wsX1_capacity : List Cond := .code yX1_capacity cX1_capacity 2 (some .int) :: ([.fieldLink RX1 56 "Windowhouse$Window" "capacity" "I", .methodLink RX1 60 yX1_windowOf, .instanceMethod yX1_windowOf, .selects RX1 yX1_windowOf yX1_windowOf, .initialized RX1, .code yX1_windowOf cX1_windowOf 3 (some (.object "Windowhouse$Window")), .classLink RX1 216 "java/lang/IndexOutOfBoundsException", .initialized "java/lang/IndexOutOfBoundsException", .methodLink RX1 40 yX1_slotOf, .instanceMethod yX1_slotOf, .selects RX1 yX1_slotOf yX1_slotOf, .code yX1_slotOf cX1_slotOf 2 (some (.object "Windowhouse$Window")), .fieldLink RX1 16 "Windowhouse" "windows" "[LWindowhouse$Window;", .methodLink RX1 36 yX1_checkIndex, .static yX1_checkIndex, .code yX1_checkIndex cX1_checkIndex 2 none, .methodLink RX1 48 yX0_isThere, .instanceMethod yX0_isThere, .selects RX0 yX0_isThere yX0_isThere, .initialized RX0, .code yX0_isThere cX0_isThere 1 (some .boolean), .fieldLink RX0 9 "Windowhouse$Window" "kind" "C"] ++ wsX00 ++ wsX10 ++ (vx_atS RX1 220 "java/lang/IndexOutOfBoundsException" ["java/lang/RuntimeException", "java/lang/Exception"]).filter goodWord)
def wsX1_place : List Cond := .code yX1_place cX1_place 2 (some .int) :: ([.fieldLink RX1 63 "Windowhouse$Window" "place" "I", .methodLink RX1 60 yX1_windowOf, .instanceMethod yX1_windowOf, .selects RX1 yX1_windowOf yX1_windowOf, .initialized RX1, .code yX1_windowOf cX1_windowOf 3 (some (.object "Windowhouse$Window")), .classLink RX1 216 "java/lang/IndexOutOfBoundsException", .initialized "java/lang/IndexOutOfBoundsException", .methodLink RX1 40 yX1_slotOf, .instanceMethod yX1_slotOf, .selects RX1 yX1_slotOf yX1_slotOf, .code yX1_slotOf cX1_slotOf 2 (some (.object "Windowhouse$Window")), .fieldLink RX1 16 "Windowhouse" "windows" "[LWindowhouse$Window;", .methodLink RX1 36 yX1_checkIndex, .static yX1_checkIndex, .code yX1_checkIndex cX1_checkIndex 2 none, .methodLink RX1 48 yX0_isThere, .instanceMethod yX0_isThere, .selects RX0 yX0_isThere yX0_isThere, .initialized RX0, .code yX0_isThere cX0_isThere 1 (some .boolean), .fieldLink RX0 9 "Windowhouse$Window" "kind" "C"] ++ wsX00 ++ wsX10 ++ (vx_atS RX1 220 "java/lang/IndexOutOfBoundsException" ["java/lang/RuntimeException", "java/lang/Exception"]).filter goodWord)
def wsX1_end : List Cond := .code yX1_end cX1_end 2 (some .int) :: ([.fieldLink RX1 74 "Windowhouse$Window" "end" "I", .methodLink RX1 60 yX1_windowOf, .instanceMethod yX1_windowOf, .selects RX1 yX1_windowOf yX1_windowOf, .initialized RX1, .code yX1_windowOf cX1_windowOf 3 (some (.object "Windowhouse$Window")), .classLink RX1 216 "java/lang/IndexOutOfBoundsException", .initialized "java/lang/IndexOutOfBoundsException", .methodLink RX1 40 yX1_slotOf, .instanceMethod yX1_slotOf, .selects RX1 yX1_slotOf yX1_slotOf, .code yX1_slotOf cX1_slotOf 2 (some (.object "Windowhouse$Window")), .fieldLink RX1 16 "Windowhouse" "windows" "[LWindowhouse$Window;", .methodLink RX1 36 yX1_checkIndex, .static yX1_checkIndex, .code yX1_checkIndex cX1_checkIndex 2 none, .methodLink RX1 48 yX0_isThere, .instanceMethod yX0_isThere, .selects RX0 yX0_isThere yX0_isThere, .initialized RX0, .code yX0_isThere cX0_isThere 1 (some .boolean), .fieldLink RX0 9 "Windowhouse$Window" "kind" "C"] ++ wsX00 ++ wsX10 ++ (vx_atS RX1 220 "java/lang/IndexOutOfBoundsException" ["java/lang/RuntimeException", "java/lang/Exception"]).filter goodWord)
def wsX1_left_r1 : List Cond := [Cond.methodLink RX1 60 yX1_windowOf, Cond.instanceMethod yX1_windowOf, Cond.selects RX1 yX1_windowOf yX1_windowOf, Cond.initialized RX1, Cond.code yX1_windowOf cX1_windowOf 3 (some (.object "Windowhouse$Window")), Cond.classLink RX1 216 "java/lang/IndexOutOfBoundsException", Cond.initialized "java/lang/IndexOutOfBoundsException", Cond.methodLink RX1 40 yX1_slotOf, Cond.instanceMethod yX1_slotOf, Cond.selects RX1 yX1_slotOf yX1_slotOf, Cond.code yX1_slotOf cX1_slotOf 2 (some (.object "Windowhouse$Window")), Cond.fieldLink RX1 16 "Windowhouse" "windows" "[LWindowhouse$Window;", Cond.methodLink RX1 36 yX1_checkIndex, Cond.static yX1_checkIndex, Cond.code yX1_checkIndex cX1_checkIndex 2 none, Cond.methodLink RX1 48 yX0_isThere, Cond.instanceMethod yX0_isThere, Cond.selects RX0 yX0_isThere yX0_isThere, Cond.initialized RX0, Cond.code yX0_isThere cX0_isThere 1 (some .boolean), Cond.fieldLink RX0 9 "Windowhouse$Window" "kind" "C", Cond.methodLink RX1 66 yX0_rest, Cond.instanceMethod yX0_rest, Cond.selects RX0 yX0_rest yX0_rest]
def wsX1_left_r2 : List Cond := [Cond.code yX0_rest cX0_rest 1 (some .int), Cond.fieldLink RX0 23 "Windowhouse$Window" "end" "I", Cond.fieldLink RX0 26 "Windowhouse$Window" "place" "I"]
def wsX1_left : List Cond := .code yX1_left cX1_left 2 (some .int) :: ((wsX1_left_r1 ++ wsX1_left_r2) ++ wsX10 ++ wsX00 ++ (vx_atS RX1 220 "java/lang/IndexOutOfBoundsException" ["java/lang/RuntimeException", "java/lang/Exception"]).filter goodWord)
def wsX1_hasLeft_r1 : List Cond := [Cond.methodLink RX1 60 yX1_windowOf, Cond.instanceMethod yX1_windowOf, Cond.selects RX1 yX1_windowOf yX1_windowOf, Cond.initialized RX1, Cond.code yX1_windowOf cX1_windowOf 3 (some (.object "Windowhouse$Window")), Cond.classLink RX1 216 "java/lang/IndexOutOfBoundsException", Cond.initialized "java/lang/IndexOutOfBoundsException", Cond.methodLink RX1 40 yX1_slotOf, Cond.instanceMethod yX1_slotOf, Cond.selects RX1 yX1_slotOf yX1_slotOf, Cond.code yX1_slotOf cX1_slotOf 2 (some (.object "Windowhouse$Window")), Cond.fieldLink RX1 16 "Windowhouse" "windows" "[LWindowhouse$Window;", Cond.methodLink RX1 36 yX1_checkIndex, Cond.static yX1_checkIndex, Cond.code yX1_checkIndex cX1_checkIndex 2 none, Cond.methodLink RX1 48 yX0_isThere, Cond.instanceMethod yX0_isThere, Cond.selects RX0 yX0_isThere yX0_isThere, Cond.initialized RX0, Cond.code yX0_isThere cX0_isThere 1 (some .boolean), Cond.fieldLink RX0 9 "Windowhouse$Window" "kind" "C", Cond.methodLink RX1 66 yX0_rest, Cond.instanceMethod yX0_rest, Cond.selects RX0 yX0_rest yX0_rest]
def wsX1_hasLeft_r2 : List Cond := [Cond.code yX0_rest cX0_rest 1 (some .int), Cond.fieldLink RX0 23 "Windowhouse$Window" "end" "I", Cond.fieldLink RX0 26 "Windowhouse$Window" "place" "I"]
def wsX1_hasLeft : List Cond := .code yX1_hasLeft cX1_hasLeft 2 (some .boolean) :: ((wsX1_hasLeft_r1 ++ wsX1_hasLeft_r2) ++ wsX10 ++ wsX00 ++ (vx_atS RX1 220 "java/lang/IndexOutOfBoundsException" ["java/lang/RuntimeException", "java/lang/Exception"]).filter goodWord)
def wsX1_isReadOnly : List Cond := .code yX1_isReadOnly cX1_isReadOnly 2 (some .boolean) :: ([.fieldLink RX1 85 "Windowhouse$Window" "onlyReads" "Z", .methodLink RX1 60 yX1_windowOf, .instanceMethod yX1_windowOf, .selects RX1 yX1_windowOf yX1_windowOf, .initialized RX1, .code yX1_windowOf cX1_windowOf 3 (some (.object "Windowhouse$Window")), .classLink RX1 216 "java/lang/IndexOutOfBoundsException", .initialized "java/lang/IndexOutOfBoundsException", .methodLink RX1 40 yX1_slotOf, .instanceMethod yX1_slotOf, .selects RX1 yX1_slotOf yX1_slotOf, .code yX1_slotOf cX1_slotOf 2 (some (.object "Windowhouse$Window")), .fieldLink RX1 16 "Windowhouse" "windows" "[LWindowhouse$Window;", .methodLink RX1 36 yX1_checkIndex, .static yX1_checkIndex, .code yX1_checkIndex cX1_checkIndex 2 none, .methodLink RX1 48 yX0_isThere, .instanceMethod yX0_isThere, .selects RX0 yX0_isThere yX0_isThere, .initialized RX0, .code yX0_isThere cX0_isThere 1 (some .boolean), .fieldLink RX0 9 "Windowhouse$Window" "kind" "C"] ++ wsX00 ++ wsX10 ++ (vx_atS RX1 220 "java/lang/IndexOutOfBoundsException" ["java/lang/RuntimeException", "java/lang/Exception"]).filter goodWord)
def wsX1_checkBound : List Cond := .code yX1_checkBound cX1_checkBound 2 none :: ([.classLink RX1 160 "java/lang/IllegalArgumentException", .initialized "java/lang/IllegalArgumentException"] ++ (vx_atS RX1 164 "java/lang/IllegalArgumentException" ["java/lang/RuntimeException", "java/lang/Exception"]).filter goodWord)
def wsX1_placeAt_r1 : List Cond := [Cond.fieldLink RX1 74 "Windowhouse$Window" "end" "I", Cond.fieldLink RX1 63 "Windowhouse$Window" "place" "I", Cond.methodLink RX1 60 yX1_windowOf, Cond.instanceMethod yX1_windowOf, Cond.selects RX1 yX1_windowOf yX1_windowOf, Cond.initialized RX1, Cond.code yX1_windowOf cX1_windowOf 3 (some (.object "Windowhouse$Window")), Cond.classLink RX1 216 "java/lang/IndexOutOfBoundsException", Cond.initialized "java/lang/IndexOutOfBoundsException", Cond.methodLink RX1 40 yX1_slotOf, Cond.instanceMethod yX1_slotOf, Cond.selects RX1 yX1_slotOf yX1_slotOf, Cond.code yX1_slotOf cX1_slotOf 2 (some (.object "Windowhouse$Window")), Cond.fieldLink RX1 16 "Windowhouse" "windows" "[LWindowhouse$Window;", Cond.methodLink RX1 36 yX1_checkIndex, Cond.static yX1_checkIndex, Cond.code yX1_checkIndex cX1_checkIndex 2 none, Cond.methodLink RX1 48 yX0_isThere, Cond.instanceMethod yX0_isThere, Cond.selects RX0 yX0_isThere yX0_isThere, Cond.initialized RX0, Cond.code yX0_isThere cX0_isThere 1 (some .boolean), Cond.fieldLink RX0 9 "Windowhouse$Window" "kind" "C", Cond.methodLink RX1 93 yX1_checkBound]
def wsX1_placeAt_r2 : List Cond := [Cond.static yX1_checkBound, Cond.code yX1_checkBound cX1_checkBound 2 none, Cond.classLink RX1 160 "java/lang/IllegalArgumentException", Cond.initialized "java/lang/IllegalArgumentException", Cond.methodLink RX1 96 yX0_dropMarkBeyond, Cond.instanceMethod yX0_dropMarkBeyond, Cond.selects RX0 yX0_dropMarkBeyond yX0_dropMarkBeyond, Cond.code yX0_dropMarkBeyond cX0_dropMarkBeyond 2 none, Cond.fieldLink RX0 19 "Windowhouse$Window" "mark" "I"]
def wsX1_placeAt : List Cond := .code yX1_placeAt cX1_placeAt 5 (some .int) :: ((wsX1_placeAt_r1 ++ wsX1_placeAt_r2) ++ wsX00 ++ wsX10 ++ (vx_atS RX1 220 "java/lang/IndexOutOfBoundsException" ["java/lang/RuntimeException", "java/lang/Exception"]).filter goodWord ++ (vx_atS RX1 164 "java/lang/IllegalArgumentException" ["java/lang/RuntimeException", "java/lang/Exception"]).filter goodWord)
def wsX1_endAt_r1 : List Cond := [Cond.fieldLink RX1 56 "Windowhouse$Window" "capacity" "I", Cond.fieldLink RX1 74 "Windowhouse$Window" "end" "I", Cond.fieldLink RX1 63 "Windowhouse$Window" "place" "I", Cond.methodLink RX1 99 Lib.Math.min.name, Cond.static Lib.Math.min.name, Cond.initialized "java/lang/Math", Cond.code Lib.Math.min.name Lib.Math.min.code 2 (some .int), Cond.methodLink RX1 60 yX1_windowOf, Cond.instanceMethod yX1_windowOf, Cond.selects RX1 yX1_windowOf yX1_windowOf, Cond.initialized RX1, Cond.code yX1_windowOf cX1_windowOf 3 (some (.object "Windowhouse$Window")), Cond.classLink RX1 216 "java/lang/IndexOutOfBoundsException", Cond.initialized "java/lang/IndexOutOfBoundsException", Cond.methodLink RX1 40 yX1_slotOf, Cond.instanceMethod yX1_slotOf, Cond.selects RX1 yX1_slotOf yX1_slotOf, Cond.code yX1_slotOf cX1_slotOf 2 (some (.object "Windowhouse$Window")), Cond.fieldLink RX1 16 "Windowhouse" "windows" "[LWindowhouse$Window;", Cond.methodLink RX1 36 yX1_checkIndex, Cond.static yX1_checkIndex, Cond.code yX1_checkIndex cX1_checkIndex 2 none, Cond.methodLink RX1 48 yX0_isThere, Cond.instanceMethod yX0_isThere]
def wsX1_endAt_r2 : List Cond := [Cond.selects RX0 yX0_isThere yX0_isThere, Cond.initialized RX0, Cond.code yX0_isThere cX0_isThere 1 (some .boolean), Cond.fieldLink RX0 9 "Windowhouse$Window" "kind" "C", Cond.methodLink RX1 93 yX1_checkBound, Cond.static yX1_checkBound, Cond.code yX1_checkBound cX1_checkBound 2 none, Cond.classLink RX1 160 "java/lang/IllegalArgumentException", Cond.initialized "java/lang/IllegalArgumentException", Cond.methodLink RX1 96 yX0_dropMarkBeyond, Cond.instanceMethod yX0_dropMarkBeyond, Cond.selects RX0 yX0_dropMarkBeyond yX0_dropMarkBeyond, Cond.code yX0_dropMarkBeyond cX0_dropMarkBeyond 2 none, Cond.fieldLink RX0 19 "Windowhouse$Window" "mark" "I"]
def wsX1_endAt : List Cond := .code yX1_endAt cX1_endAt 5 (some .int) :: ((wsX1_endAt_r1 ++ wsX1_endAt_r2) ++ wsX00 ++ wsX10 ++ (vx_atS RX1 220 "java/lang/IndexOutOfBoundsException" ["java/lang/RuntimeException", "java/lang/Exception"]).filter goodWord ++ (vx_atS RX1 164 "java/lang/IllegalArgumentException" ["java/lang/RuntimeException", "java/lang/Exception"]).filter goodWord)
def wsX1_mark : List Cond := .code yX1_mark cX1_mark 3 (some .int) :: ([.fieldLink RX1 63 "Windowhouse$Window" "place" "I", .fieldLink RX1 105 "Windowhouse$Window" "mark" "I", .methodLink RX1 60 yX1_windowOf, .instanceMethod yX1_windowOf, .selects RX1 yX1_windowOf yX1_windowOf, .initialized RX1, .code yX1_windowOf cX1_windowOf 3 (some (.object "Windowhouse$Window")), .classLink RX1 216 "java/lang/IndexOutOfBoundsException", .initialized "java/lang/IndexOutOfBoundsException", .methodLink RX1 40 yX1_slotOf, .instanceMethod yX1_slotOf, .selects RX1 yX1_slotOf yX1_slotOf, .code yX1_slotOf cX1_slotOf 2 (some (.object "Windowhouse$Window")), .fieldLink RX1 16 "Windowhouse" "windows" "[LWindowhouse$Window;", .methodLink RX1 36 yX1_checkIndex, .static yX1_checkIndex, .code yX1_checkIndex cX1_checkIndex 2 none, .methodLink RX1 48 yX0_isThere, .instanceMethod yX0_isThere, .selects RX0 yX0_isThere yX0_isThere, .initialized RX0, .code yX0_isThere cX0_isThere 1 (some .boolean), .fieldLink RX0 9 "Windowhouse$Window" "kind" "C"] ++ wsX00 ++ wsX10 ++ (vx_atS RX1 220 "java/lang/IndexOutOfBoundsException" ["java/lang/RuntimeException", "java/lang/Exception"]).filter goodWord)
def wsX1_back_r1 : List Cond := [Cond.classLink RX1 108 "java/lang/IllegalStateException", Cond.initialized "java/lang/IllegalStateException", Cond.fieldLink RX1 105 "Windowhouse$Window" "mark" "I", Cond.fieldLink RX1 63 "Windowhouse$Window" "place" "I", Cond.methodLink RX1 60 yX1_windowOf, Cond.instanceMethod yX1_windowOf, Cond.selects RX1 yX1_windowOf yX1_windowOf, Cond.initialized RX1, Cond.code yX1_windowOf cX1_windowOf 3 (some (.object "Windowhouse$Window")), Cond.classLink RX1 216 "java/lang/IndexOutOfBoundsException", Cond.initialized "java/lang/IndexOutOfBoundsException", Cond.methodLink RX1 40 yX1_slotOf, Cond.instanceMethod yX1_slotOf, Cond.selects RX1 yX1_slotOf yX1_slotOf, Cond.code yX1_slotOf cX1_slotOf 2 (some (.object "Windowhouse$Window")), Cond.fieldLink RX1 16 "Windowhouse" "windows" "[LWindowhouse$Window;", Cond.methodLink RX1 36 yX1_checkIndex, Cond.static yX1_checkIndex, Cond.code yX1_checkIndex cX1_checkIndex 2 none, Cond.methodLink RX1 48 yX0_isThere, Cond.instanceMethod yX0_isThere, Cond.selects RX0 yX0_isThere yX0_isThere, Cond.initialized RX0, Cond.code yX0_isThere cX0_isThere 1 (some .boolean)]
def wsX1_back_r2 : List Cond := [Cond.fieldLink RX0 9 "Windowhouse$Window" "kind" "C"]
def wsX1_back : List Cond := .code yX1_back cX1_back 4 (some .int) :: ((wsX1_back_r1 ++ wsX1_back_r2) ++ wsX00 ++ wsX10 ++ (vx_atS RX1 112 "java/lang/IllegalStateException" ["java/lang/RuntimeException", "java/lang/Exception"]).filter goodWord ++ (vx_atS RX1 220 "java/lang/IndexOutOfBoundsException" ["java/lang/RuntimeException", "java/lang/Exception"]).filter goodWord)
def wsX1_clear_r1 : List Cond := [Cond.fieldLink RX1 56 "Windowhouse$Window" "capacity" "I", Cond.fieldLink RX1 74 "Windowhouse$Window" "end" "I", Cond.methodLink RX1 60 yX1_windowOf, Cond.instanceMethod yX1_windowOf, Cond.selects RX1 yX1_windowOf yX1_windowOf, Cond.initialized RX1, Cond.code yX1_windowOf cX1_windowOf 3 (some (.object "Windowhouse$Window")), Cond.classLink RX1 216 "java/lang/IndexOutOfBoundsException", Cond.initialized "java/lang/IndexOutOfBoundsException", Cond.methodLink RX1 40 yX1_slotOf, Cond.instanceMethod yX1_slotOf, Cond.selects RX1 yX1_slotOf yX1_slotOf, Cond.code yX1_slotOf cX1_slotOf 2 (some (.object "Windowhouse$Window")), Cond.fieldLink RX1 16 "Windowhouse" "windows" "[LWindowhouse$Window;", Cond.methodLink RX1 36 yX1_checkIndex, Cond.static yX1_checkIndex, Cond.code yX1_checkIndex cX1_checkIndex 2 none, Cond.methodLink RX1 48 yX0_isThere, Cond.instanceMethod yX0_isThere, Cond.selects RX0 yX0_isThere yX0_isThere, Cond.initialized RX0, Cond.code yX0_isThere cX0_isThere 1 (some .boolean), Cond.fieldLink RX0 9 "Windowhouse$Window" "kind" "C", Cond.methodLink RX1 115 yX0_moveTo]
def wsX1_clear_r2 : List Cond := [Cond.instanceMethod yX0_moveTo, Cond.selects RX0 yX0_moveTo yX0_moveTo, Cond.code yX0_moveTo cX0_moveTo 3 none, Cond.fieldLink RX0 26 "Windowhouse$Window" "place" "I", Cond.fieldLink RX0 23 "Windowhouse$Window" "end" "I", Cond.fieldLink RX0 19 "Windowhouse$Window" "mark" "I"]
def wsX1_clear : List Cond := .code yX1_clear cX1_clear 3 (some .int) :: ((wsX1_clear_r1 ++ wsX1_clear_r2) ++ wsX00 ++ wsX10 ++ (vx_atS RX1 220 "java/lang/IndexOutOfBoundsException" ["java/lang/RuntimeException", "java/lang/Exception"]).filter goodWord)
def wsX1_flip_r1 : List Cond := [Cond.fieldLink RX1 63 "Windowhouse$Window" "place" "I", Cond.fieldLink RX1 74 "Windowhouse$Window" "end" "I", Cond.methodLink RX1 60 yX1_windowOf, Cond.instanceMethod yX1_windowOf, Cond.selects RX1 yX1_windowOf yX1_windowOf, Cond.initialized RX1, Cond.code yX1_windowOf cX1_windowOf 3 (some (.object "Windowhouse$Window")), Cond.classLink RX1 216 "java/lang/IndexOutOfBoundsException", Cond.initialized "java/lang/IndexOutOfBoundsException", Cond.methodLink RX1 40 yX1_slotOf, Cond.instanceMethod yX1_slotOf, Cond.selects RX1 yX1_slotOf yX1_slotOf, Cond.code yX1_slotOf cX1_slotOf 2 (some (.object "Windowhouse$Window")), Cond.fieldLink RX1 16 "Windowhouse" "windows" "[LWindowhouse$Window;", Cond.methodLink RX1 36 yX1_checkIndex, Cond.static yX1_checkIndex, Cond.code yX1_checkIndex cX1_checkIndex 2 none, Cond.methodLink RX1 48 yX0_isThere, Cond.instanceMethod yX0_isThere, Cond.selects RX0 yX0_isThere yX0_isThere, Cond.initialized RX0, Cond.code yX0_isThere cX0_isThere 1 (some .boolean), Cond.fieldLink RX0 9 "Windowhouse$Window" "kind" "C", Cond.methodLink RX1 115 yX0_moveTo]
def wsX1_flip_r2 : List Cond := [Cond.instanceMethod yX0_moveTo, Cond.selects RX0 yX0_moveTo yX0_moveTo, Cond.code yX0_moveTo cX0_moveTo 3 none, Cond.fieldLink RX0 26 "Windowhouse$Window" "place" "I", Cond.fieldLink RX0 23 "Windowhouse$Window" "end" "I", Cond.fieldLink RX0 19 "Windowhouse$Window" "mark" "I"]
def wsX1_flip : List Cond := .code yX1_flip cX1_flip 3 (some .int) :: ((wsX1_flip_r1 ++ wsX1_flip_r2) ++ wsX00 ++ wsX10 ++ (vx_atS RX1 220 "java/lang/IndexOutOfBoundsException" ["java/lang/RuntimeException", "java/lang/Exception"]).filter goodWord)
def wsX1_rewind_r1 : List Cond := [Cond.fieldLink RX1 74 "Windowhouse$Window" "end" "I", Cond.methodLink RX1 60 yX1_windowOf, Cond.instanceMethod yX1_windowOf, Cond.selects RX1 yX1_windowOf yX1_windowOf, Cond.initialized RX1, Cond.code yX1_windowOf cX1_windowOf 3 (some (.object "Windowhouse$Window")), Cond.classLink RX1 216 "java/lang/IndexOutOfBoundsException", Cond.initialized "java/lang/IndexOutOfBoundsException", Cond.methodLink RX1 40 yX1_slotOf, Cond.instanceMethod yX1_slotOf, Cond.selects RX1 yX1_slotOf yX1_slotOf, Cond.code yX1_slotOf cX1_slotOf 2 (some (.object "Windowhouse$Window")), Cond.fieldLink RX1 16 "Windowhouse" "windows" "[LWindowhouse$Window;", Cond.methodLink RX1 36 yX1_checkIndex, Cond.static yX1_checkIndex, Cond.code yX1_checkIndex cX1_checkIndex 2 none, Cond.methodLink RX1 48 yX0_isThere, Cond.instanceMethod yX0_isThere, Cond.selects RX0 yX0_isThere yX0_isThere, Cond.initialized RX0, Cond.code yX0_isThere cX0_isThere 1 (some .boolean), Cond.fieldLink RX0 9 "Windowhouse$Window" "kind" "C", Cond.methodLink RX1 115 yX0_moveTo, Cond.instanceMethod yX0_moveTo]
def wsX1_rewind_r2 : List Cond := [Cond.selects RX0 yX0_moveTo yX0_moveTo, Cond.code yX0_moveTo cX0_moveTo 3 none, Cond.fieldLink RX0 26 "Windowhouse$Window" "place" "I", Cond.fieldLink RX0 23 "Windowhouse$Window" "end" "I", Cond.fieldLink RX0 19 "Windowhouse$Window" "mark" "I", Cond.methodLink RX1 66 yX0_rest, Cond.instanceMethod yX0_rest, Cond.selects RX0 yX0_rest yX0_rest, Cond.code yX0_rest cX0_rest 1 (some .int)]
def wsX1_rewind : List Cond := .code yX1_rewind cX1_rewind 3 (some .int) :: ((wsX1_rewind_r1 ++ wsX1_rewind_r2) ++ wsX00 ++ wsX10 ++ (vx_atS RX1 220 "java/lang/IndexOutOfBoundsException" ["java/lang/RuntimeException", "java/lang/Exception"]).filter goodWord)
def wsX1_checkWritable : List Cond := .code yX1_checkWritable cX1_checkWritable 1 none :: ([.classLink RX1 233 "java/lang/UnsupportedOperationException", .initialized "java/lang/UnsupportedOperationException", .fieldLink RX1 85 "Windowhouse$Window" "onlyReads" "Z"] ++ wsX00 ++ (vx_atS RX1 237 "java/lang/UnsupportedOperationException" ["java/lang/RuntimeException", "java/lang/Exception"]).filter goodWord)
def wsX1_compact_r1 : List Cond := [Cond.fieldLink RX1 121 "Windowhouse$Window" "store" "[J", Cond.fieldLink RX1 125 "Windowhouse$Window" "start" "I", Cond.fieldLink RX1 63 "Windowhouse$Window" "place" "I", Cond.methodLink RX1 128 arraycopyName, Cond.native arraycopyName, Cond.static arraycopyName, Cond.initialized "java/lang/System", Cond.fieldLink RX1 56 "Windowhouse$Window" "capacity" "I", Cond.methodLink RX1 60 yX1_windowOf, Cond.instanceMethod yX1_windowOf, Cond.selects RX1 yX1_windowOf yX1_windowOf, Cond.initialized RX1, Cond.code yX1_windowOf cX1_windowOf 3 (some (.object "Windowhouse$Window")), Cond.classLink RX1 216 "java/lang/IndexOutOfBoundsException", Cond.initialized "java/lang/IndexOutOfBoundsException", Cond.methodLink RX1 40 yX1_slotOf, Cond.instanceMethod yX1_slotOf, Cond.selects RX1 yX1_slotOf yX1_slotOf, Cond.code yX1_slotOf cX1_slotOf 2 (some (.object "Windowhouse$Window")), Cond.fieldLink RX1 16 "Windowhouse" "windows" "[LWindowhouse$Window;", Cond.methodLink RX1 36 yX1_checkIndex, Cond.static yX1_checkIndex, Cond.code yX1_checkIndex cX1_checkIndex 2 none, Cond.methodLink RX1 48 yX0_isThere]
def wsX1_compact_r2 : List Cond := [Cond.instanceMethod yX0_isThere, Cond.selects RX0 yX0_isThere yX0_isThere, Cond.initialized RX0, Cond.code yX0_isThere cX0_isThere 1 (some .boolean), Cond.fieldLink RX0 9 "Windowhouse$Window" "kind" "C", Cond.methodLink RX1 118 yX1_checkWritable, Cond.static yX1_checkWritable, Cond.code yX1_checkWritable cX1_checkWritable 1 none, Cond.classLink RX1 233 "java/lang/UnsupportedOperationException", Cond.initialized "java/lang/UnsupportedOperationException", Cond.fieldLink RX1 85 "Windowhouse$Window" "onlyReads" "Z", Cond.methodLink RX1 66 yX0_rest, Cond.instanceMethod yX0_rest, Cond.selects RX0 yX0_rest yX0_rest, Cond.code yX0_rest cX0_rest 1 (some .int), Cond.fieldLink RX0 23 "Windowhouse$Window" "end" "I", Cond.fieldLink RX0 26 "Windowhouse$Window" "place" "I", Cond.methodLink RX1 115 yX0_moveTo, Cond.instanceMethod yX0_moveTo, Cond.selects RX0 yX0_moveTo yX0_moveTo, Cond.code yX0_moveTo cX0_moveTo 3 none, Cond.fieldLink RX0 19 "Windowhouse$Window" "mark" "I"]
def wsX1_compact : List Cond := .code yX1_compact cX1_compact 4 (some .int) :: ((wsX1_compact_r1 ++ wsX1_compact_r2) ++ wsX00 ++ wsX10 ++ (vx_atS RX1 220 "java/lang/IndexOutOfBoundsException" ["java/lang/RuntimeException", "java/lang/Exception"]).filter goodWord ++ (vx_atS RX1 237 "java/lang/UnsupportedOperationException" ["java/lang/RuntimeException", "java/lang/Exception"]).filter goodWord)
def wsX1_checkEnoughToGet : List Cond := .code yX1_checkEnoughToGet cX1_checkEnoughToGet 2 none :: ([.classLink RX1 168 "java/util/NoSuchElementException", .initialized "java/util/NoSuchElementException", .methodLink RX1 66 yX0_rest, .instanceMethod yX0_rest, .selects RX0 yX0_rest yX0_rest, .initialized RX0, .code yX0_rest cX0_rest 1 (some .int), .fieldLink RX0 23 "Windowhouse$Window" "end" "I", .fieldLink RX0 26 "Windowhouse$Window" "place" "I"] ++ wsX00 ++ (zx_at RX1 172 "java/util/NoSuchElementException" ["java/lang/RuntimeException", "java/lang/Exception"]).filter goodWord)
def wsX1_get_r1 : List Cond := [Cond.methodLink RX1 60 yX1_windowOf, Cond.instanceMethod yX1_windowOf, Cond.selects RX1 yX1_windowOf yX1_windowOf, Cond.initialized RX1, Cond.code yX1_windowOf cX1_windowOf 3 (some (.object "Windowhouse$Window")), Cond.classLink RX1 216 "java/lang/IndexOutOfBoundsException", Cond.initialized "java/lang/IndexOutOfBoundsException", Cond.methodLink RX1 40 yX1_slotOf, Cond.instanceMethod yX1_slotOf, Cond.selects RX1 yX1_slotOf yX1_slotOf, Cond.code yX1_slotOf cX1_slotOf 2 (some (.object "Windowhouse$Window")), Cond.fieldLink RX1 16 "Windowhouse" "windows" "[LWindowhouse$Window;", Cond.methodLink RX1 36 yX1_checkIndex, Cond.static yX1_checkIndex, Cond.code yX1_checkIndex cX1_checkIndex 2 none, Cond.methodLink RX1 48 yX0_isThere, Cond.instanceMethod yX0_isThere, Cond.selects RX0 yX0_isThere yX0_isThere, Cond.initialized RX0, Cond.code yX0_isThere cX0_isThere 1 (some .boolean), Cond.fieldLink RX0 9 "Windowhouse$Window" "kind" "C", Cond.methodLink RX1 134 yX1_checkEnoughToGet, Cond.static yX1_checkEnoughToGet, Cond.code yX1_checkEnoughToGet cX1_checkEnoughToGet 2 none]
def wsX1_get_r2 : List Cond := [Cond.classLink RX1 168 "java/util/NoSuchElementException", Cond.initialized "java/util/NoSuchElementException", Cond.methodLink RX1 66 yX0_rest, Cond.instanceMethod yX0_rest, Cond.selects RX0 yX0_rest yX0_rest, Cond.code yX0_rest cX0_rest 1 (some .int), Cond.fieldLink RX0 23 "Windowhouse$Window" "end" "I", Cond.fieldLink RX0 26 "Windowhouse$Window" "place" "I", Cond.methodLink RX1 138 yX0_takeNext, Cond.instanceMethod yX0_takeNext, Cond.selects RX0 yX0_takeNext yX0_takeNext, Cond.code yX0_takeNext cX0_takeNext 3 (some .long), Cond.methodLink RX0 47 yX0_valueAt, Cond.instanceMethod yX0_valueAt, Cond.selects RX0 yX0_valueAt yX0_valueAt, Cond.code yX0_valueAt cX0_valueAt 2 (some .long), Cond.fieldLink RX0 15 "Windowhouse$Window" "store" "[J", Cond.fieldLink RX0 32 "Windowhouse$Window" "start" "I"]
def wsX1_get : List Cond := .code yX1_get cX1_get 3 (some .long) :: ((wsX1_get_r1 ++ wsX1_get_r2) ++ wsX10 ++ wsX00 ++ (vx_atS RX1 220 "java/lang/IndexOutOfBoundsException" ["java/lang/RuntimeException", "java/lang/Exception"]).filter goodWord ++ (zx_at RX1 172 "java/util/NoSuchElementException" ["java/lang/RuntimeException", "java/lang/Exception"]).filter goodWord ++ (vx_atM "java/lang/ArrayIndexOutOfBoundsException" ["java/lang/IndexOutOfBoundsException", "java/lang/RuntimeException", "java/lang/Exception"]).filter goodWord)
def wsX1_checkEnoughToPut : List Cond := .code yX1_checkEnoughToPut cX1_checkEnoughToPut 2 none :: ([.classLink RX1 108 "java/lang/IllegalStateException", .initialized "java/lang/IllegalStateException", .methodLink RX1 66 yX0_rest, .instanceMethod yX0_rest, .selects RX0 yX0_rest yX0_rest, .initialized RX0, .code yX0_rest cX0_rest 1 (some .int), .fieldLink RX0 23 "Windowhouse$Window" "end" "I", .fieldLink RX0 26 "Windowhouse$Window" "place" "I"] ++ wsX00 ++ (vx_atS RX1 112 "java/lang/IllegalStateException" ["java/lang/RuntimeException", "java/lang/Exception"]).filter goodWord)
def wsX1_put_r1 : List Cond := [Cond.fieldLink RX1 63 "Windowhouse$Window" "place" "I", Cond.methodLink RX1 60 yX1_windowOf, Cond.instanceMethod yX1_windowOf, Cond.selects RX1 yX1_windowOf yX1_windowOf, Cond.initialized RX1, Cond.code yX1_windowOf cX1_windowOf 3 (some (.object "Windowhouse$Window")), Cond.classLink RX1 216 "java/lang/IndexOutOfBoundsException", Cond.initialized "java/lang/IndexOutOfBoundsException", Cond.methodLink RX1 40 yX1_slotOf, Cond.instanceMethod yX1_slotOf, Cond.selects RX1 yX1_slotOf yX1_slotOf, Cond.code yX1_slotOf cX1_slotOf 2 (some (.object "Windowhouse$Window")), Cond.fieldLink RX1 16 "Windowhouse" "windows" "[LWindowhouse$Window;", Cond.methodLink RX1 36 yX1_checkIndex, Cond.static yX1_checkIndex, Cond.code yX1_checkIndex cX1_checkIndex 2 none, Cond.methodLink RX1 48 yX0_isThere, Cond.instanceMethod yX0_isThere, Cond.selects RX0 yX0_isThere yX0_isThere, Cond.initialized RX0, Cond.code yX0_isThere cX0_isThere 1 (some .boolean), Cond.fieldLink RX0 9 "Windowhouse$Window" "kind" "C", Cond.methodLink RX1 118 yX1_checkWritable, Cond.static yX1_checkWritable]
def wsX1_put_r2 : List Cond := [Cond.code yX1_checkWritable cX1_checkWritable 1 none, Cond.classLink RX1 233 "java/lang/UnsupportedOperationException", Cond.initialized "java/lang/UnsupportedOperationException", Cond.fieldLink RX1 85 "Windowhouse$Window" "onlyReads" "Z", Cond.methodLink RX1 142 yX1_checkEnoughToPut, Cond.static yX1_checkEnoughToPut, Cond.code yX1_checkEnoughToPut cX1_checkEnoughToPut 2 none, Cond.classLink RX1 108 "java/lang/IllegalStateException", Cond.initialized "java/lang/IllegalStateException", Cond.methodLink RX1 66 yX0_rest, Cond.instanceMethod yX0_rest, Cond.selects RX0 yX0_rest yX0_rest, Cond.code yX0_rest cX0_rest 1 (some .int), Cond.fieldLink RX0 23 "Windowhouse$Window" "end" "I", Cond.fieldLink RX0 26 "Windowhouse$Window" "place" "I", Cond.methodLink RX1 145 yX0_putNext, Cond.instanceMethod yX0_putNext, Cond.selects RX0 yX0_putNext yX0_putNext, Cond.code yX0_putNext cX0_putNext 3 none, Cond.methodLink RX0 51 yX0_changeAt, Cond.instanceMethod yX0_changeAt, Cond.selects RX0 yX0_changeAt yX0_changeAt, Cond.code yX0_changeAt cX0_changeAt 4 none, Cond.fieldLink RX0 15 "Windowhouse$Window" "store" "[J"]
def wsX1_put_r3 : List Cond := [Cond.fieldLink RX0 32 "Windowhouse$Window" "start" "I", Cond.methodLink RX0 43 yX0_cut, Cond.instanceMethod yX0_cut, Cond.selects RX0 yX0_cut yX0_cut, Cond.code yX0_cut cX0_cut 3 (some .long), Cond.constantLong RX0 55 (255)]
def wsX1_put : List Cond := .code yX1_put cX1_put 5 (some .int) :: ((wsX1_put_r1 ++ (wsX1_put_r2 ++ wsX1_put_r3)) ++ wsX00 ++ wsX10 ++ (vx_atS RX1 220 "java/lang/IndexOutOfBoundsException" ["java/lang/RuntimeException", "java/lang/Exception"]).filter goodWord ++ (vx_atS RX1 237 "java/lang/UnsupportedOperationException" ["java/lang/RuntimeException", "java/lang/Exception"]).filter goodWord ++ (vx_atS RX1 112 "java/lang/IllegalStateException" ["java/lang/RuntimeException", "java/lang/Exception"]).filter goodWord ++ (vx_atM "java/lang/ArrayIndexOutOfBoundsException" ["java/lang/IndexOutOfBoundsException", "java/lang/RuntimeException", "java/lang/Exception"]).filter goodWord)
def wsX1_getAt_r1 : List Cond := [Cond.fieldLink RX1 74 "Windowhouse$Window" "end" "I", Cond.methodLink RX1 60 yX1_windowOf, Cond.instanceMethod yX1_windowOf, Cond.selects RX1 yX1_windowOf yX1_windowOf, Cond.initialized RX1, Cond.code yX1_windowOf cX1_windowOf 3 (some (.object "Windowhouse$Window")), Cond.classLink RX1 216 "java/lang/IndexOutOfBoundsException", Cond.initialized "java/lang/IndexOutOfBoundsException", Cond.methodLink RX1 40 yX1_slotOf, Cond.instanceMethod yX1_slotOf, Cond.selects RX1 yX1_slotOf yX1_slotOf, Cond.code yX1_slotOf cX1_slotOf 2 (some (.object "Windowhouse$Window")), Cond.fieldLink RX1 16 "Windowhouse" "windows" "[LWindowhouse$Window;", Cond.methodLink RX1 36 yX1_checkIndex, Cond.static yX1_checkIndex, Cond.code yX1_checkIndex cX1_checkIndex 2 none, Cond.methodLink RX1 48 yX0_isThere, Cond.instanceMethod yX0_isThere, Cond.selects RX0 yX0_isThere yX0_isThere, Cond.initialized RX0, Cond.code yX0_isThere cX0_isThere 1 (some .boolean), Cond.fieldLink RX0 9 "Windowhouse$Window" "kind" "C", Cond.methodLink RX1 149 yX0_valueAt, Cond.instanceMethod yX0_valueAt]
def wsX1_getAt_r2 : List Cond := [Cond.selects RX0 yX0_valueAt yX0_valueAt, Cond.code yX0_valueAt cX0_valueAt 2 (some .long), Cond.fieldLink RX0 15 "Windowhouse$Window" "store" "[J", Cond.fieldLink RX0 32 "Windowhouse$Window" "start" "I"]
def wsX1_getAt : List Cond := .code yX1_getAt cX1_getAt 4 (some .long) :: ((wsX1_getAt_r1 ++ wsX1_getAt_r2) ++ wsX00 ++ wsX10 ++ (vx_atS RX1 220 "java/lang/IndexOutOfBoundsException" ["java/lang/RuntimeException", "java/lang/Exception"]).filter goodWord ++ (vx_atM "java/lang/ArrayIndexOutOfBoundsException" ["java/lang/IndexOutOfBoundsException", "java/lang/RuntimeException", "java/lang/Exception"]).filter goodWord)
def wsX1_putAt_r1 : List Cond := [Cond.fieldLink RX1 74 "Windowhouse$Window" "end" "I", Cond.methodLink RX1 60 yX1_windowOf, Cond.instanceMethod yX1_windowOf, Cond.selects RX1 yX1_windowOf yX1_windowOf, Cond.initialized RX1, Cond.code yX1_windowOf cX1_windowOf 3 (some (.object "Windowhouse$Window")), Cond.classLink RX1 216 "java/lang/IndexOutOfBoundsException", Cond.initialized "java/lang/IndexOutOfBoundsException", Cond.methodLink RX1 40 yX1_slotOf, Cond.instanceMethod yX1_slotOf, Cond.selects RX1 yX1_slotOf yX1_slotOf, Cond.code yX1_slotOf cX1_slotOf 2 (some (.object "Windowhouse$Window")), Cond.fieldLink RX1 16 "Windowhouse" "windows" "[LWindowhouse$Window;", Cond.methodLink RX1 36 yX1_checkIndex, Cond.static yX1_checkIndex, Cond.code yX1_checkIndex cX1_checkIndex 2 none, Cond.methodLink RX1 48 yX0_isThere, Cond.instanceMethod yX0_isThere, Cond.selects RX0 yX0_isThere yX0_isThere, Cond.initialized RX0, Cond.code yX0_isThere cX0_isThere 1 (some .boolean), Cond.fieldLink RX0 9 "Windowhouse$Window" "kind" "C", Cond.methodLink RX1 118 yX1_checkWritable, Cond.static yX1_checkWritable]
def wsX1_putAt_r2 : List Cond := [Cond.code yX1_checkWritable cX1_checkWritable 1 none, Cond.classLink RX1 233 "java/lang/UnsupportedOperationException", Cond.initialized "java/lang/UnsupportedOperationException", Cond.fieldLink RX1 85 "Windowhouse$Window" "onlyReads" "Z", Cond.methodLink RX1 149 yX0_valueAt, Cond.instanceMethod yX0_valueAt, Cond.selects RX0 yX0_valueAt yX0_valueAt, Cond.code yX0_valueAt cX0_valueAt 2 (some .long), Cond.fieldLink RX0 15 "Windowhouse$Window" "store" "[J", Cond.fieldLink RX0 32 "Windowhouse$Window" "start" "I", Cond.methodLink RX1 153 yX0_changeAt, Cond.instanceMethod yX0_changeAt, Cond.selects RX0 yX0_changeAt yX0_changeAt, Cond.code yX0_changeAt cX0_changeAt 4 none, Cond.methodLink RX0 43 yX0_cut, Cond.instanceMethod yX0_cut, Cond.selects RX0 yX0_cut yX0_cut, Cond.code yX0_cut cX0_cut 3 (some .long), Cond.constantLong RX0 55 (255)]
def wsX1_putAt : List Cond := .code yX1_putAt cX1_putAt 8 (some .long) :: ((wsX1_putAt_r1 ++ wsX1_putAt_r2) ++ wsX00 ++ wsX10 ++ (vx_atS RX1 220 "java/lang/IndexOutOfBoundsException" ["java/lang/RuntimeException", "java/lang/Exception"]).filter goodWord ++ (vx_atS RX1 237 "java/lang/UnsupportedOperationException" ["java/lang/RuntimeException", "java/lang/Exception"]).filter goodWord ++ (vx_atM "java/lang/ArrayIndexOutOfBoundsException" ["java/lang/IndexOutOfBoundsException", "java/lang/RuntimeException", "java/lang/Exception"]).filter goodWord)
def wsX1_checkMany : List Cond := .code yX1_checkMany cX1_checkMany 1 none :: ([.classLink RX1 160 "java/lang/IllegalArgumentException", .initialized "java/lang/IllegalArgumentException"] ++ (vx_atS RX1 164 "java/lang/IllegalArgumentException" ["java/lang/RuntimeException", "java/lang/Exception"]).filter goodWord)
def wsX1_fill_r1 : List Cond := [Cond.fieldLink RX1 63 "Windowhouse$Window" "place" "I", Cond.methodLink RX1 60 yX1_windowOf, Cond.instanceMethod yX1_windowOf, Cond.selects RX1 yX1_windowOf yX1_windowOf, Cond.initialized RX1, Cond.code yX1_windowOf cX1_windowOf 3 (some (.object "Windowhouse$Window")), Cond.classLink RX1 216 "java/lang/IndexOutOfBoundsException", Cond.initialized "java/lang/IndexOutOfBoundsException", Cond.methodLink RX1 40 yX1_slotOf, Cond.instanceMethod yX1_slotOf, Cond.selects RX1 yX1_slotOf yX1_slotOf, Cond.code yX1_slotOf cX1_slotOf 2 (some (.object "Windowhouse$Window")), Cond.fieldLink RX1 16 "Windowhouse" "windows" "[LWindowhouse$Window;", Cond.methodLink RX1 36 yX1_checkIndex, Cond.static yX1_checkIndex, Cond.code yX1_checkIndex cX1_checkIndex 2 none, Cond.methodLink RX1 48 yX0_isThere, Cond.instanceMethod yX0_isThere, Cond.selects RX0 yX0_isThere yX0_isThere, Cond.initialized RX0, Cond.code yX0_isThere cX0_isThere 1 (some .boolean), Cond.fieldLink RX0 9 "Windowhouse$Window" "kind" "C", Cond.methodLink RX1 157 yX1_checkMany, Cond.static yX1_checkMany]
def wsX1_fill_r2 : List Cond := [Cond.code yX1_checkMany cX1_checkMany 1 none, Cond.classLink RX1 160 "java/lang/IllegalArgumentException", Cond.initialized "java/lang/IllegalArgumentException", Cond.methodLink RX1 118 yX1_checkWritable, Cond.static yX1_checkWritable, Cond.code yX1_checkWritable cX1_checkWritable 1 none, Cond.classLink RX1 233 "java/lang/UnsupportedOperationException", Cond.initialized "java/lang/UnsupportedOperationException", Cond.fieldLink RX1 85 "Windowhouse$Window" "onlyReads" "Z", Cond.methodLink RX1 142 yX1_checkEnoughToPut, Cond.static yX1_checkEnoughToPut, Cond.code yX1_checkEnoughToPut cX1_checkEnoughToPut 2 none, Cond.classLink RX1 108 "java/lang/IllegalStateException", Cond.initialized "java/lang/IllegalStateException", Cond.methodLink RX1 66 yX0_rest, Cond.instanceMethod yX0_rest, Cond.selects RX0 yX0_rest yX0_rest, Cond.code yX0_rest cX0_rest 1 (some .int), Cond.fieldLink RX0 23 "Windowhouse$Window" "end" "I", Cond.fieldLink RX0 26 "Windowhouse$Window" "place" "I", Cond.methodLink RX1 145 yX0_putNext, Cond.instanceMethod yX0_putNext, Cond.selects RX0 yX0_putNext yX0_putNext, Cond.code yX0_putNext cX0_putNext 3 none]
def wsX1_fill_r3 : List Cond := [Cond.methodLink RX0 51 yX0_changeAt, Cond.instanceMethod yX0_changeAt, Cond.selects RX0 yX0_changeAt yX0_changeAt, Cond.code yX0_changeAt cX0_changeAt 4 none, Cond.fieldLink RX0 15 "Windowhouse$Window" "store" "[J", Cond.fieldLink RX0 32 "Windowhouse$Window" "start" "I", Cond.methodLink RX0 43 yX0_cut, Cond.instanceMethod yX0_cut, Cond.selects RX0 yX0_cut yX0_cut, Cond.code yX0_cut cX0_cut 3 (some .long), Cond.constantLong RX0 55 (255)]
def wsX1_fill : List Cond := .code yX1_fill cX1_fill 11 (some .int) :: ((wsX1_fill_r1 ++ (wsX1_fill_r2 ++ wsX1_fill_r3)) ++ wsX00 ++ wsX10 ++ (vx_atS RX1 220 "java/lang/IndexOutOfBoundsException" ["java/lang/RuntimeException", "java/lang/Exception"]).filter goodWord ++ (vx_atS RX1 164 "java/lang/IllegalArgumentException" ["java/lang/RuntimeException", "java/lang/Exception"]).filter goodWord ++ (vx_atS RX1 237 "java/lang/UnsupportedOperationException" ["java/lang/RuntimeException", "java/lang/Exception"]).filter goodWord ++ (vx_atS RX1 112 "java/lang/IllegalStateException" ["java/lang/RuntimeException", "java/lang/Exception"]).filter goodWord ++ (vx_atM "java/lang/ArrayIndexOutOfBoundsException" ["java/lang/IndexOutOfBoundsException", "java/lang/RuntimeException", "java/lang/Exception"]).filter goodWord)
def wsX1_pour_r1 : List Cond := [Cond.classLink RX1 160 "java/lang/IllegalArgumentException", Cond.initialized "java/lang/IllegalArgumentException", Cond.fieldLink RX1 63 "Windowhouse$Window" "place" "I", Cond.methodLink RX1 60 yX1_windowOf, Cond.instanceMethod yX1_windowOf, Cond.selects RX1 yX1_windowOf yX1_windowOf, Cond.initialized RX1, Cond.code yX1_windowOf cX1_windowOf 3 (some (.object "Windowhouse$Window")), Cond.classLink RX1 216 "java/lang/IndexOutOfBoundsException", Cond.initialized "java/lang/IndexOutOfBoundsException", Cond.methodLink RX1 40 yX1_slotOf, Cond.instanceMethod yX1_slotOf, Cond.selects RX1 yX1_slotOf yX1_slotOf, Cond.code yX1_slotOf cX1_slotOf 2 (some (.object "Windowhouse$Window")), Cond.fieldLink RX1 16 "Windowhouse" "windows" "[LWindowhouse$Window;", Cond.methodLink RX1 36 yX1_checkIndex, Cond.static yX1_checkIndex, Cond.code yX1_checkIndex cX1_checkIndex 2 none, Cond.methodLink RX1 48 yX0_isThere, Cond.instanceMethod yX0_isThere, Cond.selects RX0 yX0_isThere yX0_isThere, Cond.initialized RX0, Cond.code yX0_isThere cX0_isThere 1 (some .boolean), Cond.fieldLink RX0 9 "Windowhouse$Window" "kind" "C"]
def wsX1_pour_r2 : List Cond := [Cond.methodLink RX1 157 yX1_checkMany, Cond.static yX1_checkMany, Cond.code yX1_checkMany cX1_checkMany 1 none, Cond.methodLink RX1 118 yX1_checkWritable, Cond.static yX1_checkWritable, Cond.code yX1_checkWritable cX1_checkWritable 1 none, Cond.classLink RX1 233 "java/lang/UnsupportedOperationException", Cond.initialized "java/lang/UnsupportedOperationException", Cond.fieldLink RX1 85 "Windowhouse$Window" "onlyReads" "Z", Cond.methodLink RX1 134 yX1_checkEnoughToGet, Cond.static yX1_checkEnoughToGet, Cond.code yX1_checkEnoughToGet cX1_checkEnoughToGet 2 none, Cond.classLink RX1 168 "java/util/NoSuchElementException", Cond.initialized "java/util/NoSuchElementException", Cond.methodLink RX1 66 yX0_rest, Cond.instanceMethod yX0_rest, Cond.selects RX0 yX0_rest yX0_rest, Cond.code yX0_rest cX0_rest 1 (some .int), Cond.fieldLink RX0 23 "Windowhouse$Window" "end" "I", Cond.fieldLink RX0 26 "Windowhouse$Window" "place" "I", Cond.methodLink RX1 142 yX1_checkEnoughToPut, Cond.static yX1_checkEnoughToPut, Cond.code yX1_checkEnoughToPut cX1_checkEnoughToPut 2 none, Cond.classLink RX1 108 "java/lang/IllegalStateException"]
def wsX1_pour_r3 : List Cond := [Cond.initialized "java/lang/IllegalStateException", Cond.methodLink RX1 138 yX0_takeNext, Cond.instanceMethod yX0_takeNext, Cond.selects RX0 yX0_takeNext yX0_takeNext, Cond.code yX0_takeNext cX0_takeNext 3 (some .long), Cond.methodLink RX0 47 yX0_valueAt, Cond.instanceMethod yX0_valueAt, Cond.selects RX0 yX0_valueAt yX0_valueAt, Cond.code yX0_valueAt cX0_valueAt 2 (some .long), Cond.fieldLink RX0 15 "Windowhouse$Window" "store" "[J", Cond.fieldLink RX0 32 "Windowhouse$Window" "start" "I", Cond.methodLink RX1 145 yX0_putNext, Cond.instanceMethod yX0_putNext, Cond.selects RX0 yX0_putNext yX0_putNext, Cond.code yX0_putNext cX0_putNext 3 none, Cond.methodLink RX0 51 yX0_changeAt, Cond.instanceMethod yX0_changeAt, Cond.selects RX0 yX0_changeAt yX0_changeAt, Cond.code yX0_changeAt cX0_changeAt 4 none, Cond.methodLink RX0 43 yX0_cut, Cond.instanceMethod yX0_cut, Cond.selects RX0 yX0_cut yX0_cut, Cond.code yX0_cut cX0_cut 3 (some .long), Cond.constantLong RX0 55 (255)]
def wsX1_pour : List Cond := .code yX1_pour cX1_pour 7 (some .int) :: ((wsX1_pour_r1 ++ (wsX1_pour_r2 ++ wsX1_pour_r3)) ++ wsX00 ++ wsX10 ++ (vx_atS RX1 164 "java/lang/IllegalArgumentException" ["java/lang/RuntimeException", "java/lang/Exception"]).filter goodWord ++ (vx_atS RX1 220 "java/lang/IndexOutOfBoundsException" ["java/lang/RuntimeException", "java/lang/Exception"]).filter goodWord ++ (vx_atS RX1 237 "java/lang/UnsupportedOperationException" ["java/lang/RuntimeException", "java/lang/Exception"]).filter goodWord ++ (zx_at RX1 172 "java/util/NoSuchElementException" ["java/lang/RuntimeException", "java/lang/Exception"]).filter goodWord ++ (vx_atS RX1 112 "java/lang/IllegalStateException" ["java/lang/RuntimeException", "java/lang/Exception"]).filter goodWord ++ (vx_atM "java/lang/ArrayIndexOutOfBoundsException" ["java/lang/IndexOutOfBoundsException", "java/lang/RuntimeException", "java/lang/Exception"]).filter goodWord)
def wsX1_checkOfChars : List Cond := .code yX1_checkOfChars cX1_checkOfChars 1 none :: ([.classLink RX1 233 "java/lang/UnsupportedOperationException", .initialized "java/lang/UnsupportedOperationException", .fieldLink RX1 89 "Windowhouse$Window" "kind" "C"] ++ wsX00 ++ (vx_atS RX1 237 "java/lang/UnsupportedOperationException" ["java/lang/RuntimeException", "java/lang/Exception"]).filter goodWord)
def wsX1_signAt_r1 : List Cond := [Cond.classLink RX1 168 "java/util/NoSuchElementException", Cond.initialized "java/util/NoSuchElementException", Cond.fieldLink RX1 63 "Windowhouse$Window" "place" "I", Cond.methodLink RX1 60 yX1_windowOf, Cond.instanceMethod yX1_windowOf, Cond.selects RX1 yX1_windowOf yX1_windowOf, Cond.initialized RX1, Cond.code yX1_windowOf cX1_windowOf 3 (some (.object "Windowhouse$Window")), Cond.classLink RX1 216 "java/lang/IndexOutOfBoundsException", Cond.initialized "java/lang/IndexOutOfBoundsException", Cond.methodLink RX1 40 yX1_slotOf, Cond.instanceMethod yX1_slotOf, Cond.selects RX1 yX1_slotOf yX1_slotOf, Cond.code yX1_slotOf cX1_slotOf 2 (some (.object "Windowhouse$Window")), Cond.fieldLink RX1 16 "Windowhouse" "windows" "[LWindowhouse$Window;", Cond.methodLink RX1 36 yX1_checkIndex, Cond.static yX1_checkIndex, Cond.code yX1_checkIndex cX1_checkIndex 2 none, Cond.methodLink RX1 48 yX0_isThere, Cond.instanceMethod yX0_isThere, Cond.selects RX0 yX0_isThere yX0_isThere, Cond.initialized RX0, Cond.code yX0_isThere cX0_isThere 1 (some .boolean), Cond.fieldLink RX0 9 "Windowhouse$Window" "kind" "C"]
def wsX1_signAt_r2 : List Cond := [Cond.methodLink RX1 165 yX1_checkOfChars, Cond.static yX1_checkOfChars, Cond.code yX1_checkOfChars cX1_checkOfChars 1 none, Cond.classLink RX1 233 "java/lang/UnsupportedOperationException", Cond.initialized "java/lang/UnsupportedOperationException", Cond.fieldLink RX1 89 "Windowhouse$Window" "kind" "C", Cond.methodLink RX1 66 yX0_rest, Cond.instanceMethod yX0_rest, Cond.selects RX0 yX0_rest yX0_rest, Cond.code yX0_rest cX0_rest 1 (some .int), Cond.fieldLink RX0 23 "Windowhouse$Window" "end" "I", Cond.fieldLink RX0 26 "Windowhouse$Window" "place" "I", Cond.methodLink RX1 149 yX0_valueAt, Cond.instanceMethod yX0_valueAt, Cond.selects RX0 yX0_valueAt yX0_valueAt, Cond.code yX0_valueAt cX0_valueAt 2 (some .long), Cond.fieldLink RX0 15 "Windowhouse$Window" "store" "[J", Cond.fieldLink RX0 32 "Windowhouse$Window" "start" "I"]
def wsX1_signAt : List Cond := .code yX1_signAt cX1_signAt 4 (some .char) :: ((wsX1_signAt_r1 ++ wsX1_signAt_r2) ++ wsX00 ++ wsX10 ++ (zx_at RX1 172 "java/util/NoSuchElementException" ["java/lang/RuntimeException", "java/lang/Exception"]).filter goodWord ++ (vx_atS RX1 220 "java/lang/IndexOutOfBoundsException" ["java/lang/RuntimeException", "java/lang/Exception"]).filter goodWord ++ (vx_atS RX1 237 "java/lang/UnsupportedOperationException" ["java/lang/RuntimeException", "java/lang/Exception"]).filter goodWord ++ (vx_atM "java/lang/ArrayIndexOutOfBoundsException" ["java/lang/IndexOutOfBoundsException", "java/lang/RuntimeException", "java/lang/Exception"]).filter goodWord)
def wsX1_signsLeft_r1 : List Cond := [Cond.methodLink RX1 60 yX1_windowOf, Cond.instanceMethod yX1_windowOf, Cond.selects RX1 yX1_windowOf yX1_windowOf, Cond.initialized RX1, Cond.code yX1_windowOf cX1_windowOf 3 (some (.object "Windowhouse$Window")), Cond.classLink RX1 216 "java/lang/IndexOutOfBoundsException", Cond.initialized "java/lang/IndexOutOfBoundsException", Cond.methodLink RX1 40 yX1_slotOf, Cond.instanceMethod yX1_slotOf, Cond.selects RX1 yX1_slotOf yX1_slotOf, Cond.code yX1_slotOf cX1_slotOf 2 (some (.object "Windowhouse$Window")), Cond.fieldLink RX1 16 "Windowhouse" "windows" "[LWindowhouse$Window;", Cond.methodLink RX1 36 yX1_checkIndex, Cond.static yX1_checkIndex, Cond.code yX1_checkIndex cX1_checkIndex 2 none, Cond.methodLink RX1 48 yX0_isThere, Cond.instanceMethod yX0_isThere, Cond.selects RX0 yX0_isThere yX0_isThere, Cond.initialized RX0, Cond.code yX0_isThere cX0_isThere 1 (some .boolean), Cond.fieldLink RX0 9 "Windowhouse$Window" "kind" "C", Cond.methodLink RX1 165 yX1_checkOfChars, Cond.static yX1_checkOfChars, Cond.code yX1_checkOfChars cX1_checkOfChars 1 none]
def wsX1_signsLeft_r2 : List Cond := [Cond.classLink RX1 233 "java/lang/UnsupportedOperationException", Cond.initialized "java/lang/UnsupportedOperationException", Cond.fieldLink RX1 89 "Windowhouse$Window" "kind" "C", Cond.methodLink RX1 66 yX0_rest, Cond.instanceMethod yX0_rest, Cond.selects RX0 yX0_rest yX0_rest, Cond.code yX0_rest cX0_rest 1 (some .int), Cond.fieldLink RX0 23 "Windowhouse$Window" "end" "I", Cond.fieldLink RX0 26 "Windowhouse$Window" "place" "I"]
def wsX1_signsLeft : List Cond := .code yX1_signsLeft cX1_signsLeft 3 (some .int) :: ((wsX1_signsLeft_r1 ++ wsX1_signsLeft_r2) ++ wsX10 ++ wsX00 ++ (vx_atS RX1 220 "java/lang/IndexOutOfBoundsException" ["java/lang/RuntimeException", "java/lang/Exception"]).filter goodWord ++ (vx_atS RX1 237 "java/lang/UnsupportedOperationException" ["java/lang/RuntimeException", "java/lang/Exception"]).filter goodWord)
def wsX1_append_r1 : List Cond := [Cond.fieldLink RX1 63 "Windowhouse$Window" "place" "I", Cond.methodLink RX1 60 yX1_windowOf, Cond.instanceMethod yX1_windowOf, Cond.selects RX1 yX1_windowOf yX1_windowOf, Cond.initialized RX1, Cond.code yX1_windowOf cX1_windowOf 3 (some (.object "Windowhouse$Window")), Cond.classLink RX1 216 "java/lang/IndexOutOfBoundsException", Cond.initialized "java/lang/IndexOutOfBoundsException", Cond.methodLink RX1 40 yX1_slotOf, Cond.instanceMethod yX1_slotOf, Cond.selects RX1 yX1_slotOf yX1_slotOf, Cond.code yX1_slotOf cX1_slotOf 2 (some (.object "Windowhouse$Window")), Cond.fieldLink RX1 16 "Windowhouse" "windows" "[LWindowhouse$Window;", Cond.methodLink RX1 36 yX1_checkIndex, Cond.static yX1_checkIndex, Cond.code yX1_checkIndex cX1_checkIndex 2 none, Cond.methodLink RX1 48 yX0_isThere, Cond.instanceMethod yX0_isThere, Cond.selects RX0 yX0_isThere yX0_isThere, Cond.initialized RX0, Cond.code yX0_isThere cX0_isThere 1 (some .boolean), Cond.fieldLink RX0 9 "Windowhouse$Window" "kind" "C", Cond.methodLink RX1 165 yX1_checkOfChars, Cond.static yX1_checkOfChars]
def wsX1_append_r2 : List Cond := [Cond.code yX1_checkOfChars cX1_checkOfChars 1 none, Cond.classLink RX1 233 "java/lang/UnsupportedOperationException", Cond.initialized "java/lang/UnsupportedOperationException", Cond.fieldLink RX1 89 "Windowhouse$Window" "kind" "C", Cond.methodLink RX1 118 yX1_checkWritable, Cond.static yX1_checkWritable, Cond.code yX1_checkWritable cX1_checkWritable 1 none, Cond.fieldLink RX1 85 "Windowhouse$Window" "onlyReads" "Z", Cond.methodLink RX1 142 yX1_checkEnoughToPut, Cond.static yX1_checkEnoughToPut, Cond.code yX1_checkEnoughToPut cX1_checkEnoughToPut 2 none, Cond.classLink RX1 108 "java/lang/IllegalStateException", Cond.initialized "java/lang/IllegalStateException", Cond.methodLink RX1 66 yX0_rest, Cond.instanceMethod yX0_rest, Cond.selects RX0 yX0_rest yX0_rest, Cond.code yX0_rest cX0_rest 1 (some .int), Cond.fieldLink RX0 23 "Windowhouse$Window" "end" "I", Cond.fieldLink RX0 26 "Windowhouse$Window" "place" "I", Cond.methodLink RX1 145 yX0_putNext, Cond.instanceMethod yX0_putNext, Cond.selects RX0 yX0_putNext yX0_putNext, Cond.code yX0_putNext cX0_putNext 3 none, Cond.methodLink RX0 51 yX0_changeAt]
def wsX1_append_r3 : List Cond := [Cond.instanceMethod yX0_changeAt, Cond.selects RX0 yX0_changeAt yX0_changeAt, Cond.code yX0_changeAt cX0_changeAt 4 none, Cond.fieldLink RX0 15 "Windowhouse$Window" "store" "[J", Cond.fieldLink RX0 32 "Windowhouse$Window" "start" "I", Cond.methodLink RX0 43 yX0_cut, Cond.instanceMethod yX0_cut, Cond.selects RX0 yX0_cut yX0_cut, Cond.code yX0_cut cX0_cut 3 (some .long), Cond.constantLong RX0 55 (255)]
def wsX1_append : List Cond := .code yX1_append cX1_append 4 (some .int) :: ((wsX1_append_r1 ++ (wsX1_append_r2 ++ wsX1_append_r3)) ++ wsX00 ++ wsX10 ++ (vx_atS RX1 220 "java/lang/IndexOutOfBoundsException" ["java/lang/RuntimeException", "java/lang/Exception"]).filter goodWord ++ (vx_atS RX1 237 "java/lang/UnsupportedOperationException" ["java/lang/RuntimeException", "java/lang/Exception"]).filter goodWord ++ (vx_atS RX1 112 "java/lang/IllegalStateException" ["java/lang/RuntimeException", "java/lang/Exception"]).filter goodWord ++ (vx_atM "java/lang/ArrayIndexOutOfBoundsException" ["java/lang/IndexOutOfBoundsException", "java/lang/RuntimeException", "java/lang/Exception"]).filter goodWord)
def wsX1_text_r1 : List Cond := [Cond.constantLong RX1 173 (7), Cond.fieldLink RX1 63 "Windowhouse$Window" "place" "I", Cond.methodLink RX1 60 yX1_windowOf, Cond.instanceMethod yX1_windowOf, Cond.selects RX1 yX1_windowOf yX1_windowOf, Cond.initialized RX1, Cond.code yX1_windowOf cX1_windowOf 3 (some (.object "Windowhouse$Window")), Cond.classLink RX1 216 "java/lang/IndexOutOfBoundsException", Cond.initialized "java/lang/IndexOutOfBoundsException", Cond.methodLink RX1 40 yX1_slotOf, Cond.instanceMethod yX1_slotOf, Cond.selects RX1 yX1_slotOf yX1_slotOf, Cond.code yX1_slotOf cX1_slotOf 2 (some (.object "Windowhouse$Window")), Cond.fieldLink RX1 16 "Windowhouse" "windows" "[LWindowhouse$Window;", Cond.methodLink RX1 36 yX1_checkIndex, Cond.static yX1_checkIndex, Cond.code yX1_checkIndex cX1_checkIndex 2 none, Cond.methodLink RX1 48 yX0_isThere, Cond.instanceMethod yX0_isThere, Cond.selects RX0 yX0_isThere yX0_isThere, Cond.initialized RX0, Cond.code yX0_isThere cX0_isThere 1 (some .boolean), Cond.fieldLink RX0 9 "Windowhouse$Window" "kind" "C", Cond.methodLink RX1 165 yX1_checkOfChars]
def wsX1_text_r2 : List Cond := [Cond.static yX1_checkOfChars, Cond.code yX1_checkOfChars cX1_checkOfChars 1 none, Cond.classLink RX1 233 "java/lang/UnsupportedOperationException", Cond.initialized "java/lang/UnsupportedOperationException", Cond.fieldLink RX1 89 "Windowhouse$Window" "kind" "C", Cond.methodLink RX1 175 yX0_sumOver, Cond.instanceMethod yX0_sumOver, Cond.selects RX0 yX0_sumOver yX0_sumOver, Cond.code yX0_sumOver cX0_sumOver 7 (some .long), Cond.fieldLink RX0 23 "Windowhouse$Window" "end" "I", Cond.methodLink RX0 47 yX0_valueAt, Cond.instanceMethod yX0_valueAt, Cond.selects RX0 yX0_valueAt yX0_valueAt, Cond.code yX0_valueAt cX0_valueAt 2 (some .long), Cond.fieldLink RX0 15 "Windowhouse$Window" "store" "[J", Cond.fieldLink RX0 32 "Windowhouse$Window" "start" "I", Cond.static yX1_summed, Cond.code yX1_summed cX1_summed 4 (some .long), Cond.constantLong RX1 214 (31)]
def wsX1_text : List Cond := .code yX1_text cX1_text 3 (some .long) :: ((wsX1_text_r1 ++ wsX1_text_r2) ++ wsX00 ++ wsX10 ++ (vx_atS RX1 220 "java/lang/IndexOutOfBoundsException" ["java/lang/RuntimeException", "java/lang/Exception"]).filter goodWord ++ (vx_atS RX1 237 "java/lang/UnsupportedOperationException" ["java/lang/RuntimeException", "java/lang/Exception"]).filter goodWord ++ (vx_atM "java/lang/ArrayIndexOutOfBoundsException" ["java/lang/IndexOutOfBoundsException", "java/lang/RuntimeException", "java/lang/Exception"]).filter goodWord)
def wsX1_isAlike_r1 : List Cond := [Cond.fieldLink RX1 63 "Windowhouse$Window" "place" "I", Cond.methodLink RX1 60 yX1_windowOf, Cond.instanceMethod yX1_windowOf, Cond.selects RX1 yX1_windowOf yX1_windowOf, Cond.initialized RX1, Cond.code yX1_windowOf cX1_windowOf 3 (some (.object "Windowhouse$Window")), Cond.classLink RX1 216 "java/lang/IndexOutOfBoundsException", Cond.initialized "java/lang/IndexOutOfBoundsException", Cond.methodLink RX1 40 yX1_slotOf, Cond.instanceMethod yX1_slotOf, Cond.selects RX1 yX1_slotOf yX1_slotOf, Cond.code yX1_slotOf cX1_slotOf 2 (some (.object "Windowhouse$Window")), Cond.fieldLink RX1 16 "Windowhouse" "windows" "[LWindowhouse$Window;", Cond.methodLink RX1 36 yX1_checkIndex, Cond.static yX1_checkIndex, Cond.code yX1_checkIndex cX1_checkIndex 2 none, Cond.methodLink RX1 48 yX0_isThere, Cond.instanceMethod yX0_isThere, Cond.selects RX0 yX0_isThere yX0_isThere, Cond.initialized RX0, Cond.code yX0_isThere cX0_isThere 1 (some .boolean), Cond.fieldLink RX0 9 "Windowhouse$Window" "kind" "C", Cond.methodLink RX1 66 yX0_rest, Cond.instanceMethod yX0_rest]
def wsX1_isAlike_r2 : List Cond := [Cond.selects RX0 yX0_rest yX0_rest, Cond.code yX0_rest cX0_rest 1 (some .int), Cond.fieldLink RX0 23 "Windowhouse$Window" "end" "I", Cond.fieldLink RX0 26 "Windowhouse$Window" "place" "I", Cond.methodLink RX1 149 yX0_valueAt, Cond.instanceMethod yX0_valueAt, Cond.selects RX0 yX0_valueAt yX0_valueAt, Cond.code yX0_valueAt cX0_valueAt 2 (some .long), Cond.fieldLink RX0 15 "Windowhouse$Window" "store" "[J", Cond.fieldLink RX0 32 "Windowhouse$Window" "start" "I"]
def wsX1_isAlike : List Cond := .code yX1_isAlike cX1_isAlike 7 (some .boolean) :: ((wsX1_isAlike_r1 ++ wsX1_isAlike_r2) ++ wsX00 ++ wsX10 ++ (vx_atS RX1 220 "java/lang/IndexOutOfBoundsException" ["java/lang/RuntimeException", "java/lang/Exception"]).filter goodWord ++ (vx_atM "java/lang/ArrayIndexOutOfBoundsException" ["java/lang/IndexOutOfBoundsException", "java/lang/RuntimeException", "java/lang/Exception"]).filter goodWord)
def wsX1_fullShare_r1 : List Cond := [Cond.classLink RX1 179 "java/lang/ArithmeticException", Cond.initialized "java/lang/ArithmeticException", Cond.fieldLink RX1 56 "Windowhouse$Window" "capacity" "I", Cond.fieldLink RX1 63 "Windowhouse$Window" "place" "I", Cond.methodLink RX1 60 yX1_windowOf, Cond.instanceMethod yX1_windowOf, Cond.selects RX1 yX1_windowOf yX1_windowOf, Cond.initialized RX1, Cond.code yX1_windowOf cX1_windowOf 3 (some (.object "Windowhouse$Window")), Cond.classLink RX1 216 "java/lang/IndexOutOfBoundsException", Cond.initialized "java/lang/IndexOutOfBoundsException", Cond.methodLink RX1 40 yX1_slotOf, Cond.instanceMethod yX1_slotOf, Cond.selects RX1 yX1_slotOf yX1_slotOf, Cond.code yX1_slotOf cX1_slotOf 2 (some (.object "Windowhouse$Window")), Cond.fieldLink RX1 16 "Windowhouse" "windows" "[LWindowhouse$Window;", Cond.methodLink RX1 36 yX1_checkIndex, Cond.static yX1_checkIndex, Cond.code yX1_checkIndex cX1_checkIndex 2 none, Cond.methodLink RX1 48 yX0_isThere, Cond.instanceMethod yX0_isThere, Cond.selects RX0 yX0_isThere yX0_isThere, Cond.initialized RX0, Cond.code yX0_isThere cX0_isThere 1 (some .boolean)]
def wsX1_fullShare_r2 : List Cond := [Cond.fieldLink RX0 9 "Windowhouse$Window" "kind" "C"]
def wsX1_fullShare : List Cond := .code yX1_fullShare cX1_fullShare 3 (some .float) :: ((wsX1_fullShare_r1 ++ wsX1_fullShare_r2) ++ wsX00 ++ wsX10 ++ (vx_atS RX1 183 "java/lang/ArithmeticException" ["java/lang/RuntimeException", "java/lang/Exception"]).filter goodWord ++ (vx_atS RX1 220 "java/lang/IndexOutOfBoundsException" ["java/lang/RuntimeException", "java/lang/Exception"]).filter goodWord)
def wsX1_meanLeft : List Cond := .code yX1_meanLeft cX1_meanLeft 4 (some .double) :: ([.classLink RX1 179 "java/lang/ArithmeticException", .initialized "java/lang/ArithmeticException", .fieldLink RX1 16 "Windowhouse" "windows" "[LWindowhouse$Window;", .methodLink RX1 48 yX0_isThere, .instanceMethod yX0_isThere, .selects RX0 yX0_isThere yX0_isThere, .initialized RX0, .code yX0_isThere cX0_isThere 1 (some .boolean), .fieldLink RX0 9 "Windowhouse$Window" "kind" "C", .methodLink RX1 66 yX0_rest, .instanceMethod yX0_rest, .selects RX0 yX0_rest yX0_rest, .code yX0_rest cX0_rest 1 (some .int), .fieldLink RX0 23 "Windowhouse$Window" "end" "I", .fieldLink RX0 26 "Windowhouse$Window" "place" "I"] ++ wsX10 ++ wsX00 ++ (vx_atS RX1 183 "java/lang/ArithmeticException" ["java/lang/RuntimeException", "java/lang/Exception"]).filter goodWord)
def wsX1_sumOfRow : List Cond := .code yX1_sumOfRow cX1_sumOfRow 6 (some .long) :: ([.methodLink RX1 210 yX1_summed, .static yX1_summed, .initialized RX1, .code yX1_summed cX1_summed 4 (some .long), .constantLong RX1 214 (31)] ++ (vx_atM "java/lang/ArrayIndexOutOfBoundsException" ["java/lang/IndexOutOfBoundsException", "java/lang/RuntimeException", "java/lang/Exception"]).filter goodWord)
def wsX1_checksum_r1 : List Cond := [Cond.constantLong RX1 173 (7), Cond.fieldLink RX1 16 "Windowhouse" "windows" "[LWindowhouse$Window;", Cond.fieldLink RX1 11 "Windowhouse" "rows" "[[J", Cond.methodLink RX1 186 yX0_sumOfAll, Cond.instanceMethod yX0_sumOfAll, Cond.selects RX0 yX0_sumOfAll yX0_sumOfAll, Cond.initialized RX0, Cond.code yX0_sumOfAll cX0_sumOfAll 5 (some .long), Cond.fieldLink RX0 9 "Windowhouse$Window" "kind" "C", Cond.fieldLink RX0 26 "Windowhouse$Window" "place" "I", Cond.fieldLink RX0 23 "Windowhouse$Window" "end" "I", Cond.fieldLink RX0 29 "Windowhouse$Window" "capacity" "I", Cond.static yX1_summed, Cond.initialized RX1, Cond.code yX1_summed cX1_summed 4 (some .long), Cond.constantLong RX1 214 (31), Cond.methodLink RX0 61 yX0_isThere, Cond.instanceMethod yX0_isThere, Cond.selects RX0 yX0_isThere yX0_isThere, Cond.code yX0_isThere cX0_isThere 1 (some .boolean), Cond.methodLink RX0 65 yX0_sumOver, Cond.instanceMethod yX0_sumOver, Cond.selects RX0 yX0_sumOver yX0_sumOver, Cond.code yX0_sumOver cX0_sumOver 7 (some .long)]
def wsX1_checksum_r2 : List Cond := [Cond.methodLink RX0 47 yX0_valueAt, Cond.instanceMethod yX0_valueAt, Cond.selects RX0 yX0_valueAt yX0_valueAt, Cond.code yX0_valueAt cX0_valueAt 2 (some .long), Cond.fieldLink RX0 15 "Windowhouse$Window" "store" "[J", Cond.fieldLink RX0 32 "Windowhouse$Window" "start" "I", Cond.methodLink RX1 190 yX1_sumOfRow, Cond.static yX1_sumOfRow, Cond.code yX1_sumOfRow cX1_sumOfRow 6 (some .long), Cond.methodLink RX1 210 yX1_summed]
def wsX1_checksum : List Cond := .code yX1_checksum cX1_checksum 4 (some .long) :: ((wsX1_checksum_r1 ++ wsX1_checksum_r2) ++ wsX10 ++ wsX00 ++ (vx_atM "java/lang/ArrayIndexOutOfBoundsException" ["java/lang/IndexOutOfBoundsException", "java/lang/RuntimeException", "java/lang/Exception"]).filter goodWord)
def wsX1_showsChange : List Cond := .code yX1_showsChange cX1_showsChange 8 (some .boolean) :: ([.fieldLink RX1 21 "Windowhouse" "probe" "LWindowhouse$Window;", .constantLong RX1 205 (-1), .fieldLink RX1 63 "Windowhouse$Window" "place" "I", .fieldLink RX1 25 "Windowhouse" "twin" "LWindowhouse$Window;", .methodLink RX1 149 yX0_valueAt, .instanceMethod yX0_valueAt, .selects RX0 yX0_valueAt yX0_valueAt, .initialized RX0, .code yX0_valueAt cX0_valueAt 2 (some .long), .fieldLink RX0 15 "Windowhouse$Window" "store" "[J", .fieldLink RX0 32 "Windowhouse$Window" "start" "I", .methodLink RX1 207 yX0_cut, .instanceMethod yX0_cut, .selects RX0 yX0_cut yX0_cut, .code yX0_cut cX0_cut 3 (some .long), .fieldLink RX0 9 "Windowhouse$Window" "kind" "C", .constantLong RX0 55 (255), .methodLink RX1 153 yX0_changeAt, .instanceMethod yX0_changeAt, .selects RX0 yX0_changeAt yX0_changeAt, .code yX0_changeAt cX0_changeAt 4 none, .methodLink RX0 43 yX0_cut] ++ wsX10 ++ wsX00 ++ (vx_atM "java/lang/ArrayIndexOutOfBoundsException" ["java/lang/IndexOutOfBoundsException", "java/lang/RuntimeException", "java/lang/Exception"]).filter goodWord)
def wsX1_keepsTheorem_r1 : List Cond := [Cond.fieldLink RX1 85 "Windowhouse$Window" "onlyReads" "Z", Cond.fieldLink RX1 21 "Windowhouse" "probe" "LWindowhouse$Window;", Cond.fieldLink RX1 63 "Windowhouse$Window" "place" "I", Cond.fieldLink RX1 25 "Windowhouse" "twin" "LWindowhouse$Window;", Cond.methodLink RX1 198 yX0_isInBounds, Cond.instanceMethod yX0_isInBounds, Cond.selects RX0 yX0_isInBounds yX0_isInBounds, Cond.initialized RX0, Cond.code yX0_isInBounds cX0_isInBounds 1 (some .boolean), Cond.fieldLink RX0 26 "Windowhouse$Window" "place" "I", Cond.fieldLink RX0 23 "Windowhouse$Window" "end" "I", Cond.fieldLink RX0 29 "Windowhouse$Window" "capacity" "I", Cond.fieldLink RX0 32 "Windowhouse$Window" "start" "I", Cond.fieldLink RX0 15 "Windowhouse$Window" "store" "[J", Cond.methodLink RX1 66 yX0_rest, Cond.instanceMethod yX0_rest, Cond.selects RX0 yX0_rest yX0_rest, Cond.code yX0_rest cX0_rest 1 (some .int), Cond.methodLink RX1 70 yX0_becomeSlice, Cond.instanceMethod yX0_becomeSlice, Cond.selects RX0 yX0_becomeSlice yX0_becomeSlice, Cond.code yX0_becomeSlice cX0_becomeSlice 4 none, Cond.fieldLink RX0 9 "Windowhouse$Window" "kind" "C", Cond.fieldLink RX0 35 "Windowhouse$Window" "onlyReads" "Z"]
def wsX1_keepsTheorem_r2 : List Cond := [Cond.methodLink RX0 39 yX0_moveTo, Cond.instanceMethod yX0_moveTo, Cond.selects RX0 yX0_moveTo yX0_moveTo, Cond.code yX0_moveTo cX0_moveTo 3 none, Cond.fieldLink RX0 19 "Windowhouse$Window" "mark" "I", Cond.methodLink RX1 81 yX0_becomeDuplicate, Cond.instanceMethod yX0_becomeDuplicate, Cond.selects RX0 yX0_becomeDuplicate yX0_becomeDuplicate, Cond.code yX0_becomeDuplicate cX0_becomeDuplicate 2 none, Cond.methodLink RX1 201 yX1_showsChange, Cond.instanceMethod yX1_showsChange, Cond.selects RX1 yX1_showsChange yX1_showsChange, Cond.initialized RX1, Cond.code yX1_showsChange cX1_showsChange 8 (some .boolean), Cond.constantLong RX1 205 (-1), Cond.methodLink RX1 149 yX0_valueAt, Cond.instanceMethod yX0_valueAt, Cond.selects RX0 yX0_valueAt yX0_valueAt, Cond.code yX0_valueAt cX0_valueAt 2 (some .long), Cond.methodLink RX1 207 yX0_cut, Cond.instanceMethod yX0_cut, Cond.selects RX0 yX0_cut yX0_cut, Cond.code yX0_cut cX0_cut 3 (some .long), Cond.constantLong RX0 55 (255)]
def wsX1_keepsTheorem_r3 : List Cond := [Cond.methodLink RX1 153 yX0_changeAt, Cond.instanceMethod yX0_changeAt, Cond.selects RX0 yX0_changeAt yX0_changeAt, Cond.code yX0_changeAt cX0_changeAt 4 none, Cond.methodLink RX0 43 yX0_cut]
def wsX1_keepsTheorem : List Cond := .code yX1_keepsTheorem cX1_keepsTheorem 4 (some .boolean) :: ((wsX1_keepsTheorem_r1 ++ (wsX1_keepsTheorem_r2 ++ wsX1_keepsTheorem_r3)) ++ wsX00 ++ wsX10 ++ (vx_atM "java/lang/ArrayIndexOutOfBoundsException" ["java/lang/IndexOutOfBoundsException", "java/lang/RuntimeException", "java/lang/Exception"]).filter goodWord)
def wsX1_isTrue_r1 : List Cond := [Cond.fieldLink RX1 16 "Windowhouse" "windows" "[LWindowhouse$Window;", Cond.methodLink RX1 48 yX0_isThere, Cond.instanceMethod yX0_isThere, Cond.selects RX0 yX0_isThere yX0_isThere, Cond.initialized RX0, Cond.code yX0_isThere cX0_isThere 1 (some .boolean), Cond.fieldLink RX0 9 "Windowhouse$Window" "kind" "C", Cond.methodLink RX1 194 yX1_keepsTheorem, Cond.instanceMethod yX1_keepsTheorem, Cond.selects RX1 yX1_keepsTheorem yX1_keepsTheorem, Cond.initialized RX1, Cond.code yX1_keepsTheorem cX1_keepsTheorem 4 (some .boolean), Cond.fieldLink RX1 85 "Windowhouse$Window" "onlyReads" "Z", Cond.fieldLink RX1 21 "Windowhouse" "probe" "LWindowhouse$Window;", Cond.fieldLink RX1 63 "Windowhouse$Window" "place" "I", Cond.fieldLink RX1 25 "Windowhouse" "twin" "LWindowhouse$Window;", Cond.methodLink RX1 198 yX0_isInBounds, Cond.instanceMethod yX0_isInBounds, Cond.selects RX0 yX0_isInBounds yX0_isInBounds, Cond.code yX0_isInBounds cX0_isInBounds 1 (some .boolean), Cond.fieldLink RX0 26 "Windowhouse$Window" "place" "I", Cond.fieldLink RX0 23 "Windowhouse$Window" "end" "I", Cond.fieldLink RX0 29 "Windowhouse$Window" "capacity" "I", Cond.fieldLink RX0 32 "Windowhouse$Window" "start" "I"]
def wsX1_isTrue_r2 : List Cond := [Cond.fieldLink RX0 15 "Windowhouse$Window" "store" "[J", Cond.methodLink RX1 66 yX0_rest, Cond.instanceMethod yX0_rest, Cond.selects RX0 yX0_rest yX0_rest, Cond.code yX0_rest cX0_rest 1 (some .int), Cond.methodLink RX1 70 yX0_becomeSlice, Cond.instanceMethod yX0_becomeSlice, Cond.selects RX0 yX0_becomeSlice yX0_becomeSlice, Cond.code yX0_becomeSlice cX0_becomeSlice 4 none, Cond.fieldLink RX0 35 "Windowhouse$Window" "onlyReads" "Z", Cond.methodLink RX0 39 yX0_moveTo, Cond.instanceMethod yX0_moveTo, Cond.selects RX0 yX0_moveTo yX0_moveTo, Cond.code yX0_moveTo cX0_moveTo 3 none, Cond.fieldLink RX0 19 "Windowhouse$Window" "mark" "I", Cond.methodLink RX1 81 yX0_becomeDuplicate, Cond.instanceMethod yX0_becomeDuplicate, Cond.selects RX0 yX0_becomeDuplicate yX0_becomeDuplicate, Cond.code yX0_becomeDuplicate cX0_becomeDuplicate 2 none, Cond.methodLink RX1 201 yX1_showsChange, Cond.instanceMethod yX1_showsChange, Cond.selects RX1 yX1_showsChange yX1_showsChange, Cond.code yX1_showsChange cX1_showsChange 8 (some .boolean), Cond.constantLong RX1 205 (-1)]
def wsX1_isTrue_r3 : List Cond := [Cond.methodLink RX1 149 yX0_valueAt, Cond.instanceMethod yX0_valueAt, Cond.selects RX0 yX0_valueAt yX0_valueAt, Cond.code yX0_valueAt cX0_valueAt 2 (some .long), Cond.methodLink RX1 207 yX0_cut, Cond.instanceMethod yX0_cut, Cond.selects RX0 yX0_cut yX0_cut, Cond.code yX0_cut cX0_cut 3 (some .long), Cond.constantLong RX0 55 (255), Cond.methodLink RX1 153 yX0_changeAt, Cond.instanceMethod yX0_changeAt, Cond.selects RX0 yX0_changeAt yX0_changeAt, Cond.code yX0_changeAt cX0_changeAt 4 none, Cond.methodLink RX0 43 yX0_cut]
def wsX1_isTrue : List Cond := .code yX1_isTrue cX1_isTrue 2 (some .boolean) :: ((wsX1_isTrue_r1 ++ (wsX1_isTrue_r2 ++ wsX1_isTrue_r3)) ++ wsX10 ++ wsX00 ++ (vx_atM "java/lang/ArrayIndexOutOfBoundsException" ["java/lang/IndexOutOfBoundsException", "java/lang/RuntimeException", "java/lang/Exception"]).filter goodWord)
def wsX2_init : List Cond := .code yX2_init cX2_init 1 none :: ([.methodLink RX2 1 objectInit, .instanceMethod objectInit, .code objectInit ⟨#[0xb1]⟩ 1 none, .arrayClass .long, .fieldLink RX2 7 "WindowhouseModel" "stores" "[J", .arrayClass .int, .fieldLink RX2 13 "WindowhouseModel" "kinds" "[I", .fieldLink RX2 17 "WindowhouseModel" "store" "[I", .fieldLink RX2 20 "WindowhouseModel" "from" "[I", .fieldLink RX2 23 "WindowhouseModel" "size" "[I", .fieldLink RX2 26 "WindowhouseModel" "place" "[I", .fieldLink RX2 29 "WindowhouseModel" "end" "[I", .fieldLink RX2 32 "WindowhouseModel" "mark" "[I", .arrayClass .boolean, .fieldLink RX2 35 "WindowhouseModel" "reads" "[Z", .fieldLink RX2 39 "WindowhouseModel" "rowStore" "[I", .fieldLink RX2 42 "WindowhouseModel" "rowSize" "[I", .fieldLink RX2 45 "WindowhouseModel" "beside" "[J"] ++ wsX20 ++ (vx_atM "java/lang/ArrayIndexOutOfBoundsException" ["java/lang/IndexOutOfBoundsException", "java/lang/RuntimeException", "java/lang/Exception"]).filter goodWord)
def wsX2_thrown : List Cond := .code yX2_thrown cX2_thrown 1 (some .int) :: ([.fieldLink RX2 48 "WindowhouseModel" "thrown" "I"] ++ wsX20)
def wsX2_in : List Cond := .code yX2_in cX2_in 3 (some .boolean) :: ([])
def wsX2_is : List Cond := .code yX2_is cX2_is 2 (some .boolean) :: ([.fieldLink RX2 13 "WindowhouseModel" "kinds" "[I", .methodLink RX2 52 yX2_in, .static yX2_in, .initialized RX2, .code yX2_in cX2_in 3 (some .boolean)] ++ wsX20 ++ (vx_atM "java/lang/ArrayIndexOutOfBoundsException" ["java/lang/IndexOutOfBoundsException", "java/lang/RuntimeException", "java/lang/Exception"]).filter goodWord)
def wsX2_isWindow : List Cond := .code yX2_isWindow cX2_isWindow 2 (some .boolean) :: ([.fieldLink RX2 48 "WindowhouseModel" "thrown" "I", .methodLink RX2 56 yX2_is, .instanceMethod yX2_is, .selects RX2 yX2_is yX2_is, .initialized RX2, .code yX2_is cX2_is 2 (some .boolean), .fieldLink RX2 13 "WindowhouseModel" "kinds" "[I", .methodLink RX2 52 yX2_in, .static yX2_in, .code yX2_in cX2_in 3 (some .boolean)] ++ wsX20 ++ (vx_atM "java/lang/ArrayIndexOutOfBoundsException" ["java/lang/IndexOutOfBoundsException", "java/lang/RuntimeException", "java/lang/Exception"]).filter goodWord)
def wsX2_free : List Cond := .code yX2_free cX2_free 5 (some .int) :: ([.fieldLink RX2 39 "WindowhouseModel" "rowStore" "[I", .fieldLink RX2 13 "WindowhouseModel" "kinds" "[I", .fieldLink RX2 17 "WindowhouseModel" "store" "[I", .fieldLink RX2 7 "WindowhouseModel" "stores" "[J"] ++ wsX20 ++ (vx_atM "java/lang/ArrayIndexOutOfBoundsException" ["java/lang/IndexOutOfBoundsException", "java/lang/RuntimeException", "java/lang/Exception"]).filter goodWord)
def wsX2_make : List Cond := .code yX2_make cX2_make 4 (some .int) :: ([.fieldLink RX2 48 "WindowhouseModel" "thrown" "I", .fieldLink RX2 42 "WindowhouseModel" "rowSize" "[I", .fieldLink RX2 39 "WindowhouseModel" "rowStore" "[I", .methodLink RX2 52 yX2_in, .static yX2_in, .initialized RX2, .code yX2_in cX2_in 3 (some .boolean), .methodLink RX2 60 yX2_free, .instanceMethod yX2_free, .selects RX2 yX2_free yX2_free, .code yX2_free cX2_free 5 (some .int), .fieldLink RX2 13 "WindowhouseModel" "kinds" "[I", .fieldLink RX2 17 "WindowhouseModel" "store" "[I", .fieldLink RX2 7 "WindowhouseModel" "stores" "[J"] ++ wsX20 ++ (vx_atM "java/lang/ArrayIndexOutOfBoundsException" ["java/lang/IndexOutOfBoundsException", "java/lang/RuntimeException", "java/lang/Exception"]).filter goodWord)
def wsX2_isPlace : List Cond := .code yX2_isPlace cX2_isPlace 3 (some .boolean) :: ([.fieldLink RX2 42 "WindowhouseModel" "rowSize" "[I", .fieldLink RX2 48 "WindowhouseModel" "thrown" "I", .methodLink RX2 52 yX2_in, .static yX2_in, .initialized RX2, .code yX2_in cX2_in 3 (some .boolean)] ++ wsX20 ++ (vx_atM "java/lang/ArrayIndexOutOfBoundsException" ["java/lang/IndexOutOfBoundsException", "java/lang/RuntimeException", "java/lang/Exception"]).filter goodWord)
def wsX2_rowAt : List Cond := .code yX2_rowAt cX2_rowAt 3 (some .int) :: ([.fieldLink RX2 7 "WindowhouseModel" "stores" "[J", .fieldLink RX2 39 "WindowhouseModel" "rowStore" "[I", .methodLink RX2 64 yX2_isPlace, .instanceMethod yX2_isPlace, .selects RX2 yX2_isPlace yX2_isPlace, .initialized RX2, .code yX2_isPlace cX2_isPlace 3 (some .boolean), .fieldLink RX2 42 "WindowhouseModel" "rowSize" "[I", .fieldLink RX2 48 "WindowhouseModel" "thrown" "I", .methodLink RX2 52 yX2_in, .static yX2_in, .code yX2_in cX2_in 3 (some .boolean)] ++ wsX20 ++ (vx_atM "java/lang/ArrayIndexOutOfBoundsException" ["java/lang/IndexOutOfBoundsException", "java/lang/RuntimeException", "java/lang/Exception"]).filter goodWord)
def wsX2_rowPut : List Cond := .code yX2_rowPut cX2_rowPut 5 (some .int) :: ([.fieldLink RX2 7 "WindowhouseModel" "stores" "[J", .fieldLink RX2 39 "WindowhouseModel" "rowStore" "[I", .methodLink RX2 64 yX2_isPlace, .instanceMethod yX2_isPlace, .selects RX2 yX2_isPlace yX2_isPlace, .initialized RX2, .code yX2_isPlace cX2_isPlace 3 (some .boolean), .fieldLink RX2 42 "WindowhouseModel" "rowSize" "[I", .fieldLink RX2 48 "WindowhouseModel" "thrown" "I", .methodLink RX2 52 yX2_in, .static yX2_in, .code yX2_in cX2_in 3 (some .boolean)] ++ wsX20 ++ (vx_atM "java/lang/ArrayIndexOutOfBoundsException" ["java/lang/IndexOutOfBoundsException", "java/lang/RuntimeException", "java/lang/Exception"]).filter goodWord)
def wsX2_becomes : List Cond := .code yX2_becomes cX2_becomes 7 none :: ([.fieldLink RX2 13 "WindowhouseModel" "kinds" "[I", .fieldLink RX2 17 "WindowhouseModel" "store" "[I", .fieldLink RX2 20 "WindowhouseModel" "from" "[I", .fieldLink RX2 23 "WindowhouseModel" "size" "[I", .fieldLink RX2 26 "WindowhouseModel" "place" "[I", .fieldLink RX2 29 "WindowhouseModel" "end" "[I", .fieldLink RX2 32 "WindowhouseModel" "mark" "[I", .fieldLink RX2 35 "WindowhouseModel" "reads" "[Z"] ++ wsX20 ++ (vx_atM "java/lang/ArrayIndexOutOfBoundsException" ["java/lang/IndexOutOfBoundsException", "java/lang/RuntimeException", "java/lang/Exception"]).filter goodWord)
def wsX2_allocate : List Cond := .code yX2_allocate cX2_allocate 6 (some .boolean) :: ([.fieldLink RX2 48 "WindowhouseModel" "thrown" "I", .fieldLink RX2 13 "WindowhouseModel" "kinds" "[I", .methodLink RX2 52 yX2_in, .static yX2_in, .initialized RX2, .code yX2_in cX2_in 3 (some .boolean), .methodLink RX2 60 yX2_free, .instanceMethod yX2_free, .selects RX2 yX2_free yX2_free, .code yX2_free cX2_free 5 (some .int), .fieldLink RX2 39 "WindowhouseModel" "rowStore" "[I", .fieldLink RX2 17 "WindowhouseModel" "store" "[I", .fieldLink RX2 7 "WindowhouseModel" "stores" "[J", .methodLink RX2 68 yX2_becomes, .instanceMethod yX2_becomes, .selects RX2 yX2_becomes yX2_becomes, .code yX2_becomes cX2_becomes 7 none, .fieldLink RX2 20 "WindowhouseModel" "from" "[I", .fieldLink RX2 23 "WindowhouseModel" "size" "[I", .fieldLink RX2 26 "WindowhouseModel" "place" "[I", .fieldLink RX2 29 "WindowhouseModel" "end" "[I", .fieldLink RX2 32 "WindowhouseModel" "mark" "[I", .fieldLink RX2 35 "WindowhouseModel" "reads" "[Z"] ++ wsX20 ++ (vx_atM "java/lang/ArrayIndexOutOfBoundsException" ["java/lang/IndexOutOfBoundsException", "java/lang/RuntimeException", "java/lang/Exception"]).filter goodWord)
def wsX2_wrap : List Cond := .code yX2_wrap cX2_wrap 3 (some .int) :: ([.fieldLink RX2 48 "WindowhouseModel" "thrown" "I", .fieldLink RX2 39 "WindowhouseModel" "rowStore" "[I", .fieldLink RX2 42 "WindowhouseModel" "rowSize" "[I", .methodLink RX2 52 yX2_in, .static yX2_in, .initialized RX2, .code yX2_in cX2_in 3 (some .boolean), .methodLink RX2 68 yX2_becomes, .instanceMethod yX2_becomes, .selects RX2 yX2_becomes yX2_becomes, .code yX2_becomes cX2_becomes 7 none, .fieldLink RX2 13 "WindowhouseModel" "kinds" "[I", .fieldLink RX2 17 "WindowhouseModel" "store" "[I", .fieldLink RX2 20 "WindowhouseModel" "from" "[I", .fieldLink RX2 23 "WindowhouseModel" "size" "[I", .fieldLink RX2 26 "WindowhouseModel" "place" "[I", .fieldLink RX2 29 "WindowhouseModel" "end" "[I", .fieldLink RX2 32 "WindowhouseModel" "mark" "[I", .fieldLink RX2 35 "WindowhouseModel" "reads" "[Z"] ++ wsX20 ++ (vx_atM "java/lang/ArrayIndexOutOfBoundsException" ["java/lang/IndexOutOfBoundsException", "java/lang/RuntimeException", "java/lang/Exception"]).filter goodWord)
def wsX2_kind : List Cond := .code yX2_kind cX2_kind 2 (some .char) :: ([.fieldLink RX2 48 "WindowhouseModel" "thrown" "I", .fieldLink RX2 13 "WindowhouseModel" "kinds" "[I", .methodLink RX2 52 yX2_in, .static yX2_in, .initialized RX2, .code yX2_in cX2_in 3 (some .boolean)] ++ wsX20 ++ (vx_atM "java/lang/ArrayIndexOutOfBoundsException" ["java/lang/IndexOutOfBoundsException", "java/lang/RuntimeException", "java/lang/Exception"]).filter goodWord)
def wsX2_capacity : List Cond := .code yX2_capacity cX2_capacity 2 (some .int) :: ([.fieldLink RX2 23 "WindowhouseModel" "size" "[I", .methodLink RX2 72 yX2_isWindow, .instanceMethod yX2_isWindow, .selects RX2 yX2_isWindow yX2_isWindow, .initialized RX2, .code yX2_isWindow cX2_isWindow 2 (some .boolean), .fieldLink RX2 48 "WindowhouseModel" "thrown" "I", .methodLink RX2 56 yX2_is, .instanceMethod yX2_is, .selects RX2 yX2_is yX2_is, .code yX2_is cX2_is 2 (some .boolean), .fieldLink RX2 13 "WindowhouseModel" "kinds" "[I", .methodLink RX2 52 yX2_in, .static yX2_in, .code yX2_in cX2_in 3 (some .boolean)] ++ wsX20 ++ (vx_atM "java/lang/ArrayIndexOutOfBoundsException" ["java/lang/IndexOutOfBoundsException", "java/lang/RuntimeException", "java/lang/Exception"]).filter goodWord)
def wsX2_place : List Cond := .code yX2_place cX2_place 2 (some .int) :: ([.fieldLink RX2 26 "WindowhouseModel" "place" "[I", .methodLink RX2 72 yX2_isWindow, .instanceMethod yX2_isWindow, .selects RX2 yX2_isWindow yX2_isWindow, .initialized RX2, .code yX2_isWindow cX2_isWindow 2 (some .boolean), .fieldLink RX2 48 "WindowhouseModel" "thrown" "I", .methodLink RX2 56 yX2_is, .instanceMethod yX2_is, .selects RX2 yX2_is yX2_is, .code yX2_is cX2_is 2 (some .boolean), .fieldLink RX2 13 "WindowhouseModel" "kinds" "[I", .methodLink RX2 52 yX2_in, .static yX2_in, .code yX2_in cX2_in 3 (some .boolean)] ++ wsX20 ++ (vx_atM "java/lang/ArrayIndexOutOfBoundsException" ["java/lang/IndexOutOfBoundsException", "java/lang/RuntimeException", "java/lang/Exception"]).filter goodWord)
def wsX2_end : List Cond := .code yX2_end cX2_end 2 (some .int) :: ([.fieldLink RX2 29 "WindowhouseModel" "end" "[I", .methodLink RX2 72 yX2_isWindow, .instanceMethod yX2_isWindow, .selects RX2 yX2_isWindow yX2_isWindow, .initialized RX2, .code yX2_isWindow cX2_isWindow 2 (some .boolean), .fieldLink RX2 48 "WindowhouseModel" "thrown" "I", .methodLink RX2 56 yX2_is, .instanceMethod yX2_is, .selects RX2 yX2_is yX2_is, .code yX2_is cX2_is 2 (some .boolean), .fieldLink RX2 13 "WindowhouseModel" "kinds" "[I", .methodLink RX2 52 yX2_in, .static yX2_in, .code yX2_in cX2_in 3 (some .boolean)] ++ wsX20 ++ (vx_atM "java/lang/ArrayIndexOutOfBoundsException" ["java/lang/IndexOutOfBoundsException", "java/lang/RuntimeException", "java/lang/Exception"]).filter goodWord)
def wsX2_left : List Cond := .code yX2_left cX2_left 2 (some .int) :: ([.fieldLink RX2 29 "WindowhouseModel" "end" "[I", .fieldLink RX2 26 "WindowhouseModel" "place" "[I", .methodLink RX2 72 yX2_isWindow, .instanceMethod yX2_isWindow, .selects RX2 yX2_isWindow yX2_isWindow, .initialized RX2, .code yX2_isWindow cX2_isWindow 2 (some .boolean), .fieldLink RX2 48 "WindowhouseModel" "thrown" "I", .methodLink RX2 56 yX2_is, .instanceMethod yX2_is, .selects RX2 yX2_is yX2_is, .code yX2_is cX2_is 2 (some .boolean), .fieldLink RX2 13 "WindowhouseModel" "kinds" "[I", .methodLink RX2 52 yX2_in, .static yX2_in, .code yX2_in cX2_in 3 (some .boolean)] ++ wsX20 ++ (vx_atM "java/lang/ArrayIndexOutOfBoundsException" ["java/lang/IndexOutOfBoundsException", "java/lang/RuntimeException", "java/lang/Exception"]).filter goodWord)
def wsX2_hasLeft : List Cond := .code yX2_hasLeft cX2_hasLeft 2 (some .boolean) :: ([.fieldLink RX2 29 "WindowhouseModel" "end" "[I", .fieldLink RX2 26 "WindowhouseModel" "place" "[I", .methodLink RX2 72 yX2_isWindow, .instanceMethod yX2_isWindow, .selects RX2 yX2_isWindow yX2_isWindow, .initialized RX2, .code yX2_isWindow cX2_isWindow 2 (some .boolean), .fieldLink RX2 48 "WindowhouseModel" "thrown" "I", .methodLink RX2 56 yX2_is, .instanceMethod yX2_is, .selects RX2 yX2_is yX2_is, .code yX2_is cX2_is 2 (some .boolean), .fieldLink RX2 13 "WindowhouseModel" "kinds" "[I", .methodLink RX2 52 yX2_in, .static yX2_in, .code yX2_in cX2_in 3 (some .boolean)] ++ wsX20 ++ (vx_atM "java/lang/ArrayIndexOutOfBoundsException" ["java/lang/IndexOutOfBoundsException", "java/lang/RuntimeException", "java/lang/Exception"]).filter goodWord)
def wsX2_isReadOnly : List Cond := .code yX2_isReadOnly cX2_isReadOnly 2 (some .boolean) :: ([.fieldLink RX2 35 "WindowhouseModel" "reads" "[Z", .methodLink RX2 72 yX2_isWindow, .instanceMethod yX2_isWindow, .selects RX2 yX2_isWindow yX2_isWindow, .initialized RX2, .code yX2_isWindow cX2_isWindow 2 (some .boolean), .fieldLink RX2 48 "WindowhouseModel" "thrown" "I", .methodLink RX2 56 yX2_is, .instanceMethod yX2_is, .selects RX2 yX2_is yX2_is, .code yX2_is cX2_is 2 (some .boolean), .fieldLink RX2 13 "WindowhouseModel" "kinds" "[I", .methodLink RX2 52 yX2_in, .static yX2_in, .code yX2_in cX2_in 3 (some .boolean)] ++ wsX20 ++ (vx_atM "java/lang/ArrayIndexOutOfBoundsException" ["java/lang/IndexOutOfBoundsException", "java/lang/RuntimeException", "java/lang/Exception"]).filter goodWord)
def wsX2_placeAt : List Cond := .code yX2_placeAt cX2_placeAt 4 (some .int) :: ([.fieldLink RX2 29 "WindowhouseModel" "end" "[I", .fieldLink RX2 48 "WindowhouseModel" "thrown" "I", .fieldLink RX2 26 "WindowhouseModel" "place" "[I", .fieldLink RX2 32 "WindowhouseModel" "mark" "[I", .methodLink RX2 56 yX2_is, .instanceMethod yX2_is, .selects RX2 yX2_is yX2_is, .initialized RX2, .code yX2_is cX2_is 2 (some .boolean), .fieldLink RX2 13 "WindowhouseModel" "kinds" "[I", .methodLink RX2 52 yX2_in, .static yX2_in, .code yX2_in cX2_in 3 (some .boolean)] ++ wsX20 ++ (vx_atM "java/lang/ArrayIndexOutOfBoundsException" ["java/lang/IndexOutOfBoundsException", "java/lang/RuntimeException", "java/lang/Exception"]).filter goodWord)
def wsX2_endAt : List Cond := .code yX2_endAt cX2_endAt 4 (some .int) :: ([.fieldLink RX2 23 "WindowhouseModel" "size" "[I", .fieldLink RX2 48 "WindowhouseModel" "thrown" "I", .fieldLink RX2 29 "WindowhouseModel" "end" "[I", .fieldLink RX2 26 "WindowhouseModel" "place" "[I", .fieldLink RX2 32 "WindowhouseModel" "mark" "[I", .methodLink RX2 56 yX2_is, .instanceMethod yX2_is, .selects RX2 yX2_is yX2_is, .initialized RX2, .code yX2_is cX2_is 2 (some .boolean), .fieldLink RX2 13 "WindowhouseModel" "kinds" "[I", .methodLink RX2 52 yX2_in, .static yX2_in, .code yX2_in cX2_in 3 (some .boolean)] ++ wsX20 ++ (vx_atM "java/lang/ArrayIndexOutOfBoundsException" ["java/lang/IndexOutOfBoundsException", "java/lang/RuntimeException", "java/lang/Exception"]).filter goodWord)
def wsX2_mark : List Cond := .code yX2_mark cX2_mark 2 (some .int) :: ([.fieldLink RX2 32 "WindowhouseModel" "mark" "[I", .fieldLink RX2 26 "WindowhouseModel" "place" "[I", .methodLink RX2 72 yX2_isWindow, .instanceMethod yX2_isWindow, .selects RX2 yX2_isWindow yX2_isWindow, .initialized RX2, .code yX2_isWindow cX2_isWindow 2 (some .boolean), .fieldLink RX2 48 "WindowhouseModel" "thrown" "I", .methodLink RX2 56 yX2_is, .instanceMethod yX2_is, .selects RX2 yX2_is yX2_is, .code yX2_is cX2_is 2 (some .boolean), .fieldLink RX2 13 "WindowhouseModel" "kinds" "[I", .methodLink RX2 52 yX2_in, .static yX2_in, .code yX2_in cX2_in 3 (some .boolean)] ++ wsX20 ++ (vx_atM "java/lang/ArrayIndexOutOfBoundsException" ["java/lang/IndexOutOfBoundsException", "java/lang/RuntimeException", "java/lang/Exception"]).filter goodWord)
def wsX2_back : List Cond := .code yX2_back cX2_back 3 (some .int) :: ([.fieldLink RX2 32 "WindowhouseModel" "mark" "[I", .fieldLink RX2 48 "WindowhouseModel" "thrown" "I", .fieldLink RX2 26 "WindowhouseModel" "place" "[I", .methodLink RX2 56 yX2_is, .instanceMethod yX2_is, .selects RX2 yX2_is yX2_is, .initialized RX2, .code yX2_is cX2_is 2 (some .boolean), .fieldLink RX2 13 "WindowhouseModel" "kinds" "[I", .methodLink RX2 52 yX2_in, .static yX2_in, .code yX2_in cX2_in 3 (some .boolean)] ++ wsX20 ++ (vx_atM "java/lang/ArrayIndexOutOfBoundsException" ["java/lang/IndexOutOfBoundsException", "java/lang/RuntimeException", "java/lang/Exception"]).filter goodWord)
def wsX2_stands : List Cond := .code yX2_stands cX2_stands 4 none :: ([.fieldLink RX2 26 "WindowhouseModel" "place" "[I", .fieldLink RX2 29 "WindowhouseModel" "end" "[I", .fieldLink RX2 32 "WindowhouseModel" "mark" "[I"] ++ wsX20 ++ (vx_atM "java/lang/ArrayIndexOutOfBoundsException" ["java/lang/IndexOutOfBoundsException", "java/lang/RuntimeException", "java/lang/Exception"]).filter goodWord)
def wsX2_clear : List Cond := .code yX2_clear cX2_clear 2 (some .int) :: ([.fieldLink RX2 23 "WindowhouseModel" "size" "[I", .fieldLink RX2 29 "WindowhouseModel" "end" "[I", .methodLink RX2 72 yX2_isWindow, .instanceMethod yX2_isWindow, .selects RX2 yX2_isWindow yX2_isWindow, .initialized RX2, .code yX2_isWindow cX2_isWindow 2 (some .boolean), .fieldLink RX2 48 "WindowhouseModel" "thrown" "I", .methodLink RX2 56 yX2_is, .instanceMethod yX2_is, .selects RX2 yX2_is yX2_is, .code yX2_is cX2_is 2 (some .boolean), .fieldLink RX2 13 "WindowhouseModel" "kinds" "[I", .methodLink RX2 52 yX2_in, .static yX2_in, .code yX2_in cX2_in 3 (some .boolean), .methodLink RX2 75 yX2_stands, .instanceMethod yX2_stands, .selects RX2 yX2_stands yX2_stands, .code yX2_stands cX2_stands 4 none, .fieldLink RX2 26 "WindowhouseModel" "place" "[I", .fieldLink RX2 32 "WindowhouseModel" "mark" "[I"] ++ wsX20 ++ (vx_atM "java/lang/ArrayIndexOutOfBoundsException" ["java/lang/IndexOutOfBoundsException", "java/lang/RuntimeException", "java/lang/Exception"]).filter goodWord)
def wsX2_flip : List Cond := .code yX2_flip cX2_flip 2 (some .int) :: ([.fieldLink RX2 26 "WindowhouseModel" "place" "[I", .fieldLink RX2 29 "WindowhouseModel" "end" "[I", .methodLink RX2 72 yX2_isWindow, .instanceMethod yX2_isWindow, .selects RX2 yX2_isWindow yX2_isWindow, .initialized RX2, .code yX2_isWindow cX2_isWindow 2 (some .boolean), .fieldLink RX2 48 "WindowhouseModel" "thrown" "I", .methodLink RX2 56 yX2_is, .instanceMethod yX2_is, .selects RX2 yX2_is yX2_is, .code yX2_is cX2_is 2 (some .boolean), .fieldLink RX2 13 "WindowhouseModel" "kinds" "[I", .methodLink RX2 52 yX2_in, .static yX2_in, .code yX2_in cX2_in 3 (some .boolean), .methodLink RX2 75 yX2_stands, .instanceMethod yX2_stands, .selects RX2 yX2_stands yX2_stands, .code yX2_stands cX2_stands 4 none, .fieldLink RX2 32 "WindowhouseModel" "mark" "[I"] ++ wsX20 ++ (vx_atM "java/lang/ArrayIndexOutOfBoundsException" ["java/lang/IndexOutOfBoundsException", "java/lang/RuntimeException", "java/lang/Exception"]).filter goodWord)
def wsX2_rewind : List Cond := .code yX2_rewind cX2_rewind 2 (some .int) :: ([.fieldLink RX2 29 "WindowhouseModel" "end" "[I", .methodLink RX2 72 yX2_isWindow, .instanceMethod yX2_isWindow, .selects RX2 yX2_isWindow yX2_isWindow, .initialized RX2, .code yX2_isWindow cX2_isWindow 2 (some .boolean), .fieldLink RX2 48 "WindowhouseModel" "thrown" "I", .methodLink RX2 56 yX2_is, .instanceMethod yX2_is, .selects RX2 yX2_is yX2_is, .code yX2_is cX2_is 2 (some .boolean), .fieldLink RX2 13 "WindowhouseModel" "kinds" "[I", .methodLink RX2 52 yX2_in, .static yX2_in, .code yX2_in cX2_in 3 (some .boolean), .methodLink RX2 75 yX2_stands, .instanceMethod yX2_stands, .selects RX2 yX2_stands yX2_stands, .code yX2_stands cX2_stands 4 none, .fieldLink RX2 26 "WindowhouseModel" "place" "[I", .fieldLink RX2 32 "WindowhouseModel" "mark" "[I"] ++ wsX20 ++ (vx_atM "java/lang/ArrayIndexOutOfBoundsException" ["java/lang/IndexOutOfBoundsException", "java/lang/RuntimeException", "java/lang/Exception"]).filter goodWord)
def wsX2_value : List Cond := .code yX2_value cX2_value 3 (some .long) :: ([.fieldLink RX2 7 "WindowhouseModel" "stores" "[J", .fieldLink RX2 17 "WindowhouseModel" "store" "[I", .fieldLink RX2 20 "WindowhouseModel" "from" "[I"] ++ wsX20 ++ (vx_atM "java/lang/ArrayIndexOutOfBoundsException" ["java/lang/IndexOutOfBoundsException", "java/lang/RuntimeException", "java/lang/Exception"]).filter goodWord)
def wsX2_lays : List Cond := .code yX2_lays cX2_lays 8 none :: ([.fieldLink RX2 13 "WindowhouseModel" "kinds" "[I", .constantLong RX2 79 (255), .fieldLink RX2 7 "WindowhouseModel" "stores" "[J", .fieldLink RX2 17 "WindowhouseModel" "store" "[I", .fieldLink RX2 20 "WindowhouseModel" "from" "[I"] ++ wsX20 ++ (vx_atM "java/lang/ArrayIndexOutOfBoundsException" ["java/lang/IndexOutOfBoundsException", "java/lang/RuntimeException", "java/lang/Exception"]).filter goodWord)
def wsX2_compact_r1 : List Cond := [Cond.fieldLink RX2 35 "WindowhouseModel" "reads" "[Z", Cond.fieldLink RX2 48 "WindowhouseModel" "thrown" "I", Cond.fieldLink RX2 29 "WindowhouseModel" "end" "[I", Cond.fieldLink RX2 26 "WindowhouseModel" "place" "[I", Cond.fieldLink RX2 45 "WindowhouseModel" "beside" "[J", Cond.fieldLink RX2 23 "WindowhouseModel" "size" "[I", Cond.methodLink RX2 56 yX2_is, Cond.instanceMethod yX2_is, Cond.selects RX2 yX2_is yX2_is, Cond.initialized RX2, Cond.code yX2_is cX2_is 2 (some .boolean), Cond.fieldLink RX2 13 "WindowhouseModel" "kinds" "[I", Cond.methodLink RX2 52 yX2_in, Cond.static yX2_in, Cond.code yX2_in cX2_in 3 (some .boolean), Cond.methodLink RX2 81 yX2_value, Cond.instanceMethod yX2_value, Cond.selects RX2 yX2_value yX2_value, Cond.code yX2_value cX2_value 3 (some .long), Cond.fieldLink RX2 7 "WindowhouseModel" "stores" "[J", Cond.fieldLink RX2 17 "WindowhouseModel" "store" "[I", Cond.fieldLink RX2 20 "WindowhouseModel" "from" "[I", Cond.methodLink RX2 85 yX2_lays, Cond.instanceMethod yX2_lays]
def wsX2_compact_r2 : List Cond := [Cond.selects RX2 yX2_lays yX2_lays, Cond.code yX2_lays cX2_lays 8 none, Cond.constantLong RX2 79 (255), Cond.methodLink RX2 75 yX2_stands, Cond.instanceMethod yX2_stands, Cond.selects RX2 yX2_stands yX2_stands, Cond.code yX2_stands cX2_stands 4 none, Cond.fieldLink RX2 32 "WindowhouseModel" "mark" "[I"]
def wsX2_compact : List Cond := .code yX2_compact cX2_compact 4 (some .int) :: ((wsX2_compact_r1 ++ wsX2_compact_r2) ++ wsX20 ++ (vx_atM "java/lang/ArrayIndexOutOfBoundsException" ["java/lang/IndexOutOfBoundsException", "java/lang/RuntimeException", "java/lang/Exception"]).filter goodWord)
def wsX2_get : List Cond := .code yX2_get cX2_get 2 (some .long) :: ([.fieldLink RX2 26 "WindowhouseModel" "place" "[I", .fieldLink RX2 29 "WindowhouseModel" "end" "[I", .fieldLink RX2 48 "WindowhouseModel" "thrown" "I", .methodLink RX2 56 yX2_is, .instanceMethod yX2_is, .selects RX2 yX2_is yX2_is, .initialized RX2, .code yX2_is cX2_is 2 (some .boolean), .fieldLink RX2 13 "WindowhouseModel" "kinds" "[I", .methodLink RX2 52 yX2_in, .static yX2_in, .code yX2_in cX2_in 3 (some .boolean), .methodLink RX2 81 yX2_value, .instanceMethod yX2_value, .selects RX2 yX2_value yX2_value, .code yX2_value cX2_value 3 (some .long), .fieldLink RX2 7 "WindowhouseModel" "stores" "[J", .fieldLink RX2 17 "WindowhouseModel" "store" "[I", .fieldLink RX2 20 "WindowhouseModel" "from" "[I"] ++ wsX20 ++ (vx_atM "java/lang/ArrayIndexOutOfBoundsException" ["java/lang/IndexOutOfBoundsException", "java/lang/RuntimeException", "java/lang/Exception"]).filter goodWord)
def wsX2_put : List Cond := .code yX2_put cX2_put 4 (some .int) :: ([.fieldLink RX2 35 "WindowhouseModel" "reads" "[Z", .fieldLink RX2 26 "WindowhouseModel" "place" "[I", .fieldLink RX2 29 "WindowhouseModel" "end" "[I", .fieldLink RX2 48 "WindowhouseModel" "thrown" "I", .methodLink RX2 56 yX2_is, .instanceMethod yX2_is, .selects RX2 yX2_is yX2_is, .initialized RX2, .code yX2_is cX2_is 2 (some .boolean), .fieldLink RX2 13 "WindowhouseModel" "kinds" "[I", .methodLink RX2 52 yX2_in, .static yX2_in, .code yX2_in cX2_in 3 (some .boolean), .methodLink RX2 85 yX2_lays, .instanceMethod yX2_lays, .selects RX2 yX2_lays yX2_lays, .code yX2_lays cX2_lays 8 none, .constantLong RX2 79 (255), .fieldLink RX2 7 "WindowhouseModel" "stores" "[J", .fieldLink RX2 17 "WindowhouseModel" "store" "[I", .fieldLink RX2 20 "WindowhouseModel" "from" "[I"] ++ wsX20 ++ (vx_atM "java/lang/ArrayIndexOutOfBoundsException" ["java/lang/IndexOutOfBoundsException", "java/lang/RuntimeException", "java/lang/Exception"]).filter goodWord)
def wsX2_getAt : List Cond := .code yX2_getAt cX2_getAt 3 (some .long) :: ([.fieldLink RX2 29 "WindowhouseModel" "end" "[I", .fieldLink RX2 48 "WindowhouseModel" "thrown" "I", .methodLink RX2 56 yX2_is, .instanceMethod yX2_is, .selects RX2 yX2_is yX2_is, .initialized RX2, .code yX2_is cX2_is 2 (some .boolean), .fieldLink RX2 13 "WindowhouseModel" "kinds" "[I", .methodLink RX2 52 yX2_in, .static yX2_in, .code yX2_in cX2_in 3 (some .boolean), .methodLink RX2 81 yX2_value, .instanceMethod yX2_value, .selects RX2 yX2_value yX2_value, .code yX2_value cX2_value 3 (some .long), .fieldLink RX2 7 "WindowhouseModel" "stores" "[J", .fieldLink RX2 17 "WindowhouseModel" "store" "[I", .fieldLink RX2 20 "WindowhouseModel" "from" "[I"] ++ wsX20 ++ (vx_atM "java/lang/ArrayIndexOutOfBoundsException" ["java/lang/IndexOutOfBoundsException", "java/lang/RuntimeException", "java/lang/Exception"]).filter goodWord)
def wsX2_putAt : List Cond := .code yX2_putAt cX2_putAt 7 (some .long) :: ([.fieldLink RX2 29 "WindowhouseModel" "end" "[I", .fieldLink RX2 35 "WindowhouseModel" "reads" "[Z", .fieldLink RX2 48 "WindowhouseModel" "thrown" "I", .methodLink RX2 56 yX2_is, .instanceMethod yX2_is, .selects RX2 yX2_is yX2_is, .initialized RX2, .code yX2_is cX2_is 2 (some .boolean), .fieldLink RX2 13 "WindowhouseModel" "kinds" "[I", .methodLink RX2 52 yX2_in, .static yX2_in, .code yX2_in cX2_in 3 (some .boolean), .methodLink RX2 81 yX2_value, .instanceMethod yX2_value, .selects RX2 yX2_value yX2_value, .code yX2_value cX2_value 3 (some .long), .fieldLink RX2 7 "WindowhouseModel" "stores" "[J", .fieldLink RX2 17 "WindowhouseModel" "store" "[I", .fieldLink RX2 20 "WindowhouseModel" "from" "[I", .methodLink RX2 85 yX2_lays, .instanceMethod yX2_lays, .selects RX2 yX2_lays yX2_lays, .code yX2_lays cX2_lays 8 none, .constantLong RX2 79 (255)] ++ wsX20 ++ (vx_atM "java/lang/ArrayIndexOutOfBoundsException" ["java/lang/IndexOutOfBoundsException", "java/lang/RuntimeException", "java/lang/Exception"]).filter goodWord)
def wsX2_fill : List Cond := .code yX2_fill cX2_fill 8 (some .int) :: ([.fieldLink RX2 35 "WindowhouseModel" "reads" "[Z", .fieldLink RX2 29 "WindowhouseModel" "end" "[I", .fieldLink RX2 26 "WindowhouseModel" "place" "[I", .fieldLink RX2 48 "WindowhouseModel" "thrown" "I", .methodLink RX2 56 yX2_is, .instanceMethod yX2_is, .selects RX2 yX2_is yX2_is, .initialized RX2, .code yX2_is cX2_is 2 (some .boolean), .fieldLink RX2 13 "WindowhouseModel" "kinds" "[I", .methodLink RX2 52 yX2_in, .static yX2_in, .code yX2_in cX2_in 3 (some .boolean), .methodLink RX2 85 yX2_lays, .instanceMethod yX2_lays, .selects RX2 yX2_lays yX2_lays, .code yX2_lays cX2_lays 8 none, .constantLong RX2 79 (255), .fieldLink RX2 7 "WindowhouseModel" "stores" "[J", .fieldLink RX2 17 "WindowhouseModel" "store" "[I", .fieldLink RX2 20 "WindowhouseModel" "from" "[I"] ++ wsX20 ++ (vx_atM "java/lang/ArrayIndexOutOfBoundsException" ["java/lang/IndexOutOfBoundsException", "java/lang/RuntimeException", "java/lang/Exception"]).filter goodWord)
def wsX2_pour_r1 : List Cond := [Cond.fieldLink RX2 35 "WindowhouseModel" "reads" "[Z", Cond.fieldLink RX2 29 "WindowhouseModel" "end" "[I", Cond.fieldLink RX2 26 "WindowhouseModel" "place" "[I", Cond.fieldLink RX2 48 "WindowhouseModel" "thrown" "I", Cond.methodLink RX2 56 yX2_is, Cond.instanceMethod yX2_is, Cond.selects RX2 yX2_is yX2_is, Cond.initialized RX2, Cond.code yX2_is cX2_is 2 (some .boolean), Cond.fieldLink RX2 13 "WindowhouseModel" "kinds" "[I", Cond.methodLink RX2 52 yX2_in, Cond.static yX2_in, Cond.code yX2_in cX2_in 3 (some .boolean), Cond.methodLink RX2 81 yX2_value, Cond.instanceMethod yX2_value, Cond.selects RX2 yX2_value yX2_value, Cond.code yX2_value cX2_value 3 (some .long), Cond.fieldLink RX2 7 "WindowhouseModel" "stores" "[J", Cond.fieldLink RX2 17 "WindowhouseModel" "store" "[I", Cond.fieldLink RX2 20 "WindowhouseModel" "from" "[I", Cond.methodLink RX2 85 yX2_lays, Cond.instanceMethod yX2_lays, Cond.selects RX2 yX2_lays yX2_lays, Cond.code yX2_lays cX2_lays 8 none]
def wsX2_pour_r2 : List Cond := [Cond.constantLong RX2 79 (255)]
def wsX2_pour : List Cond := .code yX2_pour cX2_pour 6 (some .int) :: ((wsX2_pour_r1 ++ wsX2_pour_r2) ++ wsX20 ++ (vx_atM "java/lang/ArrayIndexOutOfBoundsException" ["java/lang/IndexOutOfBoundsException", "java/lang/RuntimeException", "java/lang/Exception"]).filter goodWord)
def wsX2_slice : List Cond := .code yX2_slice cX2_slice 3 (some .int) :: ([.fieldLink RX2 48 "WindowhouseModel" "thrown" "I", .fieldLink RX2 13 "WindowhouseModel" "kinds" "[I", .fieldLink RX2 17 "WindowhouseModel" "store" "[I", .fieldLink RX2 20 "WindowhouseModel" "from" "[I", .fieldLink RX2 26 "WindowhouseModel" "place" "[I", .fieldLink RX2 29 "WindowhouseModel" "end" "[I", .fieldLink RX2 35 "WindowhouseModel" "reads" "[Z", .fieldLink RX2 23 "WindowhouseModel" "size" "[I", .methodLink RX2 56 yX2_is, .instanceMethod yX2_is, .selects RX2 yX2_is yX2_is, .initialized RX2, .code yX2_is cX2_is 2 (some .boolean), .methodLink RX2 52 yX2_in, .static yX2_in, .code yX2_in cX2_in 3 (some .boolean), .methodLink RX2 68 yX2_becomes, .instanceMethod yX2_becomes, .selects RX2 yX2_becomes yX2_becomes, .code yX2_becomes cX2_becomes 7 none, .fieldLink RX2 32 "WindowhouseModel" "mark" "[I"] ++ wsX20 ++ (vx_atM "java/lang/ArrayIndexOutOfBoundsException" ["java/lang/IndexOutOfBoundsException", "java/lang/RuntimeException", "java/lang/Exception"]).filter goodWord)
def wsX2_sliceAt : List Cond := .code yX2_sliceAt cX2_sliceAt 6 (some .int) :: ([.fieldLink RX2 29 "WindowhouseModel" "end" "[I", .fieldLink RX2 48 "WindowhouseModel" "thrown" "I", .fieldLink RX2 13 "WindowhouseModel" "kinds" "[I", .fieldLink RX2 17 "WindowhouseModel" "store" "[I", .fieldLink RX2 20 "WindowhouseModel" "from" "[I", .fieldLink RX2 35 "WindowhouseModel" "reads" "[Z", .methodLink RX2 56 yX2_is, .instanceMethod yX2_is, .selects RX2 yX2_is yX2_is, .initialized RX2, .code yX2_is cX2_is 2 (some .boolean), .methodLink RX2 52 yX2_in, .static yX2_in, .code yX2_in cX2_in 3 (some .boolean), .methodLink RX2 68 yX2_becomes, .instanceMethod yX2_becomes, .selects RX2 yX2_becomes yX2_becomes, .code yX2_becomes cX2_becomes 7 none, .fieldLink RX2 23 "WindowhouseModel" "size" "[I", .fieldLink RX2 26 "WindowhouseModel" "place" "[I", .fieldLink RX2 32 "WindowhouseModel" "mark" "[I"] ++ wsX20 ++ (vx_atM "java/lang/ArrayIndexOutOfBoundsException" ["java/lang/IndexOutOfBoundsException", "java/lang/RuntimeException", "java/lang/Exception"]).filter goodWord)
def wsX2_twin : List Cond := .code yX2_twin cX2_twin 7 (some .int) :: ([.fieldLink RX2 48 "WindowhouseModel" "thrown" "I", .fieldLink RX2 26 "WindowhouseModel" "place" "[I", .fieldLink RX2 29 "WindowhouseModel" "end" "[I", .fieldLink RX2 32 "WindowhouseModel" "mark" "[I", .fieldLink RX2 13 "WindowhouseModel" "kinds" "[I", .fieldLink RX2 17 "WindowhouseModel" "store" "[I", .fieldLink RX2 20 "WindowhouseModel" "from" "[I", .fieldLink RX2 23 "WindowhouseModel" "size" "[I", .fieldLink RX2 35 "WindowhouseModel" "reads" "[Z", .methodLink RX2 56 yX2_is, .instanceMethod yX2_is, .selects RX2 yX2_is yX2_is, .initialized RX2, .code yX2_is cX2_is 2 (some .boolean), .methodLink RX2 52 yX2_in, .static yX2_in, .code yX2_in cX2_in 3 (some .boolean), .methodLink RX2 68 yX2_becomes, .instanceMethod yX2_becomes, .selects RX2 yX2_becomes yX2_becomes, .code yX2_becomes cX2_becomes 7 none] ++ wsX20 ++ (vx_atM "java/lang/ArrayIndexOutOfBoundsException" ["java/lang/IndexOutOfBoundsException", "java/lang/RuntimeException", "java/lang/Exception"]).filter goodWord)
def wsX2_duplicate_r1 : List Cond := [Cond.methodLink RX2 89 yX2_twin, Cond.instanceMethod yX2_twin, Cond.selects RX2 yX2_twin yX2_twin, Cond.initialized RX2, Cond.code yX2_twin cX2_twin 7 (some .int), Cond.fieldLink RX2 48 "WindowhouseModel" "thrown" "I", Cond.fieldLink RX2 26 "WindowhouseModel" "place" "[I", Cond.fieldLink RX2 29 "WindowhouseModel" "end" "[I", Cond.fieldLink RX2 32 "WindowhouseModel" "mark" "[I", Cond.fieldLink RX2 13 "WindowhouseModel" "kinds" "[I", Cond.fieldLink RX2 17 "WindowhouseModel" "store" "[I", Cond.fieldLink RX2 20 "WindowhouseModel" "from" "[I", Cond.fieldLink RX2 23 "WindowhouseModel" "size" "[I", Cond.fieldLink RX2 35 "WindowhouseModel" "reads" "[Z", Cond.methodLink RX2 56 yX2_is, Cond.instanceMethod yX2_is, Cond.selects RX2 yX2_is yX2_is, Cond.code yX2_is cX2_is 2 (some .boolean), Cond.methodLink RX2 52 yX2_in, Cond.static yX2_in, Cond.code yX2_in cX2_in 3 (some .boolean), Cond.methodLink RX2 68 yX2_becomes, Cond.instanceMethod yX2_becomes, Cond.selects RX2 yX2_becomes yX2_becomes]
def wsX2_duplicate_r2 : List Cond := [Cond.code yX2_becomes cX2_becomes 7 none]
def wsX2_duplicate : List Cond := .code yX2_duplicate cX2_duplicate 3 (some .int) :: ((wsX2_duplicate_r1 ++ wsX2_duplicate_r2) ++ wsX20 ++ (vx_atM "java/lang/ArrayIndexOutOfBoundsException" ["java/lang/IndexOutOfBoundsException", "java/lang/RuntimeException", "java/lang/Exception"]).filter goodWord)
def wsX2_readOnly_r1 : List Cond := [Cond.methodLink RX2 89 yX2_twin, Cond.instanceMethod yX2_twin, Cond.selects RX2 yX2_twin yX2_twin, Cond.initialized RX2, Cond.code yX2_twin cX2_twin 7 (some .int), Cond.fieldLink RX2 48 "WindowhouseModel" "thrown" "I", Cond.fieldLink RX2 26 "WindowhouseModel" "place" "[I", Cond.fieldLink RX2 29 "WindowhouseModel" "end" "[I", Cond.fieldLink RX2 32 "WindowhouseModel" "mark" "[I", Cond.fieldLink RX2 13 "WindowhouseModel" "kinds" "[I", Cond.fieldLink RX2 17 "WindowhouseModel" "store" "[I", Cond.fieldLink RX2 20 "WindowhouseModel" "from" "[I", Cond.fieldLink RX2 23 "WindowhouseModel" "size" "[I", Cond.fieldLink RX2 35 "WindowhouseModel" "reads" "[Z", Cond.methodLink RX2 56 yX2_is, Cond.instanceMethod yX2_is, Cond.selects RX2 yX2_is yX2_is, Cond.code yX2_is cX2_is 2 (some .boolean), Cond.methodLink RX2 52 yX2_in, Cond.static yX2_in, Cond.code yX2_in cX2_in 3 (some .boolean), Cond.methodLink RX2 68 yX2_becomes, Cond.instanceMethod yX2_becomes, Cond.selects RX2 yX2_becomes yX2_becomes]
def wsX2_readOnly_r2 : List Cond := [Cond.code yX2_becomes cX2_becomes 7 none]
def wsX2_readOnly : List Cond := .code yX2_readOnly cX2_readOnly 3 (some .int) :: ((wsX2_readOnly_r1 ++ wsX2_readOnly_r2) ++ wsX20 ++ (vx_atM "java/lang/ArrayIndexOutOfBoundsException" ["java/lang/IndexOutOfBoundsException", "java/lang/RuntimeException", "java/lang/Exception"]).filter goodWord)
def wsX2_signAt : List Cond := .code yX2_signAt cX2_signAt 3 (some .char) :: ([.fieldLink RX2 13 "WindowhouseModel" "kinds" "[I", .fieldLink RX2 29 "WindowhouseModel" "end" "[I", .fieldLink RX2 26 "WindowhouseModel" "place" "[I", .fieldLink RX2 48 "WindowhouseModel" "thrown" "I", .methodLink RX2 56 yX2_is, .instanceMethod yX2_is, .selects RX2 yX2_is yX2_is, .initialized RX2, .code yX2_is cX2_is 2 (some .boolean), .methodLink RX2 52 yX2_in, .static yX2_in, .code yX2_in cX2_in 3 (some .boolean), .methodLink RX2 81 yX2_value, .instanceMethod yX2_value, .selects RX2 yX2_value yX2_value, .code yX2_value cX2_value 3 (some .long), .fieldLink RX2 7 "WindowhouseModel" "stores" "[J", .fieldLink RX2 17 "WindowhouseModel" "store" "[I", .fieldLink RX2 20 "WindowhouseModel" "from" "[I"] ++ wsX20 ++ (vx_atM "java/lang/ArrayIndexOutOfBoundsException" ["java/lang/IndexOutOfBoundsException", "java/lang/RuntimeException", "java/lang/Exception"]).filter goodWord)
def wsX2_signsLeft : List Cond := .code yX2_signsLeft cX2_signsLeft 2 (some .int) :: ([.fieldLink RX2 13 "WindowhouseModel" "kinds" "[I", .fieldLink RX2 48 "WindowhouseModel" "thrown" "I", .fieldLink RX2 29 "WindowhouseModel" "end" "[I", .fieldLink RX2 26 "WindowhouseModel" "place" "[I", .methodLink RX2 56 yX2_is, .instanceMethod yX2_is, .selects RX2 yX2_is yX2_is, .initialized RX2, .code yX2_is cX2_is 2 (some .boolean), .methodLink RX2 52 yX2_in, .static yX2_in, .code yX2_in cX2_in 3 (some .boolean)] ++ wsX20 ++ (vx_atM "java/lang/ArrayIndexOutOfBoundsException" ["java/lang/IndexOutOfBoundsException", "java/lang/RuntimeException", "java/lang/Exception"]).filter goodWord)
def wsX2_append : List Cond := .code yX2_append cX2_append 3 (some .int) :: ([.fieldLink RX2 13 "WindowhouseModel" "kinds" "[I", .fieldLink RX2 35 "WindowhouseModel" "reads" "[Z", .fieldLink RX2 26 "WindowhouseModel" "place" "[I", .fieldLink RX2 29 "WindowhouseModel" "end" "[I", .fieldLink RX2 48 "WindowhouseModel" "thrown" "I", .methodLink RX2 56 yX2_is, .instanceMethod yX2_is, .selects RX2 yX2_is yX2_is, .initialized RX2, .code yX2_is cX2_is 2 (some .boolean), .methodLink RX2 52 yX2_in, .static yX2_in, .code yX2_in cX2_in 3 (some .boolean), .methodLink RX2 85 yX2_lays, .instanceMethod yX2_lays, .selects RX2 yX2_lays yX2_lays, .code yX2_lays cX2_lays 8 none, .constantLong RX2 79 (255), .fieldLink RX2 7 "WindowhouseModel" "stores" "[J", .fieldLink RX2 17 "WindowhouseModel" "store" "[I", .fieldLink RX2 20 "WindowhouseModel" "from" "[I"] ++ wsX20 ++ (vx_atM "java/lang/ArrayIndexOutOfBoundsException" ["java/lang/IndexOutOfBoundsException", "java/lang/RuntimeException", "java/lang/Exception"]).filter goodWord)
def wsX2_text : List Cond := .code yX2_text cX2_text 5 (some .long) :: ([.fieldLink RX2 13 "WindowhouseModel" "kinds" "[I", .fieldLink RX2 48 "WindowhouseModel" "thrown" "I", .constantLong RX2 93 (7), .fieldLink RX2 26 "WindowhouseModel" "place" "[I", .fieldLink RX2 29 "WindowhouseModel" "end" "[I", .constantLong RX2 95 (31), .methodLink RX2 56 yX2_is, .instanceMethod yX2_is, .selects RX2 yX2_is yX2_is, .initialized RX2, .code yX2_is cX2_is 2 (some .boolean), .methodLink RX2 52 yX2_in, .static yX2_in, .code yX2_in cX2_in 3 (some .boolean), .methodLink RX2 81 yX2_value, .instanceMethod yX2_value, .selects RX2 yX2_value yX2_value, .code yX2_value cX2_value 3 (some .long), .fieldLink RX2 7 "WindowhouseModel" "stores" "[J", .fieldLink RX2 17 "WindowhouseModel" "store" "[I", .fieldLink RX2 20 "WindowhouseModel" "from" "[I"] ++ wsX20 ++ (vx_atM "java/lang/ArrayIndexOutOfBoundsException" ["java/lang/IndexOutOfBoundsException", "java/lang/RuntimeException", "java/lang/Exception"]).filter goodWord)
def wsX2_isAlike : List Cond := .code yX2_isAlike cX2_isAlike 6 (some .boolean) :: ([.fieldLink RX2 48 "WindowhouseModel" "thrown" "I", .fieldLink RX2 29 "WindowhouseModel" "end" "[I", .fieldLink RX2 26 "WindowhouseModel" "place" "[I", .methodLink RX2 56 yX2_is, .instanceMethod yX2_is, .selects RX2 yX2_is yX2_is, .initialized RX2, .code yX2_is cX2_is 2 (some .boolean), .fieldLink RX2 13 "WindowhouseModel" "kinds" "[I", .methodLink RX2 52 yX2_in, .static yX2_in, .code yX2_in cX2_in 3 (some .boolean), .methodLink RX2 81 yX2_value, .instanceMethod yX2_value, .selects RX2 yX2_value yX2_value, .code yX2_value cX2_value 3 (some .long), .fieldLink RX2 7 "WindowhouseModel" "stores" "[J", .fieldLink RX2 17 "WindowhouseModel" "store" "[I", .fieldLink RX2 20 "WindowhouseModel" "from" "[I"] ++ wsX20 ++ (vx_atM "java/lang/ArrayIndexOutOfBoundsException" ["java/lang/IndexOutOfBoundsException", "java/lang/RuntimeException", "java/lang/Exception"]).filter goodWord)
def wsX2_fullShare : List Cond := .code yX2_fullShare cX2_fullShare 2 (some .float) :: ([.fieldLink RX2 23 "WindowhouseModel" "size" "[I", .fieldLink RX2 48 "WindowhouseModel" "thrown" "I", .fieldLink RX2 26 "WindowhouseModel" "place" "[I", .methodLink RX2 56 yX2_is, .instanceMethod yX2_is, .selects RX2 yX2_is yX2_is, .initialized RX2, .code yX2_is cX2_is 2 (some .boolean), .fieldLink RX2 13 "WindowhouseModel" "kinds" "[I", .methodLink RX2 52 yX2_in, .static yX2_in, .code yX2_in cX2_in 3 (some .boolean)] ++ wsX20 ++ (vx_atM "java/lang/ArrayIndexOutOfBoundsException" ["java/lang/IndexOutOfBoundsException", "java/lang/RuntimeException", "java/lang/Exception"]).filter goodWord)
def wsX2_meanLeft : List Cond := .code yX2_meanLeft cX2_meanLeft 4 (some .double) :: ([.fieldLink RX2 29 "WindowhouseModel" "end" "[I", .fieldLink RX2 26 "WindowhouseModel" "place" "[I", .fieldLink RX2 48 "WindowhouseModel" "thrown" "I", .methodLink RX2 56 yX2_is, .instanceMethod yX2_is, .selects RX2 yX2_is yX2_is, .initialized RX2, .code yX2_is cX2_is 2 (some .boolean), .fieldLink RX2 13 "WindowhouseModel" "kinds" "[I", .methodLink RX2 52 yX2_in, .static yX2_in, .code yX2_in cX2_in 3 (some .boolean)] ++ wsX20 ++ (vx_atM "java/lang/ArrayIndexOutOfBoundsException" ["java/lang/IndexOutOfBoundsException", "java/lang/RuntimeException", "java/lang/Exception"]).filter goodWord)
def wsX2_checksum : List Cond := .code yX2_checksum cX2_checksum 5 (some .long) :: ([.fieldLink RX2 48 "WindowhouseModel" "thrown" "I", .constantLong RX2 93 (7), .constantLong RX2 95 (31), .fieldLink RX2 13 "WindowhouseModel" "kinds" "[I", .fieldLink RX2 26 "WindowhouseModel" "place" "[I", .fieldLink RX2 29 "WindowhouseModel" "end" "[I", .fieldLink RX2 23 "WindowhouseModel" "size" "[I", .fieldLink RX2 42 "WindowhouseModel" "rowSize" "[I", .fieldLink RX2 7 "WindowhouseModel" "stores" "[J", .fieldLink RX2 39 "WindowhouseModel" "rowStore" "[I", .methodLink RX2 81 yX2_value, .instanceMethod yX2_value, .selects RX2 yX2_value yX2_value, .initialized RX2, .code yX2_value cX2_value 3 (some .long), .fieldLink RX2 17 "WindowhouseModel" "store" "[I", .fieldLink RX2 20 "WindowhouseModel" "from" "[I"] ++ wsX20 ++ (vx_atM "java/lang/ArrayIndexOutOfBoundsException" ["java/lang/IndexOutOfBoundsException", "java/lang/RuntimeException", "java/lang/Exception"]).filter goodWord)
def wsX2_isTrue : List Cond := .code yX2_isTrue cX2_isTrue 1 (some .boolean) :: ([.fieldLink RX2 48 "WindowhouseModel" "thrown" "I"] ++ wsX20)
def wsJx00060_init_a7421 : List Cond := .code yJx00060_init_a7421 cJx00060_init_a7421 2 none :: ([])
def wsJ9_min_7cf53 : List Cond := .code yJ9_min_7cf53 cJ9_min_7cf53 2 (some .int) :: ([])
theorem inJx145de : ∀ w ∈ wsJx145de0, w ∈ lw_tbl := by decide +kernel
theorem inJx00060 : ∀ w ∈ wsJx000600, w ∈ lw_tbl := by decide +kernel
theorem inJ9 : ∀ w ∈ wsJ90, w ∈ lw_tbl := by decide +kernel
theorem inJ0 : ∀ w ∈ wsJ00, w ∈ lw_tbl := by decide +kernel
theorem inJ10 : ∀ w ∈ wsJ100, w ∈ lw_tbl := by decide +kernel
theorem dX0_init_0 : decode cX0_init 0 = .ok (.aload_n 0, 1) := by decide +kernel
theorem dX0_init_1 : decode cX0_init 1 = .ok (.invokespecial 3, 3) := by decide +kernel
theorem dX0_init_4 : decode cX0_init 4 = .ok (.aload_n 0, 1) := by decide +kernel
theorem dX0_init_5 : decode cX0_init 5 = .ok (.bipush 45, 2) := by decide +kernel
theorem dX0_init_7 : decode cX0_init 7 = .ok (.putfield 9, 3) := by decide +kernel
theorem dX0_init_10 : decode cX0_init 10 = .ok (.aload_n 0, 1) := by decide +kernel
theorem dX0_init_11 : decode cX0_init 11 = .ok (.iconst 0, 1) := by decide +kernel
theorem dX0_init_12 : decode cX0_init 12 = .ok (.newarray .long, 2) := by decide +kernel
theorem dX0_init_14 : decode cX0_init 14 = .ok (.putfield 15, 3) := by decide +kernel
theorem dX0_init_17 : decode cX0_init 17 = .ok (.aload_n 0, 1) := by decide +kernel
theorem dX0_init_18 : decode cX0_init 18 = .ok (.iconst (-1), 1) := by decide +kernel
theorem dX0_init_19 : decode cX0_init 19 = .ok (.putfield 19, 3) := by decide +kernel
theorem dX0_init_22 : decode cX0_init 22 = .ok (.return_, 1) := by decide +kernel
theorem dX0_isThere_0 : decode cX0_isThere 0 = .ok (.aload_n 0, 1) := by decide +kernel
theorem dX0_isThere_1 : decode cX0_isThere 1 = .ok (.getfield 9, 3) := by decide +kernel
theorem dX0_isThere_4 : decode cX0_isThere 4 = .ok (.bipush 45, 2) := by decide +kernel
theorem dX0_isThere_6 : decode cX0_isThere 6 = .ok (.if_icmp .eq 7, 3) := by decide +kernel
theorem dX0_isThere_9 : decode cX0_isThere 9 = .ok (.iconst 1, 1) := by decide +kernel
theorem dX0_isThere_10 : decode cX0_isThere 10 = .ok (.goto 4, 3) := by decide +kernel
theorem dX0_isThere_13 : decode cX0_isThere 13 = .ok (.iconst 0, 1) := by decide +kernel
theorem dX0_isThere_14 : decode cX0_isThere 14 = .ok (.ireturn, 1) := by decide +kernel
theorem dX0_rest_0 : decode cX0_rest 0 = .ok (.aload_n 0, 1) := by decide +kernel
theorem dX0_rest_1 : decode cX0_rest 1 = .ok (.getfield 23, 3) := by decide +kernel
theorem dX0_rest_4 : decode cX0_rest 4 = .ok (.aload_n 0, 1) := by decide +kernel
theorem dX0_rest_5 : decode cX0_rest 5 = .ok (.getfield 26, 3) := by decide +kernel
theorem dX0_rest_8 : decode cX0_rest 8 = .ok (.isub, 1) := by decide +kernel
theorem dX0_rest_9 : decode cX0_rest 9 = .ok (.ireturn, 1) := by decide +kernel
theorem dX0_isInBounds_0 : decode cX0_isInBounds 0 = .ok (.iconst 0, 1) := by decide +kernel
theorem dX0_isInBounds_1 : decode cX0_isInBounds 1 = .ok (.aload_n 0, 1) := by decide +kernel
theorem dX0_isInBounds_2 : decode cX0_isInBounds 2 = .ok (.getfield 26, 3) := by decide +kernel
theorem dX0_isInBounds_5 : decode cX0_isInBounds 5 = .ok (.if_icmp .gt 54, 3) := by decide +kernel
theorem dX0_isInBounds_8 : decode cX0_isInBounds 8 = .ok (.aload_n 0, 1) := by decide +kernel
theorem dX0_isInBounds_9 : decode cX0_isInBounds 9 = .ok (.getfield 26, 3) := by decide +kernel
theorem dX0_isInBounds_12 : decode cX0_isInBounds 12 = .ok (.aload_n 0, 1) := by decide +kernel
theorem dX0_isInBounds_13 : decode cX0_isInBounds 13 = .ok (.getfield 23, 3) := by decide +kernel
theorem dX0_isInBounds_16 : decode cX0_isInBounds 16 = .ok (.if_icmp .gt 43, 3) := by decide +kernel
theorem dX0_isInBounds_19 : decode cX0_isInBounds 19 = .ok (.aload_n 0, 1) := by decide +kernel
theorem dX0_isInBounds_20 : decode cX0_isInBounds 20 = .ok (.getfield 23, 3) := by decide +kernel
theorem dX0_isInBounds_23 : decode cX0_isInBounds 23 = .ok (.aload_n 0, 1) := by decide +kernel
theorem dX0_isInBounds_24 : decode cX0_isInBounds 24 = .ok (.getfield 29, 3) := by decide +kernel
theorem dX0_isInBounds_27 : decode cX0_isInBounds 27 = .ok (.if_icmp .gt 32, 3) := by decide +kernel
theorem dX0_isInBounds_30 : decode cX0_isInBounds 30 = .ok (.iconst 0, 1) := by decide +kernel
theorem dX0_isInBounds_31 : decode cX0_isInBounds 31 = .ok (.aload_n 0, 1) := by decide +kernel
theorem dX0_isInBounds_32 : decode cX0_isInBounds 32 = .ok (.getfield 32, 3) := by decide +kernel
theorem dX0_isInBounds_35 : decode cX0_isInBounds 35 = .ok (.if_icmp .gt 24, 3) := by decide +kernel
theorem dX0_isInBounds_38 : decode cX0_isInBounds 38 = .ok (.aload_n 0, 1) := by decide +kernel
theorem dX0_isInBounds_39 : decode cX0_isInBounds 39 = .ok (.getfield 29, 3) := by decide +kernel
theorem dX0_isInBounds_42 : decode cX0_isInBounds 42 = .ok (.aload_n 0, 1) := by decide +kernel
theorem dX0_isInBounds_43 : decode cX0_isInBounds 43 = .ok (.getfield 15, 3) := by decide +kernel
theorem dX0_isInBounds_46 : decode cX0_isInBounds 46 = .ok (.arraylength, 1) := by decide +kernel
theorem dX0_isInBounds_47 : decode cX0_isInBounds 47 = .ok (.aload_n 0, 1) := by decide +kernel
theorem dX0_isInBounds_48 : decode cX0_isInBounds 48 = .ok (.getfield 32, 3) := by decide +kernel
theorem dX0_isInBounds_51 : decode cX0_isInBounds 51 = .ok (.isub, 1) := by decide +kernel
theorem dX0_isInBounds_52 : decode cX0_isInBounds 52 = .ok (.if_icmp .gt 7, 3) := by decide +kernel
theorem dX0_isInBounds_55 : decode cX0_isInBounds 55 = .ok (.iconst 1, 1) := by decide +kernel
theorem dX0_isInBounds_56 : decode cX0_isInBounds 56 = .ok (.goto 4, 3) := by decide +kernel
theorem dX0_isInBounds_59 : decode cX0_isInBounds 59 = .ok (.iconst 0, 1) := by decide +kernel
theorem dX0_isInBounds_60 : decode cX0_isInBounds 60 = .ok (.ireturn, 1) := by decide +kernel
set_option maxRecDepth 20000 in
theorem ggX0_layOver_X0_moveTo : GoodIn wsX0_layOver wsX0_moveTo := goodIn_r _ [10, 11, 12, 13, 14, 15, 16, 17, 18, 19, 20, 21] (by decide +kernel) (by decide +kernel)
set_option maxRecDepth 20000 in
theorem gX0_layOver_X0_moveTo : GoodIn wsX0_layOver (wsV RX0 39 RX0 yX0_moveTo wsX0_moveTo) := goodIn_app (goodIn_of _ (by decide +kernel)) ggX0_layOver_X0_moveTo
theorem dX0_layOver_0 : decode cX0_layOver 0 = .ok (.aload_n 0, 1) := by decide +kernel
theorem dX0_layOver_1 : decode cX0_layOver 1 = .ok (.iload_n 1, 1) := by decide +kernel
theorem dX0_layOver_2 : decode cX0_layOver 2 = .ok (.putfield 9, 3) := by decide +kernel
theorem dX0_layOver_5 : decode cX0_layOver 5 = .ok (.aload_n 0, 1) := by decide +kernel
theorem dX0_layOver_6 : decode cX0_layOver 6 = .ok (.iconst 0, 1) := by decide +kernel
theorem dX0_layOver_7 : decode cX0_layOver 7 = .ok (.putfield 35, 3) := by decide +kernel
theorem dX0_layOver_10 : decode cX0_layOver 10 = .ok (.aload_n 0, 1) := by decide +kernel
theorem dX0_layOver_11 : decode cX0_layOver 11 = .ok (.aload_n 2, 1) := by decide +kernel
theorem dX0_layOver_12 : decode cX0_layOver 12 = .ok (.putfield 15, 3) := by decide +kernel
theorem dX0_layOver_15 : decode cX0_layOver 15 = .ok (.aload_n 0, 1) := by decide +kernel
theorem dX0_layOver_16 : decode cX0_layOver 16 = .ok (.iconst 0, 1) := by decide +kernel
theorem dX0_layOver_17 : decode cX0_layOver 17 = .ok (.putfield 32, 3) := by decide +kernel
theorem dX0_layOver_20 : decode cX0_layOver 20 = .ok (.aload_n 0, 1) := by decide +kernel
theorem dX0_layOver_21 : decode cX0_layOver 21 = .ok (.aload_n 2, 1) := by decide +kernel
theorem dX0_layOver_22 : decode cX0_layOver 22 = .ok (.arraylength, 1) := by decide +kernel
theorem dX0_layOver_23 : decode cX0_layOver 23 = .ok (.putfield 29, 3) := by decide +kernel
theorem dX0_layOver_26 : decode cX0_layOver 26 = .ok (.aload_n 0, 1) := by decide +kernel
theorem dX0_layOver_27 : decode cX0_layOver 27 = .ok (.iconst 0, 1) := by decide +kernel
theorem dX0_layOver_28 : decode cX0_layOver 28 = .ok (.aload_n 0, 1) := by decide +kernel
theorem dX0_layOver_29 : decode cX0_layOver 29 = .ok (.getfield 29, 3) := by decide +kernel
theorem dX0_layOver_32 : decode cX0_layOver 32 = .ok (.invokevirtual 39, 3) := by decide +kernel
theorem dX0_layOver_35 : decode cX0_layOver 35 = .ok (.return_, 1) := by decide +kernel
set_option maxRecDepth 20000 in
theorem ggX0_becomeSlice_X0_moveTo : GoodIn wsX0_becomeSlice wsX0_moveTo := goodIn_r _ [10, 11, 12, 13, 14, 15, 16, 17, 18, 19, 20, 21] (by decide +kernel) (by decide +kernel)
set_option maxRecDepth 20000 in
theorem gX0_becomeSlice_X0_moveTo : GoodIn wsX0_becomeSlice (wsV RX0 39 RX0 yX0_moveTo wsX0_moveTo) := goodIn_app (goodIn_of _ (by decide +kernel)) ggX0_becomeSlice_X0_moveTo
theorem dX0_becomeSlice_0 : decode cX0_becomeSlice 0 = .ok (.aload_n 0, 1) := by decide +kernel
theorem dX0_becomeSlice_1 : decode cX0_becomeSlice 1 = .ok (.aload_n 1, 1) := by decide +kernel
theorem dX0_becomeSlice_2 : decode cX0_becomeSlice 2 = .ok (.getfield 9, 3) := by decide +kernel
theorem dX0_becomeSlice_5 : decode cX0_becomeSlice 5 = .ok (.putfield 9, 3) := by decide +kernel
theorem dX0_becomeSlice_8 : decode cX0_becomeSlice 8 = .ok (.aload_n 0, 1) := by decide +kernel
theorem dX0_becomeSlice_9 : decode cX0_becomeSlice 9 = .ok (.aload_n 1, 1) := by decide +kernel
theorem dX0_becomeSlice_10 : decode cX0_becomeSlice 10 = .ok (.getfield 35, 3) := by decide +kernel
theorem dX0_becomeSlice_13 : decode cX0_becomeSlice 13 = .ok (.putfield 35, 3) := by decide +kernel
theorem dX0_becomeSlice_16 : decode cX0_becomeSlice 16 = .ok (.aload_n 0, 1) := by decide +kernel
theorem dX0_becomeSlice_17 : decode cX0_becomeSlice 17 = .ok (.aload_n 1, 1) := by decide +kernel
theorem dX0_becomeSlice_18 : decode cX0_becomeSlice 18 = .ok (.getfield 15, 3) := by decide +kernel
theorem dX0_becomeSlice_21 : decode cX0_becomeSlice 21 = .ok (.putfield 15, 3) := by decide +kernel
theorem dX0_becomeSlice_24 : decode cX0_becomeSlice 24 = .ok (.aload_n 0, 1) := by decide +kernel
theorem dX0_becomeSlice_25 : decode cX0_becomeSlice 25 = .ok (.aload_n 1, 1) := by decide +kernel
theorem dX0_becomeSlice_26 : decode cX0_becomeSlice 26 = .ok (.getfield 32, 3) := by decide +kernel
theorem dX0_becomeSlice_29 : decode cX0_becomeSlice 29 = .ok (.iload_n 2, 1) := by decide +kernel
theorem dX0_becomeSlice_30 : decode cX0_becomeSlice 30 = .ok (.iadd, 1) := by decide +kernel
theorem dX0_becomeSlice_31 : decode cX0_becomeSlice 31 = .ok (.putfield 32, 3) := by decide +kernel
theorem dX0_becomeSlice_34 : decode cX0_becomeSlice 34 = .ok (.aload_n 0, 1) := by decide +kernel
theorem dX0_becomeSlice_35 : decode cX0_becomeSlice 35 = .ok (.iload_n 3, 1) := by decide +kernel
theorem dX0_becomeSlice_36 : decode cX0_becomeSlice 36 = .ok (.putfield 29, 3) := by decide +kernel
theorem dX0_becomeSlice_39 : decode cX0_becomeSlice 39 = .ok (.aload_n 0, 1) := by decide +kernel
theorem dX0_becomeSlice_40 : decode cX0_becomeSlice 40 = .ok (.iconst 0, 1) := by decide +kernel
theorem dX0_becomeSlice_41 : decode cX0_becomeSlice 41 = .ok (.iload_n 3, 1) := by decide +kernel
theorem dX0_becomeSlice_42 : decode cX0_becomeSlice 42 = .ok (.invokevirtual 39, 3) := by decide +kernel
theorem dX0_becomeSlice_45 : decode cX0_becomeSlice 45 = .ok (.return_, 1) := by decide +kernel
theorem dX0_becomeDuplicate_0 : decode cX0_becomeDuplicate 0 = .ok (.aload_n 0, 1) := by decide +kernel
theorem dX0_becomeDuplicate_1 : decode cX0_becomeDuplicate 1 = .ok (.aload_n 1, 1) := by decide +kernel
theorem dX0_becomeDuplicate_2 : decode cX0_becomeDuplicate 2 = .ok (.getfield 9, 3) := by decide +kernel
theorem dX0_becomeDuplicate_5 : decode cX0_becomeDuplicate 5 = .ok (.putfield 9, 3) := by decide +kernel
theorem dX0_becomeDuplicate_8 : decode cX0_becomeDuplicate 8 = .ok (.aload_n 0, 1) := by decide +kernel
theorem dX0_becomeDuplicate_9 : decode cX0_becomeDuplicate 9 = .ok (.aload_n 1, 1) := by decide +kernel
theorem dX0_becomeDuplicate_10 : decode cX0_becomeDuplicate 10 = .ok (.getfield 35, 3) := by decide +kernel
theorem dX0_becomeDuplicate_13 : decode cX0_becomeDuplicate 13 = .ok (.putfield 35, 3) := by decide +kernel
theorem dX0_becomeDuplicate_16 : decode cX0_becomeDuplicate 16 = .ok (.aload_n 0, 1) := by decide +kernel
theorem dX0_becomeDuplicate_17 : decode cX0_becomeDuplicate 17 = .ok (.aload_n 1, 1) := by decide +kernel
theorem dX0_becomeDuplicate_18 : decode cX0_becomeDuplicate 18 = .ok (.getfield 15, 3) := by decide +kernel
theorem dX0_becomeDuplicate_21 : decode cX0_becomeDuplicate 21 = .ok (.putfield 15, 3) := by decide +kernel
theorem dX0_becomeDuplicate_24 : decode cX0_becomeDuplicate 24 = .ok (.aload_n 0, 1) := by decide +kernel
theorem dX0_becomeDuplicate_25 : decode cX0_becomeDuplicate 25 = .ok (.aload_n 1, 1) := by decide +kernel
theorem dX0_becomeDuplicate_26 : decode cX0_becomeDuplicate 26 = .ok (.getfield 32, 3) := by decide +kernel
theorem dX0_becomeDuplicate_29 : decode cX0_becomeDuplicate 29 = .ok (.putfield 32, 3) := by decide +kernel
theorem dX0_becomeDuplicate_32 : decode cX0_becomeDuplicate 32 = .ok (.aload_n 0, 1) := by decide +kernel
theorem dX0_becomeDuplicate_33 : decode cX0_becomeDuplicate 33 = .ok (.aload_n 1, 1) := by decide +kernel
theorem dX0_becomeDuplicate_34 : decode cX0_becomeDuplicate 34 = .ok (.getfield 29, 3) := by decide +kernel
theorem dX0_becomeDuplicate_37 : decode cX0_becomeDuplicate 37 = .ok (.putfield 29, 3) := by decide +kernel
theorem dX0_becomeDuplicate_40 : decode cX0_becomeDuplicate 40 = .ok (.aload_n 0, 1) := by decide +kernel
theorem dX0_becomeDuplicate_41 : decode cX0_becomeDuplicate 41 = .ok (.aload_n 1, 1) := by decide +kernel
theorem dX0_becomeDuplicate_42 : decode cX0_becomeDuplicate 42 = .ok (.getfield 26, 3) := by decide +kernel
theorem dX0_becomeDuplicate_45 : decode cX0_becomeDuplicate 45 = .ok (.putfield 26, 3) := by decide +kernel
theorem dX0_becomeDuplicate_48 : decode cX0_becomeDuplicate 48 = .ok (.aload_n 0, 1) := by decide +kernel
theorem dX0_becomeDuplicate_49 : decode cX0_becomeDuplicate 49 = .ok (.aload_n 1, 1) := by decide +kernel
theorem dX0_becomeDuplicate_50 : decode cX0_becomeDuplicate 50 = .ok (.getfield 23, 3) := by decide +kernel
theorem dX0_becomeDuplicate_53 : decode cX0_becomeDuplicate 53 = .ok (.putfield 23, 3) := by decide +kernel
theorem dX0_becomeDuplicate_56 : decode cX0_becomeDuplicate 56 = .ok (.aload_n 0, 1) := by decide +kernel
theorem dX0_becomeDuplicate_57 : decode cX0_becomeDuplicate 57 = .ok (.aload_n 1, 1) := by decide +kernel
theorem dX0_becomeDuplicate_58 : decode cX0_becomeDuplicate 58 = .ok (.getfield 19, 3) := by decide +kernel
theorem dX0_becomeDuplicate_61 : decode cX0_becomeDuplicate 61 = .ok (.putfield 19, 3) := by decide +kernel
theorem dX0_becomeDuplicate_64 : decode cX0_becomeDuplicate 64 = .ok (.return_, 1) := by decide +kernel
theorem dX0_moveTo_0 : decode cX0_moveTo 0 = .ok (.aload_n 0, 1) := by decide +kernel
theorem dX0_moveTo_1 : decode cX0_moveTo 1 = .ok (.iload_n 1, 1) := by decide +kernel
theorem dX0_moveTo_2 : decode cX0_moveTo 2 = .ok (.putfield 26, 3) := by decide +kernel
theorem dX0_moveTo_5 : decode cX0_moveTo 5 = .ok (.aload_n 0, 1) := by decide +kernel
theorem dX0_moveTo_6 : decode cX0_moveTo 6 = .ok (.iload_n 2, 1) := by decide +kernel
theorem dX0_moveTo_7 : decode cX0_moveTo 7 = .ok (.putfield 23, 3) := by decide +kernel
theorem dX0_moveTo_10 : decode cX0_moveTo 10 = .ok (.aload_n 0, 1) := by decide +kernel
theorem dX0_moveTo_11 : decode cX0_moveTo 11 = .ok (.iconst (-1), 1) := by decide +kernel
theorem dX0_moveTo_12 : decode cX0_moveTo 12 = .ok (.putfield 19, 3) := by decide +kernel
theorem dX0_moveTo_15 : decode cX0_moveTo 15 = .ok (.return_, 1) := by decide +kernel
theorem dX0_dropMarkBeyond_0 : decode cX0_dropMarkBeyond 0 = .ok (.aload_n 0, 1) := by decide +kernel
theorem dX0_dropMarkBeyond_1 : decode cX0_dropMarkBeyond 1 = .ok (.getfield 19, 3) := by decide +kernel
theorem dX0_dropMarkBeyond_4 : decode cX0_dropMarkBeyond 4 = .ok (.iload_n 1, 1) := by decide +kernel
theorem dX0_dropMarkBeyond_5 : decode cX0_dropMarkBeyond 5 = .ok (.if_icmp .le 8, 3) := by decide +kernel
theorem dX0_dropMarkBeyond_8 : decode cX0_dropMarkBeyond 8 = .ok (.aload_n 0, 1) := by decide +kernel
theorem dX0_dropMarkBeyond_9 : decode cX0_dropMarkBeyond 9 = .ok (.iconst (-1), 1) := by decide +kernel
theorem dX0_dropMarkBeyond_10 : decode cX0_dropMarkBeyond 10 = .ok (.putfield 19, 3) := by decide +kernel
theorem dX0_dropMarkBeyond_13 : decode cX0_dropMarkBeyond 13 = .ok (.return_, 1) := by decide +kernel
theorem dX0_valueAt_0 : decode cX0_valueAt 0 = .ok (.aload_n 0, 1) := by decide +kernel
theorem dX0_valueAt_1 : decode cX0_valueAt 1 = .ok (.getfield 15, 3) := by decide +kernel
theorem dX0_valueAt_4 : decode cX0_valueAt 4 = .ok (.aload_n 0, 1) := by decide +kernel
theorem dX0_valueAt_5 : decode cX0_valueAt 5 = .ok (.getfield 32, 3) := by decide +kernel
theorem dX0_valueAt_8 : decode cX0_valueAt 8 = .ok (.iload_n 1, 1) := by decide +kernel
theorem dX0_valueAt_9 : decode cX0_valueAt 9 = .ok (.iadd, 1) := by decide +kernel
theorem dX0_valueAt_10 : decode cX0_valueAt 10 = .ok (.laload, 1) := by decide +kernel
theorem dX0_valueAt_11 : decode cX0_valueAt 11 = .ok (.lreturn, 1) := by decide +kernel
set_option maxRecDepth 20000 in
theorem ggX0_changeAt_X0_cut : GoodIn wsX0_changeAt wsX0_cut := goodIn_r _ [7, 8, 9, 10, 11, 12, 13, 14, 15, 16, 17] (by decide +kernel) (by decide +kernel)
set_option maxRecDepth 20000 in
theorem gX0_changeAt_X0_cut : GoodIn wsX0_changeAt (wsV RX0 43 RX0 yX0_cut wsX0_cut) := goodIn_app (goodIn_of _ (by decide +kernel)) ggX0_changeAt_X0_cut
theorem dX0_changeAt_0 : decode cX0_changeAt 0 = .ok (.aload_n 0, 1) := by decide +kernel
theorem dX0_changeAt_1 : decode cX0_changeAt 1 = .ok (.getfield 15, 3) := by decide +kernel
theorem dX0_changeAt_4 : decode cX0_changeAt 4 = .ok (.aload_n 0, 1) := by decide +kernel
theorem dX0_changeAt_5 : decode cX0_changeAt 5 = .ok (.getfield 32, 3) := by decide +kernel
theorem dX0_changeAt_8 : decode cX0_changeAt 8 = .ok (.iload_n 1, 1) := by decide +kernel
theorem dX0_changeAt_9 : decode cX0_changeAt 9 = .ok (.iadd, 1) := by decide +kernel
theorem dX0_changeAt_10 : decode cX0_changeAt 10 = .ok (.aload_n 0, 1) := by decide +kernel
theorem dX0_changeAt_11 : decode cX0_changeAt 11 = .ok (.lload_n 2, 1) := by decide +kernel
theorem dX0_changeAt_12 : decode cX0_changeAt 12 = .ok (.invokevirtual 43, 3) := by decide +kernel
theorem dX0_changeAt_15 : decode cX0_changeAt 15 = .ok (.lastore, 1) := by decide +kernel
theorem dX0_changeAt_16 : decode cX0_changeAt 16 = .ok (.return_, 1) := by decide +kernel
set_option maxRecDepth 20000 in
theorem ggX0_takeNext_X0_valueAt : GoodIn wsX0_takeNext wsX0_valueAt := goodIn_ca (goodIn_r _ [6, 7, 8, 9, 10, 11, 12, 13, 14, 15, 16] (by decide +kernel) (by decide +kernel)) (goodIn_sub (fun _ h => List.mem_cons_of_mem _ (List.mem_append_right _ h)) (by decide +kernel))
set_option maxRecDepth 20000 in
theorem gX0_takeNext_X0_valueAt : GoodIn wsX0_takeNext (wsV RX0 47 RX0 yX0_valueAt wsX0_valueAt) := goodIn_app (goodIn_of _ (by decide +kernel)) ggX0_takeNext_X0_valueAt
theorem dX0_takeNext_0 : decode cX0_takeNext 0 = .ok (.aload_n 0, 1) := by decide +kernel
theorem dX0_takeNext_1 : decode cX0_takeNext 1 = .ok (.aload_n 0, 1) := by decide +kernel
theorem dX0_takeNext_2 : decode cX0_takeNext 2 = .ok (.getfield 26, 3) := by decide +kernel
theorem dX0_takeNext_5 : decode cX0_takeNext 5 = .ok (.invokevirtual 47, 3) := by decide +kernel
theorem dX0_takeNext_8 : decode cX0_takeNext 8 = .ok (.lstore_n 1, 1) := by decide +kernel
theorem dX0_takeNext_9 : decode cX0_takeNext 9 = .ok (.aload_n 0, 1) := by decide +kernel
theorem dX0_takeNext_10 : decode cX0_takeNext 10 = .ok (.dup, 1) := by decide +kernel
theorem dX0_takeNext_11 : decode cX0_takeNext 11 = .ok (.getfield 26, 3) := by decide +kernel
theorem dX0_takeNext_14 : decode cX0_takeNext 14 = .ok (.iconst 1, 1) := by decide +kernel
theorem dX0_takeNext_15 : decode cX0_takeNext 15 = .ok (.iadd, 1) := by decide +kernel
theorem dX0_takeNext_16 : decode cX0_takeNext 16 = .ok (.putfield 26, 3) := by decide +kernel
theorem dX0_takeNext_19 : decode cX0_takeNext 19 = .ok (.lload_n 1, 1) := by decide +kernel
theorem dX0_takeNext_20 : decode cX0_takeNext 20 = .ok (.lreturn, 1) := by decide +kernel
set_option maxRecDepth 20000 in
theorem ggX0_putNext_X0_changeAt : GoodIn wsX0_putNext wsX0_changeAt := goodIn_ca (goodIn_r _ [6, 7, 8, 9, 10, 11, 5, 12, 13, 14, 15, 16, 17, 18, 19, 20, 21, 22] (by decide +kernel) (by decide +kernel)) (goodIn_sub (fun _ h => List.mem_cons_of_mem _ (List.mem_append_right _ h)) (by decide +kernel))
set_option maxRecDepth 20000 in
theorem gX0_putNext_X0_changeAt : GoodIn wsX0_putNext (wsV RX0 51 RX0 yX0_changeAt wsX0_changeAt) := goodIn_app (goodIn_of _ (by decide +kernel)) ggX0_putNext_X0_changeAt
theorem dX0_putNext_0 : decode cX0_putNext 0 = .ok (.aload_n 0, 1) := by decide +kernel
theorem dX0_putNext_1 : decode cX0_putNext 1 = .ok (.aload_n 0, 1) := by decide +kernel
theorem dX0_putNext_2 : decode cX0_putNext 2 = .ok (.getfield 26, 3) := by decide +kernel
theorem dX0_putNext_5 : decode cX0_putNext 5 = .ok (.lload_n 1, 1) := by decide +kernel
theorem dX0_putNext_6 : decode cX0_putNext 6 = .ok (.invokevirtual 51, 3) := by decide +kernel
theorem dX0_putNext_9 : decode cX0_putNext 9 = .ok (.aload_n 0, 1) := by decide +kernel
theorem dX0_putNext_10 : decode cX0_putNext 10 = .ok (.dup, 1) := by decide +kernel
theorem dX0_putNext_11 : decode cX0_putNext 11 = .ok (.getfield 26, 3) := by decide +kernel
theorem dX0_putNext_14 : decode cX0_putNext 14 = .ok (.iconst 1, 1) := by decide +kernel
theorem dX0_putNext_15 : decode cX0_putNext 15 = .ok (.iadd, 1) := by decide +kernel
theorem dX0_putNext_16 : decode cX0_putNext 16 = .ok (.putfield 26, 3) := by decide +kernel
theorem dX0_putNext_19 : decode cX0_putNext 19 = .ok (.return_, 1) := by decide +kernel
theorem dX0_cut_0 : decode cX0_cut 0 = .ok (.aload_n 0, 1) := by decide +kernel
theorem dX0_cut_1 : decode cX0_cut 1 = .ok (.getfield 9, 3) := by decide +kernel
theorem dX0_cut_4 : decode cX0_cut 4 = .ok (.bipush 105, 2) := by decide +kernel
theorem dX0_cut_6 : decode cX0_cut 6 = .ok (.if_icmp .ne 7, 3) := by decide +kernel
theorem dX0_cut_9 : decode cX0_cut 9 = .ok (.lload_n 1, 1) := by decide +kernel
theorem dX0_cut_10 : decode cX0_cut 10 = .ok (.l2i, 1) := by decide +kernel
theorem dX0_cut_11 : decode cX0_cut 11 = .ok (.i2l, 1) := by decide +kernel
theorem dX0_cut_12 : decode cX0_cut 12 = .ok (.lreturn, 1) := by decide +kernel
theorem dX0_cut_13 : decode cX0_cut 13 = .ok (.aload_n 0, 1) := by decide +kernel
theorem dX0_cut_14 : decode cX0_cut 14 = .ok (.getfield 9, 3) := by decide +kernel
theorem dX0_cut_17 : decode cX0_cut 17 = .ok (.bipush 99, 2) := by decide +kernel
theorem dX0_cut_19 : decode cX0_cut 19 = .ok (.if_icmp .ne 9, 3) := by decide +kernel
theorem dX0_cut_22 : decode cX0_cut 22 = .ok (.lload_n 1, 1) := by decide +kernel
theorem dX0_cut_23 : decode cX0_cut 23 = .ok (.ldc2_w 55, 3) := by decide +kernel
theorem dX0_cut_26 : decode cX0_cut 26 = .ok (.land, 1) := by decide +kernel
theorem dX0_cut_27 : decode cX0_cut 27 = .ok (.lreturn, 1) := by decide +kernel
theorem dX0_cut_28 : decode cX0_cut 28 = .ok (.aload_n 0, 1) := by decide +kernel
theorem dX0_cut_29 : decode cX0_cut 29 = .ok (.getfield 9, 3) := by decide +kernel
theorem dX0_cut_32 : decode cX0_cut 32 = .ok (.bipush 115, 2) := by decide +kernel
theorem dX0_cut_34 : decode cX0_cut 34 = .ok (.if_icmp .ne 8, 3) := by decide +kernel
theorem dX0_cut_37 : decode cX0_cut 37 = .ok (.lload_n 1, 1) := by decide +kernel
theorem dX0_cut_38 : decode cX0_cut 38 = .ok (.l2i, 1) := by decide +kernel
theorem dX0_cut_39 : decode cX0_cut 39 = .ok (.i2s, 1) := by decide +kernel
theorem dX0_cut_40 : decode cX0_cut 40 = .ok (.i2l, 1) := by decide +kernel
theorem dX0_cut_41 : decode cX0_cut 41 = .ok (.lreturn, 1) := by decide +kernel
theorem dX0_cut_42 : decode cX0_cut 42 = .ok (.lload_n 1, 1) := by decide +kernel
theorem dX0_cut_43 : decode cX0_cut 43 = .ok (.lreturn, 1) := by decide +kernel
set_option maxRecDepth 20000 in
theorem ggX0_sumOver_X0_valueAt : GoodIn wsX0_sumOver wsX0_valueAt := goodIn_ca (goodIn_r _ [6, 7, 8, 13, 14, 15, 16, 17, 18, 19, 20] (by decide +kernel) (by decide +kernel)) (goodIn_sub (fun _ h => List.mem_cons_of_mem _ (List.mem_append_right _ h)) (by decide +kernel))
set_option maxRecDepth 20000 in
theorem gX0_sumOver_X0_valueAt : GoodIn wsX0_sumOver (wsV RX0 47 RX0 yX0_valueAt wsX0_valueAt) := goodIn_app (goodIn_of _ (by decide +kernel)) ggX0_sumOver_X0_valueAt
set_option maxRecDepth 20000 in
theorem ggX0_sumOver_X1_summed : GoodIn wsX0_sumOver wsX1_summed := goodIn_r _ [11, 12] (by decide +kernel) (by decide +kernel)
set_option maxRecDepth 20000 in
theorem gX0_sumOver_X1_summed_n57 : GoodIn wsX0_sumOver (wsX1_summed) := ggX0_sumOver_X1_summed
theorem dX0_sumOver_0 : decode cX0_sumOver 0 = .ok (.lload_n 1, 1) := by decide +kernel
theorem dX0_sumOver_1 : decode cX0_sumOver 1 = .ok (.lstore 4, 2) := by decide +kernel
theorem dX0_sumOver_3 : decode cX0_sumOver 3 = .ok (.iload_n 3, 1) := by decide +kernel
theorem dX0_sumOver_4 : decode cX0_sumOver 4 = .ok (.istore 6, 2) := by decide +kernel
theorem dX0_sumOver_6 : decode cX0_sumOver 6 = .ok (.iload 6, 2) := by decide +kernel
theorem dX0_sumOver_8 : decode cX0_sumOver 8 = .ok (.aload_n 0, 1) := by decide +kernel
theorem dX0_sumOver_9 : decode cX0_sumOver 9 = .ok (.getfield 23, 3) := by decide +kernel
theorem dX0_sumOver_12 : decode cX0_sumOver 12 = .ok (.if_icmp .ge 22, 3) := by decide +kernel
theorem dX0_sumOver_15 : decode cX0_sumOver 15 = .ok (.lload 4, 2) := by decide +kernel
theorem dX0_sumOver_17 : decode cX0_sumOver 17 = .ok (.aload_n 0, 1) := by decide +kernel
theorem dX0_sumOver_18 : decode cX0_sumOver 18 = .ok (.iload 6, 2) := by decide +kernel
theorem dX0_sumOver_20 : decode cX0_sumOver 20 = .ok (.invokevirtual 47, 3) := by decide +kernel
theorem dX0_sumOver_23 : decode cX0_sumOver 23 = .ok (.invokestatic 57, 3) := by decide +kernel
theorem dX0_sumOver_26 : decode cX0_sumOver 26 = .ok (.lstore 4, 2) := by decide +kernel
theorem dX0_sumOver_28 : decode cX0_sumOver 28 = .ok (.iinc 6 1, 3) := by decide +kernel
theorem dX0_sumOver_31 : decode cX0_sumOver 31 = .ok (.goto (-25), 3) := by decide +kernel
theorem dX0_sumOver_34 : decode cX0_sumOver 34 = .ok (.lload 4, 2) := by decide +kernel
theorem dX0_sumOver_36 : decode cX0_sumOver 36 = .ok (.lreturn, 1) := by decide +kernel
set_option maxRecDepth 20000 in
theorem ggX0_sumOfAll_X1_summed : GoodIn wsX0_sumOfAll wsX1_summed := goodIn_r _ [7, 8] (by decide +kernel) (by decide +kernel)
set_option maxRecDepth 20000 in
theorem gX0_sumOfAll_X1_summed_n57 : GoodIn wsX0_sumOfAll (wsX1_summed) := ggX0_sumOfAll_X1_summed
set_option maxRecDepth 20000 in
theorem ggX0_sumOfAll_X0_isThere : GoodIn wsX0_sumOfAll wsX0_isThere := goodIn_r _ [13, 1, 24, 25, 26, 27, 28, 29, 30, 31] (by decide +kernel) (by decide +kernel)
set_option maxRecDepth 20000 in
theorem gX0_sumOfAll_X0_isThere : GoodIn wsX0_sumOfAll (wsV RX0 61 RX0 yX0_isThere wsX0_isThere) := goodIn_app (goodIn_of _ (by decide +kernel)) ggX0_sumOfAll_X0_isThere
set_option maxRecDepth 20000 in
theorem ggX0_sumOfAll_X0_sumOver : GoodIn wsX0_sumOfAll wsX0_sumOver := goodIn_ca (goodIn_r _ [17, 3, 18, 19, 20, 12, 21, 22, 23, 5, 6, 7, 8, 24, 25, 26, 27, 28, 29, 30, 31] (by decide +kernel) (by decide +kernel)) (goodIn_sub (fun _ h => List.mem_cons_of_mem _ (List.mem_append_right _ h)) (by decide +kernel))
set_option maxRecDepth 20000 in
theorem gX0_sumOfAll_X0_sumOver : GoodIn wsX0_sumOfAll (wsV RX0 65 RX0 yX0_sumOver wsX0_sumOver) := goodIn_app (goodIn_of _ (by decide +kernel)) ggX0_sumOfAll_X0_sumOver
theorem dX0_sumOfAll_0 : decode cX0_sumOfAll 0 = .ok (.lload_n 1, 1) := by decide +kernel
theorem dX0_sumOfAll_1 : decode cX0_sumOfAll 1 = .ok (.aload_n 0, 1) := by decide +kernel
theorem dX0_sumOfAll_2 : decode cX0_sumOfAll 2 = .ok (.getfield 9, 3) := by decide +kernel
theorem dX0_sumOfAll_5 : decode cX0_sumOfAll 5 = .ok (.i2l, 1) := by decide +kernel
theorem dX0_sumOfAll_6 : decode cX0_sumOfAll 6 = .ok (.invokestatic 57, 3) := by decide +kernel
theorem dX0_sumOfAll_9 : decode cX0_sumOfAll 9 = .ok (.lstore_n 3, 1) := by decide +kernel
theorem dX0_sumOfAll_10 : decode cX0_sumOfAll 10 = .ok (.aload_n 0, 1) := by decide +kernel
theorem dX0_sumOfAll_11 : decode cX0_sumOfAll 11 = .ok (.invokevirtual 61, 3) := by decide +kernel
theorem dX0_sumOfAll_14 : decode cX0_sumOfAll 14 = .ok (.ifCond .ne 5, 3) := by decide +kernel
theorem dX0_sumOfAll_17 : decode cX0_sumOfAll 17 = .ok (.lload_n 3, 1) := by decide +kernel
theorem dX0_sumOfAll_18 : decode cX0_sumOfAll 18 = .ok (.lreturn, 1) := by decide +kernel
theorem dX0_sumOfAll_19 : decode cX0_sumOfAll 19 = .ok (.lload_n 3, 1) := by decide +kernel
theorem dX0_sumOfAll_20 : decode cX0_sumOfAll 20 = .ok (.aload_n 0, 1) := by decide +kernel
theorem dX0_sumOfAll_21 : decode cX0_sumOfAll 21 = .ok (.getfield 26, 3) := by decide +kernel
theorem dX0_sumOfAll_24 : decode cX0_sumOfAll 24 = .ok (.i2l, 1) := by decide +kernel
theorem dX0_sumOfAll_25 : decode cX0_sumOfAll 25 = .ok (.invokestatic 57, 3) := by decide +kernel
theorem dX0_sumOfAll_28 : decode cX0_sumOfAll 28 = .ok (.lstore_n 3, 1) := by decide +kernel
theorem dX0_sumOfAll_29 : decode cX0_sumOfAll 29 = .ok (.lload_n 3, 1) := by decide +kernel
theorem dX0_sumOfAll_30 : decode cX0_sumOfAll 30 = .ok (.aload_n 0, 1) := by decide +kernel
theorem dX0_sumOfAll_31 : decode cX0_sumOfAll 31 = .ok (.getfield 23, 3) := by decide +kernel
theorem dX0_sumOfAll_34 : decode cX0_sumOfAll 34 = .ok (.i2l, 1) := by decide +kernel
theorem dX0_sumOfAll_35 : decode cX0_sumOfAll 35 = .ok (.invokestatic 57, 3) := by decide +kernel
theorem dX0_sumOfAll_38 : decode cX0_sumOfAll 38 = .ok (.lstore_n 3, 1) := by decide +kernel
theorem dX0_sumOfAll_39 : decode cX0_sumOfAll 39 = .ok (.lload_n 3, 1) := by decide +kernel
theorem dX0_sumOfAll_40 : decode cX0_sumOfAll 40 = .ok (.aload_n 0, 1) := by decide +kernel
theorem dX0_sumOfAll_41 : decode cX0_sumOfAll 41 = .ok (.getfield 29, 3) := by decide +kernel
theorem dX0_sumOfAll_44 : decode cX0_sumOfAll 44 = .ok (.i2l, 1) := by decide +kernel
theorem dX0_sumOfAll_45 : decode cX0_sumOfAll 45 = .ok (.invokestatic 57, 3) := by decide +kernel
theorem dX0_sumOfAll_48 : decode cX0_sumOfAll 48 = .ok (.lstore_n 3, 1) := by decide +kernel
theorem dX0_sumOfAll_49 : decode cX0_sumOfAll 49 = .ok (.aload_n 0, 1) := by decide +kernel
theorem dX0_sumOfAll_50 : decode cX0_sumOfAll 50 = .ok (.lload_n 3, 1) := by decide +kernel
theorem dX0_sumOfAll_51 : decode cX0_sumOfAll 51 = .ok (.iconst 0, 1) := by decide +kernel
theorem dX0_sumOfAll_52 : decode cX0_sumOfAll 52 = .ok (.invokevirtual 65, 3) := by decide +kernel
theorem dX0_sumOfAll_55 : decode cX0_sumOfAll 55 = .ok (.lreturn, 1) := by decide +kernel
set_option maxRecDepth 20000 in
theorem ggX1_init_X0_init : GoodIn wsX1_init wsX0_init := goodIn_r _ [15, 16, 2, 3, 17, 5, 18, 19, 24, 25, 26, 27, 28, 29, 30, 31] (by decide +kernel) (by decide +kernel)
set_option maxRecDepth 20000 in
theorem gX1_init_X0_init : GoodIn wsX1_init (wsX0_init) := ggX1_init_X0_init
theorem dX1_init_0 : decode cX1_init 0 = .ok (.aload_n 0, 1) := by decide +kernel
theorem dX1_init_1 : decode cX1_init 1 = .ok (.invokespecial 1, 3) := by decide +kernel
theorem dX1_init_4 : decode cX1_init 4 = .ok (.aload_n 0, 1) := by decide +kernel
theorem dX1_init_5 : decode cX1_init 5 = .ok (.iconst 2, 1) := by decide +kernel
theorem dX1_init_6 : decode cX1_init 6 = .ok (.iconst 0, 1) := by decide +kernel
theorem dX1_init_7 : decode cX1_init 7 = .ok (.multianewarray 9 2, 4) := by decide +kernel
theorem dX1_init_11 : decode cX1_init 11 = .ok (.putfield 11, 3) := by decide +kernel
theorem dX1_init_14 : decode cX1_init 14 = .ok (.aload_n 0, 1) := by decide +kernel
theorem dX1_init_15 : decode cX1_init 15 = .ok (.bipush 8, 2) := by decide +kernel
theorem dX1_init_17 : decode cX1_init 17 = .ok (.anewarray 14, 3) := by decide +kernel
theorem dX1_init_20 : decode cX1_init 20 = .ok (.putfield 16, 3) := by decide +kernel
theorem dX1_init_23 : decode cX1_init 23 = .ok (.iconst 0, 1) := by decide +kernel
theorem dX1_init_24 : decode cX1_init 24 = .ok (.istore_n 1, 1) := by decide +kernel
theorem dX1_init_25 : decode cX1_init 25 = .ok (.iload_n 1, 1) := by decide +kernel
theorem dX1_init_26 : decode cX1_init 26 = .ok (.bipush 8, 2) := by decide +kernel
theorem dX1_init_28 : decode cX1_init 28 = .ok (.if_icmp .ge 22, 3) := by decide +kernel
theorem dX1_init_31 : decode cX1_init 31 = .ok (.aload_n 0, 1) := by decide +kernel
theorem dX1_init_32 : decode cX1_init 32 = .ok (.getfield 16, 3) := by decide +kernel
theorem dX1_init_35 : decode cX1_init 35 = .ok (.iload_n 1, 1) := by decide +kernel
theorem dX1_init_36 : decode cX1_init 36 = .ok (.new 14, 3) := by decide +kernel
theorem dX1_init_39 : decode cX1_init 39 = .ok (.dup, 1) := by decide +kernel
theorem dX1_init_40 : decode cX1_init 40 = .ok (.invokespecial 20, 3) := by decide +kernel
theorem dX1_init_43 : decode cX1_init 43 = .ok (.aastore, 1) := by decide +kernel
theorem dX1_init_44 : decode cX1_init 44 = .ok (.iinc 1 1, 3) := by decide +kernel
theorem dX1_init_47 : decode cX1_init 47 = .ok (.goto (-22), 3) := by decide +kernel
theorem dX1_init_50 : decode cX1_init 50 = .ok (.aload_n 0, 1) := by decide +kernel
theorem dX1_init_51 : decode cX1_init 51 = .ok (.new 14, 3) := by decide +kernel
theorem dX1_init_54 : decode cX1_init 54 = .ok (.dup, 1) := by decide +kernel
theorem dX1_init_55 : decode cX1_init 55 = .ok (.invokespecial 20, 3) := by decide +kernel
theorem dX1_init_58 : decode cX1_init 58 = .ok (.putfield 21, 3) := by decide +kernel
theorem dX1_init_61 : decode cX1_init 61 = .ok (.aload_n 0, 1) := by decide +kernel
theorem dX1_init_62 : decode cX1_init 62 = .ok (.new 14, 3) := by decide +kernel
theorem dX1_init_65 : decode cX1_init 65 = .ok (.dup, 1) := by decide +kernel
theorem dX1_init_66 : decode cX1_init 66 = .ok (.invokespecial 20, 3) := by decide +kernel
theorem dX1_init_69 : decode cX1_init 69 = .ok (.putfield 25, 3) := by decide +kernel
theorem dX1_init_72 : decode cX1_init 72 = .ok (.return_, 1) := by decide +kernel
set_option maxRecDepth 20000 in
theorem ggX1_make_X1_rowOf : GoodIn wsX1_make wsX1_rowOf := goodIn_ca (goodIn_r _ [7, 1, 8, 9, 6, 10, 11, 12, 18, 19, 20, 21] (by decide +kernel) (by decide +kernel)) (goodIn_sub (fun _ h => List.mem_cons_of_mem _ (List.mem_append_left _ (List.mem_append_right _ h))) (by decide +kernel))
set_option maxRecDepth 20000 in
theorem gX1_make_X1_rowOf : GoodIn wsX1_make (wsV RX1 28 RX1 yX1_rowOf wsX1_rowOf) := goodIn_app (goodIn_of _ (by decide +kernel)) ggX1_make_X1_rowOf
set_option maxRecDepth 20000 in
theorem ggX1_make_X1_checkLength : GoodIn wsX1_make wsX1_checkLength := goodIn_ca (goodIn_r _ [15, 16, 17] (by decide +kernel) (by decide +kernel)) (goodIn_sub (fun _ h => List.mem_cons_of_mem _ (List.mem_append_right _ h)) (by decide +kernel))
set_option maxRecDepth 20000 in
theorem gX1_make_X1_checkLength : GoodIn wsX1_make (va_wsS RX1 32 yX1_checkLength wsX1_checkLength) := goodIn_app (goodIn_of _ (by decide +kernel)) ggX1_make_X1_checkLength
theorem dX1_make_0 : decode cX1_make 0 = .ok (.aload_n 0, 1) := by decide +kernel
theorem dX1_make_1 : decode cX1_make 1 = .ok (.iload_n 1, 1) := by decide +kernel
theorem dX1_make_2 : decode cX1_make 2 = .ok (.invokevirtual 28, 3) := by decide +kernel
theorem dX1_make_5 : decode cX1_make 5 = .ok (.astore_n 3, 1) := by decide +kernel
theorem dX1_make_6 : decode cX1_make 6 = .ok (.iload_n 2, 1) := by decide +kernel
theorem dX1_make_7 : decode cX1_make 7 = .ok (.invokestatic 32, 3) := by decide +kernel
theorem dX1_make_10 : decode cX1_make 10 = .ok (.aload_n 0, 1) := by decide +kernel
theorem dX1_make_11 : decode cX1_make 11 = .ok (.getfield 11, 3) := by decide +kernel
theorem dX1_make_14 : decode cX1_make 14 = .ok (.iload_n 1, 1) := by decide +kernel
theorem dX1_make_15 : decode cX1_make 15 = .ok (.iload_n 2, 1) := by decide +kernel
theorem dX1_make_16 : decode cX1_make 16 = .ok (.newarray .long, 2) := by decide +kernel
theorem dX1_make_18 : decode cX1_make 18 = .ok (.aastore, 1) := by decide +kernel
theorem dX1_make_19 : decode cX1_make 19 = .ok (.aload_n 3, 1) := by decide +kernel
theorem dX1_make_20 : decode cX1_make 20 = .ok (.arraylength, 1) := by decide +kernel
theorem dX1_make_21 : decode cX1_make 21 = .ok (.ireturn, 1) := by decide +kernel
set_option maxRecDepth 20000 in
theorem ggX1_rowAt_X1_rowOf : GoodIn wsX1_rowAt wsX1_rowOf := goodIn_ca (goodIn_r _ [5, 6, 7, 8, 4, 9, 10, 11, 12, 13, 14, 15] (by decide +kernel) (by decide +kernel)) (goodIn_sub (fun _ h => List.mem_cons_of_mem _ (List.mem_append_right _ h)) (by decide +kernel))
set_option maxRecDepth 20000 in
theorem gX1_rowAt_X1_rowOf : GoodIn wsX1_rowAt (wsV RX1 28 RX1 yX1_rowOf wsX1_rowOf) := goodIn_app (goodIn_of _ (by decide +kernel)) ggX1_rowAt_X1_rowOf
set_option maxRecDepth 20000 in
theorem ggX1_rowAt_X1_checkIndex : GoodIn wsX1_rowAt wsX1_checkIndex := goodIn_ca (goodIn_r _ [9, 10, 11] (by decide +kernel) (by decide +kernel)) (goodIn_sub (fun _ h => List.mem_cons_of_mem _ (List.mem_append_right _ h)) (by decide +kernel))
set_option maxRecDepth 20000 in
theorem gX1_rowAt_X1_checkIndex : GoodIn wsX1_rowAt (va_wsS RX1 36 yX1_checkIndex wsX1_checkIndex) := goodIn_app (goodIn_of _ (by decide +kernel)) ggX1_rowAt_X1_checkIndex
theorem dX1_rowAt_0 : decode cX1_rowAt 0 = .ok (.aload_n 0, 1) := by decide +kernel
theorem dX1_rowAt_1 : decode cX1_rowAt 1 = .ok (.iload_n 1, 1) := by decide +kernel
theorem dX1_rowAt_2 : decode cX1_rowAt 2 = .ok (.invokevirtual 28, 3) := by decide +kernel
theorem dX1_rowAt_5 : decode cX1_rowAt 5 = .ok (.astore_n 3, 1) := by decide +kernel
theorem dX1_rowAt_6 : decode cX1_rowAt 6 = .ok (.iload_n 2, 1) := by decide +kernel
theorem dX1_rowAt_7 : decode cX1_rowAt 7 = .ok (.aload_n 3, 1) := by decide +kernel
theorem dX1_rowAt_8 : decode cX1_rowAt 8 = .ok (.arraylength, 1) := by decide +kernel
theorem dX1_rowAt_9 : decode cX1_rowAt 9 = .ok (.invokestatic 36, 3) := by decide +kernel
theorem dX1_rowAt_12 : decode cX1_rowAt 12 = .ok (.aload_n 3, 1) := by decide +kernel
theorem dX1_rowAt_13 : decode cX1_rowAt 13 = .ok (.iload_n 2, 1) := by decide +kernel
theorem dX1_rowAt_14 : decode cX1_rowAt 14 = .ok (.laload, 1) := by decide +kernel
theorem dX1_rowAt_15 : decode cX1_rowAt 15 = .ok (.l2i, 1) := by decide +kernel
theorem dX1_rowAt_16 : decode cX1_rowAt 16 = .ok (.ireturn, 1) := by decide +kernel
set_option maxRecDepth 20000 in
theorem ggX1_rowPut_X1_rowOf : GoodIn wsX1_rowPut wsX1_rowOf := goodIn_ca (goodIn_r _ [5, 6, 7, 8, 4, 9, 10, 11, 12, 13, 14, 15] (by decide +kernel) (by decide +kernel)) (goodIn_sub (fun _ h => List.mem_cons_of_mem _ (List.mem_append_right _ h)) (by decide +kernel))
set_option maxRecDepth 20000 in
theorem gX1_rowPut_X1_rowOf : GoodIn wsX1_rowPut (wsV RX1 28 RX1 yX1_rowOf wsX1_rowOf) := goodIn_app (goodIn_of _ (by decide +kernel)) ggX1_rowPut_X1_rowOf
set_option maxRecDepth 20000 in
theorem ggX1_rowPut_X1_checkIndex : GoodIn wsX1_rowPut wsX1_checkIndex := goodIn_ca (goodIn_r _ [9, 10, 11] (by decide +kernel) (by decide +kernel)) (goodIn_sub (fun _ h => List.mem_cons_of_mem _ (List.mem_append_right _ h)) (by decide +kernel))
set_option maxRecDepth 20000 in
theorem gX1_rowPut_X1_checkIndex : GoodIn wsX1_rowPut (va_wsS RX1 36 yX1_checkIndex wsX1_checkIndex) := goodIn_app (goodIn_of _ (by decide +kernel)) ggX1_rowPut_X1_checkIndex
theorem dX1_rowPut_0 : decode cX1_rowPut 0 = .ok (.aload_n 0, 1) := by decide +kernel
theorem dX1_rowPut_1 : decode cX1_rowPut 1 = .ok (.iload_n 1, 1) := by decide +kernel
theorem dX1_rowPut_2 : decode cX1_rowPut 2 = .ok (.invokevirtual 28, 3) := by decide +kernel
theorem dX1_rowPut_5 : decode cX1_rowPut 5 = .ok (.astore 4, 2) := by decide +kernel
theorem dX1_rowPut_7 : decode cX1_rowPut 7 = .ok (.iload_n 2, 1) := by decide +kernel
theorem dX1_rowPut_8 : decode cX1_rowPut 8 = .ok (.aload 4, 2) := by decide +kernel
theorem dX1_rowPut_10 : decode cX1_rowPut 10 = .ok (.arraylength, 1) := by decide +kernel
theorem dX1_rowPut_11 : decode cX1_rowPut 11 = .ok (.invokestatic 36, 3) := by decide +kernel
theorem dX1_rowPut_14 : decode cX1_rowPut 14 = .ok (.aload 4, 2) := by decide +kernel
theorem dX1_rowPut_16 : decode cX1_rowPut 16 = .ok (.iload_n 2, 1) := by decide +kernel
theorem dX1_rowPut_17 : decode cX1_rowPut 17 = .ok (.laload, 1) := by decide +kernel
theorem dX1_rowPut_18 : decode cX1_rowPut 18 = .ok (.l2i, 1) := by decide +kernel
theorem dX1_rowPut_19 : decode cX1_rowPut 19 = .ok (.istore 5, 2) := by decide +kernel
theorem dX1_rowPut_21 : decode cX1_rowPut 21 = .ok (.aload 4, 2) := by decide +kernel
theorem dX1_rowPut_23 : decode cX1_rowPut 23 = .ok (.iload_n 2, 1) := by decide +kernel
theorem dX1_rowPut_24 : decode cX1_rowPut 24 = .ok (.iload_n 3, 1) := by decide +kernel
theorem dX1_rowPut_25 : decode cX1_rowPut 25 = .ok (.i2l, 1) := by decide +kernel
theorem dX1_rowPut_26 : decode cX1_rowPut 26 = .ok (.lastore, 1) := by decide +kernel
theorem dX1_rowPut_27 : decode cX1_rowPut 27 = .ok (.iload 5, 2) := by decide +kernel
theorem dX1_rowPut_29 : decode cX1_rowPut 29 = .ok (.ireturn, 1) := by decide +kernel
set_option maxRecDepth 20000 in
theorem ggX1_allocate_X1_slotOf : GoodIn wsX1_allocate wsX1_slotOf := goodIn_ca (goodIn_r _ [6, 7, 8, 9, 5, 10, 11, 12, 42, 43, 44, 45] (by decide +kernel) (by decide +kernel)) (goodIn_sub (fun _ h => List.mem_cons_of_mem _ (List.mem_append_left _ (List.mem_append_right _ h))) (by decide +kernel))
set_option maxRecDepth 20000 in
theorem gX1_allocate_X1_slotOf : GoodIn wsX1_allocate (wsV RX1 40 RX1 yX1_slotOf wsX1_slotOf) := goodIn_app (goodIn_of _ (by decide +kernel)) ggX1_allocate_X1_slotOf
set_option maxRecDepth 20000 in
theorem ggX1_allocate_X1_checkKind : GoodIn wsX1_allocate wsX1_checkKind := goodIn_ca (goodIn_r _ [15, 16, 17] (by decide +kernel) (by decide +kernel)) (goodIn_sub (fun _ h => List.mem_cons_of_mem _ (List.mem_append_right _ h)) (by decide +kernel))
set_option maxRecDepth 20000 in
theorem gX1_allocate_X1_checkKind : GoodIn wsX1_allocate (va_wsS RX1 44 yX1_checkKind wsX1_checkKind) := goodIn_app (goodIn_of _ (by decide +kernel)) ggX1_allocate_X1_checkKind
set_option maxRecDepth 20000 in
theorem ggX1_allocate_X1_checkLength : GoodIn wsX1_allocate wsX1_checkLength := goodIn_ca (goodIn_r _ [20, 16, 17] (by decide +kernel) (by decide +kernel)) (goodIn_sub (fun _ h => List.mem_cons_of_mem _ (List.mem_append_right _ h)) (by decide +kernel))
set_option maxRecDepth 20000 in
theorem gX1_allocate_X1_checkLength : GoodIn wsX1_allocate (va_wsS RX1 32 yX1_checkLength wsX1_checkLength) := goodIn_app (goodIn_of _ (by decide +kernel)) ggX1_allocate_X1_checkLength
set_option maxRecDepth 20000 in
theorem ggX1_allocate_X0_isThere : GoodIn wsX1_allocate wsX0_isThere := goodIn_r _ [25, 26, 46, 47, 48, 49, 50, 51, 52, 53] (by decide +kernel) (by decide +kernel)
set_option maxRecDepth 20000 in
theorem gX1_allocate_X0_isThere : GoodIn wsX1_allocate (wsV RX1 48 RX0 yX0_isThere wsX0_isThere) := goodIn_app (goodIn_of _ (by decide +kernel)) ggX1_allocate_X0_isThere
set_option maxRecDepth 20000 in
theorem ggX1_allocate_X0_layOver : GoodIn wsX1_allocate wsX0_layOver := goodIn_r _ [30, 26, 31, 32, 33, 34, 35, 36, 37, 24, 38, 39, 40, 41, 46, 47, 48, 49, 50, 51, 52, 53] (by decide +kernel) (by decide +kernel)
set_option maxRecDepth 20000 in
theorem gX1_allocate_X0_layOver : GoodIn wsX1_allocate (wsV RX1 52 RX0 yX0_layOver wsX0_layOver) := goodIn_app (goodIn_of _ (by decide +kernel)) ggX1_allocate_X0_layOver
theorem dX1_allocate_0 : decode cX1_allocate 0 = .ok (.aload_n 0, 1) := by decide +kernel
theorem dX1_allocate_1 : decode cX1_allocate 1 = .ok (.iload_n 1, 1) := by decide +kernel
theorem dX1_allocate_2 : decode cX1_allocate 2 = .ok (.invokevirtual 40, 3) := by decide +kernel
theorem dX1_allocate_5 : decode cX1_allocate 5 = .ok (.astore 4, 2) := by decide +kernel
theorem dX1_allocate_7 : decode cX1_allocate 7 = .ok (.iload_n 2, 1) := by decide +kernel
theorem dX1_allocate_8 : decode cX1_allocate 8 = .ok (.invokestatic 44, 3) := by decide +kernel
theorem dX1_allocate_11 : decode cX1_allocate 11 = .ok (.iload_n 3, 1) := by decide +kernel
theorem dX1_allocate_12 : decode cX1_allocate 12 = .ok (.invokestatic 32, 3) := by decide +kernel
theorem dX1_allocate_15 : decode cX1_allocate 15 = .ok (.aload 4, 2) := by decide +kernel
theorem dX1_allocate_17 : decode cX1_allocate 17 = .ok (.invokevirtual 48, 3) := by decide +kernel
theorem dX1_allocate_20 : decode cX1_allocate 20 = .ok (.istore 5, 2) := by decide +kernel
theorem dX1_allocate_22 : decode cX1_allocate 22 = .ok (.aload 4, 2) := by decide +kernel
theorem dX1_allocate_24 : decode cX1_allocate 24 = .ok (.iload_n 2, 1) := by decide +kernel
theorem dX1_allocate_25 : decode cX1_allocate 25 = .ok (.iload_n 3, 1) := by decide +kernel
theorem dX1_allocate_26 : decode cX1_allocate 26 = .ok (.newarray .long, 2) := by decide +kernel
theorem dX1_allocate_28 : decode cX1_allocate 28 = .ok (.invokevirtual 52, 3) := by decide +kernel
theorem dX1_allocate_31 : decode cX1_allocate 31 = .ok (.iload 5, 2) := by decide +kernel
theorem dX1_allocate_33 : decode cX1_allocate 33 = .ok (.ireturn, 1) := by decide +kernel
set_option maxRecDepth 20000 in
theorem ggX1_wrap_X1_slotOf : GoodIn wsX1_wrap wsX1_slotOf := goodIn_ca (goodIn_r _ [6, 7, 8, 9, 5, 10, 11, 12, 43, 44, 45, 46] (by decide +kernel) (by decide +kernel)) (goodIn_sub (fun _ h => List.mem_cons_of_mem _ (List.mem_append_right _ h)) (by decide +kernel))
set_option maxRecDepth 20000 in
theorem gX1_wrap_X1_slotOf : GoodIn wsX1_wrap (wsV RX1 40 RX1 yX1_slotOf wsX1_slotOf) := goodIn_app (goodIn_of _ (by decide +kernel)) ggX1_wrap_X1_slotOf
set_option maxRecDepth 20000 in
theorem ggX1_wrap_X1_rowOf : GoodIn wsX1_wrap wsX1_rowOf := goodIn_ca (goodIn_r _ [16, 17, 8, 9, 5, 10, 11, 12, 43, 44, 45, 46] (by decide +kernel) (by decide +kernel)) (goodIn_sub (fun _ h => List.mem_cons_of_mem _ (List.mem_append_right _ h)) (by decide +kernel))
set_option maxRecDepth 20000 in
theorem gX1_wrap_X1_rowOf : GoodIn wsX1_wrap (wsV RX1 28 RX1 yX1_rowOf wsX1_rowOf) := goodIn_app (goodIn_of _ (by decide +kernel)) ggX1_wrap_X1_rowOf
set_option maxRecDepth 20000 in
theorem ggX1_wrap_X0_layOver : GoodIn wsX1_wrap wsX0_layOver := goodIn_r _ [22, 23, 24, 25, 26, 27, 28, 29, 30, 21, 31, 32, 33, 34, 35, 36, 37, 38, 39, 40, 41, 42] (by decide +kernel) (by decide +kernel)
set_option maxRecDepth 20000 in
theorem gX1_wrap_X0_layOver : GoodIn wsX1_wrap (wsV RX1 52 RX0 yX0_layOver wsX0_layOver) := goodIn_app (goodIn_of _ (by decide +kernel)) ggX1_wrap_X0_layOver
theorem dX1_wrap_0 : decode cX1_wrap 0 = .ok (.aload_n 0, 1) := by decide +kernel
theorem dX1_wrap_1 : decode cX1_wrap 1 = .ok (.iload_n 1, 1) := by decide +kernel
theorem dX1_wrap_2 : decode cX1_wrap 2 = .ok (.invokevirtual 40, 3) := by decide +kernel
theorem dX1_wrap_5 : decode cX1_wrap 5 = .ok (.astore_n 3, 1) := by decide +kernel
theorem dX1_wrap_6 : decode cX1_wrap 6 = .ok (.aload_n 0, 1) := by decide +kernel
theorem dX1_wrap_7 : decode cX1_wrap 7 = .ok (.iload_n 2, 1) := by decide +kernel
theorem dX1_wrap_8 : decode cX1_wrap 8 = .ok (.invokevirtual 28, 3) := by decide +kernel
theorem dX1_wrap_11 : decode cX1_wrap 11 = .ok (.astore 4, 2) := by decide +kernel
theorem dX1_wrap_13 : decode cX1_wrap 13 = .ok (.aload_n 3, 1) := by decide +kernel
theorem dX1_wrap_14 : decode cX1_wrap 14 = .ok (.bipush 105, 2) := by decide +kernel
theorem dX1_wrap_16 : decode cX1_wrap 16 = .ok (.aload 4, 2) := by decide +kernel
theorem dX1_wrap_18 : decode cX1_wrap 18 = .ok (.invokevirtual 52, 3) := by decide +kernel
theorem dX1_wrap_21 : decode cX1_wrap 21 = .ok (.aload_n 3, 1) := by decide +kernel
theorem dX1_wrap_22 : decode cX1_wrap 22 = .ok (.getfield 56, 3) := by decide +kernel
theorem dX1_wrap_25 : decode cX1_wrap 25 = .ok (.ireturn, 1) := by decide +kernel
set_option maxRecDepth 20000 in
theorem ggX1_slice_X1_windowOf : GoodIn wsX1_slice wsX1_windowOf := goodIn_ca (goodIn_r _ [7, 8, 9, 10, 11, 12, 6, 13, 14, 15, 16, 17, 18, 19, 20, 21, 22, 23, 51, 52, 53, 54, 43, 44, 45, 46, 47, 48, 49, 50] (by decide +kernel) (by decide +kernel)) (goodIn_sub (fun _ h => List.mem_cons_of_mem _ (List.mem_append_right _ h)) (by decide +kernel))
set_option maxRecDepth 20000 in
theorem gX1_slice_X1_windowOf : GoodIn wsX1_slice (wsV RX1 60 RX1 yX1_windowOf wsX1_windowOf) := goodIn_app (goodIn_of _ (by decide +kernel)) ggX1_slice_X1_windowOf
set_option maxRecDepth 20000 in
theorem ggX1_slice_X1_slotOf : GoodIn wsX1_slice wsX1_slotOf := goodIn_ca (goodIn_r _ [13, 14, 15, 16, 6, 17, 8, 9, 51, 52, 53, 54] (by decide +kernel) (by decide +kernel)) (goodIn_sub (fun _ h => List.mem_cons_of_mem _ (List.mem_append_right _ h)) (by decide +kernel))
set_option maxRecDepth 20000 in
theorem gX1_slice_X1_slotOf : GoodIn wsX1_slice (wsV RX1 40 RX1 yX1_slotOf wsX1_slotOf) := goodIn_app (goodIn_of _ (by decide +kernel)) ggX1_slice_X1_slotOf
set_option maxRecDepth 20000 in
theorem ggX1_slice_X0_rest : GoodIn wsX1_slice wsX0_rest := goodIn_r _ [27, 28, 29, 43, 44, 45, 46, 47, 48, 49, 50] (by decide +kernel) (by decide +kernel)
set_option maxRecDepth 20000 in
theorem gX1_slice_X0_rest : GoodIn wsX1_slice (wsV RX1 66 RX0 yX0_rest wsX0_rest) := goodIn_app (goodIn_of _ (by decide +kernel)) ggX1_slice_X0_rest
set_option maxRecDepth 20000 in
theorem ggX1_slice_X0_becomeSlice : GoodIn wsX1_slice wsX0_becomeSlice := goodIn_r _ [33, 23, 34, 35, 36, 37, 38, 39, 40, 21, 41, 29, 28, 42, 43, 44, 45, 46, 47, 48, 49, 50] (by decide +kernel) (by decide +kernel)
set_option maxRecDepth 20000 in
theorem gX1_slice_X0_becomeSlice : GoodIn wsX1_slice (wsV RX1 70 RX0 yX0_becomeSlice wsX0_becomeSlice) := goodIn_app (goodIn_of _ (by decide +kernel)) ggX1_slice_X0_becomeSlice
theorem dX1_slice_0 : decode cX1_slice 0 = .ok (.aload_n 0, 1) := by decide +kernel
theorem dX1_slice_1 : decode cX1_slice 1 = .ok (.iload_n 1, 1) := by decide +kernel
theorem dX1_slice_2 : decode cX1_slice 2 = .ok (.invokevirtual 60, 3) := by decide +kernel
theorem dX1_slice_5 : decode cX1_slice 5 = .ok (.astore_n 3, 1) := by decide +kernel
theorem dX1_slice_6 : decode cX1_slice 6 = .ok (.aload_n 0, 1) := by decide +kernel
theorem dX1_slice_7 : decode cX1_slice 7 = .ok (.iload_n 2, 1) := by decide +kernel
theorem dX1_slice_8 : decode cX1_slice 8 = .ok (.invokevirtual 40, 3) := by decide +kernel
theorem dX1_slice_11 : decode cX1_slice 11 = .ok (.astore 4, 2) := by decide +kernel
theorem dX1_slice_13 : decode cX1_slice 13 = .ok (.aload 4, 2) := by decide +kernel
theorem dX1_slice_15 : decode cX1_slice 15 = .ok (.aload_n 3, 1) := by decide +kernel
theorem dX1_slice_16 : decode cX1_slice 16 = .ok (.aload_n 3, 1) := by decide +kernel
theorem dX1_slice_17 : decode cX1_slice 17 = .ok (.getfield 63, 3) := by decide +kernel
theorem dX1_slice_20 : decode cX1_slice 20 = .ok (.aload_n 3, 1) := by decide +kernel
theorem dX1_slice_21 : decode cX1_slice 21 = .ok (.invokevirtual 66, 3) := by decide +kernel
theorem dX1_slice_24 : decode cX1_slice 24 = .ok (.invokevirtual 70, 3) := by decide +kernel
theorem dX1_slice_27 : decode cX1_slice 27 = .ok (.aload 4, 2) := by decide +kernel
theorem dX1_slice_29 : decode cX1_slice 29 = .ok (.getfield 56, 3) := by decide +kernel
theorem dX1_slice_32 : decode cX1_slice 32 = .ok (.ireturn, 1) := by decide +kernel
set_option maxRecDepth 20000 in
theorem ggX1_sliceAt_X1_windowOf : GoodIn wsX1_sliceAt wsX1_windowOf := goodIn_ca (goodIn_r _ [7, 8, 9, 10, 11, 12, 6, 13, 14, 15, 16, 17, 18, 19, 20, 21, 22, 23, 50, 51, 52, 53, 42, 43, 44, 45, 46, 47, 48, 49] (by decide +kernel) (by decide +kernel)) (goodIn_sub (fun _ h => List.mem_cons_of_mem _ (List.mem_append_right _ h)) (by decide +kernel))
set_option maxRecDepth 20000 in
theorem gX1_sliceAt_X1_windowOf : GoodIn wsX1_sliceAt (wsV RX1 60 RX1 yX1_windowOf wsX1_windowOf) := goodIn_app (goodIn_of _ (by decide +kernel)) ggX1_sliceAt_X1_windowOf
set_option maxRecDepth 20000 in
theorem ggX1_sliceAt_X1_checkPart : GoodIn wsX1_sliceAt wsX1_checkPart := goodIn_ca (goodIn_r _ [26, 8, 9] (by decide +kernel) (by decide +kernel)) (goodIn_sub (fun _ h => List.mem_cons_of_mem _ (List.mem_append_right _ h)) (by decide +kernel))
set_option maxRecDepth 20000 in
theorem gX1_sliceAt_X1_checkPart : GoodIn wsX1_sliceAt (va_wsS RX1 77 yX1_checkPart wsX1_checkPart) := goodIn_app (goodIn_of _ (by decide +kernel)) ggX1_sliceAt_X1_checkPart
set_option maxRecDepth 20000 in
theorem ggX1_sliceAt_X1_slotOf : GoodIn wsX1_sliceAt wsX1_slotOf := goodIn_ca (goodIn_r _ [13, 14, 15, 16, 6, 17, 8, 9, 50, 51, 52, 53] (by decide +kernel) (by decide +kernel)) (goodIn_sub (fun _ h => List.mem_cons_of_mem _ (List.mem_append_right _ h)) (by decide +kernel))
set_option maxRecDepth 20000 in
theorem gX1_sliceAt_X1_slotOf : GoodIn wsX1_sliceAt (wsV RX1 40 RX1 yX1_slotOf wsX1_slotOf) := goodIn_app (goodIn_of _ (by decide +kernel)) ggX1_sliceAt_X1_slotOf
set_option maxRecDepth 20000 in
theorem ggX1_sliceAt_X0_becomeSlice : GoodIn wsX1_sliceAt wsX0_becomeSlice := goodIn_r _ [30, 23, 31, 32, 33, 34, 35, 36, 37, 21, 38, 39, 40, 41, 42, 43, 44, 45, 46, 47, 48, 49] (by decide +kernel) (by decide +kernel)
set_option maxRecDepth 20000 in
theorem gX1_sliceAt_X0_becomeSlice : GoodIn wsX1_sliceAt (wsV RX1 70 RX0 yX0_becomeSlice wsX0_becomeSlice) := goodIn_app (goodIn_of _ (by decide +kernel)) ggX1_sliceAt_X0_becomeSlice
theorem dX1_sliceAt_0 : decode cX1_sliceAt 0 = .ok (.aload_n 0, 1) := by decide +kernel
theorem dX1_sliceAt_1 : decode cX1_sliceAt 1 = .ok (.iload_n 1, 1) := by decide +kernel
theorem dX1_sliceAt_2 : decode cX1_sliceAt 2 = .ok (.invokevirtual 60, 3) := by decide +kernel
theorem dX1_sliceAt_5 : decode cX1_sliceAt 5 = .ok (.astore 5, 2) := by decide +kernel
theorem dX1_sliceAt_7 : decode cX1_sliceAt 7 = .ok (.iload_n 2, 1) := by decide +kernel
theorem dX1_sliceAt_8 : decode cX1_sliceAt 8 = .ok (.iload_n 3, 1) := by decide +kernel
theorem dX1_sliceAt_9 : decode cX1_sliceAt 9 = .ok (.aload 5, 2) := by decide +kernel
theorem dX1_sliceAt_11 : decode cX1_sliceAt 11 = .ok (.getfield 74, 3) := by decide +kernel
theorem dX1_sliceAt_14 : decode cX1_sliceAt 14 = .ok (.invokestatic 77, 3) := by decide +kernel
theorem dX1_sliceAt_17 : decode cX1_sliceAt 17 = .ok (.aload_n 0, 1) := by decide +kernel
theorem dX1_sliceAt_18 : decode cX1_sliceAt 18 = .ok (.iload 4, 2) := by decide +kernel
theorem dX1_sliceAt_20 : decode cX1_sliceAt 20 = .ok (.invokevirtual 40, 3) := by decide +kernel
theorem dX1_sliceAt_23 : decode cX1_sliceAt 23 = .ok (.astore 6, 2) := by decide +kernel
theorem dX1_sliceAt_25 : decode cX1_sliceAt 25 = .ok (.aload 6, 2) := by decide +kernel
theorem dX1_sliceAt_27 : decode cX1_sliceAt 27 = .ok (.aload 5, 2) := by decide +kernel
theorem dX1_sliceAt_29 : decode cX1_sliceAt 29 = .ok (.iload_n 2, 1) := by decide +kernel
theorem dX1_sliceAt_30 : decode cX1_sliceAt 30 = .ok (.iload_n 3, 1) := by decide +kernel
theorem dX1_sliceAt_31 : decode cX1_sliceAt 31 = .ok (.invokevirtual 70, 3) := by decide +kernel
theorem dX1_sliceAt_34 : decode cX1_sliceAt 34 = .ok (.aload 6, 2) := by decide +kernel
theorem dX1_sliceAt_36 : decode cX1_sliceAt 36 = .ok (.getfield 56, 3) := by decide +kernel
theorem dX1_sliceAt_39 : decode cX1_sliceAt 39 = .ok (.ireturn, 1) := by decide +kernel
set_option maxRecDepth 20000 in
theorem ggX1_duplicate_X1_windowOf : GoodIn wsX1_duplicate wsX1_windowOf := goodIn_ca (goodIn_r _ [5, 6, 7, 8, 9, 10, 4, 11, 12, 13, 14, 15, 16, 17, 18, 19, 20, 21, 37, 38, 39, 40, 41, 42, 43, 44, 45, 46, 47, 48] (by decide +kernel) (by decide +kernel)) (goodIn_sub (fun _ h => List.mem_cons_of_mem _ (List.mem_append_right _ h)) (by decide +kernel))
set_option maxRecDepth 20000 in
theorem gX1_duplicate_X1_windowOf : GoodIn wsX1_duplicate (wsV RX1 60 RX1 yX1_windowOf wsX1_windowOf) := goodIn_app (goodIn_of _ (by decide +kernel)) ggX1_duplicate_X1_windowOf
set_option maxRecDepth 20000 in
theorem ggX1_duplicate_X1_slotOf : GoodIn wsX1_duplicate wsX1_slotOf := goodIn_ca (goodIn_r _ [11, 12, 13, 14, 4, 15, 6, 7, 37, 38, 39, 40] (by decide +kernel) (by decide +kernel)) (goodIn_sub (fun _ h => List.mem_cons_of_mem _ (List.mem_append_right _ h)) (by decide +kernel))
set_option maxRecDepth 20000 in
theorem gX1_duplicate_X1_slotOf : GoodIn wsX1_duplicate (wsV RX1 40 RX1 yX1_slotOf wsX1_slotOf) := goodIn_app (goodIn_of _ (by decide +kernel)) ggX1_duplicate_X1_slotOf
set_option maxRecDepth 20000 in
theorem ggX1_duplicate_X0_becomeDuplicate : GoodIn wsX1_duplicate wsX0_becomeDuplicate := goodIn_r _ [25, 21, 26, 27, 28, 29, 30, 31, 32, 41, 42, 43, 44, 45, 46, 47, 48] (by decide +kernel) (by decide +kernel)
set_option maxRecDepth 20000 in
theorem gX1_duplicate_X0_becomeDuplicate : GoodIn wsX1_duplicate (wsV RX1 81 RX0 yX0_becomeDuplicate wsX0_becomeDuplicate) := goodIn_app (goodIn_of _ (by decide +kernel)) ggX1_duplicate_X0_becomeDuplicate
set_option maxRecDepth 20000 in
theorem ggX1_duplicate_X0_rest : GoodIn wsX1_duplicate wsX0_rest := goodIn_r _ [36, 31, 30, 41, 42, 43, 44, 45, 46, 47, 48] (by decide +kernel) (by decide +kernel)
set_option maxRecDepth 20000 in
theorem gX1_duplicate_X0_rest : GoodIn wsX1_duplicate (wsV RX1 66 RX0 yX0_rest wsX0_rest) := goodIn_app (goodIn_of _ (by decide +kernel)) ggX1_duplicate_X0_rest
theorem dX1_duplicate_0 : decode cX1_duplicate 0 = .ok (.aload_n 0, 1) := by decide +kernel
theorem dX1_duplicate_1 : decode cX1_duplicate 1 = .ok (.iload_n 1, 1) := by decide +kernel
theorem dX1_duplicate_2 : decode cX1_duplicate 2 = .ok (.invokevirtual 60, 3) := by decide +kernel
theorem dX1_duplicate_5 : decode cX1_duplicate 5 = .ok (.astore_n 3, 1) := by decide +kernel
theorem dX1_duplicate_6 : decode cX1_duplicate 6 = .ok (.aload_n 0, 1) := by decide +kernel
theorem dX1_duplicate_7 : decode cX1_duplicate 7 = .ok (.iload_n 2, 1) := by decide +kernel
theorem dX1_duplicate_8 : decode cX1_duplicate 8 = .ok (.invokevirtual 40, 3) := by decide +kernel
theorem dX1_duplicate_11 : decode cX1_duplicate 11 = .ok (.astore 4, 2) := by decide +kernel
theorem dX1_duplicate_13 : decode cX1_duplicate 13 = .ok (.aload 4, 2) := by decide +kernel
theorem dX1_duplicate_15 : decode cX1_duplicate 15 = .ok (.aload_n 3, 1) := by decide +kernel
theorem dX1_duplicate_16 : decode cX1_duplicate 16 = .ok (.invokevirtual 81, 3) := by decide +kernel
theorem dX1_duplicate_19 : decode cX1_duplicate 19 = .ok (.aload 4, 2) := by decide +kernel
theorem dX1_duplicate_21 : decode cX1_duplicate 21 = .ok (.invokevirtual 66, 3) := by decide +kernel
theorem dX1_duplicate_24 : decode cX1_duplicate 24 = .ok (.ireturn, 1) := by decide +kernel
set_option maxRecDepth 20000 in
theorem ggX1_readOnly_X1_windowOf : GoodIn wsX1_readOnly wsX1_windowOf := goodIn_ca (goodIn_r _ [6, 7, 8, 9, 10, 11, 5, 12, 13, 14, 15, 16, 17, 18, 19, 20, 21, 22, 46, 47, 48, 49, 38, 39, 40, 41, 42, 43, 44, 45] (by decide +kernel) (by decide +kernel)) (goodIn_sub (fun _ h => List.mem_cons_of_mem _ (List.mem_append_right _ h)) (by decide +kernel))
set_option maxRecDepth 20000 in
theorem gX1_readOnly_X1_windowOf : GoodIn wsX1_readOnly (wsV RX1 60 RX1 yX1_windowOf wsX1_windowOf) := goodIn_app (goodIn_of _ (by decide +kernel)) ggX1_readOnly_X1_windowOf
set_option maxRecDepth 20000 in
theorem ggX1_readOnly_X1_slotOf : GoodIn wsX1_readOnly wsX1_slotOf := goodIn_ca (goodIn_r _ [12, 13, 14, 15, 5, 16, 7, 8, 46, 47, 48, 49] (by decide +kernel) (by decide +kernel)) (goodIn_sub (fun _ h => List.mem_cons_of_mem _ (List.mem_append_right _ h)) (by decide +kernel))
set_option maxRecDepth 20000 in
theorem gX1_readOnly_X1_slotOf : GoodIn wsX1_readOnly (wsV RX1 40 RX1 yX1_slotOf wsX1_slotOf) := goodIn_app (goodIn_of _ (by decide +kernel)) ggX1_readOnly_X1_slotOf
set_option maxRecDepth 20000 in
theorem ggX1_readOnly_X0_becomeDuplicate : GoodIn wsX1_readOnly wsX0_becomeDuplicate := goodIn_r _ [26, 22, 27, 28, 29, 30, 31, 32, 33, 38, 39, 40, 41, 42, 43, 44, 45] (by decide +kernel) (by decide +kernel)
set_option maxRecDepth 20000 in
theorem gX1_readOnly_X0_becomeDuplicate : GoodIn wsX1_readOnly (wsV RX1 81 RX0 yX0_becomeDuplicate wsX0_becomeDuplicate) := goodIn_app (goodIn_of _ (by decide +kernel)) ggX1_readOnly_X0_becomeDuplicate
set_option maxRecDepth 20000 in
theorem ggX1_readOnly_X0_rest : GoodIn wsX1_readOnly wsX0_rest := goodIn_r _ [37, 32, 31, 38, 39, 40, 41, 42, 43, 44, 45] (by decide +kernel) (by decide +kernel)
set_option maxRecDepth 20000 in
theorem gX1_readOnly_X0_rest : GoodIn wsX1_readOnly (wsV RX1 66 RX0 yX0_rest wsX0_rest) := goodIn_app (goodIn_of _ (by decide +kernel)) ggX1_readOnly_X0_rest
theorem dX1_readOnly_0 : decode cX1_readOnly 0 = .ok (.aload_n 0, 1) := by decide +kernel
theorem dX1_readOnly_1 : decode cX1_readOnly 1 = .ok (.iload_n 1, 1) := by decide +kernel
theorem dX1_readOnly_2 : decode cX1_readOnly 2 = .ok (.invokevirtual 60, 3) := by decide +kernel
theorem dX1_readOnly_5 : decode cX1_readOnly 5 = .ok (.astore_n 3, 1) := by decide +kernel
theorem dX1_readOnly_6 : decode cX1_readOnly 6 = .ok (.aload_n 0, 1) := by decide +kernel
theorem dX1_readOnly_7 : decode cX1_readOnly 7 = .ok (.iload_n 2, 1) := by decide +kernel
theorem dX1_readOnly_8 : decode cX1_readOnly 8 = .ok (.invokevirtual 40, 3) := by decide +kernel
theorem dX1_readOnly_11 : decode cX1_readOnly 11 = .ok (.astore 4, 2) := by decide +kernel
theorem dX1_readOnly_13 : decode cX1_readOnly 13 = .ok (.aload 4, 2) := by decide +kernel
theorem dX1_readOnly_15 : decode cX1_readOnly 15 = .ok (.aload_n 3, 1) := by decide +kernel
theorem dX1_readOnly_16 : decode cX1_readOnly 16 = .ok (.invokevirtual 81, 3) := by decide +kernel
theorem dX1_readOnly_19 : decode cX1_readOnly 19 = .ok (.aload 4, 2) := by decide +kernel
theorem dX1_readOnly_21 : decode cX1_readOnly 21 = .ok (.iconst 1, 1) := by decide +kernel
theorem dX1_readOnly_22 : decode cX1_readOnly 22 = .ok (.putfield 85, 3) := by decide +kernel
theorem dX1_readOnly_25 : decode cX1_readOnly 25 = .ok (.aload 4, 2) := by decide +kernel
theorem dX1_readOnly_27 : decode cX1_readOnly 27 = .ok (.invokevirtual 66, 3) := by decide +kernel
theorem dX1_readOnly_30 : decode cX1_readOnly 30 = .ok (.ireturn, 1) := by decide +kernel
set_option maxRecDepth 20000 in
theorem ggX1_kind_X1_slotOf : GoodIn wsX1_kind wsX1_slotOf := goodIn_ca (goodIn_r _ [6, 7, 8, 9, 5, 10, 11, 12, 21, 22, 23, 24] (by decide +kernel) (by decide +kernel)) (goodIn_sub (fun _ h => List.mem_cons_of_mem _ (List.mem_append_right _ h)) (by decide +kernel))
set_option maxRecDepth 20000 in
theorem gX1_kind_X1_slotOf : GoodIn wsX1_kind (wsV RX1 40 RX1 yX1_slotOf wsX1_slotOf) := goodIn_app (goodIn_of _ (by decide +kernel)) ggX1_kind_X1_slotOf
theorem dX1_kind_0 : decode cX1_kind 0 = .ok (.aload_n 0, 1) := by decide +kernel
theorem dX1_kind_1 : decode cX1_kind 1 = .ok (.iload_n 1, 1) := by decide +kernel
theorem dX1_kind_2 : decode cX1_kind 2 = .ok (.invokevirtual 40, 3) := by decide +kernel
theorem dX1_kind_5 : decode cX1_kind 5 = .ok (.getfield 89, 3) := by decide +kernel
theorem dX1_kind_8 : decode cX1_kind 8 = .ok (.ireturn, 1) := by decide +kernel
set_option maxRecDepth 20000 in
theorem ggX1_capacity_X1_windowOf : GoodIn wsX1_capacity wsX1_windowOf := goodIn_ca (goodIn_r _ [6, 7, 8, 9, 10, 11, 5, 12, 13, 14, 15, 16, 17, 18, 19, 20, 21, 22, 31, 32, 33, 34, 23, 24, 25, 26, 27, 28, 29, 30] (by decide +kernel) (by decide +kernel)) (goodIn_sub (fun _ h => List.mem_cons_of_mem _ (List.mem_append_right _ h)) (by decide +kernel))
set_option maxRecDepth 20000 in
theorem gX1_capacity_X1_windowOf : GoodIn wsX1_capacity (wsV RX1 60 RX1 yX1_windowOf wsX1_windowOf) := goodIn_app (goodIn_of _ (by decide +kernel)) ggX1_capacity_X1_windowOf
theorem dX1_capacity_0 : decode cX1_capacity 0 = .ok (.aload_n 0, 1) := by decide +kernel
theorem dX1_capacity_1 : decode cX1_capacity 1 = .ok (.iload_n 1, 1) := by decide +kernel
theorem dX1_capacity_2 : decode cX1_capacity 2 = .ok (.invokevirtual 60, 3) := by decide +kernel
theorem dX1_capacity_5 : decode cX1_capacity 5 = .ok (.getfield 56, 3) := by decide +kernel
theorem dX1_capacity_8 : decode cX1_capacity 8 = .ok (.ireturn, 1) := by decide +kernel
set_option maxRecDepth 20000 in
theorem ggX1_place_X1_windowOf : GoodIn wsX1_place wsX1_windowOf := goodIn_ca (goodIn_r _ [6, 7, 8, 9, 10, 11, 5, 12, 13, 14, 15, 16, 17, 18, 19, 20, 21, 22, 31, 32, 33, 34, 23, 24, 25, 26, 27, 28, 29, 30] (by decide +kernel) (by decide +kernel)) (goodIn_sub (fun _ h => List.mem_cons_of_mem _ (List.mem_append_right _ h)) (by decide +kernel))
set_option maxRecDepth 20000 in
theorem gX1_place_X1_windowOf : GoodIn wsX1_place (wsV RX1 60 RX1 yX1_windowOf wsX1_windowOf) := goodIn_app (goodIn_of _ (by decide +kernel)) ggX1_place_X1_windowOf
theorem dX1_place_0 : decode cX1_place 0 = .ok (.aload_n 0, 1) := by decide +kernel
theorem dX1_place_1 : decode cX1_place 1 = .ok (.iload_n 1, 1) := by decide +kernel
theorem dX1_place_2 : decode cX1_place 2 = .ok (.invokevirtual 60, 3) := by decide +kernel
theorem dX1_place_5 : decode cX1_place 5 = .ok (.getfield 63, 3) := by decide +kernel
theorem dX1_place_8 : decode cX1_place 8 = .ok (.ireturn, 1) := by decide +kernel
set_option maxRecDepth 20000 in
theorem ggX1_end_X1_windowOf : GoodIn wsX1_end wsX1_windowOf := goodIn_ca (goodIn_r _ [6, 7, 8, 9, 10, 11, 5, 12, 13, 14, 15, 16, 17, 18, 19, 20, 21, 22, 31, 32, 33, 34, 23, 24, 25, 26, 27, 28, 29, 30] (by decide +kernel) (by decide +kernel)) (goodIn_sub (fun _ h => List.mem_cons_of_mem _ (List.mem_append_right _ h)) (by decide +kernel))
set_option maxRecDepth 20000 in
theorem gX1_end_X1_windowOf : GoodIn wsX1_end (wsV RX1 60 RX1 yX1_windowOf wsX1_windowOf) := goodIn_app (goodIn_of _ (by decide +kernel)) ggX1_end_X1_windowOf
theorem dX1_end_0 : decode cX1_end 0 = .ok (.aload_n 0, 1) := by decide +kernel
theorem dX1_end_1 : decode cX1_end 1 = .ok (.iload_n 1, 1) := by decide +kernel
theorem dX1_end_2 : decode cX1_end 2 = .ok (.invokevirtual 60, 3) := by decide +kernel
theorem dX1_end_5 : decode cX1_end 5 = .ok (.getfield 74, 3) := by decide +kernel
theorem dX1_end_8 : decode cX1_end 8 = .ok (.ireturn, 1) := by decide +kernel
set_option maxRecDepth 20000 in
theorem ggX1_left_X1_windowOf : GoodIn wsX1_left wsX1_windowOf := goodIn_ca (goodIn_r _ [5, 6, 7, 8, 9, 10, 4, 11, 12, 13, 14, 15, 16, 17, 18, 19, 20, 21, 28, 29, 30, 31, 32, 33, 34, 35, 36, 37, 38, 39] (by decide +kernel) (by decide +kernel)) (goodIn_sub (fun _ h => List.mem_cons_of_mem _ (List.mem_append_right _ h)) (by decide +kernel))
set_option maxRecDepth 20000 in
theorem gX1_left_X1_windowOf : GoodIn wsX1_left (wsV RX1 60 RX1 yX1_windowOf wsX1_windowOf) := goodIn_app (goodIn_of _ (by decide +kernel)) ggX1_left_X1_windowOf
set_option maxRecDepth 20000 in
theorem ggX1_left_X0_rest : GoodIn wsX1_left wsX0_rest := goodIn_r _ [25, 26, 27, 32, 33, 34, 35, 36, 37, 38, 39] (by decide +kernel) (by decide +kernel)
set_option maxRecDepth 20000 in
theorem gX1_left_X0_rest : GoodIn wsX1_left (wsV RX1 66 RX0 yX0_rest wsX0_rest) := goodIn_app (goodIn_of _ (by decide +kernel)) ggX1_left_X0_rest
theorem dX1_left_0 : decode cX1_left 0 = .ok (.aload_n 0, 1) := by decide +kernel
theorem dX1_left_1 : decode cX1_left 1 = .ok (.iload_n 1, 1) := by decide +kernel
theorem dX1_left_2 : decode cX1_left 2 = .ok (.invokevirtual 60, 3) := by decide +kernel
theorem dX1_left_5 : decode cX1_left 5 = .ok (.invokevirtual 66, 3) := by decide +kernel
theorem dX1_left_8 : decode cX1_left 8 = .ok (.ireturn, 1) := by decide +kernel
set_option maxRecDepth 20000 in
theorem ggX1_hasLeft_X1_windowOf : GoodIn wsX1_hasLeft wsX1_windowOf := goodIn_ca (goodIn_r _ [5, 6, 7, 8, 9, 10, 4, 11, 12, 13, 14, 15, 16, 17, 18, 19, 20, 21, 28, 29, 30, 31, 32, 33, 34, 35, 36, 37, 38, 39] (by decide +kernel) (by decide +kernel)) (goodIn_sub (fun _ h => List.mem_cons_of_mem _ (List.mem_append_right _ h)) (by decide +kernel))
set_option maxRecDepth 20000 in
theorem gX1_hasLeft_X1_windowOf : GoodIn wsX1_hasLeft (wsV RX1 60 RX1 yX1_windowOf wsX1_windowOf) := goodIn_app (goodIn_of _ (by decide +kernel)) ggX1_hasLeft_X1_windowOf
set_option maxRecDepth 20000 in
theorem ggX1_hasLeft_X0_rest : GoodIn wsX1_hasLeft wsX0_rest := goodIn_r _ [25, 26, 27, 32, 33, 34, 35, 36, 37, 38, 39] (by decide +kernel) (by decide +kernel)
set_option maxRecDepth 20000 in
theorem gX1_hasLeft_X0_rest : GoodIn wsX1_hasLeft (wsV RX1 66 RX0 yX0_rest wsX0_rest) := goodIn_app (goodIn_of _ (by decide +kernel)) ggX1_hasLeft_X0_rest
theorem dX1_hasLeft_0 : decode cX1_hasLeft 0 = .ok (.aload_n 0, 1) := by decide +kernel
theorem dX1_hasLeft_1 : decode cX1_hasLeft 1 = .ok (.iload_n 1, 1) := by decide +kernel
theorem dX1_hasLeft_2 : decode cX1_hasLeft 2 = .ok (.invokevirtual 60, 3) := by decide +kernel
theorem dX1_hasLeft_5 : decode cX1_hasLeft 5 = .ok (.invokevirtual 66, 3) := by decide +kernel
theorem dX1_hasLeft_8 : decode cX1_hasLeft 8 = .ok (.ifCond .le 7, 3) := by decide +kernel
theorem dX1_hasLeft_11 : decode cX1_hasLeft 11 = .ok (.iconst 1, 1) := by decide +kernel
theorem dX1_hasLeft_12 : decode cX1_hasLeft 12 = .ok (.goto 4, 3) := by decide +kernel
theorem dX1_hasLeft_15 : decode cX1_hasLeft 15 = .ok (.iconst 0, 1) := by decide +kernel
theorem dX1_hasLeft_16 : decode cX1_hasLeft 16 = .ok (.ireturn, 1) := by decide +kernel
set_option maxRecDepth 20000 in
theorem ggX1_isReadOnly_X1_windowOf : GoodIn wsX1_isReadOnly wsX1_windowOf := goodIn_ca (goodIn_r _ [6, 7, 8, 9, 10, 11, 5, 12, 13, 14, 15, 16, 17, 18, 19, 20, 21, 22, 31, 32, 33, 34, 23, 24, 25, 26, 27, 28, 29, 30] (by decide +kernel) (by decide +kernel)) (goodIn_sub (fun _ h => List.mem_cons_of_mem _ (List.mem_append_right _ h)) (by decide +kernel))
set_option maxRecDepth 20000 in
theorem gX1_isReadOnly_X1_windowOf : GoodIn wsX1_isReadOnly (wsV RX1 60 RX1 yX1_windowOf wsX1_windowOf) := goodIn_app (goodIn_of _ (by decide +kernel)) ggX1_isReadOnly_X1_windowOf
theorem dX1_isReadOnly_0 : decode cX1_isReadOnly 0 = .ok (.aload_n 0, 1) := by decide +kernel
theorem dX1_isReadOnly_1 : decode cX1_isReadOnly 1 = .ok (.iload_n 1, 1) := by decide +kernel
theorem dX1_isReadOnly_2 : decode cX1_isReadOnly 2 = .ok (.invokevirtual 60, 3) := by decide +kernel
theorem dX1_isReadOnly_5 : decode cX1_isReadOnly 5 = .ok (.getfield 85, 3) := by decide +kernel
theorem dX1_isReadOnly_8 : decode cX1_isReadOnly 8 = .ok (.ireturn, 1) := by decide +kernel
set_option maxRecDepth 20000 in
theorem ggX1_placeAt_X1_windowOf : GoodIn wsX1_placeAt wsX1_windowOf := goodIn_ca (goodIn_r _ [7, 8, 9, 10, 11, 12, 6, 13, 14, 15, 16, 17, 18, 19, 20, 21, 22, 23, 42, 43, 44, 45, 34, 35, 36, 37, 38, 39, 40, 41] (by decide +kernel) (by decide +kernel)) (goodIn_sub (fun _ h => List.mem_cons_of_mem _ (List.mem_append_left _ (List.mem_append_right _ h))) (by decide +kernel))
set_option maxRecDepth 20000 in
theorem gX1_placeAt_X1_windowOf : GoodIn wsX1_placeAt (wsV RX1 60 RX1 yX1_windowOf wsX1_windowOf) := goodIn_app (goodIn_of _ (by decide +kernel)) ggX1_placeAt_X1_windowOf
set_option maxRecDepth 20000 in
theorem ggX1_placeAt_X1_checkBound : GoodIn wsX1_placeAt wsX1_checkBound := goodIn_ca (goodIn_r _ [26, 27, 28] (by decide +kernel) (by decide +kernel)) (goodIn_sub (fun _ h => List.mem_cons_of_mem _ (List.mem_append_right _ h)) (by decide +kernel))
set_option maxRecDepth 20000 in
theorem gX1_placeAt_X1_checkBound : GoodIn wsX1_placeAt (va_wsS RX1 93 yX1_checkBound wsX1_checkBound) := goodIn_app (goodIn_of _ (by decide +kernel)) ggX1_placeAt_X1_checkBound
set_option maxRecDepth 20000 in
theorem ggX1_placeAt_X0_dropMarkBeyond : GoodIn wsX1_placeAt wsX0_dropMarkBeyond := goodIn_r _ [32, 33, 34, 35, 36, 37, 38, 39, 40, 41] (by decide +kernel) (by decide +kernel)
set_option maxRecDepth 20000 in
theorem gX1_placeAt_X0_dropMarkBeyond : GoodIn wsX1_placeAt (wsV RX1 96 RX0 yX0_dropMarkBeyond wsX0_dropMarkBeyond) := goodIn_app (goodIn_of _ (by decide +kernel)) ggX1_placeAt_X0_dropMarkBeyond
theorem dX1_placeAt_0 : decode cX1_placeAt 0 = .ok (.aload_n 0, 1) := by decide +kernel
theorem dX1_placeAt_1 : decode cX1_placeAt 1 = .ok (.iload_n 1, 1) := by decide +kernel
theorem dX1_placeAt_2 : decode cX1_placeAt 2 = .ok (.invokevirtual 60, 3) := by decide +kernel
theorem dX1_placeAt_5 : decode cX1_placeAt 5 = .ok (.astore_n 3, 1) := by decide +kernel
theorem dX1_placeAt_6 : decode cX1_placeAt 6 = .ok (.iload_n 2, 1) := by decide +kernel
theorem dX1_placeAt_7 : decode cX1_placeAt 7 = .ok (.aload_n 3, 1) := by decide +kernel
theorem dX1_placeAt_8 : decode cX1_placeAt 8 = .ok (.getfield 74, 3) := by decide +kernel
theorem dX1_placeAt_11 : decode cX1_placeAt 11 = .ok (.invokestatic 93, 3) := by decide +kernel
theorem dX1_placeAt_14 : decode cX1_placeAt 14 = .ok (.aload_n 3, 1) := by decide +kernel
theorem dX1_placeAt_15 : decode cX1_placeAt 15 = .ok (.getfield 63, 3) := by decide +kernel
theorem dX1_placeAt_18 : decode cX1_placeAt 18 = .ok (.istore 4, 2) := by decide +kernel
theorem dX1_placeAt_20 : decode cX1_placeAt 20 = .ok (.aload_n 3, 1) := by decide +kernel
theorem dX1_placeAt_21 : decode cX1_placeAt 21 = .ok (.iload_n 2, 1) := by decide +kernel
theorem dX1_placeAt_22 : decode cX1_placeAt 22 = .ok (.putfield 63, 3) := by decide +kernel
theorem dX1_placeAt_25 : decode cX1_placeAt 25 = .ok (.aload_n 3, 1) := by decide +kernel
theorem dX1_placeAt_26 : decode cX1_placeAt 26 = .ok (.iload_n 2, 1) := by decide +kernel
theorem dX1_placeAt_27 : decode cX1_placeAt 27 = .ok (.invokevirtual 96, 3) := by decide +kernel
theorem dX1_placeAt_30 : decode cX1_placeAt 30 = .ok (.iload 4, 2) := by decide +kernel
theorem dX1_placeAt_32 : decode cX1_placeAt 32 = .ok (.ireturn, 1) := by decide +kernel
set_option maxRecDepth 20000 in
theorem ggX1_endAt_X1_windowOf : GoodIn wsX1_endAt wsX1_windowOf := goodIn_ca (goodIn_r _ [12, 13, 14, 15, 16, 17, 11, 18, 19, 20, 21, 22, 23, 24, 25, 26, 27, 28, 47, 48, 49, 50, 39, 40, 41, 42, 43, 44, 45, 46] (by decide +kernel) (by decide +kernel)) (goodIn_sub (fun _ h => List.mem_cons_of_mem _ (List.mem_append_left _ (List.mem_append_right _ h))) (by decide +kernel))
set_option maxRecDepth 20000 in
theorem gX1_endAt_X1_windowOf : GoodIn wsX1_endAt (wsV RX1 60 RX1 yX1_windowOf wsX1_windowOf) := goodIn_app (goodIn_of _ (by decide +kernel)) ggX1_endAt_X1_windowOf
set_option maxRecDepth 20000 in
theorem ggX1_endAt_X1_checkBound : GoodIn wsX1_endAt wsX1_checkBound := goodIn_ca (goodIn_r _ [31, 32, 33] (by decide +kernel) (by decide +kernel)) (goodIn_sub (fun _ h => List.mem_cons_of_mem _ (List.mem_append_right _ h)) (by decide +kernel))
set_option maxRecDepth 20000 in
theorem gX1_endAt_X1_checkBound : GoodIn wsX1_endAt (va_wsS RX1 93 yX1_checkBound wsX1_checkBound) := goodIn_app (goodIn_of _ (by decide +kernel)) ggX1_endAt_X1_checkBound
set_option maxRecDepth 20000 in
theorem ggX1_endAt_X0_dropMarkBeyond : GoodIn wsX1_endAt wsX0_dropMarkBeyond := goodIn_r _ [37, 38, 39, 40, 41, 42, 43, 44, 45, 46] (by decide +kernel) (by decide +kernel)
set_option maxRecDepth 20000 in
theorem gX1_endAt_X0_dropMarkBeyond : GoodIn wsX1_endAt (wsV RX1 96 RX0 yX0_dropMarkBeyond wsX0_dropMarkBeyond) := goodIn_app (goodIn_of _ (by decide +kernel)) ggX1_endAt_X0_dropMarkBeyond
theorem dX1_endAt_0 : decode cX1_endAt 0 = .ok (.aload_n 0, 1) := by decide +kernel
theorem dX1_endAt_1 : decode cX1_endAt 1 = .ok (.iload_n 1, 1) := by decide +kernel
theorem dX1_endAt_2 : decode cX1_endAt 2 = .ok (.invokevirtual 60, 3) := by decide +kernel
theorem dX1_endAt_5 : decode cX1_endAt 5 = .ok (.astore_n 3, 1) := by decide +kernel
theorem dX1_endAt_6 : decode cX1_endAt 6 = .ok (.iload_n 2, 1) := by decide +kernel
theorem dX1_endAt_7 : decode cX1_endAt 7 = .ok (.aload_n 3, 1) := by decide +kernel
theorem dX1_endAt_8 : decode cX1_endAt 8 = .ok (.getfield 56, 3) := by decide +kernel
theorem dX1_endAt_11 : decode cX1_endAt 11 = .ok (.invokestatic 93, 3) := by decide +kernel
theorem dX1_endAt_14 : decode cX1_endAt 14 = .ok (.aload_n 3, 1) := by decide +kernel
theorem dX1_endAt_15 : decode cX1_endAt 15 = .ok (.getfield 74, 3) := by decide +kernel
theorem dX1_endAt_18 : decode cX1_endAt 18 = .ok (.istore 4, 2) := by decide +kernel
theorem dX1_endAt_20 : decode cX1_endAt 20 = .ok (.aload_n 3, 1) := by decide +kernel
theorem dX1_endAt_21 : decode cX1_endAt 21 = .ok (.iload_n 2, 1) := by decide +kernel
theorem dX1_endAt_22 : decode cX1_endAt 22 = .ok (.putfield 74, 3) := by decide +kernel
theorem dX1_endAt_25 : decode cX1_endAt 25 = .ok (.aload_n 3, 1) := by decide +kernel
theorem dX1_endAt_26 : decode cX1_endAt 26 = .ok (.aload_n 3, 1) := by decide +kernel
theorem dX1_endAt_27 : decode cX1_endAt 27 = .ok (.getfield 63, 3) := by decide +kernel
theorem dX1_endAt_30 : decode cX1_endAt 30 = .ok (.iload_n 2, 1) := by decide +kernel
theorem dX1_endAt_31 : decode cX1_endAt 31 = .ok (.invokestatic 99, 3) := by decide +kernel
theorem dX1_endAt_34 : decode cX1_endAt 34 = .ok (.putfield 63, 3) := by decide +kernel
theorem dX1_endAt_37 : decode cX1_endAt 37 = .ok (.aload_n 3, 1) := by decide +kernel
theorem dX1_endAt_38 : decode cX1_endAt 38 = .ok (.iload_n 2, 1) := by decide +kernel
theorem dX1_endAt_39 : decode cX1_endAt 39 = .ok (.invokevirtual 96, 3) := by decide +kernel
theorem dX1_endAt_42 : decode cX1_endAt 42 = .ok (.iload 4, 2) := by decide +kernel
theorem dX1_endAt_44 : decode cX1_endAt 44 = .ok (.ireturn, 1) := by decide +kernel
set_option maxRecDepth 20000 in
theorem ggX1_mark_X1_windowOf : GoodIn wsX1_mark wsX1_windowOf := goodIn_ca (goodIn_r _ [7, 8, 9, 10, 11, 12, 6, 13, 14, 15, 16, 17, 18, 19, 20, 21, 22, 23, 32, 33, 34, 35, 24, 25, 26, 27, 28, 29, 30, 31] (by decide +kernel) (by decide +kernel)) (goodIn_sub (fun _ h => List.mem_cons_of_mem _ (List.mem_append_right _ h)) (by decide +kernel))
set_option maxRecDepth 20000 in
theorem gX1_mark_X1_windowOf : GoodIn wsX1_mark (wsV RX1 60 RX1 yX1_windowOf wsX1_windowOf) := goodIn_app (goodIn_of _ (by decide +kernel)) ggX1_mark_X1_windowOf
theorem dX1_mark_0 : decode cX1_mark 0 = .ok (.aload_n 0, 1) := by decide +kernel
theorem dX1_mark_1 : decode cX1_mark 1 = .ok (.iload_n 1, 1) := by decide +kernel
theorem dX1_mark_2 : decode cX1_mark 2 = .ok (.invokevirtual 60, 3) := by decide +kernel
theorem dX1_mark_5 : decode cX1_mark 5 = .ok (.astore_n 2, 1) := by decide +kernel
theorem dX1_mark_6 : decode cX1_mark 6 = .ok (.aload_n 2, 1) := by decide +kernel
theorem dX1_mark_7 : decode cX1_mark 7 = .ok (.aload_n 2, 1) := by decide +kernel
theorem dX1_mark_8 : decode cX1_mark 8 = .ok (.getfield 63, 3) := by decide +kernel
theorem dX1_mark_11 : decode cX1_mark 11 = .ok (.putfield 105, 3) := by decide +kernel
theorem dX1_mark_14 : decode cX1_mark 14 = .ok (.aload_n 2, 1) := by decide +kernel
theorem dX1_mark_15 : decode cX1_mark 15 = .ok (.getfield 63, 3) := by decide +kernel
theorem dX1_mark_18 : decode cX1_mark 18 = .ok (.ireturn, 1) := by decide +kernel
set_option maxRecDepth 20000 in
theorem ggX1_back_X1_windowOf : GoodIn wsX1_back wsX1_windowOf := goodIn_ca (goodIn_r _ [9, 10, 11, 12, 13, 14, 8, 15, 16, 17, 18, 19, 20, 21, 22, 23, 24, 25, 34, 35, 36, 37, 26, 27, 28, 29, 30, 31, 32, 33] (by decide +kernel) (by decide +kernel)) (goodIn_sub (fun _ h => List.mem_cons_of_mem _ (List.mem_append_right _ h)) (by decide +kernel))
set_option maxRecDepth 20000 in
theorem gX1_back_X1_windowOf : GoodIn wsX1_back (wsV RX1 60 RX1 yX1_windowOf wsX1_windowOf) := goodIn_app (goodIn_of _ (by decide +kernel)) ggX1_back_X1_windowOf
theorem dX1_back_0 : decode cX1_back 0 = .ok (.aload_n 0, 1) := by decide +kernel
theorem dX1_back_1 : decode cX1_back 1 = .ok (.iload_n 1, 1) := by decide +kernel
theorem dX1_back_2 : decode cX1_back 2 = .ok (.invokevirtual 60, 3) := by decide +kernel
theorem dX1_back_5 : decode cX1_back 5 = .ok (.astore_n 2, 1) := by decide +kernel
theorem dX1_back_6 : decode cX1_back 6 = .ok (.aload_n 2, 1) := by decide +kernel
theorem dX1_back_7 : decode cX1_back 7 = .ok (.getfield 105, 3) := by decide +kernel
theorem dX1_back_10 : decode cX1_back 10 = .ok (.iconst (-1), 1) := by decide +kernel
theorem dX1_back_11 : decode cX1_back 11 = .ok (.if_icmp .ne 13, 3) := by decide +kernel
theorem dX1_back_14 : decode cX1_back 14 = .ok (.new 108, 3) := by decide +kernel
theorem dX1_back_17 : decode cX1_back 17 = .ok (.dup, 1) := by decide +kernel
theorem dX1_back_18 : decode cX1_back 18 = .ok (.ldc 110, 2) := by decide +kernel
theorem dX1_back_20 : decode cX1_back 20 = .ok (.invokespecial 112, 3) := by decide +kernel
theorem dX1_back_23 : decode cX1_back 23 = .ok (.athrow, 1) := by decide +kernel
theorem dX1_back_24 : decode cX1_back 24 = .ok (.aload_n 2, 1) := by decide +kernel
theorem dX1_back_25 : decode cX1_back 25 = .ok (.getfield 63, 3) := by decide +kernel
theorem dX1_back_28 : decode cX1_back 28 = .ok (.istore_n 3, 1) := by decide +kernel
theorem dX1_back_29 : decode cX1_back 29 = .ok (.aload_n 2, 1) := by decide +kernel
theorem dX1_back_30 : decode cX1_back 30 = .ok (.aload_n 2, 1) := by decide +kernel
theorem dX1_back_31 : decode cX1_back 31 = .ok (.getfield 105, 3) := by decide +kernel
theorem dX1_back_34 : decode cX1_back 34 = .ok (.putfield 63, 3) := by decide +kernel
theorem dX1_back_37 : decode cX1_back 37 = .ok (.iload_n 3, 1) := by decide +kernel
theorem dX1_back_38 : decode cX1_back 38 = .ok (.aload_n 2, 1) := by decide +kernel
theorem dX1_back_39 : decode cX1_back 39 = .ok (.getfield 63, 3) := by decide +kernel
theorem dX1_back_42 : decode cX1_back 42 = .ok (.isub, 1) := by decide +kernel
theorem dX1_back_43 : decode cX1_back 43 = .ok (.ireturn, 1) := by decide +kernel
set_option maxRecDepth 20000 in
theorem ggX1_clear_X1_windowOf : GoodIn wsX1_clear wsX1_windowOf := goodIn_ca (goodIn_r _ [7, 8, 9, 10, 11, 12, 6, 13, 14, 15, 16, 17, 18, 19, 20, 21, 22, 23, 39, 40, 41, 42, 31, 32, 33, 34, 35, 36, 37, 38] (by decide +kernel) (by decide +kernel)) (goodIn_sub (fun _ h => List.mem_cons_of_mem _ (List.mem_append_right _ h)) (by decide +kernel))
set_option maxRecDepth 20000 in
theorem gX1_clear_X1_windowOf : GoodIn wsX1_clear (wsV RX1 60 RX1 yX1_windowOf wsX1_windowOf) := goodIn_app (goodIn_of _ (by decide +kernel)) ggX1_clear_X1_windowOf
set_option maxRecDepth 20000 in
theorem ggX1_clear_X0_moveTo : GoodIn wsX1_clear wsX0_moveTo := goodIn_r _ [27, 28, 29, 30, 31, 32, 33, 34, 35, 36, 37, 38] (by decide +kernel) (by decide +kernel)
set_option maxRecDepth 20000 in
theorem gX1_clear_X0_moveTo : GoodIn wsX1_clear (wsV RX1 115 RX0 yX0_moveTo wsX0_moveTo) := goodIn_app (goodIn_of _ (by decide +kernel)) ggX1_clear_X0_moveTo
theorem dX1_clear_0 : decode cX1_clear 0 = .ok (.aload_n 0, 1) := by decide +kernel
theorem dX1_clear_1 : decode cX1_clear 1 = .ok (.iload_n 1, 1) := by decide +kernel
theorem dX1_clear_2 : decode cX1_clear 2 = .ok (.invokevirtual 60, 3) := by decide +kernel
theorem dX1_clear_5 : decode cX1_clear 5 = .ok (.astore_n 2, 1) := by decide +kernel
theorem dX1_clear_6 : decode cX1_clear 6 = .ok (.aload_n 2, 1) := by decide +kernel
theorem dX1_clear_7 : decode cX1_clear 7 = .ok (.iconst 0, 1) := by decide +kernel
theorem dX1_clear_8 : decode cX1_clear 8 = .ok (.aload_n 2, 1) := by decide +kernel
theorem dX1_clear_9 : decode cX1_clear 9 = .ok (.getfield 56, 3) := by decide +kernel
theorem dX1_clear_12 : decode cX1_clear 12 = .ok (.invokevirtual 115, 3) := by decide +kernel
theorem dX1_clear_15 : decode cX1_clear 15 = .ok (.aload_n 2, 1) := by decide +kernel
theorem dX1_clear_16 : decode cX1_clear 16 = .ok (.getfield 74, 3) := by decide +kernel
theorem dX1_clear_19 : decode cX1_clear 19 = .ok (.ireturn, 1) := by decide +kernel
set_option maxRecDepth 20000 in
theorem ggX1_flip_X1_windowOf : GoodIn wsX1_flip wsX1_windowOf := goodIn_ca (goodIn_r _ [7, 8, 9, 10, 11, 12, 6, 13, 14, 15, 16, 17, 18, 19, 20, 21, 22, 23, 39, 40, 41, 42, 31, 32, 33, 34, 35, 36, 37, 38] (by decide +kernel) (by decide +kernel)) (goodIn_sub (fun _ h => List.mem_cons_of_mem _ (List.mem_append_right _ h)) (by decide +kernel))
set_option maxRecDepth 20000 in
theorem gX1_flip_X1_windowOf : GoodIn wsX1_flip (wsV RX1 60 RX1 yX1_windowOf wsX1_windowOf) := goodIn_app (goodIn_of _ (by decide +kernel)) ggX1_flip_X1_windowOf
set_option maxRecDepth 20000 in
theorem ggX1_flip_X0_moveTo : GoodIn wsX1_flip wsX0_moveTo := goodIn_r _ [27, 28, 29, 30, 31, 32, 33, 34, 35, 36, 37, 38] (by decide +kernel) (by decide +kernel)
set_option maxRecDepth 20000 in
theorem gX1_flip_X0_moveTo : GoodIn wsX1_flip (wsV RX1 115 RX0 yX0_moveTo wsX0_moveTo) := goodIn_app (goodIn_of _ (by decide +kernel)) ggX1_flip_X0_moveTo
theorem dX1_flip_0 : decode cX1_flip 0 = .ok (.aload_n 0, 1) := by decide +kernel
theorem dX1_flip_1 : decode cX1_flip 1 = .ok (.iload_n 1, 1) := by decide +kernel
theorem dX1_flip_2 : decode cX1_flip 2 = .ok (.invokevirtual 60, 3) := by decide +kernel
theorem dX1_flip_5 : decode cX1_flip 5 = .ok (.astore_n 2, 1) := by decide +kernel
theorem dX1_flip_6 : decode cX1_flip 6 = .ok (.aload_n 2, 1) := by decide +kernel
theorem dX1_flip_7 : decode cX1_flip 7 = .ok (.iconst 0, 1) := by decide +kernel
theorem dX1_flip_8 : decode cX1_flip 8 = .ok (.aload_n 2, 1) := by decide +kernel
theorem dX1_flip_9 : decode cX1_flip 9 = .ok (.getfield 63, 3) := by decide +kernel
theorem dX1_flip_12 : decode cX1_flip 12 = .ok (.invokevirtual 115, 3) := by decide +kernel
theorem dX1_flip_15 : decode cX1_flip 15 = .ok (.aload_n 2, 1) := by decide +kernel
theorem dX1_flip_16 : decode cX1_flip 16 = .ok (.getfield 74, 3) := by decide +kernel
theorem dX1_flip_19 : decode cX1_flip 19 = .ok (.ireturn, 1) := by decide +kernel
set_option maxRecDepth 20000 in
theorem ggX1_rewind_X1_windowOf : GoodIn wsX1_rewind wsX1_windowOf := goodIn_ca (goodIn_r _ [6, 7, 8, 9, 10, 11, 5, 12, 13, 14, 15, 16, 17, 18, 19, 20, 21, 22, 42, 43, 44, 45, 34, 35, 36, 37, 38, 39, 40, 41] (by decide +kernel) (by decide +kernel)) (goodIn_sub (fun _ h => List.mem_cons_of_mem _ (List.mem_append_right _ h)) (by decide +kernel))
set_option maxRecDepth 20000 in
theorem gX1_rewind_X1_windowOf : GoodIn wsX1_rewind (wsV RX1 60 RX1 yX1_windowOf wsX1_windowOf) := goodIn_app (goodIn_of _ (by decide +kernel)) ggX1_rewind_X1_windowOf
set_option maxRecDepth 20000 in
theorem ggX1_rewind_X0_moveTo : GoodIn wsX1_rewind wsX0_moveTo := goodIn_r _ [26, 27, 28, 29, 34, 35, 36, 37, 38, 39, 40, 41] (by decide +kernel) (by decide +kernel)
set_option maxRecDepth 20000 in
theorem gX1_rewind_X0_moveTo : GoodIn wsX1_rewind (wsV RX1 115 RX0 yX0_moveTo wsX0_moveTo) := goodIn_app (goodIn_of _ (by decide +kernel)) ggX1_rewind_X0_moveTo
set_option maxRecDepth 20000 in
theorem ggX1_rewind_X0_rest : GoodIn wsX1_rewind wsX0_rest := goodIn_r _ [33, 28, 27, 34, 35, 36, 37, 38, 39, 40, 41] (by decide +kernel) (by decide +kernel)
set_option maxRecDepth 20000 in
theorem gX1_rewind_X0_rest : GoodIn wsX1_rewind (wsV RX1 66 RX0 yX0_rest wsX0_rest) := goodIn_app (goodIn_of _ (by decide +kernel)) ggX1_rewind_X0_rest
theorem dX1_rewind_0 : decode cX1_rewind 0 = .ok (.aload_n 0, 1) := by decide +kernel
theorem dX1_rewind_1 : decode cX1_rewind 1 = .ok (.iload_n 1, 1) := by decide +kernel
theorem dX1_rewind_2 : decode cX1_rewind 2 = .ok (.invokevirtual 60, 3) := by decide +kernel
theorem dX1_rewind_5 : decode cX1_rewind 5 = .ok (.astore_n 2, 1) := by decide +kernel
theorem dX1_rewind_6 : decode cX1_rewind 6 = .ok (.aload_n 2, 1) := by decide +kernel
theorem dX1_rewind_7 : decode cX1_rewind 7 = .ok (.iconst 0, 1) := by decide +kernel
theorem dX1_rewind_8 : decode cX1_rewind 8 = .ok (.aload_n 2, 1) := by decide +kernel
theorem dX1_rewind_9 : decode cX1_rewind 9 = .ok (.getfield 74, 3) := by decide +kernel
theorem dX1_rewind_12 : decode cX1_rewind 12 = .ok (.invokevirtual 115, 3) := by decide +kernel
theorem dX1_rewind_15 : decode cX1_rewind 15 = .ok (.aload_n 2, 1) := by decide +kernel
theorem dX1_rewind_16 : decode cX1_rewind 16 = .ok (.invokevirtual 66, 3) := by decide +kernel
theorem dX1_rewind_19 : decode cX1_rewind 19 = .ok (.ireturn, 1) := by decide +kernel
set_option maxRecDepth 20000 in
theorem ggX1_compact_X1_windowOf : GoodIn wsX1_compact wsX1_windowOf := goodIn_ca (goodIn_r _ [13, 14, 15, 16, 17, 18, 12, 19, 20, 21, 22, 23, 24, 25, 26, 27, 28, 29, 55, 56, 57, 58, 47, 48, 49, 50, 51, 52, 53, 54] (by decide +kernel) (by decide +kernel)) (goodIn_sub (fun _ h => List.mem_cons_of_mem _ (List.mem_append_left _ (List.mem_append_right _ h))) (by decide +kernel))
set_option maxRecDepth 20000 in
theorem gX1_compact_X1_windowOf : GoodIn wsX1_compact (wsV RX1 60 RX1 yX1_windowOf wsX1_windowOf) := goodIn_app (goodIn_of _ (by decide +kernel)) ggX1_compact_X1_windowOf
set_option maxRecDepth 20000 in
theorem ggX1_compact_X1_checkWritable : GoodIn wsX1_compact wsX1_checkWritable := goodIn_ca (goodIn_r _ [32, 33, 34, 35, 47, 48, 49, 50, 51, 52, 53, 54] (by decide +kernel) (by decide +kernel)) (goodIn_sub (fun _ h => List.mem_cons_of_mem _ (List.mem_append_right _ h)) (by decide +kernel))
set_option maxRecDepth 20000 in
theorem gX1_compact_X1_checkWritable : GoodIn wsX1_compact (va_wsS RX1 118 yX1_checkWritable wsX1_checkWritable) := goodIn_app (goodIn_of _ (by decide +kernel)) ggX1_compact_X1_checkWritable
set_option maxRecDepth 20000 in
theorem ggX1_compact_X0_rest : GoodIn wsX1_compact wsX0_rest := goodIn_r _ [39, 40, 41, 47, 48, 49, 50, 51, 52, 53, 54] (by decide +kernel) (by decide +kernel)
set_option maxRecDepth 20000 in
theorem gX1_compact_X0_rest : GoodIn wsX1_compact (wsV RX1 66 RX0 yX0_rest wsX0_rest) := goodIn_app (goodIn_of _ (by decide +kernel)) ggX1_compact_X0_rest
set_option maxRecDepth 20000 in
theorem ggX1_compact_X0_moveTo : GoodIn wsX1_compact wsX0_moveTo := goodIn_r _ [45, 41, 40, 46, 47, 48, 49, 50, 51, 52, 53, 54] (by decide +kernel) (by decide +kernel)
set_option maxRecDepth 20000 in
theorem gX1_compact_X0_moveTo : GoodIn wsX1_compact (wsV RX1 115 RX0 yX0_moveTo wsX0_moveTo) := goodIn_app (goodIn_of _ (by decide +kernel)) ggX1_compact_X0_moveTo
theorem dX1_compact_0 : decode cX1_compact 0 = .ok (.aload_n 0, 1) := by decide +kernel
theorem dX1_compact_1 : decode cX1_compact 1 = .ok (.iload_n 1, 1) := by decide +kernel
theorem dX1_compact_2 : decode cX1_compact 2 = .ok (.invokevirtual 60, 3) := by decide +kernel
theorem dX1_compact_5 : decode cX1_compact 5 = .ok (.astore_n 2, 1) := by decide +kernel
theorem dX1_compact_6 : decode cX1_compact 6 = .ok (.aload_n 2, 1) := by decide +kernel
theorem dX1_compact_7 : decode cX1_compact 7 = .ok (.invokestatic 118, 3) := by decide +kernel
theorem dX1_compact_10 : decode cX1_compact 10 = .ok (.aload_n 2, 1) := by decide +kernel
theorem dX1_compact_11 : decode cX1_compact 11 = .ok (.invokevirtual 66, 3) := by decide +kernel
theorem dX1_compact_14 : decode cX1_compact 14 = .ok (.istore_n 3, 1) := by decide +kernel
theorem dX1_compact_15 : decode cX1_compact 15 = .ok (.aload_n 2, 1) := by decide +kernel
theorem dX1_compact_16 : decode cX1_compact 16 = .ok (.getfield 121, 3) := by decide +kernel
theorem dX1_compact_19 : decode cX1_compact 19 = .ok (.aload_n 2, 1) := by decide +kernel
theorem dX1_compact_20 : decode cX1_compact 20 = .ok (.getfield 125, 3) := by decide +kernel
theorem dX1_compact_23 : decode cX1_compact 23 = .ok (.aload_n 2, 1) := by decide +kernel
theorem dX1_compact_24 : decode cX1_compact 24 = .ok (.getfield 63, 3) := by decide +kernel
theorem dX1_compact_27 : decode cX1_compact 27 = .ok (.iadd, 1) := by decide +kernel
theorem dX1_compact_28 : decode cX1_compact 28 = .ok (.aload_n 2, 1) := by decide +kernel
theorem dX1_compact_29 : decode cX1_compact 29 = .ok (.getfield 121, 3) := by decide +kernel
theorem dX1_compact_32 : decode cX1_compact 32 = .ok (.aload_n 2, 1) := by decide +kernel
theorem dX1_compact_33 : decode cX1_compact 33 = .ok (.getfield 125, 3) := by decide +kernel
theorem dX1_compact_36 : decode cX1_compact 36 = .ok (.iload_n 3, 1) := by decide +kernel
theorem dX1_compact_37 : decode cX1_compact 37 = .ok (.invokestatic 128, 3) := by decide +kernel
theorem dX1_compact_40 : decode cX1_compact 40 = .ok (.aload_n 2, 1) := by decide +kernel
theorem dX1_compact_41 : decode cX1_compact 41 = .ok (.iload_n 3, 1) := by decide +kernel
theorem dX1_compact_42 : decode cX1_compact 42 = .ok (.aload_n 2, 1) := by decide +kernel
theorem dX1_compact_43 : decode cX1_compact 43 = .ok (.getfield 56, 3) := by decide +kernel
theorem dX1_compact_46 : decode cX1_compact 46 = .ok (.invokevirtual 115, 3) := by decide +kernel
theorem dX1_compact_49 : decode cX1_compact 49 = .ok (.aload_n 2, 1) := by decide +kernel
theorem dX1_compact_50 : decode cX1_compact 50 = .ok (.getfield 63, 3) := by decide +kernel
theorem dX1_compact_53 : decode cX1_compact 53 = .ok (.ireturn, 1) := by decide +kernel
set_option maxRecDepth 20000 in
theorem ggX1_get_X1_windowOf : GoodIn wsX1_get wsX1_windowOf := goodIn_ca (goodIn_r _ [5, 6, 7, 8, 9, 10, 4, 11, 12, 13, 14, 15, 16, 17, 18, 19, 20, 21, 43, 44, 45, 46, 47, 48, 49, 50, 51, 52, 53, 54] (by decide +kernel) (by decide +kernel)) (goodIn_sub (fun _ h => List.mem_cons_of_mem _ (List.mem_append_left _ (List.mem_append_left _ (List.mem_append_right _ h)))) (by decide +kernel))
set_option maxRecDepth 20000 in
theorem gX1_get_X1_windowOf : GoodIn wsX1_get (wsV RX1 60 RX1 yX1_windowOf wsX1_windowOf) := goodIn_app (goodIn_of _ (by decide +kernel)) ggX1_get_X1_windowOf
set_option maxRecDepth 20000 in
theorem ggX1_get_X1_checkEnoughToGet : GoodIn wsX1_get wsX1_checkEnoughToGet := goodIn_ca (goodIn_r _ [24, 25, 26, 27, 28, 29, 19, 30, 31, 32, 47, 48, 49, 50, 51, 52, 53, 54] (by decide +kernel) (by decide +kernel)) (goodIn_sub (fun _ h => List.mem_cons_of_mem _ (List.mem_append_left _ (List.mem_append_right _ h))) (by decide +kernel))
set_option maxRecDepth 20000 in
theorem gX1_get_X1_checkEnoughToGet : GoodIn wsX1_get (va_wsS RX1 134 yX1_checkEnoughToGet wsX1_checkEnoughToGet) := goodIn_app (goodIn_of _ (by decide +kernel)) ggX1_get_X1_checkEnoughToGet
set_option maxRecDepth 20000 in
theorem ggX1_get_X0_takeNext : GoodIn wsX1_get wsX0_takeNext := goodIn_ca (goodIn_r _ [36, 32, 37, 38, 39, 19, 40, 41, 42, 47, 48, 49, 50, 51, 52, 53, 54] (by decide +kernel) (by decide +kernel)) (goodIn_sub (fun _ h => List.mem_cons_of_mem _ (List.mem_append_right _ h)) (by decide +kernel))
set_option maxRecDepth 20000 in
theorem gX1_get_X0_takeNext : GoodIn wsX1_get (wsV RX1 138 RX0 yX0_takeNext wsX0_takeNext) := goodIn_app (goodIn_of _ (by decide +kernel)) ggX1_get_X0_takeNext
theorem dX1_get_0 : decode cX1_get 0 = .ok (.aload_n 0, 1) := by decide +kernel
theorem dX1_get_1 : decode cX1_get 1 = .ok (.iload_n 1, 1) := by decide +kernel
theorem dX1_get_2 : decode cX1_get 2 = .ok (.invokevirtual 60, 3) := by decide +kernel
theorem dX1_get_5 : decode cX1_get 5 = .ok (.astore_n 2, 1) := by decide +kernel
theorem dX1_get_6 : decode cX1_get 6 = .ok (.aload_n 2, 1) := by decide +kernel
theorem dX1_get_7 : decode cX1_get 7 = .ok (.iconst 1, 1) := by decide +kernel
theorem dX1_get_8 : decode cX1_get 8 = .ok (.invokestatic 134, 3) := by decide +kernel
theorem dX1_get_11 : decode cX1_get 11 = .ok (.aload_n 2, 1) := by decide +kernel
theorem dX1_get_12 : decode cX1_get 12 = .ok (.invokevirtual 138, 3) := by decide +kernel
theorem dX1_get_15 : decode cX1_get 15 = .ok (.lreturn, 1) := by decide +kernel
set_option maxRecDepth 20000 in
theorem ggX1_put_X1_windowOf : GoodIn wsX1_put wsX1_windowOf := goodIn_ca (goodIn_r _ [6, 7, 8, 9, 10, 11, 5, 12, 13, 14, 15, 16, 17, 18, 19, 20, 21, 22, 63, 64, 65, 66, 55, 56, 57, 58, 59, 60, 61, 62] (by decide +kernel) (by decide +kernel)) (goodIn_sub (fun _ h => List.mem_cons_of_mem _ (List.mem_append_left _ (List.mem_append_left _ (List.mem_append_left _ (List.mem_append_right _ h))))) (by decide +kernel))
set_option maxRecDepth 20000 in
theorem gX1_put_X1_windowOf : GoodIn wsX1_put (wsV RX1 60 RX1 yX1_windowOf wsX1_windowOf) := goodIn_app (goodIn_of _ (by decide +kernel)) ggX1_put_X1_windowOf
set_option maxRecDepth 20000 in
theorem ggX1_put_X1_checkWritable : GoodIn wsX1_put wsX1_checkWritable := goodIn_ca (goodIn_r _ [25, 26, 27, 28, 55, 56, 57, 58, 59, 60, 61, 62] (by decide +kernel) (by decide +kernel)) (goodIn_sub (fun _ h => List.mem_cons_of_mem _ (List.mem_append_left _ (List.mem_append_left _ (List.mem_append_right _ h)))) (by decide +kernel))
set_option maxRecDepth 20000 in
theorem gX1_put_X1_checkWritable : GoodIn wsX1_put (va_wsS RX1 118 yX1_checkWritable wsX1_checkWritable) := goodIn_app (goodIn_of _ (by decide +kernel)) ggX1_put_X1_checkWritable
set_option maxRecDepth 20000 in
theorem ggX1_put_X1_checkEnoughToPut : GoodIn wsX1_put wsX1_checkEnoughToPut := goodIn_ca (goodIn_r _ [31, 32, 33, 34, 35, 36, 20, 37, 38, 39, 55, 56, 57, 58, 59, 60, 61, 62] (by decide +kernel) (by decide +kernel)) (goodIn_sub (fun _ h => List.mem_cons_of_mem _ (List.mem_append_left _ (List.mem_append_right _ h))) (by decide +kernel))
set_option maxRecDepth 20000 in
theorem gX1_put_X1_checkEnoughToPut : GoodIn wsX1_put (va_wsS RX1 142 yX1_checkEnoughToPut wsX1_checkEnoughToPut) := goodIn_app (goodIn_of _ (by decide +kernel)) ggX1_put_X1_checkEnoughToPut
set_option maxRecDepth 20000 in
theorem ggX1_put_X0_putNext : GoodIn wsX1_put wsX0_putNext := goodIn_ca (goodIn_r _ [43, 39, 44, 45, 46, 20, 47, 48, 49, 50, 51, 52, 53, 22, 54, 55, 56, 57, 58, 59, 60, 61, 62] (by decide +kernel) (by decide +kernel)) (goodIn_sub (fun _ h => List.mem_cons_of_mem _ (List.mem_append_right _ h)) (by decide +kernel))
set_option maxRecDepth 20000 in
theorem gX1_put_X0_putNext : GoodIn wsX1_put (wsV RX1 145 RX0 yX0_putNext wsX0_putNext) := goodIn_app (goodIn_of _ (by decide +kernel)) ggX1_put_X0_putNext
theorem dX1_put_0 : decode cX1_put 0 = .ok (.aload_n 0, 1) := by decide +kernel
theorem dX1_put_1 : decode cX1_put 1 = .ok (.iload_n 1, 1) := by decide +kernel
theorem dX1_put_2 : decode cX1_put 2 = .ok (.invokevirtual 60, 3) := by decide +kernel
theorem dX1_put_5 : decode cX1_put 5 = .ok (.astore 4, 2) := by decide +kernel
theorem dX1_put_7 : decode cX1_put 7 = .ok (.aload 4, 2) := by decide +kernel
theorem dX1_put_9 : decode cX1_put 9 = .ok (.invokestatic 118, 3) := by decide +kernel
theorem dX1_put_12 : decode cX1_put 12 = .ok (.aload 4, 2) := by decide +kernel
theorem dX1_put_14 : decode cX1_put 14 = .ok (.iconst 1, 1) := by decide +kernel
theorem dX1_put_15 : decode cX1_put 15 = .ok (.invokestatic 142, 3) := by decide +kernel
theorem dX1_put_18 : decode cX1_put 18 = .ok (.aload 4, 2) := by decide +kernel
theorem dX1_put_20 : decode cX1_put 20 = .ok (.lload_n 2, 1) := by decide +kernel
theorem dX1_put_21 : decode cX1_put 21 = .ok (.invokevirtual 145, 3) := by decide +kernel
theorem dX1_put_24 : decode cX1_put 24 = .ok (.aload 4, 2) := by decide +kernel
theorem dX1_put_26 : decode cX1_put 26 = .ok (.getfield 63, 3) := by decide +kernel
theorem dX1_put_29 : decode cX1_put 29 = .ok (.ireturn, 1) := by decide +kernel
set_option maxRecDepth 20000 in
theorem ggX1_getAt_X1_windowOf : GoodIn wsX1_getAt wsX1_windowOf := goodIn_ca (goodIn_r _ [6, 7, 8, 9, 10, 11, 5, 12, 13, 14, 15, 16, 17, 18, 19, 20, 21, 22, 37, 38, 39, 40, 29, 30, 31, 32, 33, 34, 35, 36] (by decide +kernel) (by decide +kernel)) (goodIn_sub (fun _ h => List.mem_cons_of_mem _ (List.mem_append_left _ (List.mem_append_right _ h))) (by decide +kernel))
set_option maxRecDepth 20000 in
theorem gX1_getAt_X1_windowOf : GoodIn wsX1_getAt (wsV RX1 60 RX1 yX1_windowOf wsX1_windowOf) := goodIn_app (goodIn_of _ (by decide +kernel)) ggX1_getAt_X1_windowOf
set_option maxRecDepth 20000 in
theorem ggX1_getAt_X1_checkIndex : GoodIn wsX1_getAt wsX1_checkIndex := goodIn_ca (goodIn_r _ [16, 7, 8] (by decide +kernel) (by decide +kernel)) (goodIn_sub (fun _ h => List.mem_cons_of_mem _ (List.mem_append_left _ (List.mem_append_right _ h))) (by decide +kernel))
set_option maxRecDepth 20000 in
theorem gX1_getAt_X1_checkIndex : GoodIn wsX1_getAt (va_wsS RX1 36 yX1_checkIndex wsX1_checkIndex) := goodIn_app (goodIn_of _ (by decide +kernel)) ggX1_getAt_X1_checkIndex
set_option maxRecDepth 20000 in
theorem ggX1_getAt_X0_valueAt : GoodIn wsX1_getAt wsX0_valueAt := goodIn_ca (goodIn_r _ [26, 27, 28, 29, 30, 31, 32, 33, 34, 35, 36] (by decide +kernel) (by decide +kernel)) (goodIn_sub (fun _ h => List.mem_cons_of_mem _ (List.mem_append_right _ h)) (by decide +kernel))
set_option maxRecDepth 20000 in
theorem gX1_getAt_X0_valueAt : GoodIn wsX1_getAt (wsV RX1 149 RX0 yX0_valueAt wsX0_valueAt) := goodIn_app (goodIn_of _ (by decide +kernel)) ggX1_getAt_X0_valueAt
theorem dX1_getAt_0 : decode cX1_getAt 0 = .ok (.aload_n 0, 1) := by decide +kernel
theorem dX1_getAt_1 : decode cX1_getAt 1 = .ok (.iload_n 1, 1) := by decide +kernel
theorem dX1_getAt_2 : decode cX1_getAt 2 = .ok (.invokevirtual 60, 3) := by decide +kernel
theorem dX1_getAt_5 : decode cX1_getAt 5 = .ok (.astore_n 3, 1) := by decide +kernel
theorem dX1_getAt_6 : decode cX1_getAt 6 = .ok (.iload_n 2, 1) := by decide +kernel
theorem dX1_getAt_7 : decode cX1_getAt 7 = .ok (.aload_n 3, 1) := by decide +kernel
theorem dX1_getAt_8 : decode cX1_getAt 8 = .ok (.getfield 74, 3) := by decide +kernel
theorem dX1_getAt_11 : decode cX1_getAt 11 = .ok (.invokestatic 36, 3) := by decide +kernel
theorem dX1_getAt_14 : decode cX1_getAt 14 = .ok (.aload_n 3, 1) := by decide +kernel
theorem dX1_getAt_15 : decode cX1_getAt 15 = .ok (.iload_n 2, 1) := by decide +kernel
theorem dX1_getAt_16 : decode cX1_getAt 16 = .ok (.invokevirtual 149, 3) := by decide +kernel
theorem dX1_getAt_19 : decode cX1_getAt 19 = .ok (.lreturn, 1) := by decide +kernel
set_option maxRecDepth 20000 in
theorem ggX1_putAt_X1_windowOf : GoodIn wsX1_putAt wsX1_windowOf := goodIn_ca (goodIn_r _ [6, 7, 8, 9, 10, 11, 5, 12, 13, 14, 15, 16, 17, 18, 19, 20, 21, 22, 52, 53, 54, 55, 44, 45, 46, 47, 48, 49, 50, 51] (by decide +kernel) (by decide +kernel)) (goodIn_sub (fun _ h => List.mem_cons_of_mem _ (List.mem_append_left _ (List.mem_append_left _ (List.mem_append_right _ h)))) (by decide +kernel))
set_option maxRecDepth 20000 in
theorem gX1_putAt_X1_windowOf : GoodIn wsX1_putAt (wsV RX1 60 RX1 yX1_windowOf wsX1_windowOf) := goodIn_app (goodIn_of _ (by decide +kernel)) ggX1_putAt_X1_windowOf
set_option maxRecDepth 20000 in
theorem ggX1_putAt_X1_checkIndex : GoodIn wsX1_putAt wsX1_checkIndex := goodIn_ca (goodIn_r _ [16, 7, 8] (by decide +kernel) (by decide +kernel)) (goodIn_sub (fun _ h => List.mem_cons_of_mem _ (List.mem_append_left _ (List.mem_append_left _ (List.mem_append_right _ h)))) (by decide +kernel))
set_option maxRecDepth 20000 in
theorem gX1_putAt_X1_checkIndex : GoodIn wsX1_putAt (va_wsS RX1 36 yX1_checkIndex wsX1_checkIndex) := goodIn_app (goodIn_of _ (by decide +kernel)) ggX1_putAt_X1_checkIndex
set_option maxRecDepth 20000 in
theorem ggX1_putAt_X1_checkWritable : GoodIn wsX1_putAt wsX1_checkWritable := goodIn_ca (goodIn_r _ [25, 26, 27, 28, 44, 45, 46, 47, 48, 49, 50, 51] (by decide +kernel) (by decide +kernel)) (goodIn_sub (fun _ h => List.mem_cons_of_mem _ (List.mem_append_left _ (List.mem_append_right _ h))) (by decide +kernel))
set_option maxRecDepth 20000 in
theorem gX1_putAt_X1_checkWritable : GoodIn wsX1_putAt (va_wsS RX1 118 yX1_checkWritable wsX1_checkWritable) := goodIn_app (goodIn_of _ (by decide +kernel)) ggX1_putAt_X1_checkWritable
set_option maxRecDepth 20000 in
theorem ggX1_putAt_X0_valueAt : GoodIn wsX1_putAt wsX0_valueAt := goodIn_ca (goodIn_r _ [32, 33, 34, 44, 45, 46, 47, 48, 49, 50, 51] (by decide +kernel) (by decide +kernel)) (goodIn_sub (fun _ h => List.mem_cons_of_mem _ (List.mem_append_right _ h)) (by decide +kernel))
set_option maxRecDepth 20000 in
theorem gX1_putAt_X0_valueAt : GoodIn wsX1_putAt (wsV RX1 149 RX0 yX0_valueAt wsX0_valueAt) := goodIn_app (goodIn_of _ (by decide +kernel)) ggX1_putAt_X0_valueAt
set_option maxRecDepth 20000 in
theorem ggX1_putAt_X0_changeAt : GoodIn wsX1_putAt wsX0_changeAt := goodIn_ca (goodIn_r _ [38, 33, 34, 39, 40, 41, 20, 42, 22, 43, 44, 45, 46, 47, 48, 49, 50, 51] (by decide +kernel) (by decide +kernel)) (goodIn_sub (fun _ h => List.mem_cons_of_mem _ (List.mem_append_right _ h)) (by decide +kernel))
set_option maxRecDepth 20000 in
theorem gX1_putAt_X0_changeAt : GoodIn wsX1_putAt (wsV RX1 153 RX0 yX0_changeAt wsX0_changeAt) := goodIn_app (goodIn_of _ (by decide +kernel)) ggX1_putAt_X0_changeAt
theorem dX1_putAt_0 : decode cX1_putAt 0 = .ok (.aload_n 0, 1) := by decide +kernel
theorem dX1_putAt_1 : decode cX1_putAt 1 = .ok (.iload_n 1, 1) := by decide +kernel
theorem dX1_putAt_2 : decode cX1_putAt 2 = .ok (.invokevirtual 60, 3) := by decide +kernel
theorem dX1_putAt_5 : decode cX1_putAt 5 = .ok (.astore 5, 2) := by decide +kernel
theorem dX1_putAt_7 : decode cX1_putAt 7 = .ok (.iload_n 2, 1) := by decide +kernel
theorem dX1_putAt_8 : decode cX1_putAt 8 = .ok (.aload 5, 2) := by decide +kernel
theorem dX1_putAt_10 : decode cX1_putAt 10 = .ok (.getfield 74, 3) := by decide +kernel
theorem dX1_putAt_13 : decode cX1_putAt 13 = .ok (.invokestatic 36, 3) := by decide +kernel
theorem dX1_putAt_16 : decode cX1_putAt 16 = .ok (.aload 5, 2) := by decide +kernel
theorem dX1_putAt_18 : decode cX1_putAt 18 = .ok (.invokestatic 118, 3) := by decide +kernel
theorem dX1_putAt_21 : decode cX1_putAt 21 = .ok (.aload 5, 2) := by decide +kernel
theorem dX1_putAt_23 : decode cX1_putAt 23 = .ok (.iload_n 2, 1) := by decide +kernel
theorem dX1_putAt_24 : decode cX1_putAt 24 = .ok (.invokevirtual 149, 3) := by decide +kernel
theorem dX1_putAt_27 : decode cX1_putAt 27 = .ok (.lstore 6, 2) := by decide +kernel
theorem dX1_putAt_29 : decode cX1_putAt 29 = .ok (.aload 5, 2) := by decide +kernel
theorem dX1_putAt_31 : decode cX1_putAt 31 = .ok (.iload_n 2, 1) := by decide +kernel
theorem dX1_putAt_32 : decode cX1_putAt 32 = .ok (.lload_n 3, 1) := by decide +kernel
theorem dX1_putAt_33 : decode cX1_putAt 33 = .ok (.invokevirtual 153, 3) := by decide +kernel
theorem dX1_putAt_36 : decode cX1_putAt 36 = .ok (.lload 6, 2) := by decide +kernel
theorem dX1_putAt_38 : decode cX1_putAt 38 = .ok (.lreturn, 1) := by decide +kernel
set_option maxRecDepth 20000 in
theorem ggX1_fill_X1_windowOf : GoodIn wsX1_fill wsX1_windowOf := goodIn_ca (goodIn_r _ [6, 7, 8, 9, 10, 11, 5, 12, 13, 14, 15, 16, 17, 18, 19, 20, 21, 22, 68, 69, 70, 71, 60, 61, 62, 63, 64, 65, 66, 67] (by decide +kernel) (by decide +kernel)) (goodIn_sub (fun _ h => List.mem_cons_of_mem _ (List.mem_append_left _ (List.mem_append_left _ (List.mem_append_left _ (List.mem_append_left _ (List.mem_append_right _ h)))))) (by decide +kernel))
set_option maxRecDepth 20000 in
theorem gX1_fill_X1_windowOf : GoodIn wsX1_fill (wsV RX1 60 RX1 yX1_windowOf wsX1_windowOf) := goodIn_app (goodIn_of _ (by decide +kernel)) ggX1_fill_X1_windowOf
set_option maxRecDepth 20000 in
theorem ggX1_fill_X1_checkMany : GoodIn wsX1_fill wsX1_checkMany := goodIn_ca (goodIn_r _ [25, 26, 27] (by decide +kernel) (by decide +kernel)) (goodIn_sub (fun _ h => List.mem_cons_of_mem _ (List.mem_append_left _ (List.mem_append_left _ (List.mem_append_left _ (List.mem_append_right _ h))))) (by decide +kernel))
set_option maxRecDepth 20000 in
theorem gX1_fill_X1_checkMany : GoodIn wsX1_fill (va_wsS RX1 157 yX1_checkMany wsX1_checkMany) := goodIn_app (goodIn_of _ (by decide +kernel)) ggX1_fill_X1_checkMany
set_option maxRecDepth 20000 in
theorem ggX1_fill_X1_checkWritable : GoodIn wsX1_fill wsX1_checkWritable := goodIn_ca (goodIn_r _ [30, 31, 32, 33, 60, 61, 62, 63, 64, 65, 66, 67] (by decide +kernel) (by decide +kernel)) (goodIn_sub (fun _ h => List.mem_cons_of_mem _ (List.mem_append_left _ (List.mem_append_left _ (List.mem_append_right _ h)))) (by decide +kernel))
set_option maxRecDepth 20000 in
theorem gX1_fill_X1_checkWritable : GoodIn wsX1_fill (va_wsS RX1 118 yX1_checkWritable wsX1_checkWritable) := goodIn_app (goodIn_of _ (by decide +kernel)) ggX1_fill_X1_checkWritable
set_option maxRecDepth 20000 in
theorem ggX1_fill_X1_checkEnoughToPut : GoodIn wsX1_fill wsX1_checkEnoughToPut := goodIn_ca (goodIn_r _ [36, 37, 38, 39, 40, 41, 20, 42, 43, 44, 60, 61, 62, 63, 64, 65, 66, 67] (by decide +kernel) (by decide +kernel)) (goodIn_sub (fun _ h => List.mem_cons_of_mem _ (List.mem_append_left _ (List.mem_append_right _ h))) (by decide +kernel))
set_option maxRecDepth 20000 in
theorem gX1_fill_X1_checkEnoughToPut : GoodIn wsX1_fill (va_wsS RX1 142 yX1_checkEnoughToPut wsX1_checkEnoughToPut) := goodIn_app (goodIn_of _ (by decide +kernel)) ggX1_fill_X1_checkEnoughToPut
set_option maxRecDepth 20000 in
theorem ggX1_fill_X0_putNext : GoodIn wsX1_fill wsX0_putNext := goodIn_ca (goodIn_r _ [48, 44, 49, 50, 51, 20, 52, 53, 54, 55, 56, 57, 58, 22, 59, 60, 61, 62, 63, 64, 65, 66, 67] (by decide +kernel) (by decide +kernel)) (goodIn_sub (fun _ h => List.mem_cons_of_mem _ (List.mem_append_right _ h)) (by decide +kernel))
set_option maxRecDepth 20000 in
theorem gX1_fill_X0_putNext : GoodIn wsX1_fill (wsV RX1 145 RX0 yX0_putNext wsX0_putNext) := goodIn_app (goodIn_of _ (by decide +kernel)) ggX1_fill_X0_putNext
theorem dX1_fill_0 : decode cX1_fill 0 = .ok (.aload_n 0, 1) := by decide +kernel
theorem dX1_fill_1 : decode cX1_fill 1 = .ok (.iload_n 1, 1) := by decide +kernel
theorem dX1_fill_2 : decode cX1_fill 2 = .ok (.invokevirtual 60, 3) := by decide +kernel
theorem dX1_fill_5 : decode cX1_fill 5 = .ok (.astore 7, 2) := by decide +kernel
theorem dX1_fill_7 : decode cX1_fill 7 = .ok (.iload_n 2, 1) := by decide +kernel
theorem dX1_fill_8 : decode cX1_fill 8 = .ok (.invokestatic 157, 3) := by decide +kernel
theorem dX1_fill_11 : decode cX1_fill 11 = .ok (.aload 7, 2) := by decide +kernel
theorem dX1_fill_13 : decode cX1_fill 13 = .ok (.invokestatic 118, 3) := by decide +kernel
theorem dX1_fill_16 : decode cX1_fill 16 = .ok (.aload 7, 2) := by decide +kernel
theorem dX1_fill_18 : decode cX1_fill 18 = .ok (.iload_n 2, 1) := by decide +kernel
theorem dX1_fill_19 : decode cX1_fill 19 = .ok (.invokestatic 142, 3) := by decide +kernel
theorem dX1_fill_22 : decode cX1_fill 22 = .ok (.lload_n 3, 1) := by decide +kernel
theorem dX1_fill_23 : decode cX1_fill 23 = .ok (.lstore 8, 2) := by decide +kernel
theorem dX1_fill_25 : decode cX1_fill 25 = .ok (.iconst 0, 1) := by decide +kernel
theorem dX1_fill_26 : decode cX1_fill 26 = .ok (.istore 10, 2) := by decide +kernel
theorem dX1_fill_28 : decode cX1_fill 28 = .ok (.iload 10, 2) := by decide +kernel
theorem dX1_fill_30 : decode cX1_fill 30 = .ok (.iload_n 2, 1) := by decide +kernel
theorem dX1_fill_31 : decode cX1_fill 31 = .ok (.if_icmp .ge 23, 3) := by decide +kernel
theorem dX1_fill_34 : decode cX1_fill 34 = .ok (.aload 7, 2) := by decide +kernel
theorem dX1_fill_36 : decode cX1_fill 36 = .ok (.lload 8, 2) := by decide +kernel
theorem dX1_fill_38 : decode cX1_fill 38 = .ok (.invokevirtual 145, 3) := by decide +kernel
theorem dX1_fill_41 : decode cX1_fill 41 = .ok (.lload 8, 2) := by decide +kernel
theorem dX1_fill_43 : decode cX1_fill 43 = .ok (.lload 5, 2) := by decide +kernel
theorem dX1_fill_45 : decode cX1_fill 45 = .ok (.ladd, 1) := by decide +kernel
theorem dX1_fill_46 : decode cX1_fill 46 = .ok (.lstore 8, 2) := by decide +kernel
theorem dX1_fill_48 : decode cX1_fill 48 = .ok (.iinc 10 1, 3) := by decide +kernel
theorem dX1_fill_51 : decode cX1_fill 51 = .ok (.goto (-23), 3) := by decide +kernel
theorem dX1_fill_54 : decode cX1_fill 54 = .ok (.aload 7, 2) := by decide +kernel
theorem dX1_fill_56 : decode cX1_fill 56 = .ok (.getfield 63, 3) := by decide +kernel
theorem dX1_fill_59 : decode cX1_fill 59 = .ok (.ireturn, 1) := by decide +kernel
set_option maxRecDepth 20000 in
theorem ggX1_pour_X1_windowOf : GoodIn wsX1_pour wsX1_windowOf := goodIn_ca (goodIn_r _ [8, 9, 10, 11, 12, 13, 7, 14, 15, 16, 17, 18, 19, 20, 21, 22, 23, 24, 81, 82, 83, 84, 73, 74, 75, 76, 77, 78, 79, 80] (by decide +kernel) (by decide +kernel)) (goodIn_sub (fun _ h => List.mem_cons_of_mem _ (List.mem_append_left _ (List.mem_append_left _ (List.mem_append_left _ (List.mem_append_left _ (List.mem_append_right _ h)))))) (by decide +kernel))
set_option maxRecDepth 20000 in
theorem gX1_pour_X1_windowOf : GoodIn wsX1_pour (wsV RX1 60 RX1 yX1_windowOf wsX1_windowOf) := goodIn_app (goodIn_of _ (by decide +kernel)) ggX1_pour_X1_windowOf
set_option maxRecDepth 20000 in
theorem ggX1_pour_X1_checkMany : GoodIn wsX1_pour wsX1_checkMany := goodIn_ca (goodIn_r _ [27, 1, 2] (by decide +kernel) (by decide +kernel)) (goodIn_sub (fun _ h => List.mem_cons_of_mem _ (List.mem_append_left _ (List.mem_append_left _ (List.mem_append_left _ (List.mem_append_left _ (List.mem_append_left _ (List.mem_append_right _ h))))))) (by decide +kernel))
set_option maxRecDepth 20000 in
theorem gX1_pour_X1_checkMany : GoodIn wsX1_pour (va_wsS RX1 157 yX1_checkMany wsX1_checkMany) := goodIn_app (goodIn_of _ (by decide +kernel)) ggX1_pour_X1_checkMany
set_option maxRecDepth 20000 in
theorem ggX1_pour_X1_checkWritable : GoodIn wsX1_pour wsX1_checkWritable := goodIn_ca (goodIn_r _ [30, 31, 32, 33, 73, 74, 75, 76, 77, 78, 79, 80] (by decide +kernel) (by decide +kernel)) (goodIn_sub (fun _ h => List.mem_cons_of_mem _ (List.mem_append_left _ (List.mem_append_left _ (List.mem_append_left _ (List.mem_append_right _ h))))) (by decide +kernel))
set_option maxRecDepth 20000 in
theorem gX1_pour_X1_checkWritable : GoodIn wsX1_pour (va_wsS RX1 118 yX1_checkWritable wsX1_checkWritable) := goodIn_app (goodIn_of _ (by decide +kernel)) ggX1_pour_X1_checkWritable
set_option maxRecDepth 20000 in
theorem ggX1_pour_X1_checkEnoughToGet : GoodIn wsX1_pour wsX1_checkEnoughToGet := goodIn_ca (goodIn_r _ [36, 37, 38, 39, 40, 41, 22, 42, 43, 44, 73, 74, 75, 76, 77, 78, 79, 80] (by decide +kernel) (by decide +kernel)) (goodIn_sub (fun _ h => List.mem_cons_of_mem _ (List.mem_append_left _ (List.mem_append_left _ (List.mem_append_right _ h)))) (by decide +kernel))
set_option maxRecDepth 20000 in
theorem gX1_pour_X1_checkEnoughToGet : GoodIn wsX1_pour (va_wsS RX1 134 yX1_checkEnoughToGet wsX1_checkEnoughToGet) := goodIn_app (goodIn_of _ (by decide +kernel)) ggX1_pour_X1_checkEnoughToGet
set_option maxRecDepth 20000 in
theorem ggX1_pour_X1_checkEnoughToPut : GoodIn wsX1_pour wsX1_checkEnoughToPut := goodIn_ca (goodIn_r _ [47, 48, 49, 39, 40, 41, 22, 42, 43, 44, 73, 74, 75, 76, 77, 78, 79, 80] (by decide +kernel) (by decide +kernel)) (goodIn_sub (fun _ h => List.mem_cons_of_mem _ (List.mem_append_left _ (List.mem_append_right _ h))) (by decide +kernel))
set_option maxRecDepth 20000 in
theorem gX1_pour_X1_checkEnoughToPut : GoodIn wsX1_pour (va_wsS RX1 142 yX1_checkEnoughToPut wsX1_checkEnoughToPut) := goodIn_app (goodIn_of _ (by decide +kernel)) ggX1_pour_X1_checkEnoughToPut
set_option maxRecDepth 20000 in
theorem ggX1_pour_X0_takeNext : GoodIn wsX1_pour wsX0_takeNext := goodIn_ca (goodIn_r _ [53, 44, 54, 55, 56, 22, 57, 58, 59, 73, 74, 75, 76, 77, 78, 79, 80] (by decide +kernel) (by decide +kernel)) (goodIn_sub (fun _ h => List.mem_cons_of_mem _ (List.mem_append_right _ h)) (by decide +kernel))
set_option maxRecDepth 20000 in
theorem gX1_pour_X0_takeNext : GoodIn wsX1_pour (wsV RX1 138 RX0 yX0_takeNext wsX0_takeNext) := goodIn_app (goodIn_of _ (by decide +kernel)) ggX1_pour_X0_takeNext
set_option maxRecDepth 20000 in
theorem ggX1_pour_X0_putNext : GoodIn wsX1_pour wsX0_putNext := goodIn_ca (goodIn_r _ [63, 44, 64, 65, 66, 22, 67, 58, 59, 68, 69, 70, 71, 24, 72, 73, 74, 75, 76, 77, 78, 79, 80] (by decide +kernel) (by decide +kernel)) (goodIn_sub (fun _ h => List.mem_cons_of_mem _ (List.mem_append_right _ h)) (by decide +kernel))
set_option maxRecDepth 20000 in
theorem gX1_pour_X0_putNext : GoodIn wsX1_pour (wsV RX1 145 RX0 yX0_putNext wsX0_putNext) := goodIn_app (goodIn_of _ (by decide +kernel)) ggX1_pour_X0_putNext
theorem dX1_pour_0 : decode cX1_pour 0 = .ok (.aload_n 0, 1) := by decide +kernel
theorem dX1_pour_1 : decode cX1_pour 1 = .ok (.iload_n 1, 1) := by decide +kernel
theorem dX1_pour_2 : decode cX1_pour 2 = .ok (.invokevirtual 60, 3) := by decide +kernel
theorem dX1_pour_5 : decode cX1_pour 5 = .ok (.astore 4, 2) := by decide +kernel
theorem dX1_pour_7 : decode cX1_pour 7 = .ok (.aload_n 0, 1) := by decide +kernel
theorem dX1_pour_8 : decode cX1_pour 8 = .ok (.iload_n 2, 1) := by decide +kernel
theorem dX1_pour_9 : decode cX1_pour 9 = .ok (.invokevirtual 60, 3) := by decide +kernel
theorem dX1_pour_12 : decode cX1_pour 12 = .ok (.astore 5, 2) := by decide +kernel
theorem dX1_pour_14 : decode cX1_pour 14 = .ok (.iload_n 1, 1) := by decide +kernel
theorem dX1_pour_15 : decode cX1_pour 15 = .ok (.iload_n 2, 1) := by decide +kernel
theorem dX1_pour_16 : decode cX1_pour 16 = .ok (.if_icmp .ne 13, 3) := by decide +kernel
theorem dX1_pour_19 : decode cX1_pour 19 = .ok (.new 160, 3) := by decide +kernel
theorem dX1_pour_22 : decode cX1_pour 22 = .ok (.dup, 1) := by decide +kernel
theorem dX1_pour_23 : decode cX1_pour 23 = .ok (.ldc 162, 2) := by decide +kernel
theorem dX1_pour_25 : decode cX1_pour 25 = .ok (.invokespecial 164, 3) := by decide +kernel
theorem dX1_pour_28 : decode cX1_pour 28 = .ok (.athrow, 1) := by decide +kernel
theorem dX1_pour_29 : decode cX1_pour 29 = .ok (.iload_n 3, 1) := by decide +kernel
theorem dX1_pour_30 : decode cX1_pour 30 = .ok (.invokestatic 157, 3) := by decide +kernel
theorem dX1_pour_33 : decode cX1_pour 33 = .ok (.aload 5, 2) := by decide +kernel
theorem dX1_pour_35 : decode cX1_pour 35 = .ok (.invokestatic 118, 3) := by decide +kernel
theorem dX1_pour_38 : decode cX1_pour 38 = .ok (.aload 4, 2) := by decide +kernel
theorem dX1_pour_40 : decode cX1_pour 40 = .ok (.iload_n 3, 1) := by decide +kernel
theorem dX1_pour_41 : decode cX1_pour 41 = .ok (.invokestatic 134, 3) := by decide +kernel
theorem dX1_pour_44 : decode cX1_pour 44 = .ok (.aload 5, 2) := by decide +kernel
theorem dX1_pour_46 : decode cX1_pour 46 = .ok (.iload_n 3, 1) := by decide +kernel
theorem dX1_pour_47 : decode cX1_pour 47 = .ok (.invokestatic 142, 3) := by decide +kernel
theorem dX1_pour_50 : decode cX1_pour 50 = .ok (.iconst 0, 1) := by decide +kernel
theorem dX1_pour_51 : decode cX1_pour 51 = .ok (.istore 6, 2) := by decide +kernel
theorem dX1_pour_53 : decode cX1_pour 53 = .ok (.iload 6, 2) := by decide +kernel
theorem dX1_pour_55 : decode cX1_pour 55 = .ok (.iload_n 3, 1) := by decide +kernel
theorem dX1_pour_56 : decode cX1_pour 56 = .ok (.if_icmp .ge 19, 3) := by decide +kernel
theorem dX1_pour_59 : decode cX1_pour 59 = .ok (.aload 5, 2) := by decide +kernel
theorem dX1_pour_61 : decode cX1_pour 61 = .ok (.aload 4, 2) := by decide +kernel
theorem dX1_pour_63 : decode cX1_pour 63 = .ok (.invokevirtual 138, 3) := by decide +kernel
theorem dX1_pour_66 : decode cX1_pour 66 = .ok (.invokevirtual 145, 3) := by decide +kernel
theorem dX1_pour_69 : decode cX1_pour 69 = .ok (.iinc 6 1, 3) := by decide +kernel
theorem dX1_pour_72 : decode cX1_pour 72 = .ok (.goto (-19), 3) := by decide +kernel
theorem dX1_pour_75 : decode cX1_pour 75 = .ok (.aload 5, 2) := by decide +kernel
theorem dX1_pour_77 : decode cX1_pour 77 = .ok (.getfield 63, 3) := by decide +kernel
theorem dX1_pour_80 : decode cX1_pour 80 = .ok (.ireturn, 1) := by decide +kernel
set_option maxRecDepth 20000 in
theorem ggX1_signAt_X1_windowOf : GoodIn wsX1_signAt wsX1_windowOf := goodIn_ca (goodIn_r _ [8, 9, 10, 11, 12, 13, 7, 14, 15, 16, 17, 18, 19, 20, 21, 22, 23, 24, 51, 52, 53, 54, 43, 44, 45, 46, 47, 48, 49, 50] (by decide +kernel) (by decide +kernel)) (goodIn_sub (fun _ h => List.mem_cons_of_mem _ (List.mem_append_left _ (List.mem_append_left _ (List.mem_append_right _ h)))) (by decide +kernel))
set_option maxRecDepth 20000 in
theorem gX1_signAt_X1_windowOf : GoodIn wsX1_signAt (wsV RX1 60 RX1 yX1_windowOf wsX1_windowOf) := goodIn_app (goodIn_of _ (by decide +kernel)) ggX1_signAt_X1_windowOf
set_option maxRecDepth 20000 in
theorem ggX1_signAt_X1_checkOfChars : GoodIn wsX1_signAt wsX1_checkOfChars := goodIn_ca (goodIn_r _ [27, 28, 29, 30, 43, 44, 45, 46, 47, 48, 49, 50] (by decide +kernel) (by decide +kernel)) (goodIn_sub (fun _ h => List.mem_cons_of_mem _ (List.mem_append_left _ (List.mem_append_right _ h))) (by decide +kernel))
set_option maxRecDepth 20000 in
theorem gX1_signAt_X1_checkOfChars : GoodIn wsX1_signAt (va_wsS RX1 165 yX1_checkOfChars wsX1_checkOfChars) := goodIn_app (goodIn_of _ (by decide +kernel)) ggX1_signAt_X1_checkOfChars
set_option maxRecDepth 20000 in
theorem ggX1_signAt_X0_rest : GoodIn wsX1_signAt wsX0_rest := goodIn_r _ [34, 35, 36, 43, 44, 45, 46, 47, 48, 49, 50] (by decide +kernel) (by decide +kernel)
set_option maxRecDepth 20000 in
theorem gX1_signAt_X0_rest : GoodIn wsX1_signAt (wsV RX1 66 RX0 yX0_rest wsX0_rest) := goodIn_app (goodIn_of _ (by decide +kernel)) ggX1_signAt_X0_rest
set_option maxRecDepth 20000 in
theorem ggX1_signAt_X0_valueAt : GoodIn wsX1_signAt wsX0_valueAt := goodIn_ca (goodIn_r _ [40, 41, 42, 43, 44, 45, 46, 47, 48, 49, 50] (by decide +kernel) (by decide +kernel)) (goodIn_sub (fun _ h => List.mem_cons_of_mem _ (List.mem_append_right _ h)) (by decide +kernel))
set_option maxRecDepth 20000 in
theorem gX1_signAt_X0_valueAt : GoodIn wsX1_signAt (wsV RX1 149 RX0 yX0_valueAt wsX0_valueAt) := goodIn_app (goodIn_of _ (by decide +kernel)) ggX1_signAt_X0_valueAt
theorem dX1_signAt_0 : decode cX1_signAt 0 = .ok (.aload_n 0, 1) := by decide +kernel
theorem dX1_signAt_1 : decode cX1_signAt 1 = .ok (.iload_n 1, 1) := by decide +kernel
theorem dX1_signAt_2 : decode cX1_signAt 2 = .ok (.invokevirtual 60, 3) := by decide +kernel
theorem dX1_signAt_5 : decode cX1_signAt 5 = .ok (.astore_n 3, 1) := by decide +kernel
theorem dX1_signAt_6 : decode cX1_signAt 6 = .ok (.aload_n 3, 1) := by decide +kernel
theorem dX1_signAt_7 : decode cX1_signAt 7 = .ok (.invokestatic 165, 3) := by decide +kernel
theorem dX1_signAt_10 : decode cX1_signAt 10 = .ok (.iload_n 2, 1) := by decide +kernel
theorem dX1_signAt_11 : decode cX1_signAt 11 = .ok (.ifCond .lt 11, 3) := by decide +kernel
theorem dX1_signAt_14 : decode cX1_signAt 14 = .ok (.iload_n 2, 1) := by decide +kernel
theorem dX1_signAt_15 : decode cX1_signAt 15 = .ok (.aload_n 3, 1) := by decide +kernel
theorem dX1_signAt_16 : decode cX1_signAt 16 = .ok (.invokevirtual 66, 3) := by decide +kernel
theorem dX1_signAt_19 : decode cX1_signAt 19 = .ok (.if_icmp .lt 13, 3) := by decide +kernel
theorem dX1_signAt_22 : decode cX1_signAt 22 = .ok (.new 168, 3) := by decide +kernel
theorem dX1_signAt_25 : decode cX1_signAt 25 = .ok (.dup, 1) := by decide +kernel
theorem dX1_signAt_26 : decode cX1_signAt 26 = .ok (.ldc 170, 2) := by decide +kernel
theorem dX1_signAt_28 : decode cX1_signAt 28 = .ok (.invokespecial 172, 3) := by decide +kernel
theorem dX1_signAt_31 : decode cX1_signAt 31 = .ok (.athrow, 1) := by decide +kernel
theorem dX1_signAt_32 : decode cX1_signAt 32 = .ok (.aload_n 3, 1) := by decide +kernel
theorem dX1_signAt_33 : decode cX1_signAt 33 = .ok (.aload_n 3, 1) := by decide +kernel
theorem dX1_signAt_34 : decode cX1_signAt 34 = .ok (.getfield 63, 3) := by decide +kernel
theorem dX1_signAt_37 : decode cX1_signAt 37 = .ok (.iload_n 2, 1) := by decide +kernel
theorem dX1_signAt_38 : decode cX1_signAt 38 = .ok (.iadd, 1) := by decide +kernel
theorem dX1_signAt_39 : decode cX1_signAt 39 = .ok (.invokevirtual 149, 3) := by decide +kernel
theorem dX1_signAt_42 : decode cX1_signAt 42 = .ok (.l2i, 1) := by decide +kernel
theorem dX1_signAt_43 : decode cX1_signAt 43 = .ok (.i2c, 1) := by decide +kernel
theorem dX1_signAt_44 : decode cX1_signAt 44 = .ok (.ireturn, 1) := by decide +kernel
set_option maxRecDepth 20000 in
theorem ggX1_signsLeft_X1_windowOf : GoodIn wsX1_signsLeft wsX1_windowOf := goodIn_ca (goodIn_r _ [5, 6, 7, 8, 9, 10, 4, 11, 12, 13, 14, 15, 16, 17, 18, 19, 20, 21, 34, 35, 36, 37, 38, 39, 40, 41, 42, 43, 44, 45] (by decide +kernel) (by decide +kernel)) (goodIn_sub (fun _ h => List.mem_cons_of_mem _ (List.mem_append_left _ (List.mem_append_right _ h))) (by decide +kernel))
set_option maxRecDepth 20000 in
theorem gX1_signsLeft_X1_windowOf : GoodIn wsX1_signsLeft (wsV RX1 60 RX1 yX1_windowOf wsX1_windowOf) := goodIn_app (goodIn_of _ (by decide +kernel)) ggX1_signsLeft_X1_windowOf
set_option maxRecDepth 20000 in
theorem ggX1_signsLeft_X1_checkOfChars : GoodIn wsX1_signsLeft wsX1_checkOfChars := goodIn_ca (goodIn_r _ [24, 25, 26, 27, 38, 39, 40, 41, 42, 43, 44, 45] (by decide +kernel) (by decide +kernel)) (goodIn_sub (fun _ h => List.mem_cons_of_mem _ (List.mem_append_right _ h)) (by decide +kernel))
set_option maxRecDepth 20000 in
theorem gX1_signsLeft_X1_checkOfChars : GoodIn wsX1_signsLeft (va_wsS RX1 165 yX1_checkOfChars wsX1_checkOfChars) := goodIn_app (goodIn_of _ (by decide +kernel)) ggX1_signsLeft_X1_checkOfChars
set_option maxRecDepth 20000 in
theorem ggX1_signsLeft_X0_rest : GoodIn wsX1_signsLeft wsX0_rest := goodIn_r _ [31, 32, 33, 38, 39, 40, 41, 42, 43, 44, 45] (by decide +kernel) (by decide +kernel)
set_option maxRecDepth 20000 in
theorem gX1_signsLeft_X0_rest : GoodIn wsX1_signsLeft (wsV RX1 66 RX0 yX0_rest wsX0_rest) := goodIn_app (goodIn_of _ (by decide +kernel)) ggX1_signsLeft_X0_rest
theorem dX1_signsLeft_0 : decode cX1_signsLeft 0 = .ok (.aload_n 0, 1) := by decide +kernel
theorem dX1_signsLeft_1 : decode cX1_signsLeft 1 = .ok (.iload_n 1, 1) := by decide +kernel
theorem dX1_signsLeft_2 : decode cX1_signsLeft 2 = .ok (.invokevirtual 60, 3) := by decide +kernel
theorem dX1_signsLeft_5 : decode cX1_signsLeft 5 = .ok (.astore_n 2, 1) := by decide +kernel
theorem dX1_signsLeft_6 : decode cX1_signsLeft 6 = .ok (.aload_n 2, 1) := by decide +kernel
theorem dX1_signsLeft_7 : decode cX1_signsLeft 7 = .ok (.invokestatic 165, 3) := by decide +kernel
theorem dX1_signsLeft_10 : decode cX1_signsLeft 10 = .ok (.aload_n 2, 1) := by decide +kernel
theorem dX1_signsLeft_11 : decode cX1_signsLeft 11 = .ok (.invokevirtual 66, 3) := by decide +kernel
theorem dX1_signsLeft_14 : decode cX1_signsLeft 14 = .ok (.ireturn, 1) := by decide +kernel
set_option maxRecDepth 20000 in
theorem ggX1_append_X1_windowOf : GoodIn wsX1_append wsX1_windowOf := goodIn_ca (goodIn_r _ [6, 7, 8, 9, 10, 11, 5, 12, 13, 14, 15, 16, 17, 18, 19, 20, 21, 22, 67, 68, 69, 70, 59, 60, 61, 62, 63, 64, 65, 66] (by decide +kernel) (by decide +kernel)) (goodIn_sub (fun _ h => List.mem_cons_of_mem _ (List.mem_append_left _ (List.mem_append_left _ (List.mem_append_left _ (List.mem_append_right _ h))))) (by decide +kernel))
set_option maxRecDepth 20000 in
theorem gX1_append_X1_windowOf : GoodIn wsX1_append (wsV RX1 60 RX1 yX1_windowOf wsX1_windowOf) := goodIn_app (goodIn_of _ (by decide +kernel)) ggX1_append_X1_windowOf
set_option maxRecDepth 20000 in
theorem ggX1_append_X1_checkOfChars : GoodIn wsX1_append wsX1_checkOfChars := goodIn_ca (goodIn_r _ [25, 26, 27, 28, 59, 60, 61, 62, 63, 64, 65, 66] (by decide +kernel) (by decide +kernel)) (goodIn_sub (fun _ h => List.mem_cons_of_mem _ (List.mem_append_left _ (List.mem_append_left _ (List.mem_append_right _ h)))) (by decide +kernel))
set_option maxRecDepth 20000 in
theorem gX1_append_X1_checkOfChars : GoodIn wsX1_append (va_wsS RX1 165 yX1_checkOfChars wsX1_checkOfChars) := goodIn_app (goodIn_of _ (by decide +kernel)) ggX1_append_X1_checkOfChars
set_option maxRecDepth 20000 in
theorem ggX1_append_X1_checkWritable : GoodIn wsX1_append wsX1_checkWritable := goodIn_ca (goodIn_r _ [31, 26, 27, 32, 59, 60, 61, 62, 63, 64, 65, 66] (by decide +kernel) (by decide +kernel)) (goodIn_sub (fun _ h => List.mem_cons_of_mem _ (List.mem_append_left _ (List.mem_append_left _ (List.mem_append_right _ h)))) (by decide +kernel))
set_option maxRecDepth 20000 in
theorem gX1_append_X1_checkWritable : GoodIn wsX1_append (va_wsS RX1 118 yX1_checkWritable wsX1_checkWritable) := goodIn_app (goodIn_of _ (by decide +kernel)) ggX1_append_X1_checkWritable
set_option maxRecDepth 20000 in
theorem ggX1_append_X1_checkEnoughToPut : GoodIn wsX1_append wsX1_checkEnoughToPut := goodIn_ca (goodIn_r _ [35, 36, 37, 38, 39, 40, 20, 41, 42, 43, 59, 60, 61, 62, 63, 64, 65, 66] (by decide +kernel) (by decide +kernel)) (goodIn_sub (fun _ h => List.mem_cons_of_mem _ (List.mem_append_left _ (List.mem_append_right _ h))) (by decide +kernel))
set_option maxRecDepth 20000 in
theorem gX1_append_X1_checkEnoughToPut : GoodIn wsX1_append (va_wsS RX1 142 yX1_checkEnoughToPut wsX1_checkEnoughToPut) := goodIn_app (goodIn_of _ (by decide +kernel)) ggX1_append_X1_checkEnoughToPut
set_option maxRecDepth 20000 in
theorem ggX1_append_X0_putNext : GoodIn wsX1_append wsX0_putNext := goodIn_ca (goodIn_r _ [47, 43, 48, 49, 50, 20, 51, 52, 53, 54, 55, 56, 57, 22, 58, 59, 60, 61, 62, 63, 64, 65, 66] (by decide +kernel) (by decide +kernel)) (goodIn_sub (fun _ h => List.mem_cons_of_mem _ (List.mem_append_right _ h)) (by decide +kernel))
set_option maxRecDepth 20000 in
theorem gX1_append_X0_putNext : GoodIn wsX1_append (wsV RX1 145 RX0 yX0_putNext wsX0_putNext) := goodIn_app (goodIn_of _ (by decide +kernel)) ggX1_append_X0_putNext
theorem dX1_append_0 : decode cX1_append 0 = .ok (.aload_n 0, 1) := by decide +kernel
theorem dX1_append_1 : decode cX1_append 1 = .ok (.iload_n 1, 1) := by decide +kernel
theorem dX1_append_2 : decode cX1_append 2 = .ok (.invokevirtual 60, 3) := by decide +kernel
theorem dX1_append_5 : decode cX1_append 5 = .ok (.astore_n 3, 1) := by decide +kernel
theorem dX1_append_6 : decode cX1_append 6 = .ok (.aload_n 3, 1) := by decide +kernel
theorem dX1_append_7 : decode cX1_append 7 = .ok (.invokestatic 165, 3) := by decide +kernel
theorem dX1_append_10 : decode cX1_append 10 = .ok (.aload_n 3, 1) := by decide +kernel
theorem dX1_append_11 : decode cX1_append 11 = .ok (.invokestatic 118, 3) := by decide +kernel
theorem dX1_append_14 : decode cX1_append 14 = .ok (.aload_n 3, 1) := by decide +kernel
theorem dX1_append_15 : decode cX1_append 15 = .ok (.iconst 1, 1) := by decide +kernel
theorem dX1_append_16 : decode cX1_append 16 = .ok (.invokestatic 142, 3) := by decide +kernel
theorem dX1_append_19 : decode cX1_append 19 = .ok (.aload_n 3, 1) := by decide +kernel
theorem dX1_append_20 : decode cX1_append 20 = .ok (.iload_n 2, 1) := by decide +kernel
theorem dX1_append_21 : decode cX1_append 21 = .ok (.i2l, 1) := by decide +kernel
theorem dX1_append_22 : decode cX1_append 22 = .ok (.invokevirtual 145, 3) := by decide +kernel
theorem dX1_append_25 : decode cX1_append 25 = .ok (.aload_n 3, 1) := by decide +kernel
theorem dX1_append_26 : decode cX1_append 26 = .ok (.getfield 63, 3) := by decide +kernel
theorem dX1_append_29 : decode cX1_append 29 = .ok (.ireturn, 1) := by decide +kernel
set_option maxRecDepth 20000 in
theorem ggX1_text_X1_windowOf : GoodIn wsX1_text wsX1_windowOf := goodIn_ca (goodIn_r _ [7, 8, 9, 10, 11, 12, 6, 13, 14, 15, 16, 17, 18, 19, 20, 21, 22, 23, 52, 53, 54, 55, 44, 45, 46, 47, 48, 49, 50, 51] (by decide +kernel) (by decide +kernel)) (goodIn_sub (fun _ h => List.mem_cons_of_mem _ (List.mem_append_left _ (List.mem_append_left _ (List.mem_append_right _ h)))) (by decide +kernel))
set_option maxRecDepth 20000 in
theorem gX1_text_X1_windowOf : GoodIn wsX1_text (wsV RX1 60 RX1 yX1_windowOf wsX1_windowOf) := goodIn_app (goodIn_of _ (by decide +kernel)) ggX1_text_X1_windowOf
set_option maxRecDepth 20000 in
theorem ggX1_text_X1_checkOfChars : GoodIn wsX1_text wsX1_checkOfChars := goodIn_ca (goodIn_r _ [26, 27, 28, 29, 44, 45, 46, 47, 48, 49, 50, 51] (by decide +kernel) (by decide +kernel)) (goodIn_sub (fun _ h => List.mem_cons_of_mem _ (List.mem_append_left _ (List.mem_append_right _ h))) (by decide +kernel))
set_option maxRecDepth 20000 in
theorem gX1_text_X1_checkOfChars : GoodIn wsX1_text (va_wsS RX1 165 yX1_checkOfChars wsX1_checkOfChars) := goodIn_app (goodIn_of _ (by decide +kernel)) ggX1_text_X1_checkOfChars
set_option maxRecDepth 20000 in
theorem ggX1_text_X0_sumOver : GoodIn wsX1_text wsX0_sumOver := goodIn_ca (goodIn_r _ [33, 34, 35, 36, 37, 21, 38, 39, 40, 41, 6, 42, 43, 44, 45, 46, 47, 48, 49, 50, 51] (by decide +kernel) (by decide +kernel)) (goodIn_sub (fun _ h => List.mem_cons_of_mem _ (List.mem_append_right _ h)) (by decide +kernel))
set_option maxRecDepth 20000 in
theorem gX1_text_X0_sumOver : GoodIn wsX1_text (wsV RX1 175 RX0 yX0_sumOver wsX0_sumOver) := goodIn_app (goodIn_of _ (by decide +kernel)) ggX1_text_X0_sumOver
theorem dX1_text_0 : decode cX1_text 0 = .ok (.aload_n 0, 1) := by decide +kernel
theorem dX1_text_1 : decode cX1_text 1 = .ok (.iload_n 1, 1) := by decide +kernel
theorem dX1_text_2 : decode cX1_text 2 = .ok (.invokevirtual 60, 3) := by decide +kernel
theorem dX1_text_5 : decode cX1_text 5 = .ok (.astore_n 2, 1) := by decide +kernel
theorem dX1_text_6 : decode cX1_text 6 = .ok (.aload_n 2, 1) := by decide +kernel
theorem dX1_text_7 : decode cX1_text 7 = .ok (.invokestatic 165, 3) := by decide +kernel
theorem dX1_text_10 : decode cX1_text 10 = .ok (.aload_n 2, 1) := by decide +kernel
theorem dX1_text_11 : decode cX1_text 11 = .ok (.ldc2_w 173, 3) := by decide +kernel
theorem dX1_text_14 : decode cX1_text 14 = .ok (.aload_n 2, 1) := by decide +kernel
theorem dX1_text_15 : decode cX1_text 15 = .ok (.getfield 63, 3) := by decide +kernel
theorem dX1_text_18 : decode cX1_text 18 = .ok (.invokevirtual 175, 3) := by decide +kernel
theorem dX1_text_21 : decode cX1_text 21 = .ok (.lreturn, 1) := by decide +kernel
set_option maxRecDepth 20000 in
theorem ggX1_isAlike_X1_windowOf : GoodIn wsX1_isAlike wsX1_windowOf := goodIn_ca (goodIn_r _ [6, 7, 8, 9, 10, 11, 5, 12, 13, 14, 15, 16, 17, 18, 19, 20, 21, 22, 43, 44, 45, 46, 35, 36, 37, 38, 39, 40, 41, 42] (by decide +kernel) (by decide +kernel)) (goodIn_sub (fun _ h => List.mem_cons_of_mem _ (List.mem_append_left _ (List.mem_append_right _ h))) (by decide +kernel))
set_option maxRecDepth 20000 in
theorem gX1_isAlike_X1_windowOf : GoodIn wsX1_isAlike (wsV RX1 60 RX1 yX1_windowOf wsX1_windowOf) := goodIn_app (goodIn_of _ (by decide +kernel)) ggX1_isAlike_X1_windowOf
set_option maxRecDepth 20000 in
theorem ggX1_isAlike_X0_rest : GoodIn wsX1_isAlike wsX0_rest := goodIn_r _ [26, 27, 28, 35, 36, 37, 38, 39, 40, 41, 42] (by decide +kernel) (by decide +kernel)
set_option maxRecDepth 20000 in
theorem gX1_isAlike_X0_rest : GoodIn wsX1_isAlike (wsV RX1 66 RX0 yX0_rest wsX0_rest) := goodIn_app (goodIn_of _ (by decide +kernel)) ggX1_isAlike_X0_rest
set_option maxRecDepth 20000 in
theorem ggX1_isAlike_X0_valueAt : GoodIn wsX1_isAlike wsX0_valueAt := goodIn_ca (goodIn_r _ [32, 33, 34, 35, 36, 37, 38, 39, 40, 41, 42] (by decide +kernel) (by decide +kernel)) (goodIn_sub (fun _ h => List.mem_cons_of_mem _ (List.mem_append_right _ h)) (by decide +kernel))
set_option maxRecDepth 20000 in
theorem gX1_isAlike_X0_valueAt : GoodIn wsX1_isAlike (wsV RX1 149 RX0 yX0_valueAt wsX0_valueAt) := goodIn_app (goodIn_of _ (by decide +kernel)) ggX1_isAlike_X0_valueAt
theorem dX1_isAlike_0 : decode cX1_isAlike 0 = .ok (.aload_n 0, 1) := by decide +kernel
theorem dX1_isAlike_1 : decode cX1_isAlike 1 = .ok (.iload_n 1, 1) := by decide +kernel
theorem dX1_isAlike_2 : decode cX1_isAlike 2 = .ok (.invokevirtual 60, 3) := by decide +kernel
theorem dX1_isAlike_5 : decode cX1_isAlike 5 = .ok (.astore_n 3, 1) := by decide +kernel
theorem dX1_isAlike_6 : decode cX1_isAlike 6 = .ok (.aload_n 0, 1) := by decide +kernel
theorem dX1_isAlike_7 : decode cX1_isAlike 7 = .ok (.iload_n 2, 1) := by decide +kernel
theorem dX1_isAlike_8 : decode cX1_isAlike 8 = .ok (.invokevirtual 60, 3) := by decide +kernel
theorem dX1_isAlike_11 : decode cX1_isAlike 11 = .ok (.astore 4, 2) := by decide +kernel
theorem dX1_isAlike_13 : decode cX1_isAlike 13 = .ok (.aload_n 3, 1) := by decide +kernel
theorem dX1_isAlike_14 : decode cX1_isAlike 14 = .ok (.invokevirtual 66, 3) := by decide +kernel
theorem dX1_isAlike_17 : decode cX1_isAlike 17 = .ok (.istore 5, 2) := by decide +kernel
theorem dX1_isAlike_19 : decode cX1_isAlike 19 = .ok (.iload 5, 2) := by decide +kernel
theorem dX1_isAlike_21 : decode cX1_isAlike 21 = .ok (.aload 4, 2) := by decide +kernel
theorem dX1_isAlike_23 : decode cX1_isAlike 23 = .ok (.invokevirtual 66, 3) := by decide +kernel
theorem dX1_isAlike_26 : decode cX1_isAlike 26 = .ok (.if_icmp .eq 5, 3) := by decide +kernel
theorem dX1_isAlike_29 : decode cX1_isAlike 29 = .ok (.iconst 0, 1) := by decide +kernel
theorem dX1_isAlike_30 : decode cX1_isAlike 30 = .ok (.ireturn, 1) := by decide +kernel
theorem dX1_isAlike_31 : decode cX1_isAlike 31 = .ok (.iconst 0, 1) := by decide +kernel
theorem dX1_isAlike_32 : decode cX1_isAlike 32 = .ok (.istore 6, 2) := by decide +kernel
theorem dX1_isAlike_34 : decode cX1_isAlike 34 = .ok (.iload 6, 2) := by decide +kernel
theorem dX1_isAlike_36 : decode cX1_isAlike 36 = .ok (.iload 5, 2) := by decide +kernel
theorem dX1_isAlike_38 : decode cX1_isAlike 38 = .ok (.if_icmp .ge 39, 3) := by decide +kernel
theorem dX1_isAlike_41 : decode cX1_isAlike 41 = .ok (.aload_n 3, 1) := by decide +kernel
theorem dX1_isAlike_42 : decode cX1_isAlike 42 = .ok (.aload_n 3, 1) := by decide +kernel
theorem dX1_isAlike_43 : decode cX1_isAlike 43 = .ok (.getfield 63, 3) := by decide +kernel
theorem dX1_isAlike_46 : decode cX1_isAlike 46 = .ok (.iload 6, 2) := by decide +kernel
theorem dX1_isAlike_48 : decode cX1_isAlike 48 = .ok (.iadd, 1) := by decide +kernel
theorem dX1_isAlike_49 : decode cX1_isAlike 49 = .ok (.invokevirtual 149, 3) := by decide +kernel
theorem dX1_isAlike_52 : decode cX1_isAlike 52 = .ok (.aload 4, 2) := by decide +kernel
theorem dX1_isAlike_54 : decode cX1_isAlike 54 = .ok (.aload 4, 2) := by decide +kernel
theorem dX1_isAlike_56 : decode cX1_isAlike 56 = .ok (.getfield 63, 3) := by decide +kernel
theorem dX1_isAlike_59 : decode cX1_isAlike 59 = .ok (.iload 6, 2) := by decide +kernel
theorem dX1_isAlike_61 : decode cX1_isAlike 61 = .ok (.iadd, 1) := by decide +kernel
theorem dX1_isAlike_62 : decode cX1_isAlike 62 = .ok (.invokevirtual 149, 3) := by decide +kernel
theorem dX1_isAlike_65 : decode cX1_isAlike 65 = .ok (.lcmp, 1) := by decide +kernel
theorem dX1_isAlike_66 : decode cX1_isAlike 66 = .ok (.ifCond .eq 5, 3) := by decide +kernel
theorem dX1_isAlike_69 : decode cX1_isAlike 69 = .ok (.iconst 0, 1) := by decide +kernel
theorem dX1_isAlike_70 : decode cX1_isAlike 70 = .ok (.ireturn, 1) := by decide +kernel
theorem dX1_isAlike_71 : decode cX1_isAlike 71 = .ok (.iinc 6 1, 3) := by decide +kernel
theorem dX1_isAlike_74 : decode cX1_isAlike 74 = .ok (.goto (-40), 3) := by decide +kernel
theorem dX1_isAlike_77 : decode cX1_isAlike 77 = .ok (.iconst 1, 1) := by decide +kernel
theorem dX1_isAlike_78 : decode cX1_isAlike 78 = .ok (.ireturn, 1) := by decide +kernel
set_option maxRecDepth 20000 in
theorem ggX1_fullShare_X1_windowOf : GoodIn wsX1_fullShare wsX1_windowOf := goodIn_ca (goodIn_r _ [9, 10, 11, 12, 13, 14, 8, 15, 16, 17, 18, 19, 20, 21, 22, 23, 24, 25, 34, 35, 36, 37, 26, 27, 28, 29, 30, 31, 32, 33] (by decide +kernel) (by decide +kernel)) (goodIn_sub (fun _ h => List.mem_cons_of_mem _ (List.mem_append_right _ h)) (by decide +kernel))
set_option maxRecDepth 20000 in
theorem gX1_fullShare_X1_windowOf : GoodIn wsX1_fullShare (wsV RX1 60 RX1 yX1_windowOf wsX1_windowOf) := goodIn_app (goodIn_of _ (by decide +kernel)) ggX1_fullShare_X1_windowOf
theorem dX1_fullShare_0 : decode cX1_fullShare 0 = .ok (.aload_n 0, 1) := by decide +kernel
theorem dX1_fullShare_1 : decode cX1_fullShare 1 = .ok (.iload_n 1, 1) := by decide +kernel
theorem dX1_fullShare_2 : decode cX1_fullShare 2 = .ok (.invokevirtual 60, 3) := by decide +kernel
theorem dX1_fullShare_5 : decode cX1_fullShare 5 = .ok (.astore_n 2, 1) := by decide +kernel
theorem dX1_fullShare_6 : decode cX1_fullShare 6 = .ok (.aload_n 2, 1) := by decide +kernel
theorem dX1_fullShare_7 : decode cX1_fullShare 7 = .ok (.getfield 56, 3) := by decide +kernel
theorem dX1_fullShare_10 : decode cX1_fullShare 10 = .ok (.ifCond .ne 13, 3) := by decide +kernel
theorem dX1_fullShare_13 : decode cX1_fullShare 13 = .ok (.new 179, 3) := by decide +kernel
theorem dX1_fullShare_16 : decode cX1_fullShare 16 = .ok (.dup, 1) := by decide +kernel
theorem dX1_fullShare_17 : decode cX1_fullShare 17 = .ok (.ldc 181, 2) := by decide +kernel
theorem dX1_fullShare_19 : decode cX1_fullShare 19 = .ok (.invokespecial 183, 3) := by decide +kernel
theorem dX1_fullShare_22 : decode cX1_fullShare 22 = .ok (.athrow, 1) := by decide +kernel
theorem dX1_fullShare_23 : decode cX1_fullShare 23 = .ok (.aload_n 2, 1) := by decide +kernel
theorem dX1_fullShare_24 : decode cX1_fullShare 24 = .ok (.getfield 63, 3) := by decide +kernel
theorem dX1_fullShare_27 : decode cX1_fullShare 27 = .ok (.i2f, 1) := by decide +kernel
theorem dX1_fullShare_28 : decode cX1_fullShare 28 = .ok (.aload_n 2, 1) := by decide +kernel
theorem dX1_fullShare_29 : decode cX1_fullShare 29 = .ok (.getfield 56, 3) := by decide +kernel
theorem dX1_fullShare_32 : decode cX1_fullShare 32 = .ok (.i2f, 1) := by decide +kernel
theorem dX1_fullShare_33 : decode cX1_fullShare 33 = .ok (.fdiv, 1) := by decide +kernel
theorem dX1_fullShare_34 : decode cX1_fullShare 34 = .ok (.freturn, 1) := by decide +kernel
set_option maxRecDepth 20000 in
theorem ggX1_meanLeft_X0_isThere : GoodIn wsX1_meanLeft wsX0_isThere := goodIn_r _ [8, 9, 20, 21, 22, 23, 24, 25, 26, 27] (by decide +kernel) (by decide +kernel)
set_option maxRecDepth 20000 in
theorem gX1_meanLeft_X0_isThere : GoodIn wsX1_meanLeft (wsV RX1 48 RX0 yX0_isThere wsX0_isThere) := goodIn_app (goodIn_of _ (by decide +kernel)) ggX1_meanLeft_X0_isThere
set_option maxRecDepth 20000 in
theorem ggX1_meanLeft_X0_rest : GoodIn wsX1_meanLeft wsX0_rest := goodIn_r _ [13, 14, 15, 20, 21, 22, 23, 24, 25, 26, 27] (by decide +kernel) (by decide +kernel)
set_option maxRecDepth 20000 in
theorem gX1_meanLeft_X0_rest : GoodIn wsX1_meanLeft (wsV RX1 66 RX0 yX0_rest wsX0_rest) := goodIn_app (goodIn_of _ (by decide +kernel)) ggX1_meanLeft_X0_rest
theorem dX1_meanLeft_0 : decode cX1_meanLeft 0 = .ok (.iconst 0, 1) := by decide +kernel
theorem dX1_meanLeft_1 : decode cX1_meanLeft 1 = .ok (.istore_n 1, 1) := by decide +kernel
theorem dX1_meanLeft_2 : decode cX1_meanLeft 2 = .ok (.iconst 0, 1) := by decide +kernel
theorem dX1_meanLeft_3 : decode cX1_meanLeft 3 = .ok (.istore_n 2, 1) := by decide +kernel
theorem dX1_meanLeft_4 : decode cX1_meanLeft 4 = .ok (.iconst 0, 1) := by decide +kernel
theorem dX1_meanLeft_5 : decode cX1_meanLeft 5 = .ok (.istore_n 3, 1) := by decide +kernel
theorem dX1_meanLeft_6 : decode cX1_meanLeft 6 = .ok (.iload_n 3, 1) := by decide +kernel
theorem dX1_meanLeft_7 : decode cX1_meanLeft 7 = .ok (.bipush 8, 2) := by decide +kernel
theorem dX1_meanLeft_9 : decode cX1_meanLeft 9 = .ok (.if_icmp .ge 36, 3) := by decide +kernel
theorem dX1_meanLeft_12 : decode cX1_meanLeft 12 = .ok (.aload_n 0, 1) := by decide +kernel
theorem dX1_meanLeft_13 : decode cX1_meanLeft 13 = .ok (.getfield 16, 3) := by decide +kernel
theorem dX1_meanLeft_16 : decode cX1_meanLeft 16 = .ok (.iload_n 3, 1) := by decide +kernel
theorem dX1_meanLeft_17 : decode cX1_meanLeft 17 = .ok (.aaload, 1) := by decide +kernel
theorem dX1_meanLeft_18 : decode cX1_meanLeft 18 = .ok (.invokevirtual 48, 3) := by decide +kernel
theorem dX1_meanLeft_21 : decode cX1_meanLeft 21 = .ok (.ifCond .eq 18, 3) := by decide +kernel
theorem dX1_meanLeft_24 : decode cX1_meanLeft 24 = .ok (.iinc 1 1, 3) := by decide +kernel
theorem dX1_meanLeft_27 : decode cX1_meanLeft 27 = .ok (.iload_n 2, 1) := by decide +kernel
theorem dX1_meanLeft_28 : decode cX1_meanLeft 28 = .ok (.aload_n 0, 1) := by decide +kernel
theorem dX1_meanLeft_29 : decode cX1_meanLeft 29 = .ok (.getfield 16, 3) := by decide +kernel
theorem dX1_meanLeft_32 : decode cX1_meanLeft 32 = .ok (.iload_n 3, 1) := by decide +kernel
theorem dX1_meanLeft_33 : decode cX1_meanLeft 33 = .ok (.aaload, 1) := by decide +kernel
theorem dX1_meanLeft_34 : decode cX1_meanLeft 34 = .ok (.invokevirtual 66, 3) := by decide +kernel
theorem dX1_meanLeft_37 : decode cX1_meanLeft 37 = .ok (.iadd, 1) := by decide +kernel
theorem dX1_meanLeft_38 : decode cX1_meanLeft 38 = .ok (.istore_n 2, 1) := by decide +kernel
theorem dX1_meanLeft_39 : decode cX1_meanLeft 39 = .ok (.iinc 3 1, 3) := by decide +kernel
theorem dX1_meanLeft_42 : decode cX1_meanLeft 42 = .ok (.goto (-36), 3) := by decide +kernel
theorem dX1_meanLeft_45 : decode cX1_meanLeft 45 = .ok (.iload_n 1, 1) := by decide +kernel
theorem dX1_meanLeft_46 : decode cX1_meanLeft 46 = .ok (.ifCond .ne 13, 3) := by decide +kernel
theorem dX1_meanLeft_49 : decode cX1_meanLeft 49 = .ok (.new 179, 3) := by decide +kernel
theorem dX1_meanLeft_52 : decode cX1_meanLeft 52 = .ok (.dup, 1) := by decide +kernel
theorem dX1_meanLeft_53 : decode cX1_meanLeft 53 = .ok (.ldc 184, 2) := by decide +kernel
theorem dX1_meanLeft_55 : decode cX1_meanLeft 55 = .ok (.invokespecial 183, 3) := by decide +kernel
theorem dX1_meanLeft_58 : decode cX1_meanLeft 58 = .ok (.athrow, 1) := by decide +kernel
theorem dX1_meanLeft_59 : decode cX1_meanLeft 59 = .ok (.iload_n 2, 1) := by decide +kernel
theorem dX1_meanLeft_60 : decode cX1_meanLeft 60 = .ok (.i2d, 1) := by decide +kernel
theorem dX1_meanLeft_61 : decode cX1_meanLeft 61 = .ok (.iload_n 1, 1) := by decide +kernel
theorem dX1_meanLeft_62 : decode cX1_meanLeft 62 = .ok (.i2d, 1) := by decide +kernel
theorem dX1_meanLeft_63 : decode cX1_meanLeft 63 = .ok (.ddiv, 1) := by decide +kernel
theorem dX1_meanLeft_64 : decode cX1_meanLeft 64 = .ok (.dreturn, 1) := by decide +kernel
set_option maxRecDepth 20000 in
theorem ggX1_checksum_X0_sumOfAll : GoodIn wsX1_checksum wsX0_sumOfAll := goodIn_ca (goodIn_r _ [8, 9, 10, 11, 12, 13, 14, 15, 16, 17, 18, 19, 7, 20, 21, 22, 23, 24, 25, 26, 27, 28, 29, 30, 39, 40, 41, 42, 43, 44, 45, 46] (by decide +kernel) (by decide +kernel)) (goodIn_sub (fun _ h => List.mem_cons_of_mem _ (List.mem_append_right _ h)) (by decide +kernel))
set_option maxRecDepth 20000 in
theorem gX1_checksum_X0_sumOfAll : GoodIn wsX1_checksum (wsV RX1 186 RX0 yX0_sumOfAll wsX0_sumOfAll) := goodIn_app (goodIn_of _ (by decide +kernel)) ggX1_checksum_X0_sumOfAll
set_option maxRecDepth 20000 in
theorem ggX1_checksum_X1_sumOfRow : GoodIn wsX1_checksum wsX1_sumOfRow := goodIn_ca (goodIn_r _ [33, 34, 13, 14, 15, 16] (by decide +kernel) (by decide +kernel)) (goodIn_sub (fun _ h => List.mem_cons_of_mem _ (List.mem_append_right _ h)) (by decide +kernel))
set_option maxRecDepth 20000 in
theorem gX1_checksum_X1_sumOfRow : GoodIn wsX1_checksum (va_wsS RX1 190 yX1_sumOfRow wsX1_sumOfRow) := goodIn_app (goodIn_of _ (by decide +kernel)) ggX1_checksum_X1_sumOfRow
theorem dX1_checksum_0 : decode cX1_checksum 0 = .ok (.ldc2_w 173, 3) := by decide +kernel
theorem dX1_checksum_3 : decode cX1_checksum 3 = .ok (.lstore_n 1, 1) := by decide +kernel
theorem dX1_checksum_4 : decode cX1_checksum 4 = .ok (.iconst 0, 1) := by decide +kernel
theorem dX1_checksum_5 : decode cX1_checksum 5 = .ok (.istore_n 3, 1) := by decide +kernel
theorem dX1_checksum_6 : decode cX1_checksum 6 = .ok (.iload_n 3, 1) := by decide +kernel
theorem dX1_checksum_7 : decode cX1_checksum 7 = .ok (.bipush 8, 2) := by decide +kernel
theorem dX1_checksum_9 : decode cX1_checksum 9 = .ok (.if_icmp .ge 20, 3) := by decide +kernel
theorem dX1_checksum_12 : decode cX1_checksum 12 = .ok (.aload_n 0, 1) := by decide +kernel
theorem dX1_checksum_13 : decode cX1_checksum 13 = .ok (.getfield 16, 3) := by decide +kernel
theorem dX1_checksum_16 : decode cX1_checksum 16 = .ok (.iload_n 3, 1) := by decide +kernel
theorem dX1_checksum_17 : decode cX1_checksum 17 = .ok (.aaload, 1) := by decide +kernel
theorem dX1_checksum_18 : decode cX1_checksum 18 = .ok (.lload_n 1, 1) := by decide +kernel
theorem dX1_checksum_19 : decode cX1_checksum 19 = .ok (.invokevirtual 186, 3) := by decide +kernel
theorem dX1_checksum_22 : decode cX1_checksum 22 = .ok (.lstore_n 1, 1) := by decide +kernel
theorem dX1_checksum_23 : decode cX1_checksum 23 = .ok (.iinc 3 1, 3) := by decide +kernel
theorem dX1_checksum_26 : decode cX1_checksum 26 = .ok (.goto (-20), 3) := by decide +kernel
theorem dX1_checksum_29 : decode cX1_checksum 29 = .ok (.iconst 0, 1) := by decide +kernel
theorem dX1_checksum_30 : decode cX1_checksum 30 = .ok (.istore_n 3, 1) := by decide +kernel
theorem dX1_checksum_31 : decode cX1_checksum 31 = .ok (.iload_n 3, 1) := by decide +kernel
theorem dX1_checksum_32 : decode cX1_checksum 32 = .ok (.iconst 2, 1) := by decide +kernel
theorem dX1_checksum_33 : decode cX1_checksum 33 = .ok (.if_icmp .ge 20, 3) := by decide +kernel
theorem dX1_checksum_36 : decode cX1_checksum 36 = .ok (.lload_n 1, 1) := by decide +kernel
theorem dX1_checksum_37 : decode cX1_checksum 37 = .ok (.aload_n 0, 1) := by decide +kernel
theorem dX1_checksum_38 : decode cX1_checksum 38 = .ok (.getfield 11, 3) := by decide +kernel
theorem dX1_checksum_41 : decode cX1_checksum 41 = .ok (.iload_n 3, 1) := by decide +kernel
theorem dX1_checksum_42 : decode cX1_checksum 42 = .ok (.aaload, 1) := by decide +kernel
theorem dX1_checksum_43 : decode cX1_checksum 43 = .ok (.invokestatic 190, 3) := by decide +kernel
theorem dX1_checksum_46 : decode cX1_checksum 46 = .ok (.lstore_n 1, 1) := by decide +kernel
theorem dX1_checksum_47 : decode cX1_checksum 47 = .ok (.iinc 3 1, 3) := by decide +kernel
theorem dX1_checksum_50 : decode cX1_checksum 50 = .ok (.goto (-19), 3) := by decide +kernel
theorem dX1_checksum_53 : decode cX1_checksum 53 = .ok (.lload_n 1, 1) := by decide +kernel
theorem dX1_checksum_54 : decode cX1_checksum 54 = .ok (.lreturn, 1) := by decide +kernel
set_option maxRecDepth 20000 in
theorem ggX1_isTrue_X0_isThere : GoodIn wsX1_isTrue wsX0_isThere := goodIn_r _ [6, 7, 67, 68, 69, 70, 71, 72, 73, 74] (by decide +kernel) (by decide +kernel)
set_option maxRecDepth 20000 in
theorem gX1_isTrue_X0_isThere : GoodIn wsX1_isTrue (wsV RX1 48 RX0 yX0_isThere wsX0_isThere) := goodIn_app (goodIn_of _ (by decide +kernel)) ggX1_isTrue_X0_isThere
set_option maxRecDepth 20000 in
theorem ggX1_isTrue_X1_keepsTheorem : GoodIn wsX1_isTrue wsX1_keepsTheorem := goodIn_ca (goodIn_r _ [12, 13, 14, 15, 16, 17, 18, 19, 5, 20, 21, 22, 23, 24, 25, 26, 27, 28, 29, 30, 31, 32, 33, 7, 34, 35, 36, 37, 38, 39, 40, 41, 42, 43, 44, 45, 46, 11, 47, 48, 49, 50, 51, 52, 53, 54, 55, 56, 57, 58, 59, 60, 61, 62, 67, 68, 69, 70, 71, 72, 73, 74, 63, 64, 65, 66] (by decide +kernel) (by decide +kernel)) (goodIn_sub (fun _ h => List.mem_cons_of_mem _ (List.mem_append_right _ h)) (by decide +kernel))
set_option maxRecDepth 20000 in
theorem gX1_isTrue_X1_keepsTheorem : GoodIn wsX1_isTrue (wsV RX1 194 RX1 yX1_keepsTheorem wsX1_keepsTheorem) := goodIn_app (goodIn_of _ (by decide +kernel)) ggX1_isTrue_X1_keepsTheorem
theorem dX1_isTrue_0 : decode cX1_isTrue 0 = .ok (.iconst 0, 1) := by decide +kernel
theorem dX1_isTrue_1 : decode cX1_isTrue 1 = .ok (.istore_n 1, 1) := by decide +kernel
theorem dX1_isTrue_2 : decode cX1_isTrue 2 = .ok (.iload_n 1, 1) := by decide +kernel
theorem dX1_isTrue_3 : decode cX1_isTrue 3 = .ok (.bipush 8, 2) := by decide +kernel
theorem dX1_isTrue_5 : decode cX1_isTrue 5 = .ok (.if_icmp .ge 36, 3) := by decide +kernel
theorem dX1_isTrue_8 : decode cX1_isTrue 8 = .ok (.aload_n 0, 1) := by decide +kernel
theorem dX1_isTrue_9 : decode cX1_isTrue 9 = .ok (.getfield 16, 3) := by decide +kernel
theorem dX1_isTrue_12 : decode cX1_isTrue 12 = .ok (.iload_n 1, 1) := by decide +kernel
theorem dX1_isTrue_13 : decode cX1_isTrue 13 = .ok (.aaload, 1) := by decide +kernel
theorem dX1_isTrue_14 : decode cX1_isTrue 14 = .ok (.invokevirtual 48, 3) := by decide +kernel
theorem dX1_isTrue_17 : decode cX1_isTrue 17 = .ok (.ifCond .eq 18, 3) := by decide +kernel
theorem dX1_isTrue_20 : decode cX1_isTrue 20 = .ok (.aload_n 0, 1) := by decide +kernel
theorem dX1_isTrue_21 : decode cX1_isTrue 21 = .ok (.aload_n 0, 1) := by decide +kernel
theorem dX1_isTrue_22 : decode cX1_isTrue 22 = .ok (.getfield 16, 3) := by decide +kernel
theorem dX1_isTrue_25 : decode cX1_isTrue 25 = .ok (.iload_n 1, 1) := by decide +kernel
theorem dX1_isTrue_26 : decode cX1_isTrue 26 = .ok (.aaload, 1) := by decide +kernel
theorem dX1_isTrue_27 : decode cX1_isTrue 27 = .ok (.invokevirtual 194, 3) := by decide +kernel
theorem dX1_isTrue_30 : decode cX1_isTrue 30 = .ok (.ifCond .ne 5, 3) := by decide +kernel
theorem dX1_isTrue_33 : decode cX1_isTrue 33 = .ok (.iconst 0, 1) := by decide +kernel
theorem dX1_isTrue_34 : decode cX1_isTrue 34 = .ok (.ireturn, 1) := by decide +kernel
theorem dX1_isTrue_35 : decode cX1_isTrue 35 = .ok (.iinc 1 1, 3) := by decide +kernel
theorem dX1_isTrue_38 : decode cX1_isTrue 38 = .ok (.goto (-36), 3) := by decide +kernel
theorem dX1_isTrue_41 : decode cX1_isTrue 41 = .ok (.iconst 1, 1) := by decide +kernel
theorem dX1_isTrue_42 : decode cX1_isTrue 42 = .ok (.ireturn, 1) := by decide +kernel
set_option maxRecDepth 20000 in
theorem ggX1_keepsTheorem_X0_isInBounds : GoodIn wsX1_keepsTheorem wsX0_isInBounds := goodIn_r _ [9, 10, 11, 12, 13, 14, 54, 55, 56, 57, 58, 59, 60, 61] (by decide +kernel) (by decide +kernel)
set_option maxRecDepth 20000 in
theorem gX1_keepsTheorem_X0_isInBounds : GoodIn wsX1_keepsTheorem (wsV RX1 198 RX0 yX0_isInBounds wsX0_isInBounds) := goodIn_app (goodIn_of _ (by decide +kernel)) ggX1_keepsTheorem_X0_isInBounds
set_option maxRecDepth 20000 in
theorem ggX1_keepsTheorem_X0_rest : GoodIn wsX1_keepsTheorem wsX0_rest := goodIn_r _ [18, 11, 10, 54, 55, 56, 57, 58, 59, 60, 61] (by decide +kernel) (by decide +kernel)
set_option maxRecDepth 20000 in
theorem gX1_keepsTheorem_X0_rest : GoodIn wsX1_keepsTheorem (wsV RX1 66 RX0 yX0_rest wsX0_rest) := goodIn_app (goodIn_of _ (by decide +kernel)) ggX1_keepsTheorem_X0_rest
set_option maxRecDepth 20000 in
theorem ggX1_keepsTheorem_X0_becomeSlice : GoodIn wsX1_keepsTheorem wsX0_becomeSlice := goodIn_r _ [22, 23, 24, 14, 13, 12, 25, 26, 27, 8, 28, 10, 11, 29, 54, 55, 56, 57, 58, 59, 60, 61] (by decide +kernel) (by decide +kernel)
set_option maxRecDepth 20000 in
theorem gX1_keepsTheorem_X0_becomeSlice : GoodIn wsX1_keepsTheorem (wsV RX1 70 RX0 yX0_becomeSlice wsX0_becomeSlice) := goodIn_app (goodIn_of _ (by decide +kernel)) ggX1_keepsTheorem_X0_becomeSlice
set_option maxRecDepth 20000 in
theorem ggX1_keepsTheorem_X0_becomeDuplicate : GoodIn wsX1_keepsTheorem wsX0_becomeDuplicate := goodIn_r _ [33, 23, 24, 14, 13, 12, 10, 11, 29, 54, 55, 56, 57, 58, 59, 60, 61] (by decide +kernel) (by decide +kernel)
set_option maxRecDepth 20000 in
theorem gX1_keepsTheorem_X0_becomeDuplicate : GoodIn wsX1_keepsTheorem (wsV RX1 81 RX0 yX0_becomeDuplicate wsX0_becomeDuplicate) := goodIn_app (goodIn_of _ (by decide +kernel)) ggX1_keepsTheorem_X0_becomeDuplicate
set_option maxRecDepth 20000 in
theorem ggX1_keepsTheorem_X1_showsChange : GoodIn wsX1_keepsTheorem wsX1_showsChange := goodIn_ca (goodIn_r _ [38, 2, 39, 3, 4, 40, 41, 42, 8, 43, 14, 13, 44, 45, 46, 47, 23, 48, 49, 50, 51, 52, 53, 62, 63, 64, 65, 54, 55, 56, 57, 58, 59, 60, 61] (by decide +kernel) (by decide +kernel)) (goodIn_sub (fun _ h => List.mem_cons_of_mem _ (List.mem_append_right _ h)) (by decide +kernel))
set_option maxRecDepth 20000 in
theorem gX1_keepsTheorem_X1_showsChange : GoodIn wsX1_keepsTheorem (wsV RX1 201 RX1 yX1_showsChange wsX1_showsChange) := goodIn_app (goodIn_of _ (by decide +kernel)) ggX1_keepsTheorem_X1_showsChange
theorem dX1_keepsTheorem_0 : decode cX1_keepsTheorem 0 = .ok (.aload_n 1, 1) := by decide +kernel
theorem dX1_keepsTheorem_1 : decode cX1_keepsTheorem 1 = .ok (.invokevirtual 198, 3) := by decide +kernel
theorem dX1_keepsTheorem_4 : decode cX1_keepsTheorem 4 = .ok (.ifCond .ne 5, 3) := by decide +kernel
theorem dX1_keepsTheorem_7 : decode cX1_keepsTheorem 7 = .ok (.iconst 0, 1) := by decide +kernel
theorem dX1_keepsTheorem_8 : decode cX1_keepsTheorem 8 = .ok (.ireturn, 1) := by decide +kernel
theorem dX1_keepsTheorem_9 : decode cX1_keepsTheorem 9 = .ok (.aload_n 1, 1) := by decide +kernel
theorem dX1_keepsTheorem_10 : decode cX1_keepsTheorem 10 = .ok (.getfield 85, 3) := by decide +kernel
theorem dX1_keepsTheorem_13 : decode cX1_keepsTheorem 13 = .ok (.ifCond .eq 5, 3) := by decide +kernel
theorem dX1_keepsTheorem_16 : decode cX1_keepsTheorem 16 = .ok (.iconst 1, 1) := by decide +kernel
theorem dX1_keepsTheorem_17 : decode cX1_keepsTheorem 17 = .ok (.ireturn, 1) := by decide +kernel
theorem dX1_keepsTheorem_18 : decode cX1_keepsTheorem 18 = .ok (.aload_n 1, 1) := by decide +kernel
theorem dX1_keepsTheorem_19 : decode cX1_keepsTheorem 19 = .ok (.invokevirtual 66, 3) := by decide +kernel
theorem dX1_keepsTheorem_22 : decode cX1_keepsTheorem 22 = .ok (.istore_n 2, 1) := by decide +kernel
theorem dX1_keepsTheorem_23 : decode cX1_keepsTheorem 23 = .ok (.aload_n 0, 1) := by decide +kernel
theorem dX1_keepsTheorem_24 : decode cX1_keepsTheorem 24 = .ok (.getfield 21, 3) := by decide +kernel
theorem dX1_keepsTheorem_27 : decode cX1_keepsTheorem 27 = .ok (.aload_n 1, 1) := by decide +kernel
theorem dX1_keepsTheorem_28 : decode cX1_keepsTheorem 28 = .ok (.aload_n 1, 1) := by decide +kernel
theorem dX1_keepsTheorem_29 : decode cX1_keepsTheorem 29 = .ok (.getfield 63, 3) := by decide +kernel
theorem dX1_keepsTheorem_32 : decode cX1_keepsTheorem 32 = .ok (.iload_n 2, 1) := by decide +kernel
theorem dX1_keepsTheorem_33 : decode cX1_keepsTheorem 33 = .ok (.invokevirtual 70, 3) := by decide +kernel
theorem dX1_keepsTheorem_36 : decode cX1_keepsTheorem 36 = .ok (.aload_n 0, 1) := by decide +kernel
theorem dX1_keepsTheorem_37 : decode cX1_keepsTheorem 37 = .ok (.getfield 25, 3) := by decide +kernel
theorem dX1_keepsTheorem_40 : decode cX1_keepsTheorem 40 = .ok (.aload_n 1, 1) := by decide +kernel
theorem dX1_keepsTheorem_41 : decode cX1_keepsTheorem 41 = .ok (.invokevirtual 81, 3) := by decide +kernel
theorem dX1_keepsTheorem_44 : decode cX1_keepsTheorem 44 = .ok (.iconst 0, 1) := by decide +kernel
theorem dX1_keepsTheorem_45 : decode cX1_keepsTheorem 45 = .ok (.istore_n 3, 1) := by decide +kernel
theorem dX1_keepsTheorem_46 : decode cX1_keepsTheorem 46 = .ok (.iload_n 3, 1) := by decide +kernel
theorem dX1_keepsTheorem_47 : decode cX1_keepsTheorem 47 = .ok (.iload_n 2, 1) := by decide +kernel
theorem dX1_keepsTheorem_48 : decode cX1_keepsTheorem 48 = .ok (.if_icmp .ge 20, 3) := by decide +kernel
theorem dX1_keepsTheorem_51 : decode cX1_keepsTheorem 51 = .ok (.aload_n 0, 1) := by decide +kernel
theorem dX1_keepsTheorem_52 : decode cX1_keepsTheorem 52 = .ok (.aload_n 1, 1) := by decide +kernel
theorem dX1_keepsTheorem_53 : decode cX1_keepsTheorem 53 = .ok (.iload_n 3, 1) := by decide +kernel
theorem dX1_keepsTheorem_54 : decode cX1_keepsTheorem 54 = .ok (.invokevirtual 201, 3) := by decide +kernel
theorem dX1_keepsTheorem_57 : decode cX1_keepsTheorem 57 = .ok (.ifCond .ne 5, 3) := by decide +kernel
theorem dX1_keepsTheorem_60 : decode cX1_keepsTheorem 60 = .ok (.iconst 0, 1) := by decide +kernel
theorem dX1_keepsTheorem_61 : decode cX1_keepsTheorem 61 = .ok (.ireturn, 1) := by decide +kernel
theorem dX1_keepsTheorem_62 : decode cX1_keepsTheorem 62 = .ok (.iinc 3 1, 3) := by decide +kernel
theorem dX1_keepsTheorem_65 : decode cX1_keepsTheorem 65 = .ok (.goto (-19), 3) := by decide +kernel
theorem dX1_keepsTheorem_68 : decode cX1_keepsTheorem 68 = .ok (.iconst 1, 1) := by decide +kernel
theorem dX1_keepsTheorem_69 : decode cX1_keepsTheorem 69 = .ok (.ireturn, 1) := by decide +kernel
set_option maxRecDepth 20000 in
theorem ggX1_showsChange_X0_valueAt : GoodIn wsX1_showsChange wsX0_valueAt := goodIn_ca (goodIn_r _ [9, 10, 11, 27, 28, 29, 30, 31, 32, 33, 34] (by decide +kernel) (by decide +kernel)) (goodIn_sub (fun _ h => List.mem_cons_of_mem _ (List.mem_append_right _ h)) (by decide +kernel))
set_option maxRecDepth 20000 in
theorem gX1_showsChange_X0_valueAt : GoodIn wsX1_showsChange (wsV RX1 149 RX0 yX0_valueAt wsX0_valueAt) := goodIn_app (goodIn_of _ (by decide +kernel)) ggX1_showsChange_X0_valueAt
set_option maxRecDepth 20000 in
theorem ggX1_showsChange_X0_cut : GoodIn wsX1_showsChange wsX0_cut := goodIn_r _ [15, 16, 17, 27, 28, 29, 30, 31, 32, 33, 34] (by decide +kernel) (by decide +kernel)
set_option maxRecDepth 20000 in
theorem gX1_showsChange_X0_cut : GoodIn wsX1_showsChange (wsV RX1 207 RX0 yX0_cut wsX0_cut) := goodIn_app (goodIn_of _ (by decide +kernel)) ggX1_showsChange_X0_cut
set_option maxRecDepth 20000 in
theorem ggX1_showsChange_X0_changeAt : GoodIn wsX1_showsChange wsX0_changeAt := goodIn_ca (goodIn_r _ [21, 10, 11, 22, 13, 14, 8, 15, 16, 17, 27, 28, 29, 30, 31, 32, 33, 34] (by decide +kernel) (by decide +kernel)) (goodIn_sub (fun _ h => List.mem_cons_of_mem _ (List.mem_append_right _ h)) (by decide +kernel))
set_option maxRecDepth 20000 in
theorem gX1_showsChange_X0_changeAt : GoodIn wsX1_showsChange (wsV RX1 153 RX0 yX0_changeAt wsX0_changeAt) := goodIn_app (goodIn_of _ (by decide +kernel)) ggX1_showsChange_X0_changeAt
theorem dX1_showsChange_0 : decode cX1_showsChange 0 = .ok (.aload_n 0, 1) := by decide +kernel
theorem dX1_showsChange_1 : decode cX1_showsChange 1 = .ok (.getfield 21, 3) := by decide +kernel
theorem dX1_showsChange_4 : decode cX1_showsChange 4 = .ok (.iload_n 2, 1) := by decide +kernel
theorem dX1_showsChange_5 : decode cX1_showsChange 5 = .ok (.invokevirtual 149, 3) := by decide +kernel
theorem dX1_showsChange_8 : decode cX1_showsChange 8 = .ok (.lstore_n 3, 1) := by decide +kernel
theorem dX1_showsChange_9 : decode cX1_showsChange 9 = .ok (.aload_n 0, 1) := by decide +kernel
theorem dX1_showsChange_10 : decode cX1_showsChange 10 = .ok (.getfield 21, 3) := by decide +kernel
theorem dX1_showsChange_13 : decode cX1_showsChange 13 = .ok (.lload_n 3, 1) := by decide +kernel
theorem dX1_showsChange_14 : decode cX1_showsChange 14 = .ok (.ldc2_w 205, 3) := by decide +kernel
theorem dX1_showsChange_17 : decode cX1_showsChange 17 = .ok (.lxor, 1) := by decide +kernel
theorem dX1_showsChange_18 : decode cX1_showsChange 18 = .ok (.invokevirtual 207, 3) := by decide +kernel
theorem dX1_showsChange_21 : decode cX1_showsChange 21 = .ok (.lstore 5, 2) := by decide +kernel
theorem dX1_showsChange_23 : decode cX1_showsChange 23 = .ok (.aload_n 0, 1) := by decide +kernel
theorem dX1_showsChange_24 : decode cX1_showsChange 24 = .ok (.getfield 21, 3) := by decide +kernel
theorem dX1_showsChange_27 : decode cX1_showsChange 27 = .ok (.iload_n 2, 1) := by decide +kernel
theorem dX1_showsChange_28 : decode cX1_showsChange 28 = .ok (.lload 5, 2) := by decide +kernel
theorem dX1_showsChange_30 : decode cX1_showsChange 30 = .ok (.invokevirtual 153, 3) := by decide +kernel
theorem dX1_showsChange_33 : decode cX1_showsChange 33 = .ok (.aload_n 1, 1) := by decide +kernel
theorem dX1_showsChange_34 : decode cX1_showsChange 34 = .ok (.aload_n 1, 1) := by decide +kernel
theorem dX1_showsChange_35 : decode cX1_showsChange 35 = .ok (.getfield 63, 3) := by decide +kernel
theorem dX1_showsChange_38 : decode cX1_showsChange 38 = .ok (.iload_n 2, 1) := by decide +kernel
theorem dX1_showsChange_39 : decode cX1_showsChange 39 = .ok (.iadd, 1) := by decide +kernel
theorem dX1_showsChange_40 : decode cX1_showsChange 40 = .ok (.invokevirtual 149, 3) := by decide +kernel
theorem dX1_showsChange_43 : decode cX1_showsChange 43 = .ok (.lload 5, 2) := by decide +kernel
theorem dX1_showsChange_45 : decode cX1_showsChange 45 = .ok (.lcmp, 1) := by decide +kernel
theorem dX1_showsChange_46 : decode cX1_showsChange 46 = .ok (.ifCond .ne 29, 3) := by decide +kernel
theorem dX1_showsChange_49 : decode cX1_showsChange 49 = .ok (.aload_n 0, 1) := by decide +kernel
theorem dX1_showsChange_50 : decode cX1_showsChange 50 = .ok (.getfield 25, 3) := by decide +kernel
theorem dX1_showsChange_53 : decode cX1_showsChange 53 = .ok (.aload_n 0, 1) := by decide +kernel
theorem dX1_showsChange_54 : decode cX1_showsChange 54 = .ok (.getfield 25, 3) := by decide +kernel
theorem dX1_showsChange_57 : decode cX1_showsChange 57 = .ok (.getfield 63, 3) := by decide +kernel
theorem dX1_showsChange_60 : decode cX1_showsChange 60 = .ok (.iload_n 2, 1) := by decide +kernel
theorem dX1_showsChange_61 : decode cX1_showsChange 61 = .ok (.iadd, 1) := by decide +kernel
theorem dX1_showsChange_62 : decode cX1_showsChange 62 = .ok (.invokevirtual 149, 3) := by decide +kernel
theorem dX1_showsChange_65 : decode cX1_showsChange 65 = .ok (.lload 5, 2) := by decide +kernel
theorem dX1_showsChange_67 : decode cX1_showsChange 67 = .ok (.lcmp, 1) := by decide +kernel
theorem dX1_showsChange_68 : decode cX1_showsChange 68 = .ok (.ifCond .ne 7, 3) := by decide +kernel
theorem dX1_showsChange_71 : decode cX1_showsChange 71 = .ok (.iconst 1, 1) := by decide +kernel
theorem dX1_showsChange_72 : decode cX1_showsChange 72 = .ok (.goto 4, 3) := by decide +kernel
theorem dX1_showsChange_75 : decode cX1_showsChange 75 = .ok (.iconst 0, 1) := by decide +kernel
theorem dX1_showsChange_76 : decode cX1_showsChange 76 = .ok (.istore 7, 2) := by decide +kernel
theorem dX1_showsChange_78 : decode cX1_showsChange 78 = .ok (.aload_n 0, 1) := by decide +kernel
theorem dX1_showsChange_79 : decode cX1_showsChange 79 = .ok (.getfield 21, 3) := by decide +kernel
theorem dX1_showsChange_82 : decode cX1_showsChange 82 = .ok (.iload_n 2, 1) := by decide +kernel
theorem dX1_showsChange_83 : decode cX1_showsChange 83 = .ok (.lload_n 3, 1) := by decide +kernel
theorem dX1_showsChange_84 : decode cX1_showsChange 84 = .ok (.invokevirtual 153, 3) := by decide +kernel
theorem dX1_showsChange_87 : decode cX1_showsChange 87 = .ok (.iload 7, 2) := by decide +kernel
theorem dX1_showsChange_89 : decode cX1_showsChange 89 = .ok (.ireturn, 1) := by decide +kernel
set_option maxRecDepth 20000 in
theorem ggX1_sumOfRow_X1_summed : GoodIn wsX1_sumOfRow wsX1_summed := goodIn_r _ [4, 5] (by decide +kernel) (by decide +kernel)
set_option maxRecDepth 20000 in
theorem gX1_sumOfRow_X1_summed : GoodIn wsX1_sumOfRow (va_wsS RX1 210 yX1_summed wsX1_summed) := goodIn_app (goodIn_of _ (by decide +kernel)) ggX1_sumOfRow_X1_summed
theorem dX1_sumOfRow_0 : decode cX1_sumOfRow 0 = .ok (.lload_n 0, 1) := by decide +kernel
theorem dX1_sumOfRow_1 : decode cX1_sumOfRow 1 = .ok (.lstore_n 3, 1) := by decide +kernel
theorem dX1_sumOfRow_2 : decode cX1_sumOfRow 2 = .ok (.iconst 0, 1) := by decide +kernel
theorem dX1_sumOfRow_3 : decode cX1_sumOfRow 3 = .ok (.istore 5, 2) := by decide +kernel
theorem dX1_sumOfRow_5 : decode cX1_sumOfRow 5 = .ok (.iload 5, 2) := by decide +kernel
theorem dX1_sumOfRow_7 : decode cX1_sumOfRow 7 = .ok (.aload_n 2, 1) := by decide +kernel
theorem dX1_sumOfRow_8 : decode cX1_sumOfRow 8 = .ok (.arraylength, 1) := by decide +kernel
theorem dX1_sumOfRow_9 : decode cX1_sumOfRow 9 = .ok (.if_icmp .ge 18, 3) := by decide +kernel
theorem dX1_sumOfRow_12 : decode cX1_sumOfRow 12 = .ok (.lload_n 3, 1) := by decide +kernel
theorem dX1_sumOfRow_13 : decode cX1_sumOfRow 13 = .ok (.aload_n 2, 1) := by decide +kernel
theorem dX1_sumOfRow_14 : decode cX1_sumOfRow 14 = .ok (.iload 5, 2) := by decide +kernel
theorem dX1_sumOfRow_16 : decode cX1_sumOfRow 16 = .ok (.laload, 1) := by decide +kernel
theorem dX1_sumOfRow_17 : decode cX1_sumOfRow 17 = .ok (.invokestatic 210, 3) := by decide +kernel
theorem dX1_sumOfRow_20 : decode cX1_sumOfRow 20 = .ok (.lstore_n 3, 1) := by decide +kernel
theorem dX1_sumOfRow_21 : decode cX1_sumOfRow 21 = .ok (.iinc 5 1, 3) := by decide +kernel
theorem dX1_sumOfRow_24 : decode cX1_sumOfRow 24 = .ok (.goto (-19), 3) := by decide +kernel
theorem dX1_sumOfRow_27 : decode cX1_sumOfRow 27 = .ok (.lload_n 3, 1) := by decide +kernel
theorem dX1_sumOfRow_28 : decode cX1_sumOfRow 28 = .ok (.lreturn, 1) := by decide +kernel
theorem dX1_summed_0 : decode cX1_summed 0 = .ok (.ldc2_w 214, 3) := by decide +kernel
theorem dX1_summed_3 : decode cX1_summed 3 = .ok (.lload_n 0, 1) := by decide +kernel
theorem dX1_summed_4 : decode cX1_summed 4 = .ok (.lmul, 1) := by decide +kernel
theorem dX1_summed_5 : decode cX1_summed 5 = .ok (.lload_n 2, 1) := by decide +kernel
theorem dX1_summed_6 : decode cX1_summed 6 = .ok (.ladd, 1) := by decide +kernel
theorem dX1_summed_7 : decode cX1_summed 7 = .ok (.lreturn, 1) := by decide +kernel
set_option maxRecDepth 20000 in
theorem ggX1_slotOf_X1_checkIndex : GoodIn wsX1_slotOf wsX1_checkIndex := goodIn_ca (goodIn_r _ [5, 6, 7] (by decide +kernel) (by decide +kernel)) (goodIn_sub (fun _ h => List.mem_cons_of_mem _ (List.mem_append_right _ h)) (by decide +kernel))
set_option maxRecDepth 20000 in
theorem gX1_slotOf_X1_checkIndex : GoodIn wsX1_slotOf (va_wsS RX1 36 yX1_checkIndex wsX1_checkIndex) := goodIn_app (goodIn_of _ (by decide +kernel)) ggX1_slotOf_X1_checkIndex
theorem dX1_slotOf_0 : decode cX1_slotOf 0 = .ok (.iload_n 1, 1) := by decide +kernel
theorem dX1_slotOf_1 : decode cX1_slotOf 1 = .ok (.bipush 8, 2) := by decide +kernel
theorem dX1_slotOf_3 : decode cX1_slotOf 3 = .ok (.invokestatic 36, 3) := by decide +kernel
theorem dX1_slotOf_6 : decode cX1_slotOf 6 = .ok (.aload_n 0, 1) := by decide +kernel
theorem dX1_slotOf_7 : decode cX1_slotOf 7 = .ok (.getfield 16, 3) := by decide +kernel
theorem dX1_slotOf_10 : decode cX1_slotOf 10 = .ok (.iload_n 1, 1) := by decide +kernel
theorem dX1_slotOf_11 : decode cX1_slotOf 11 = .ok (.aaload, 1) := by decide +kernel
theorem dX1_slotOf_12 : decode cX1_slotOf 12 = .ok (.areturn, 1) := by decide +kernel
set_option maxRecDepth 20000 in
theorem ggX1_windowOf_X1_slotOf : GoodIn wsX1_windowOf wsX1_slotOf := goodIn_ca (goodIn_r _ [7, 8, 9, 10, 6, 11, 1, 2, 18, 19, 20, 21] (by decide +kernel) (by decide +kernel)) (goodIn_sub (fun _ h => List.mem_cons_of_mem _ (List.mem_append_right _ h)) (by decide +kernel))
set_option maxRecDepth 20000 in
theorem gX1_windowOf_X1_slotOf : GoodIn wsX1_windowOf (wsV RX1 40 RX1 yX1_slotOf wsX1_slotOf) := goodIn_app (goodIn_of _ (by decide +kernel)) ggX1_windowOf_X1_slotOf
set_option maxRecDepth 20000 in
theorem ggX1_windowOf_X0_isThere : GoodIn wsX1_windowOf wsX0_isThere := goodIn_r _ [16, 17, 22, 23, 24, 25, 26, 27, 28, 29] (by decide +kernel) (by decide +kernel)
set_option maxRecDepth 20000 in
theorem gX1_windowOf_X0_isThere : GoodIn wsX1_windowOf (wsV RX1 48 RX0 yX0_isThere wsX0_isThere) := goodIn_app (goodIn_of _ (by decide +kernel)) ggX1_windowOf_X0_isThere
theorem dX1_windowOf_0 : decode cX1_windowOf 0 = .ok (.aload_n 0, 1) := by decide +kernel
theorem dX1_windowOf_1 : decode cX1_windowOf 1 = .ok (.iload_n 1, 1) := by decide +kernel
theorem dX1_windowOf_2 : decode cX1_windowOf 2 = .ok (.invokevirtual 40, 3) := by decide +kernel
theorem dX1_windowOf_5 : decode cX1_windowOf 5 = .ok (.astore_n 2, 1) := by decide +kernel
theorem dX1_windowOf_6 : decode cX1_windowOf 6 = .ok (.aload_n 2, 1) := by decide +kernel
theorem dX1_windowOf_7 : decode cX1_windowOf 7 = .ok (.invokevirtual 48, 3) := by decide +kernel
theorem dX1_windowOf_10 : decode cX1_windowOf 10 = .ok (.ifCond .ne 13, 3) := by decide +kernel
theorem dX1_windowOf_13 : decode cX1_windowOf 13 = .ok (.new 216, 3) := by decide +kernel
theorem dX1_windowOf_16 : decode cX1_windowOf 16 = .ok (.dup, 1) := by decide +kernel
theorem dX1_windowOf_17 : decode cX1_windowOf 17 = .ok (.ldc 218, 2) := by decide +kernel
theorem dX1_windowOf_19 : decode cX1_windowOf 19 = .ok (.invokespecial 220, 3) := by decide +kernel
theorem dX1_windowOf_22 : decode cX1_windowOf 22 = .ok (.athrow, 1) := by decide +kernel
theorem dX1_windowOf_23 : decode cX1_windowOf 23 = .ok (.aload_n 2, 1) := by decide +kernel
theorem dX1_windowOf_24 : decode cX1_windowOf 24 = .ok (.areturn, 1) := by decide +kernel
set_option maxRecDepth 20000 in
theorem ggX1_rowOf_X1_checkIndex : GoodIn wsX1_rowOf wsX1_checkIndex := goodIn_ca (goodIn_r _ [5, 6, 7] (by decide +kernel) (by decide +kernel)) (goodIn_sub (fun _ h => List.mem_cons_of_mem _ (List.mem_append_right _ h)) (by decide +kernel))
set_option maxRecDepth 20000 in
theorem gX1_rowOf_X1_checkIndex : GoodIn wsX1_rowOf (va_wsS RX1 36 yX1_checkIndex wsX1_checkIndex) := goodIn_app (goodIn_of _ (by decide +kernel)) ggX1_rowOf_X1_checkIndex
theorem dX1_rowOf_0 : decode cX1_rowOf 0 = .ok (.iload_n 1, 1) := by decide +kernel
theorem dX1_rowOf_1 : decode cX1_rowOf 1 = .ok (.iconst 2, 1) := by decide +kernel
theorem dX1_rowOf_2 : decode cX1_rowOf 2 = .ok (.invokestatic 36, 3) := by decide +kernel
theorem dX1_rowOf_5 : decode cX1_rowOf 5 = .ok (.aload_n 0, 1) := by decide +kernel
theorem dX1_rowOf_6 : decode cX1_rowOf 6 = .ok (.getfield 11, 3) := by decide +kernel
theorem dX1_rowOf_9 : decode cX1_rowOf 9 = .ok (.iload_n 1, 1) := by decide +kernel
theorem dX1_rowOf_10 : decode cX1_rowOf 10 = .ok (.aaload, 1) := by decide +kernel
theorem dX1_rowOf_11 : decode cX1_rowOf 11 = .ok (.areturn, 1) := by decide +kernel
theorem dX1_checkIndex_0 : decode cX1_checkIndex 0 = .ok (.iload_n 0, 1) := by decide +kernel
theorem dX1_checkIndex_1 : decode cX1_checkIndex 1 = .ok (.ifCond .lt 8, 3) := by decide +kernel
theorem dX1_checkIndex_4 : decode cX1_checkIndex 4 = .ok (.iload_n 0, 1) := by decide +kernel
theorem dX1_checkIndex_5 : decode cX1_checkIndex 5 = .ok (.iload_n 1, 1) := by decide +kernel
theorem dX1_checkIndex_6 : decode cX1_checkIndex 6 = .ok (.if_icmp .lt 13, 3) := by decide +kernel
theorem dX1_checkIndex_9 : decode cX1_checkIndex 9 = .ok (.new 216, 3) := by decide +kernel
theorem dX1_checkIndex_12 : decode cX1_checkIndex 12 = .ok (.dup, 1) := by decide +kernel
theorem dX1_checkIndex_13 : decode cX1_checkIndex 13 = .ok (.ldc 221, 2) := by decide +kernel
theorem dX1_checkIndex_15 : decode cX1_checkIndex 15 = .ok (.invokespecial 220, 3) := by decide +kernel
theorem dX1_checkIndex_18 : decode cX1_checkIndex 18 = .ok (.athrow, 1) := by decide +kernel
theorem dX1_checkIndex_19 : decode cX1_checkIndex 19 = .ok (.return_, 1) := by decide +kernel
theorem dX1_checkPart_0 : decode cX1_checkPart 0 = .ok (.iload_n 0, 1) := by decide +kernel
theorem dX1_checkPart_1 : decode cX1_checkPart 1 = .ok (.ifCond .lt 19, 3) := by decide +kernel
theorem dX1_checkPart_4 : decode cX1_checkPart 4 = .ok (.iload_n 0, 1) := by decide +kernel
theorem dX1_checkPart_5 : decode cX1_checkPart 5 = .ok (.iload_n 2, 1) := by decide +kernel
theorem dX1_checkPart_6 : decode cX1_checkPart 6 = .ok (.if_icmp .gt 14, 3) := by decide +kernel
theorem dX1_checkPart_9 : decode cX1_checkPart 9 = .ok (.iload_n 1, 1) := by decide +kernel
theorem dX1_checkPart_10 : decode cX1_checkPart 10 = .ok (.ifCond .lt 10, 3) := by decide +kernel
theorem dX1_checkPart_13 : decode cX1_checkPart 13 = .ok (.iload_n 1, 1) := by decide +kernel
theorem dX1_checkPart_14 : decode cX1_checkPart 14 = .ok (.iload_n 2, 1) := by decide +kernel
theorem dX1_checkPart_15 : decode cX1_checkPart 15 = .ok (.iload_n 0, 1) := by decide +kernel
theorem dX1_checkPart_16 : decode cX1_checkPart 16 = .ok (.isub, 1) := by decide +kernel
theorem dX1_checkPart_17 : decode cX1_checkPart 17 = .ok (.if_icmp .le 13, 3) := by decide +kernel
theorem dX1_checkPart_20 : decode cX1_checkPart 20 = .ok (.new 216, 3) := by decide +kernel
theorem dX1_checkPart_23 : decode cX1_checkPart 23 = .ok (.dup, 1) := by decide +kernel
theorem dX1_checkPart_24 : decode cX1_checkPart 24 = .ok (.ldc 223, 2) := by decide +kernel
theorem dX1_checkPart_26 : decode cX1_checkPart 26 = .ok (.invokespecial 220, 3) := by decide +kernel
theorem dX1_checkPart_29 : decode cX1_checkPart 29 = .ok (.athrow, 1) := by decide +kernel
theorem dX1_checkPart_30 : decode cX1_checkPart 30 = .ok (.return_, 1) := by decide +kernel
theorem dX1_checkBound_0 : decode cX1_checkBound 0 = .ok (.iload_n 0, 1) := by decide +kernel
theorem dX1_checkBound_1 : decode cX1_checkBound 1 = .ok (.ifCond .lt 8, 3) := by decide +kernel
theorem dX1_checkBound_4 : decode cX1_checkBound 4 = .ok (.iload_n 0, 1) := by decide +kernel
theorem dX1_checkBound_5 : decode cX1_checkBound 5 = .ok (.iload_n 1, 1) := by decide +kernel
theorem dX1_checkBound_6 : decode cX1_checkBound 6 = .ok (.if_icmp .le 13, 3) := by decide +kernel
theorem dX1_checkBound_9 : decode cX1_checkBound 9 = .ok (.new 160, 3) := by decide +kernel
theorem dX1_checkBound_12 : decode cX1_checkBound 12 = .ok (.dup, 1) := by decide +kernel
theorem dX1_checkBound_13 : decode cX1_checkBound 13 = .ok (.ldc 225, 2) := by decide +kernel
theorem dX1_checkBound_15 : decode cX1_checkBound 15 = .ok (.invokespecial 164, 3) := by decide +kernel
theorem dX1_checkBound_18 : decode cX1_checkBound 18 = .ok (.athrow, 1) := by decide +kernel
theorem dX1_checkBound_19 : decode cX1_checkBound 19 = .ok (.return_, 1) := by decide +kernel
theorem dX1_checkLength_0 : decode cX1_checkLength 0 = .ok (.iload_n 0, 1) := by decide +kernel
theorem dX1_checkLength_1 : decode cX1_checkLength 1 = .ok (.ifCond .lt 9, 3) := by decide +kernel
theorem dX1_checkLength_4 : decode cX1_checkLength 4 = .ok (.iload_n 0, 1) := by decide +kernel
theorem dX1_checkLength_5 : decode cX1_checkLength 5 = .ok (.bipush 64, 2) := by decide +kernel
theorem dX1_checkLength_7 : decode cX1_checkLength 7 = .ok (.if_icmp .le 13, 3) := by decide +kernel
theorem dX1_checkLength_10 : decode cX1_checkLength 10 = .ok (.new 160, 3) := by decide +kernel
theorem dX1_checkLength_13 : decode cX1_checkLength 13 = .ok (.dup, 1) := by decide +kernel
theorem dX1_checkLength_14 : decode cX1_checkLength 14 = .ok (.ldc 227, 2) := by decide +kernel
theorem dX1_checkLength_16 : decode cX1_checkLength 16 = .ok (.invokespecial 164, 3) := by decide +kernel
theorem dX1_checkLength_19 : decode cX1_checkLength 19 = .ok (.athrow, 1) := by decide +kernel
theorem dX1_checkLength_20 : decode cX1_checkLength 20 = .ok (.return_, 1) := by decide +kernel
theorem dX1_checkKind_0 : decode cX1_checkKind 0 = .ok (.iload_n 0, 1) := by decide +kernel
theorem dX1_checkKind_1 : decode cX1_checkKind 1 = .ok (.bipush 105, 2) := by decide +kernel
theorem dX1_checkKind_3 : decode cX1_checkKind 3 = .ok (.if_icmp .eq 31, 3) := by decide +kernel
theorem dX1_checkKind_6 : decode cX1_checkKind 6 = .ok (.iload_n 0, 1) := by decide +kernel
theorem dX1_checkKind_7 : decode cX1_checkKind 7 = .ok (.bipush 108, 2) := by decide +kernel
theorem dX1_checkKind_9 : decode cX1_checkKind 9 = .ok (.if_icmp .eq 25, 3) := by decide +kernel
theorem dX1_checkKind_12 : decode cX1_checkKind 12 = .ok (.iload_n 0, 1) := by decide +kernel
theorem dX1_checkKind_13 : decode cX1_checkKind 13 = .ok (.bipush 99, 2) := by decide +kernel
theorem dX1_checkKind_15 : decode cX1_checkKind 15 = .ok (.if_icmp .eq 19, 3) := by decide +kernel
theorem dX1_checkKind_18 : decode cX1_checkKind 18 = .ok (.iload_n 0, 1) := by decide +kernel
theorem dX1_checkKind_19 : decode cX1_checkKind 19 = .ok (.bipush 115, 2) := by decide +kernel
theorem dX1_checkKind_21 : decode cX1_checkKind 21 = .ok (.if_icmp .eq 13, 3) := by decide +kernel
theorem dX1_checkKind_24 : decode cX1_checkKind 24 = .ok (.new 160, 3) := by decide +kernel
theorem dX1_checkKind_27 : decode cX1_checkKind 27 = .ok (.dup, 1) := by decide +kernel
theorem dX1_checkKind_28 : decode cX1_checkKind 28 = .ok (.ldc 229, 2) := by decide +kernel
theorem dX1_checkKind_30 : decode cX1_checkKind 30 = .ok (.invokespecial 164, 3) := by decide +kernel
theorem dX1_checkKind_33 : decode cX1_checkKind 33 = .ok (.athrow, 1) := by decide +kernel
theorem dX1_checkKind_34 : decode cX1_checkKind 34 = .ok (.return_, 1) := by decide +kernel
theorem dX1_checkMany_0 : decode cX1_checkMany 0 = .ok (.iload_n 0, 1) := by decide +kernel
theorem dX1_checkMany_1 : decode cX1_checkMany 1 = .ok (.ifCond .ge 13, 3) := by decide +kernel
theorem dX1_checkMany_4 : decode cX1_checkMany 4 = .ok (.new 160, 3) := by decide +kernel
theorem dX1_checkMany_7 : decode cX1_checkMany 7 = .ok (.dup, 1) := by decide +kernel
theorem dX1_checkMany_8 : decode cX1_checkMany 8 = .ok (.ldc 231, 2) := by decide +kernel
theorem dX1_checkMany_10 : decode cX1_checkMany 10 = .ok (.invokespecial 164, 3) := by decide +kernel
theorem dX1_checkMany_13 : decode cX1_checkMany 13 = .ok (.athrow, 1) := by decide +kernel
theorem dX1_checkMany_14 : decode cX1_checkMany 14 = .ok (.return_, 1) := by decide +kernel
theorem dX1_checkWritable_0 : decode cX1_checkWritable 0 = .ok (.aload_n 0, 1) := by decide +kernel
theorem dX1_checkWritable_1 : decode cX1_checkWritable 1 = .ok (.getfield 85, 3) := by decide +kernel
theorem dX1_checkWritable_4 : decode cX1_checkWritable 4 = .ok (.ifCond .eq 13, 3) := by decide +kernel
theorem dX1_checkWritable_7 : decode cX1_checkWritable 7 = .ok (.new 233, 3) := by decide +kernel
theorem dX1_checkWritable_10 : decode cX1_checkWritable 10 = .ok (.dup, 1) := by decide +kernel
theorem dX1_checkWritable_11 : decode cX1_checkWritable 11 = .ok (.ldc 235, 2) := by decide +kernel
theorem dX1_checkWritable_13 : decode cX1_checkWritable 13 = .ok (.invokespecial 237, 3) := by decide +kernel
theorem dX1_checkWritable_16 : decode cX1_checkWritable 16 = .ok (.athrow, 1) := by decide +kernel
theorem dX1_checkWritable_17 : decode cX1_checkWritable 17 = .ok (.return_, 1) := by decide +kernel
theorem dX1_checkOfChars_0 : decode cX1_checkOfChars 0 = .ok (.aload_n 0, 1) := by decide +kernel
theorem dX1_checkOfChars_1 : decode cX1_checkOfChars 1 = .ok (.getfield 89, 3) := by decide +kernel
theorem dX1_checkOfChars_4 : decode cX1_checkOfChars 4 = .ok (.bipush 99, 2) := by decide +kernel
theorem dX1_checkOfChars_6 : decode cX1_checkOfChars 6 = .ok (.if_icmp .eq 13, 3) := by decide +kernel
theorem dX1_checkOfChars_9 : decode cX1_checkOfChars 9 = .ok (.new 233, 3) := by decide +kernel
theorem dX1_checkOfChars_12 : decode cX1_checkOfChars 12 = .ok (.dup, 1) := by decide +kernel
theorem dX1_checkOfChars_13 : decode cX1_checkOfChars 13 = .ok (.ldc 238, 2) := by decide +kernel
theorem dX1_checkOfChars_15 : decode cX1_checkOfChars 15 = .ok (.invokespecial 237, 3) := by decide +kernel
theorem dX1_checkOfChars_18 : decode cX1_checkOfChars 18 = .ok (.athrow, 1) := by decide +kernel
theorem dX1_checkOfChars_19 : decode cX1_checkOfChars 19 = .ok (.return_, 1) := by decide +kernel
set_option maxRecDepth 20000 in
theorem ggX1_checkEnoughToGet_X0_rest : GoodIn wsX1_checkEnoughToGet wsX0_rest := goodIn_r _ [7, 8, 9, 10, 11, 12, 13, 14, 15, 16, 17] (by decide +kernel) (by decide +kernel)
set_option maxRecDepth 20000 in
theorem gX1_checkEnoughToGet_X0_rest : GoodIn wsX1_checkEnoughToGet (wsV RX1 66 RX0 yX0_rest wsX0_rest) := goodIn_app (goodIn_of _ (by decide +kernel)) ggX1_checkEnoughToGet_X0_rest
theorem dX1_checkEnoughToGet_0 : decode cX1_checkEnoughToGet 0 = .ok (.iload_n 1, 1) := by decide +kernel
theorem dX1_checkEnoughToGet_1 : decode cX1_checkEnoughToGet 1 = .ok (.aload_n 0, 1) := by decide +kernel
theorem dX1_checkEnoughToGet_2 : decode cX1_checkEnoughToGet 2 = .ok (.invokevirtual 66, 3) := by decide +kernel
theorem dX1_checkEnoughToGet_5 : decode cX1_checkEnoughToGet 5 = .ok (.if_icmp .le 13, 3) := by decide +kernel
theorem dX1_checkEnoughToGet_8 : decode cX1_checkEnoughToGet 8 = .ok (.new 168, 3) := by decide +kernel
theorem dX1_checkEnoughToGet_11 : decode cX1_checkEnoughToGet 11 = .ok (.dup, 1) := by decide +kernel
theorem dX1_checkEnoughToGet_12 : decode cX1_checkEnoughToGet 12 = .ok (.ldc 240, 2) := by decide +kernel
theorem dX1_checkEnoughToGet_14 : decode cX1_checkEnoughToGet 14 = .ok (.invokespecial 172, 3) := by decide +kernel
theorem dX1_checkEnoughToGet_17 : decode cX1_checkEnoughToGet 17 = .ok (.athrow, 1) := by decide +kernel
theorem dX1_checkEnoughToGet_18 : decode cX1_checkEnoughToGet 18 = .ok (.return_, 1) := by decide +kernel
set_option maxRecDepth 20000 in
theorem ggX1_checkEnoughToPut_X0_rest : GoodIn wsX1_checkEnoughToPut wsX0_rest := goodIn_r _ [7, 8, 9, 10, 11, 12, 13, 14, 15, 16, 17] (by decide +kernel) (by decide +kernel)
set_option maxRecDepth 20000 in
theorem gX1_checkEnoughToPut_X0_rest : GoodIn wsX1_checkEnoughToPut (wsV RX1 66 RX0 yX0_rest wsX0_rest) := goodIn_app (goodIn_of _ (by decide +kernel)) ggX1_checkEnoughToPut_X0_rest
theorem dX1_checkEnoughToPut_0 : decode cX1_checkEnoughToPut 0 = .ok (.iload_n 1, 1) := by decide +kernel
theorem dX1_checkEnoughToPut_1 : decode cX1_checkEnoughToPut 1 = .ok (.aload_n 0, 1) := by decide +kernel
theorem dX1_checkEnoughToPut_2 : decode cX1_checkEnoughToPut 2 = .ok (.invokevirtual 66, 3) := by decide +kernel
theorem dX1_checkEnoughToPut_5 : decode cX1_checkEnoughToPut 5 = .ok (.if_icmp .le 13, 3) := by decide +kernel
theorem dX1_checkEnoughToPut_8 : decode cX1_checkEnoughToPut 8 = .ok (.new 108, 3) := by decide +kernel
theorem dX1_checkEnoughToPut_11 : decode cX1_checkEnoughToPut 11 = .ok (.dup, 1) := by decide +kernel
theorem dX1_checkEnoughToPut_12 : decode cX1_checkEnoughToPut 12 = .ok (.ldc 240, 2) := by decide +kernel
theorem dX1_checkEnoughToPut_14 : decode cX1_checkEnoughToPut 14 = .ok (.invokespecial 112, 3) := by decide +kernel
theorem dX1_checkEnoughToPut_17 : decode cX1_checkEnoughToPut 17 = .ok (.athrow, 1) := by decide +kernel
theorem dX1_checkEnoughToPut_18 : decode cX1_checkEnoughToPut 18 = .ok (.return_, 1) := by decide +kernel
theorem dX2_init_0 : decode cX2_init 0 = .ok (.aload_n 0, 1) := by decide +kernel
theorem dX2_init_1 : decode cX2_init 1 = .ok (.invokespecial 1, 3) := by decide +kernel
theorem dX2_init_4 : decode cX2_init 4 = .ok (.aload_n 0, 1) := by decide +kernel
theorem dX2_init_5 : decode cX2_init 5 = .ok (.sipush 704, 3) := by decide +kernel
theorem dX2_init_8 : decode cX2_init 8 = .ok (.newarray .long, 2) := by decide +kernel
theorem dX2_init_10 : decode cX2_init 10 = .ok (.putfield 7, 3) := by decide +kernel
theorem dX2_init_13 : decode cX2_init 13 = .ok (.aload_n 0, 1) := by decide +kernel
theorem dX2_init_14 : decode cX2_init 14 = .ok (.bipush 8, 2) := by decide +kernel
theorem dX2_init_16 : decode cX2_init 16 = .ok (.newarray .int, 2) := by decide +kernel
theorem dX2_init_18 : decode cX2_init 18 = .ok (.putfield 13, 3) := by decide +kernel
theorem dX2_init_21 : decode cX2_init 21 = .ok (.aload_n 0, 1) := by decide +kernel
theorem dX2_init_22 : decode cX2_init 22 = .ok (.bipush 8, 2) := by decide +kernel
theorem dX2_init_24 : decode cX2_init 24 = .ok (.newarray .int, 2) := by decide +kernel
theorem dX2_init_26 : decode cX2_init 26 = .ok (.putfield 17, 3) := by decide +kernel
theorem dX2_init_29 : decode cX2_init 29 = .ok (.aload_n 0, 1) := by decide +kernel
theorem dX2_init_30 : decode cX2_init 30 = .ok (.bipush 8, 2) := by decide +kernel
theorem dX2_init_32 : decode cX2_init 32 = .ok (.newarray .int, 2) := by decide +kernel
theorem dX2_init_34 : decode cX2_init 34 = .ok (.putfield 20, 3) := by decide +kernel
theorem dX2_init_37 : decode cX2_init 37 = .ok (.aload_n 0, 1) := by decide +kernel
theorem dX2_init_38 : decode cX2_init 38 = .ok (.bipush 8, 2) := by decide +kernel
theorem dX2_init_40 : decode cX2_init 40 = .ok (.newarray .int, 2) := by decide +kernel
theorem dX2_init_42 : decode cX2_init 42 = .ok (.putfield 23, 3) := by decide +kernel
theorem dX2_init_45 : decode cX2_init 45 = .ok (.aload_n 0, 1) := by decide +kernel
theorem dX2_init_46 : decode cX2_init 46 = .ok (.bipush 8, 2) := by decide +kernel
theorem dX2_init_48 : decode cX2_init 48 = .ok (.newarray .int, 2) := by decide +kernel
theorem dX2_init_50 : decode cX2_init 50 = .ok (.putfield 26, 3) := by decide +kernel
theorem dX2_init_53 : decode cX2_init 53 = .ok (.aload_n 0, 1) := by decide +kernel
theorem dX2_init_54 : decode cX2_init 54 = .ok (.bipush 8, 2) := by decide +kernel
theorem dX2_init_56 : decode cX2_init 56 = .ok (.newarray .int, 2) := by decide +kernel
theorem dX2_init_58 : decode cX2_init 58 = .ok (.putfield 29, 3) := by decide +kernel
theorem dX2_init_61 : decode cX2_init 61 = .ok (.aload_n 0, 1) := by decide +kernel
theorem dX2_init_62 : decode cX2_init 62 = .ok (.bipush 8, 2) := by decide +kernel
theorem dX2_init_64 : decode cX2_init 64 = .ok (.newarray .int, 2) := by decide +kernel
theorem dX2_init_66 : decode cX2_init 66 = .ok (.putfield 32, 3) := by decide +kernel
theorem dX2_init_69 : decode cX2_init 69 = .ok (.aload_n 0, 1) := by decide +kernel
theorem dX2_init_70 : decode cX2_init 70 = .ok (.bipush 8, 2) := by decide +kernel
theorem dX2_init_72 : decode cX2_init 72 = .ok (.newarray .boolean, 2) := by decide +kernel
theorem dX2_init_74 : decode cX2_init 74 = .ok (.putfield 35, 3) := by decide +kernel
theorem dX2_init_77 : decode cX2_init 77 = .ok (.aload_n 0, 1) := by decide +kernel
theorem dX2_init_78 : decode cX2_init 78 = .ok (.iconst 2, 1) := by decide +kernel
theorem dX2_init_79 : decode cX2_init 79 = .ok (.newarray .int, 2) := by decide +kernel
theorem dX2_init_81 : decode cX2_init 81 = .ok (.putfield 39, 3) := by decide +kernel
theorem dX2_init_84 : decode cX2_init 84 = .ok (.aload_n 0, 1) := by decide +kernel
theorem dX2_init_85 : decode cX2_init 85 = .ok (.iconst 2, 1) := by decide +kernel
theorem dX2_init_86 : decode cX2_init 86 = .ok (.newarray .int, 2) := by decide +kernel
theorem dX2_init_88 : decode cX2_init 88 = .ok (.putfield 42, 3) := by decide +kernel
theorem dX2_init_91 : decode cX2_init 91 = .ok (.aload_n 0, 1) := by decide +kernel
theorem dX2_init_92 : decode cX2_init 92 = .ok (.bipush 64, 2) := by decide +kernel
theorem dX2_init_94 : decode cX2_init 94 = .ok (.newarray .long, 2) := by decide +kernel
theorem dX2_init_96 : decode cX2_init 96 = .ok (.putfield 45, 3) := by decide +kernel
theorem dX2_init_99 : decode cX2_init 99 = .ok (.aload_n 0, 1) := by decide +kernel
theorem dX2_init_100 : decode cX2_init 100 = .ok (.getfield 39, 3) := by decide +kernel
theorem dX2_init_103 : decode cX2_init 103 = .ok (.iconst 0, 1) := by decide +kernel
theorem dX2_init_104 : decode cX2_init 104 = .ok (.iconst 0, 1) := by decide +kernel
theorem dX2_init_105 : decode cX2_init 105 = .ok (.iastore, 1) := by decide +kernel
theorem dX2_init_106 : decode cX2_init 106 = .ok (.aload_n 0, 1) := by decide +kernel
theorem dX2_init_107 : decode cX2_init 107 = .ok (.getfield 39, 3) := by decide +kernel
theorem dX2_init_110 : decode cX2_init 110 = .ok (.iconst 1, 1) := by decide +kernel
theorem dX2_init_111 : decode cX2_init 111 = .ok (.iconst 1, 1) := by decide +kernel
theorem dX2_init_112 : decode cX2_init 112 = .ok (.iastore, 1) := by decide +kernel
theorem dX2_init_113 : decode cX2_init 113 = .ok (.return_, 1) := by decide +kernel
theorem dX2_thrown_0 : decode cX2_thrown 0 = .ok (.aload_n 0, 1) := by decide +kernel
theorem dX2_thrown_1 : decode cX2_thrown 1 = .ok (.getfield 48, 3) := by decide +kernel
theorem dX2_thrown_4 : decode cX2_thrown 4 = .ok (.ireturn, 1) := by decide +kernel
theorem dX2_in_0 : decode cX2_in 0 = .ok (.iload_n 0, 1) := by decide +kernel
theorem dX2_in_1 : decode cX2_in 1 = .ok (.iload_n 1, 1) := by decide +kernel
theorem dX2_in_2 : decode cX2_in 2 = .ok (.if_icmp .lt 12, 3) := by decide +kernel
theorem dX2_in_5 : decode cX2_in 5 = .ok (.iload_n 0, 1) := by decide +kernel
theorem dX2_in_6 : decode cX2_in 6 = .ok (.iload_n 2, 1) := by decide +kernel
theorem dX2_in_7 : decode cX2_in 7 = .ok (.if_icmp .gt 7, 3) := by decide +kernel
theorem dX2_in_10 : decode cX2_in 10 = .ok (.iconst 1, 1) := by decide +kernel
theorem dX2_in_11 : decode cX2_in 11 = .ok (.goto 4, 3) := by decide +kernel
theorem dX2_in_14 : decode cX2_in 14 = .ok (.iconst 0, 1) := by decide +kernel
theorem dX2_in_15 : decode cX2_in 15 = .ok (.ireturn, 1) := by decide +kernel
set_option maxRecDepth 20000 in
theorem ggX2_is_X2_in : GoodIn wsX2_is wsX2_in := goodIn_r _ [5] (by decide +kernel) (by decide +kernel)
set_option maxRecDepth 20000 in
theorem gX2_is_X2_in : GoodIn wsX2_is (va_wsS RX2 52 yX2_in wsX2_in) := goodIn_app (goodIn_of _ (by decide +kernel)) ggX2_is_X2_in
theorem dX2_is_0 : decode cX2_is 0 = .ok (.iload_n 1, 1) := by decide +kernel
theorem dX2_is_1 : decode cX2_is 1 = .ok (.iconst 0, 1) := by decide +kernel
theorem dX2_is_2 : decode cX2_is 2 = .ok (.bipush 7, 2) := by decide +kernel
theorem dX2_is_4 : decode cX2_is 4 = .ok (.invokestatic 52, 3) := by decide +kernel
theorem dX2_is_7 : decode cX2_is 7 = .ok (.ifCond .eq 16, 3) := by decide +kernel
theorem dX2_is_10 : decode cX2_is 10 = .ok (.aload_n 0, 1) := by decide +kernel
theorem dX2_is_11 : decode cX2_is 11 = .ok (.getfield 13, 3) := by decide +kernel
theorem dX2_is_14 : decode cX2_is 14 = .ok (.iload_n 1, 1) := by decide +kernel
theorem dX2_is_15 : decode cX2_is 15 = .ok (.iaload, 1) := by decide +kernel
theorem dX2_is_16 : decode cX2_is 16 = .ok (.ifCond .eq 7, 3) := by decide +kernel
theorem dX2_is_19 : decode cX2_is 19 = .ok (.iconst 1, 1) := by decide +kernel
theorem dX2_is_20 : decode cX2_is 20 = .ok (.goto 4, 3) := by decide +kernel
theorem dX2_is_23 : decode cX2_is 23 = .ok (.iconst 0, 1) := by decide +kernel
theorem dX2_is_24 : decode cX2_is 24 = .ok (.ireturn, 1) := by decide +kernel
set_option maxRecDepth 20000 in
theorem ggX2_isWindow_X2_is : GoodIn wsX2_isWindow wsX2_is := goodIn_ca (goodIn_r _ [6, 7, 8, 9, 5, 10, 11, 12, 13, 14, 15, 16, 17, 18, 19, 20, 21, 22, 23] (by decide +kernel) (by decide +kernel)) (goodIn_sub (fun _ h => List.mem_cons_of_mem _ (List.mem_append_right _ h)) (by decide +kernel))
set_option maxRecDepth 20000 in
theorem gX2_isWindow_X2_is : GoodIn wsX2_isWindow (wsV RX2 56 RX2 yX2_is wsX2_is) := goodIn_app (goodIn_of _ (by decide +kernel)) ggX2_isWindow_X2_is
theorem dX2_isWindow_0 : decode cX2_isWindow 0 = .ok (.aload_n 0, 1) := by decide +kernel
theorem dX2_isWindow_1 : decode cX2_isWindow 1 = .ok (.aload_n 0, 1) := by decide +kernel
theorem dX2_isWindow_2 : decode cX2_isWindow 2 = .ok (.iload_n 1, 1) := by decide +kernel
theorem dX2_isWindow_3 : decode cX2_isWindow 3 = .ok (.invokevirtual 56, 3) := by decide +kernel
theorem dX2_isWindow_6 : decode cX2_isWindow 6 = .ok (.ifCond .eq 7, 3) := by decide +kernel
theorem dX2_isWindow_9 : decode cX2_isWindow 9 = .ok (.iconst 0, 1) := by decide +kernel
theorem dX2_isWindow_10 : decode cX2_isWindow 10 = .ok (.goto 4, 3) := by decide +kernel
theorem dX2_isWindow_13 : decode cX2_isWindow 13 = .ok (.iconst 1, 1) := by decide +kernel
theorem dX2_isWindow_14 : decode cX2_isWindow 14 = .ok (.putfield 48, 3) := by decide +kernel
theorem dX2_isWindow_17 : decode cX2_isWindow 17 = .ok (.aload_n 0, 1) := by decide +kernel
theorem dX2_isWindow_18 : decode cX2_isWindow 18 = .ok (.getfield 48, 3) := by decide +kernel
theorem dX2_isWindow_21 : decode cX2_isWindow 21 = .ok (.ifCond .ne 7, 3) := by decide +kernel
theorem dX2_isWindow_24 : decode cX2_isWindow 24 = .ok (.iconst 1, 1) := by decide +kernel
theorem dX2_isWindow_25 : decode cX2_isWindow 25 = .ok (.goto 4, 3) := by decide +kernel
theorem dX2_isWindow_28 : decode cX2_isWindow 28 = .ok (.iconst 0, 1) := by decide +kernel
theorem dX2_isWindow_29 : decode cX2_isWindow 29 = .ok (.ireturn, 1) := by decide +kernel
theorem dX2_free_0 : decode cX2_free 0 = .ok (.iconst (-1), 1) := by decide +kernel
theorem dX2_free_1 : decode cX2_free 1 = .ok (.istore_n 1, 1) := by decide +kernel
theorem dX2_free_2 : decode cX2_free 2 = .ok (.iconst 0, 1) := by decide +kernel
theorem dX2_free_3 : decode cX2_free 3 = .ok (.istore_n 2, 1) := by decide +kernel
theorem dX2_free_4 : decode cX2_free 4 = .ok (.iload_n 2, 1) := by decide +kernel
theorem dX2_free_5 : decode cX2_free 5 = .ok (.bipush 11, 2) := by decide +kernel
theorem dX2_free_7 : decode cX2_free 7 = .ok (.if_icmp .ge 97, 3) := by decide +kernel
theorem dX2_free_10 : decode cX2_free 10 = .ok (.iload_n 2, 1) := by decide +kernel
theorem dX2_free_11 : decode cX2_free 11 = .ok (.aload_n 0, 1) := by decide +kernel
theorem dX2_free_12 : decode cX2_free 12 = .ok (.getfield 39, 3) := by decide +kernel
theorem dX2_free_15 : decode cX2_free 15 = .ok (.iconst 0, 1) := by decide +kernel
theorem dX2_free_16 : decode cX2_free 16 = .ok (.iaload, 1) := by decide +kernel
theorem dX2_free_17 : decode cX2_free 17 = .ok (.if_icmp .eq 13, 3) := by decide +kernel
theorem dX2_free_20 : decode cX2_free 20 = .ok (.iload_n 2, 1) := by decide +kernel
theorem dX2_free_21 : decode cX2_free 21 = .ok (.aload_n 0, 1) := by decide +kernel
theorem dX2_free_22 : decode cX2_free 22 = .ok (.getfield 39, 3) := by decide +kernel
theorem dX2_free_25 : decode cX2_free 25 = .ok (.iconst 1, 1) := by decide +kernel
theorem dX2_free_26 : decode cX2_free 26 = .ok (.iaload, 1) := by decide +kernel
theorem dX2_free_27 : decode cX2_free 27 = .ok (.if_icmp .ne 7, 3) := by decide +kernel
theorem dX2_free_30 : decode cX2_free 30 = .ok (.iconst 1, 1) := by decide +kernel
theorem dX2_free_31 : decode cX2_free 31 = .ok (.goto 4, 3) := by decide +kernel
theorem dX2_free_34 : decode cX2_free 34 = .ok (.iconst 0, 1) := by decide +kernel
theorem dX2_free_35 : decode cX2_free 35 = .ok (.istore_n 3, 1) := by decide +kernel
theorem dX2_free_36 : decode cX2_free 36 = .ok (.iconst 0, 1) := by decide +kernel
theorem dX2_free_37 : decode cX2_free 37 = .ok (.istore 4, 2) := by decide +kernel
theorem dX2_free_39 : decode cX2_free 39 = .ok (.iload 4, 2) := by decide +kernel
theorem dX2_free_41 : decode cX2_free 41 = .ok (.bipush 8, 2) := by decide +kernel
theorem dX2_free_43 : decode cX2_free 43 = .ok (.if_icmp .ge 40, 3) := by decide +kernel
theorem dX2_free_46 : decode cX2_free 46 = .ok (.iload_n 3, 1) := by decide +kernel
theorem dX2_free_47 : decode cX2_free 47 = .ok (.ifCond .ne 24, 3) := by decide +kernel
theorem dX2_free_50 : decode cX2_free 50 = .ok (.aload_n 0, 1) := by decide +kernel
theorem dX2_free_51 : decode cX2_free 51 = .ok (.getfield 13, 3) := by decide +kernel
theorem dX2_free_54 : decode cX2_free 54 = .ok (.iload 4, 2) := by decide +kernel
theorem dX2_free_56 : decode cX2_free 56 = .ok (.iaload, 1) := by decide +kernel
theorem dX2_free_57 : decode cX2_free 57 = .ok (.ifCond .eq 18, 3) := by decide +kernel
theorem dX2_free_60 : decode cX2_free 60 = .ok (.aload_n 0, 1) := by decide +kernel
theorem dX2_free_61 : decode cX2_free 61 = .ok (.getfield 17, 3) := by decide +kernel
theorem dX2_free_64 : decode cX2_free 64 = .ok (.iload 4, 2) := by decide +kernel
theorem dX2_free_66 : decode cX2_free 66 = .ok (.iaload, 1) := by decide +kernel
theorem dX2_free_67 : decode cX2_free 67 = .ok (.iload_n 2, 1) := by decide +kernel
theorem dX2_free_68 : decode cX2_free 68 = .ok (.if_icmp .ne 7, 3) := by decide +kernel
theorem dX2_free_71 : decode cX2_free 71 = .ok (.iconst 1, 1) := by decide +kernel
theorem dX2_free_72 : decode cX2_free 72 = .ok (.goto 4, 3) := by decide +kernel
theorem dX2_free_75 : decode cX2_free 75 = .ok (.iconst 0, 1) := by decide +kernel
theorem dX2_free_76 : decode cX2_free 76 = .ok (.istore_n 3, 1) := by decide +kernel
theorem dX2_free_77 : decode cX2_free 77 = .ok (.iinc 4 1, 3) := by decide +kernel
theorem dX2_free_80 : decode cX2_free 80 = .ok (.goto (-41), 3) := by decide +kernel
theorem dX2_free_83 : decode cX2_free 83 = .ok (.iload_n 1, 1) := by decide +kernel
theorem dX2_free_84 : decode cX2_free 84 = .ok (.iconst (-1), 1) := by decide +kernel
theorem dX2_free_85 : decode cX2_free 85 = .ok (.if_icmp .ne 11, 3) := by decide +kernel
theorem dX2_free_88 : decode cX2_free 88 = .ok (.iload_n 3, 1) := by decide +kernel
theorem dX2_free_89 : decode cX2_free 89 = .ok (.ifCond .ne 7, 3) := by decide +kernel
theorem dX2_free_92 : decode cX2_free 92 = .ok (.iload_n 2, 1) := by decide +kernel
theorem dX2_free_93 : decode cX2_free 93 = .ok (.goto 4, 3) := by decide +kernel
theorem dX2_free_96 : decode cX2_free 96 = .ok (.iload_n 1, 1) := by decide +kernel
theorem dX2_free_97 : decode cX2_free 97 = .ok (.istore_n 1, 1) := by decide +kernel
theorem dX2_free_98 : decode cX2_free 98 = .ok (.iinc 2 1, 3) := by decide +kernel
theorem dX2_free_101 : decode cX2_free 101 = .ok (.goto (-97), 3) := by decide +kernel
theorem dX2_free_104 : decode cX2_free 104 = .ok (.iconst 0, 1) := by decide +kernel
theorem dX2_free_105 : decode cX2_free 105 = .ok (.istore_n 2, 1) := by decide +kernel
theorem dX2_free_106 : decode cX2_free 106 = .ok (.iload_n 2, 1) := by decide +kernel
theorem dX2_free_107 : decode cX2_free 107 = .ok (.bipush 64, 2) := by decide +kernel
theorem dX2_free_109 : decode cX2_free 109 = .ok (.if_icmp .ge 21, 3) := by decide +kernel
theorem dX2_free_112 : decode cX2_free 112 = .ok (.aload_n 0, 1) := by decide +kernel
theorem dX2_free_113 : decode cX2_free 113 = .ok (.getfield 7, 3) := by decide +kernel
theorem dX2_free_116 : decode cX2_free 116 = .ok (.bipush 64, 2) := by decide +kernel
theorem dX2_free_118 : decode cX2_free 118 = .ok (.iload_n 1, 1) := by decide +kernel
theorem dX2_free_119 : decode cX2_free 119 = .ok (.imul, 1) := by decide +kernel
theorem dX2_free_120 : decode cX2_free 120 = .ok (.iload_n 2, 1) := by decide +kernel
theorem dX2_free_121 : decode cX2_free 121 = .ok (.iadd, 1) := by decide +kernel
theorem dX2_free_122 : decode cX2_free 122 = .ok (.lconst 0, 1) := by decide +kernel
theorem dX2_free_123 : decode cX2_free 123 = .ok (.lastore, 1) := by decide +kernel
theorem dX2_free_124 : decode cX2_free 124 = .ok (.iinc 2 1, 3) := by decide +kernel
theorem dX2_free_127 : decode cX2_free 127 = .ok (.goto (-21), 3) := by decide +kernel
theorem dX2_free_130 : decode cX2_free 130 = .ok (.iload_n 1, 1) := by decide +kernel
theorem dX2_free_131 : decode cX2_free 131 = .ok (.ireturn, 1) := by decide +kernel
set_option maxRecDepth 20000 in
theorem ggX2_make_X2_in : GoodIn wsX2_make wsX2_in := goodIn_r _ [7] (by decide +kernel) (by decide +kernel)
set_option maxRecDepth 20000 in
theorem gX2_make_X2_in : GoodIn wsX2_make (va_wsS RX2 52 yX2_in wsX2_in) := goodIn_app (goodIn_of _ (by decide +kernel)) ggX2_make_X2_in
set_option maxRecDepth 20000 in
theorem ggX2_make_X2_free : GoodIn wsX2_make wsX2_free := goodIn_ca (goodIn_r _ [11, 3, 12, 13, 14, 15, 16, 17, 18, 19, 20, 21, 22, 23, 24, 25, 26, 27] (by decide +kernel) (by decide +kernel)) (goodIn_sub (fun _ h => List.mem_cons_of_mem _ (List.mem_append_right _ h)) (by decide +kernel))
set_option maxRecDepth 20000 in
theorem gX2_make_X2_free : GoodIn wsX2_make (wsV RX2 60 RX2 yX2_free wsX2_free) := goodIn_app (goodIn_of _ (by decide +kernel)) ggX2_make_X2_free
theorem dX2_make_0 : decode cX2_make 0 = .ok (.aload_n 0, 1) := by decide +kernel
theorem dX2_make_1 : decode cX2_make 1 = .ok (.iload_n 1, 1) := by decide +kernel
theorem dX2_make_2 : decode cX2_make 2 = .ok (.iconst 0, 1) := by decide +kernel
theorem dX2_make_3 : decode cX2_make 3 = .ok (.iconst 1, 1) := by decide +kernel
theorem dX2_make_4 : decode cX2_make 4 = .ok (.invokestatic 52, 3) := by decide +kernel
theorem dX2_make_7 : decode cX2_make 7 = .ok (.ifCond .ne 7, 3) := by decide +kernel
theorem dX2_make_10 : decode cX2_make 10 = .ok (.iconst 1, 1) := by decide +kernel
theorem dX2_make_11 : decode cX2_make 11 = .ok (.goto 18, 3) := by decide +kernel
theorem dX2_make_14 : decode cX2_make 14 = .ok (.iload_n 2, 1) := by decide +kernel
theorem dX2_make_15 : decode cX2_make 15 = .ok (.iconst 0, 1) := by decide +kernel
theorem dX2_make_16 : decode cX2_make 16 = .ok (.bipush 64, 2) := by decide +kernel
theorem dX2_make_18 : decode cX2_make 18 = .ok (.invokestatic 52, 3) := by decide +kernel
theorem dX2_make_21 : decode cX2_make 21 = .ok (.ifCond .ne 7, 3) := by decide +kernel
theorem dX2_make_24 : decode cX2_make 24 = .ok (.iconst 2, 1) := by decide +kernel
theorem dX2_make_25 : decode cX2_make 25 = .ok (.goto 4, 3) := by decide +kernel
theorem dX2_make_28 : decode cX2_make 28 = .ok (.iconst 0, 1) := by decide +kernel
theorem dX2_make_29 : decode cX2_make 29 = .ok (.putfield 48, 3) := by decide +kernel
theorem dX2_make_32 : decode cX2_make 32 = .ok (.aload_n 0, 1) := by decide +kernel
theorem dX2_make_33 : decode cX2_make 33 = .ok (.getfield 48, 3) := by decide +kernel
theorem dX2_make_36 : decode cX2_make 36 = .ok (.ifCond .le 5, 3) := by decide +kernel
theorem dX2_make_39 : decode cX2_make 39 = .ok (.iconst 0, 1) := by decide +kernel
theorem dX2_make_40 : decode cX2_make 40 = .ok (.ireturn, 1) := by decide +kernel
theorem dX2_make_41 : decode cX2_make 41 = .ok (.aload_n 0, 1) := by decide +kernel
theorem dX2_make_42 : decode cX2_make 42 = .ok (.getfield 42, 3) := by decide +kernel
theorem dX2_make_45 : decode cX2_make 45 = .ok (.iload_n 1, 1) := by decide +kernel
theorem dX2_make_46 : decode cX2_make 46 = .ok (.iaload, 1) := by decide +kernel
theorem dX2_make_47 : decode cX2_make 47 = .ok (.istore_n 3, 1) := by decide +kernel
theorem dX2_make_48 : decode cX2_make 48 = .ok (.aload_n 0, 1) := by decide +kernel
theorem dX2_make_49 : decode cX2_make 49 = .ok (.getfield 39, 3) := by decide +kernel
theorem dX2_make_52 : decode cX2_make 52 = .ok (.iload_n 1, 1) := by decide +kernel
theorem dX2_make_53 : decode cX2_make 53 = .ok (.aload_n 0, 1) := by decide +kernel
theorem dX2_make_54 : decode cX2_make 54 = .ok (.invokevirtual 60, 3) := by decide +kernel
theorem dX2_make_57 : decode cX2_make 57 = .ok (.iastore, 1) := by decide +kernel
theorem dX2_make_58 : decode cX2_make 58 = .ok (.aload_n 0, 1) := by decide +kernel
theorem dX2_make_59 : decode cX2_make 59 = .ok (.getfield 42, 3) := by decide +kernel
theorem dX2_make_62 : decode cX2_make 62 = .ok (.iload_n 1, 1) := by decide +kernel
theorem dX2_make_63 : decode cX2_make 63 = .ok (.iload_n 2, 1) := by decide +kernel
theorem dX2_make_64 : decode cX2_make 64 = .ok (.iastore, 1) := by decide +kernel
theorem dX2_make_65 : decode cX2_make 65 = .ok (.iload_n 3, 1) := by decide +kernel
theorem dX2_make_66 : decode cX2_make 66 = .ok (.ireturn, 1) := by decide +kernel
set_option maxRecDepth 20000 in
theorem ggX2_isPlace_X2_in : GoodIn wsX2_isPlace wsX2_in := goodIn_r _ [6] (by decide +kernel) (by decide +kernel)
set_option maxRecDepth 20000 in
theorem gX2_isPlace_X2_in : GoodIn wsX2_isPlace (va_wsS RX2 52 yX2_in wsX2_in) := goodIn_app (goodIn_of _ (by decide +kernel)) ggX2_isPlace_X2_in
theorem dX2_isPlace_0 : decode cX2_isPlace 0 = .ok (.aload_n 0, 1) := by decide +kernel
theorem dX2_isPlace_1 : decode cX2_isPlace 1 = .ok (.iload_n 1, 1) := by decide +kernel
theorem dX2_isPlace_2 : decode cX2_isPlace 2 = .ok (.iconst 0, 1) := by decide +kernel
theorem dX2_isPlace_3 : decode cX2_isPlace 3 = .ok (.iconst 1, 1) := by decide +kernel
theorem dX2_isPlace_4 : decode cX2_isPlace 4 = .ok (.invokestatic 52, 3) := by decide +kernel
theorem dX2_isPlace_7 : decode cX2_isPlace 7 = .ok (.ifCond .eq 23, 3) := by decide +kernel
theorem dX2_isPlace_10 : decode cX2_isPlace 10 = .ok (.iload_n 2, 1) := by decide +kernel
theorem dX2_isPlace_11 : decode cX2_isPlace 11 = .ok (.iconst 0, 1) := by decide +kernel
theorem dX2_isPlace_12 : decode cX2_isPlace 12 = .ok (.aload_n 0, 1) := by decide +kernel
theorem dX2_isPlace_13 : decode cX2_isPlace 13 = .ok (.getfield 42, 3) := by decide +kernel
theorem dX2_isPlace_16 : decode cX2_isPlace 16 = .ok (.iload_n 1, 1) := by decide +kernel
theorem dX2_isPlace_17 : decode cX2_isPlace 17 = .ok (.iaload, 1) := by decide +kernel
theorem dX2_isPlace_18 : decode cX2_isPlace 18 = .ok (.iconst 1, 1) := by decide +kernel
theorem dX2_isPlace_19 : decode cX2_isPlace 19 = .ok (.isub, 1) := by decide +kernel
theorem dX2_isPlace_20 : decode cX2_isPlace 20 = .ok (.invokestatic 52, 3) := by decide +kernel
theorem dX2_isPlace_23 : decode cX2_isPlace 23 = .ok (.ifCond .eq 7, 3) := by decide +kernel
theorem dX2_isPlace_26 : decode cX2_isPlace 26 = .ok (.iconst 0, 1) := by decide +kernel
theorem dX2_isPlace_27 : decode cX2_isPlace 27 = .ok (.goto 4, 3) := by decide +kernel
theorem dX2_isPlace_30 : decode cX2_isPlace 30 = .ok (.iconst 1, 1) := by decide +kernel
theorem dX2_isPlace_31 : decode cX2_isPlace 31 = .ok (.putfield 48, 3) := by decide +kernel
theorem dX2_isPlace_34 : decode cX2_isPlace 34 = .ok (.aload_n 0, 1) := by decide +kernel
theorem dX2_isPlace_35 : decode cX2_isPlace 35 = .ok (.getfield 48, 3) := by decide +kernel
theorem dX2_isPlace_38 : decode cX2_isPlace 38 = .ok (.ifCond .ne 7, 3) := by decide +kernel
theorem dX2_isPlace_41 : decode cX2_isPlace 41 = .ok (.iconst 1, 1) := by decide +kernel
theorem dX2_isPlace_42 : decode cX2_isPlace 42 = .ok (.goto 4, 3) := by decide +kernel
theorem dX2_isPlace_45 : decode cX2_isPlace 45 = .ok (.iconst 0, 1) := by decide +kernel
theorem dX2_isPlace_46 : decode cX2_isPlace 46 = .ok (.ireturn, 1) := by decide +kernel
set_option maxRecDepth 20000 in
theorem ggX2_rowAt_X2_isPlace : GoodIn wsX2_rowAt wsX2_isPlace := goodIn_ca (goodIn_r _ [7, 8, 9, 10, 11, 6, 12, 13, 14, 15, 16, 17, 18, 19, 20, 21, 22, 23, 24, 25] (by decide +kernel) (by decide +kernel)) (goodIn_sub (fun _ h => List.mem_cons_of_mem _ (List.mem_append_right _ h)) (by decide +kernel))
set_option maxRecDepth 20000 in
theorem gX2_rowAt_X2_isPlace : GoodIn wsX2_rowAt (wsV RX2 64 RX2 yX2_isPlace wsX2_isPlace) := goodIn_app (goodIn_of _ (by decide +kernel)) ggX2_rowAt_X2_isPlace
theorem dX2_rowAt_0 : decode cX2_rowAt 0 = .ok (.aload_n 0, 1) := by decide +kernel
theorem dX2_rowAt_1 : decode cX2_rowAt 1 = .ok (.iload_n 1, 1) := by decide +kernel
theorem dX2_rowAt_2 : decode cX2_rowAt 2 = .ok (.iload_n 2, 1) := by decide +kernel
theorem dX2_rowAt_3 : decode cX2_rowAt 3 = .ok (.invokevirtual 64, 3) := by decide +kernel
theorem dX2_rowAt_6 : decode cX2_rowAt 6 = .ok (.ifCond .eq 23, 3) := by decide +kernel
theorem dX2_rowAt_9 : decode cX2_rowAt 9 = .ok (.aload_n 0, 1) := by decide +kernel
theorem dX2_rowAt_10 : decode cX2_rowAt 10 = .ok (.getfield 7, 3) := by decide +kernel
theorem dX2_rowAt_13 : decode cX2_rowAt 13 = .ok (.bipush 64, 2) := by decide +kernel
theorem dX2_rowAt_15 : decode cX2_rowAt 15 = .ok (.aload_n 0, 1) := by decide +kernel
theorem dX2_rowAt_16 : decode cX2_rowAt 16 = .ok (.getfield 39, 3) := by decide +kernel
theorem dX2_rowAt_19 : decode cX2_rowAt 19 = .ok (.iload_n 1, 1) := by decide +kernel
theorem dX2_rowAt_20 : decode cX2_rowAt 20 = .ok (.iaload, 1) := by decide +kernel
theorem dX2_rowAt_21 : decode cX2_rowAt 21 = .ok (.imul, 1) := by decide +kernel
theorem dX2_rowAt_22 : decode cX2_rowAt 22 = .ok (.iload_n 2, 1) := by decide +kernel
theorem dX2_rowAt_23 : decode cX2_rowAt 23 = .ok (.iadd, 1) := by decide +kernel
theorem dX2_rowAt_24 : decode cX2_rowAt 24 = .ok (.laload, 1) := by decide +kernel
theorem dX2_rowAt_25 : decode cX2_rowAt 25 = .ok (.l2i, 1) := by decide +kernel
theorem dX2_rowAt_26 : decode cX2_rowAt 26 = .ok (.goto 4, 3) := by decide +kernel
theorem dX2_rowAt_29 : decode cX2_rowAt 29 = .ok (.iconst 0, 1) := by decide +kernel
theorem dX2_rowAt_30 : decode cX2_rowAt 30 = .ok (.ireturn, 1) := by decide +kernel
set_option maxRecDepth 20000 in
theorem ggX2_rowPut_X2_isPlace : GoodIn wsX2_rowPut wsX2_isPlace := goodIn_ca (goodIn_r _ [7, 8, 9, 10, 11, 6, 12, 13, 14, 15, 16, 17, 18, 19, 20, 21, 22, 23, 24, 25] (by decide +kernel) (by decide +kernel)) (goodIn_sub (fun _ h => List.mem_cons_of_mem _ (List.mem_append_right _ h)) (by decide +kernel))
set_option maxRecDepth 20000 in
theorem gX2_rowPut_X2_isPlace : GoodIn wsX2_rowPut (wsV RX2 64 RX2 yX2_isPlace wsX2_isPlace) := goodIn_app (goodIn_of _ (by decide +kernel)) ggX2_rowPut_X2_isPlace
theorem dX2_rowPut_0 : decode cX2_rowPut 0 = .ok (.aload_n 0, 1) := by decide +kernel
theorem dX2_rowPut_1 : decode cX2_rowPut 1 = .ok (.iload_n 1, 1) := by decide +kernel
theorem dX2_rowPut_2 : decode cX2_rowPut 2 = .ok (.iload_n 2, 1) := by decide +kernel
theorem dX2_rowPut_3 : decode cX2_rowPut 3 = .ok (.invokevirtual 64, 3) := by decide +kernel
theorem dX2_rowPut_6 : decode cX2_rowPut 6 = .ok (.ifCond .ne 5, 3) := by decide +kernel
theorem dX2_rowPut_9 : decode cX2_rowPut 9 = .ok (.iconst 0, 1) := by decide +kernel
theorem dX2_rowPut_10 : decode cX2_rowPut 10 = .ok (.ireturn, 1) := by decide +kernel
theorem dX2_rowPut_11 : decode cX2_rowPut 11 = .ok (.aload_n 0, 1) := by decide +kernel
theorem dX2_rowPut_12 : decode cX2_rowPut 12 = .ok (.getfield 7, 3) := by decide +kernel
theorem dX2_rowPut_15 : decode cX2_rowPut 15 = .ok (.bipush 64, 2) := by decide +kernel
theorem dX2_rowPut_17 : decode cX2_rowPut 17 = .ok (.aload_n 0, 1) := by decide +kernel
theorem dX2_rowPut_18 : decode cX2_rowPut 18 = .ok (.getfield 39, 3) := by decide +kernel
theorem dX2_rowPut_21 : decode cX2_rowPut 21 = .ok (.iload_n 1, 1) := by decide +kernel
theorem dX2_rowPut_22 : decode cX2_rowPut 22 = .ok (.iaload, 1) := by decide +kernel
theorem dX2_rowPut_23 : decode cX2_rowPut 23 = .ok (.imul, 1) := by decide +kernel
theorem dX2_rowPut_24 : decode cX2_rowPut 24 = .ok (.iload_n 2, 1) := by decide +kernel
theorem dX2_rowPut_25 : decode cX2_rowPut 25 = .ok (.iadd, 1) := by decide +kernel
theorem dX2_rowPut_26 : decode cX2_rowPut 26 = .ok (.laload, 1) := by decide +kernel
theorem dX2_rowPut_27 : decode cX2_rowPut 27 = .ok (.l2i, 1) := by decide +kernel
theorem dX2_rowPut_28 : decode cX2_rowPut 28 = .ok (.istore 4, 2) := by decide +kernel
theorem dX2_rowPut_30 : decode cX2_rowPut 30 = .ok (.aload_n 0, 1) := by decide +kernel
theorem dX2_rowPut_31 : decode cX2_rowPut 31 = .ok (.getfield 7, 3) := by decide +kernel
theorem dX2_rowPut_34 : decode cX2_rowPut 34 = .ok (.bipush 64, 2) := by decide +kernel
theorem dX2_rowPut_36 : decode cX2_rowPut 36 = .ok (.aload_n 0, 1) := by decide +kernel
theorem dX2_rowPut_37 : decode cX2_rowPut 37 = .ok (.getfield 39, 3) := by decide +kernel
theorem dX2_rowPut_40 : decode cX2_rowPut 40 = .ok (.iload_n 1, 1) := by decide +kernel
theorem dX2_rowPut_41 : decode cX2_rowPut 41 = .ok (.iaload, 1) := by decide +kernel
theorem dX2_rowPut_42 : decode cX2_rowPut 42 = .ok (.imul, 1) := by decide +kernel
theorem dX2_rowPut_43 : decode cX2_rowPut 43 = .ok (.iload_n 2, 1) := by decide +kernel
theorem dX2_rowPut_44 : decode cX2_rowPut 44 = .ok (.iadd, 1) := by decide +kernel
theorem dX2_rowPut_45 : decode cX2_rowPut 45 = .ok (.iload_n 3, 1) := by decide +kernel
theorem dX2_rowPut_46 : decode cX2_rowPut 46 = .ok (.i2l, 1) := by decide +kernel
theorem dX2_rowPut_47 : decode cX2_rowPut 47 = .ok (.lastore, 1) := by decide +kernel
theorem dX2_rowPut_48 : decode cX2_rowPut 48 = .ok (.iload 4, 2) := by decide +kernel
theorem dX2_rowPut_50 : decode cX2_rowPut 50 = .ok (.ireturn, 1) := by decide +kernel
theorem dX2_becomes_0 : decode cX2_becomes 0 = .ok (.aload_n 0, 1) := by decide +kernel
theorem dX2_becomes_1 : decode cX2_becomes 1 = .ok (.getfield 13, 3) := by decide +kernel
theorem dX2_becomes_4 : decode cX2_becomes 4 = .ok (.iload_n 1, 1) := by decide +kernel
theorem dX2_becomes_5 : decode cX2_becomes 5 = .ok (.iload_n 2, 1) := by decide +kernel
theorem dX2_becomes_6 : decode cX2_becomes 6 = .ok (.iastore, 1) := by decide +kernel
theorem dX2_becomes_7 : decode cX2_becomes 7 = .ok (.aload_n 0, 1) := by decide +kernel
theorem dX2_becomes_8 : decode cX2_becomes 8 = .ok (.getfield 17, 3) := by decide +kernel
theorem dX2_becomes_11 : decode cX2_becomes 11 = .ok (.iload_n 1, 1) := by decide +kernel
theorem dX2_becomes_12 : decode cX2_becomes 12 = .ok (.iload_n 3, 1) := by decide +kernel
theorem dX2_becomes_13 : decode cX2_becomes 13 = .ok (.iastore, 1) := by decide +kernel
theorem dX2_becomes_14 : decode cX2_becomes 14 = .ok (.aload_n 0, 1) := by decide +kernel
theorem dX2_becomes_15 : decode cX2_becomes 15 = .ok (.getfield 20, 3) := by decide +kernel
theorem dX2_becomes_18 : decode cX2_becomes 18 = .ok (.iload_n 1, 1) := by decide +kernel
theorem dX2_becomes_19 : decode cX2_becomes 19 = .ok (.iload 4, 2) := by decide +kernel
theorem dX2_becomes_21 : decode cX2_becomes 21 = .ok (.iastore, 1) := by decide +kernel
theorem dX2_becomes_22 : decode cX2_becomes 22 = .ok (.aload_n 0, 1) := by decide +kernel
theorem dX2_becomes_23 : decode cX2_becomes 23 = .ok (.getfield 23, 3) := by decide +kernel
theorem dX2_becomes_26 : decode cX2_becomes 26 = .ok (.iload_n 1, 1) := by decide +kernel
theorem dX2_becomes_27 : decode cX2_becomes 27 = .ok (.iload 5, 2) := by decide +kernel
theorem dX2_becomes_29 : decode cX2_becomes 29 = .ok (.iastore, 1) := by decide +kernel
theorem dX2_becomes_30 : decode cX2_becomes 30 = .ok (.aload_n 0, 1) := by decide +kernel
theorem dX2_becomes_31 : decode cX2_becomes 31 = .ok (.getfield 26, 3) := by decide +kernel
theorem dX2_becomes_34 : decode cX2_becomes 34 = .ok (.iload_n 1, 1) := by decide +kernel
theorem dX2_becomes_35 : decode cX2_becomes 35 = .ok (.iconst 0, 1) := by decide +kernel
theorem dX2_becomes_36 : decode cX2_becomes 36 = .ok (.iastore, 1) := by decide +kernel
theorem dX2_becomes_37 : decode cX2_becomes 37 = .ok (.aload_n 0, 1) := by decide +kernel
theorem dX2_becomes_38 : decode cX2_becomes 38 = .ok (.getfield 29, 3) := by decide +kernel
theorem dX2_becomes_41 : decode cX2_becomes 41 = .ok (.iload_n 1, 1) := by decide +kernel
theorem dX2_becomes_42 : decode cX2_becomes 42 = .ok (.iload 5, 2) := by decide +kernel
theorem dX2_becomes_44 : decode cX2_becomes 44 = .ok (.iastore, 1) := by decide +kernel
theorem dX2_becomes_45 : decode cX2_becomes 45 = .ok (.aload_n 0, 1) := by decide +kernel
theorem dX2_becomes_46 : decode cX2_becomes 46 = .ok (.getfield 32, 3) := by decide +kernel
theorem dX2_becomes_49 : decode cX2_becomes 49 = .ok (.iload_n 1, 1) := by decide +kernel
theorem dX2_becomes_50 : decode cX2_becomes 50 = .ok (.iconst (-1), 1) := by decide +kernel
theorem dX2_becomes_51 : decode cX2_becomes 51 = .ok (.iastore, 1) := by decide +kernel
theorem dX2_becomes_52 : decode cX2_becomes 52 = .ok (.aload_n 0, 1) := by decide +kernel
theorem dX2_becomes_53 : decode cX2_becomes 53 = .ok (.getfield 35, 3) := by decide +kernel
theorem dX2_becomes_56 : decode cX2_becomes 56 = .ok (.iload_n 1, 1) := by decide +kernel
theorem dX2_becomes_57 : decode cX2_becomes 57 = .ok (.iload 6, 2) := by decide +kernel
theorem dX2_becomes_59 : decode cX2_becomes 59 = .ok (.bastore, 1) := by decide +kernel
theorem dX2_becomes_60 : decode cX2_becomes 60 = .ok (.return_, 1) := by decide +kernel
set_option maxRecDepth 20000 in
theorem ggX2_allocate_X2_in : GoodIn wsX2_allocate wsX2_in := goodIn_r _ [6] (by decide +kernel) (by decide +kernel)
set_option maxRecDepth 20000 in
theorem gX2_allocate_X2_in : GoodIn wsX2_allocate (va_wsS RX2 52 yX2_in wsX2_in) := goodIn_app (goodIn_of _ (by decide +kernel)) ggX2_allocate_X2_in
set_option maxRecDepth 20000 in
theorem ggX2_allocate_X2_free : GoodIn wsX2_allocate wsX2_free := goodIn_ca (goodIn_r _ [10, 11, 2, 12, 13, 24, 25, 26, 27, 28, 29, 30, 31, 32, 33, 34, 35, 36] (by decide +kernel) (by decide +kernel)) (goodIn_sub (fun _ h => List.mem_cons_of_mem _ (List.mem_append_right _ h)) (by decide +kernel))
set_option maxRecDepth 20000 in
theorem gX2_allocate_X2_free : GoodIn wsX2_allocate (wsV RX2 60 RX2 yX2_free wsX2_free) := goodIn_app (goodIn_of _ (by decide +kernel)) ggX2_allocate_X2_free
set_option maxRecDepth 20000 in
theorem ggX2_allocate_X2_becomes : GoodIn wsX2_allocate wsX2_becomes := goodIn_ca (goodIn_r _ [17, 2, 12, 18, 19, 20, 21, 22, 23, 24, 25, 26, 27, 28, 29, 30, 31, 32, 33, 34, 35, 36] (by decide +kernel) (by decide +kernel)) (goodIn_sub (fun _ h => List.mem_cons_of_mem _ (List.mem_append_right _ h)) (by decide +kernel))
set_option maxRecDepth 20000 in
theorem gX2_allocate_X2_becomes : GoodIn wsX2_allocate (wsV RX2 68 RX2 yX2_becomes wsX2_becomes) := goodIn_app (goodIn_of _ (by decide +kernel)) ggX2_allocate_X2_becomes
theorem dX2_allocate_0 : decode cX2_allocate 0 = .ok (.iload_n 2, 1) := by decide +kernel
theorem dX2_allocate_1 : decode cX2_allocate 1 = .ok (.bipush 105, 2) := by decide +kernel
theorem dX2_allocate_3 : decode cX2_allocate 3 = .ok (.if_icmp .eq 21, 3) := by decide +kernel
theorem dX2_allocate_6 : decode cX2_allocate 6 = .ok (.iload_n 2, 1) := by decide +kernel
theorem dX2_allocate_7 : decode cX2_allocate 7 = .ok (.bipush 108, 2) := by decide +kernel
theorem dX2_allocate_9 : decode cX2_allocate 9 = .ok (.if_icmp .eq 15, 3) := by decide +kernel
theorem dX2_allocate_12 : decode cX2_allocate 12 = .ok (.iload_n 2, 1) := by decide +kernel
theorem dX2_allocate_13 : decode cX2_allocate 13 = .ok (.bipush 99, 2) := by decide +kernel
theorem dX2_allocate_15 : decode cX2_allocate 15 = .ok (.if_icmp .eq 9, 3) := by decide +kernel
theorem dX2_allocate_18 : decode cX2_allocate 18 = .ok (.iload_n 2, 1) := by decide +kernel
theorem dX2_allocate_19 : decode cX2_allocate 19 = .ok (.bipush 115, 2) := by decide +kernel
theorem dX2_allocate_21 : decode cX2_allocate 21 = .ok (.if_icmp .ne 7, 3) := by decide +kernel
theorem dX2_allocate_24 : decode cX2_allocate 24 = .ok (.iconst 1, 1) := by decide +kernel
theorem dX2_allocate_25 : decode cX2_allocate 25 = .ok (.goto 4, 3) := by decide +kernel
theorem dX2_allocate_28 : decode cX2_allocate 28 = .ok (.iconst 0, 1) := by decide +kernel
theorem dX2_allocate_29 : decode cX2_allocate 29 = .ok (.istore 4, 2) := by decide +kernel
theorem dX2_allocate_31 : decode cX2_allocate 31 = .ok (.aload_n 0, 1) := by decide +kernel
theorem dX2_allocate_32 : decode cX2_allocate 32 = .ok (.iload_n 1, 1) := by decide +kernel
theorem dX2_allocate_33 : decode cX2_allocate 33 = .ok (.iconst 0, 1) := by decide +kernel
theorem dX2_allocate_34 : decode cX2_allocate 34 = .ok (.bipush 7, 2) := by decide +kernel
theorem dX2_allocate_36 : decode cX2_allocate 36 = .ok (.invokestatic 52, 3) := by decide +kernel
theorem dX2_allocate_39 : decode cX2_allocate 39 = .ok (.ifCond .ne 7, 3) := by decide +kernel
theorem dX2_allocate_42 : decode cX2_allocate 42 = .ok (.iconst 1, 1) := by decide +kernel
theorem dX2_allocate_43 : decode cX2_allocate 43 = .ok (.goto 23, 3) := by decide +kernel
theorem dX2_allocate_46 : decode cX2_allocate 46 = .ok (.iload 4, 2) := by decide +kernel
theorem dX2_allocate_48 : decode cX2_allocate 48 = .ok (.ifCond .eq 13, 3) := by decide +kernel
theorem dX2_allocate_51 : decode cX2_allocate 51 = .ok (.iload_n 3, 1) := by decide +kernel
theorem dX2_allocate_52 : decode cX2_allocate 52 = .ok (.iconst 0, 1) := by decide +kernel
theorem dX2_allocate_53 : decode cX2_allocate 53 = .ok (.bipush 64, 2) := by decide +kernel
theorem dX2_allocate_55 : decode cX2_allocate 55 = .ok (.invokestatic 52, 3) := by decide +kernel
theorem dX2_allocate_58 : decode cX2_allocate 58 = .ok (.ifCond .ne 7, 3) := by decide +kernel
theorem dX2_allocate_61 : decode cX2_allocate 61 = .ok (.iconst 2, 1) := by decide +kernel
theorem dX2_allocate_62 : decode cX2_allocate 62 = .ok (.goto 4, 3) := by decide +kernel
theorem dX2_allocate_65 : decode cX2_allocate 65 = .ok (.iconst 0, 1) := by decide +kernel
theorem dX2_allocate_66 : decode cX2_allocate 66 = .ok (.putfield 48, 3) := by decide +kernel
theorem dX2_allocate_69 : decode cX2_allocate 69 = .ok (.aload_n 0, 1) := by decide +kernel
theorem dX2_allocate_70 : decode cX2_allocate 70 = .ok (.getfield 48, 3) := by decide +kernel
theorem dX2_allocate_73 : decode cX2_allocate 73 = .ok (.ifCond .le 5, 3) := by decide +kernel
theorem dX2_allocate_76 : decode cX2_allocate 76 = .ok (.iconst 0, 1) := by decide +kernel
theorem dX2_allocate_77 : decode cX2_allocate 77 = .ok (.ireturn, 1) := by decide +kernel
theorem dX2_allocate_78 : decode cX2_allocate 78 = .ok (.aload_n 0, 1) := by decide +kernel
theorem dX2_allocate_79 : decode cX2_allocate 79 = .ok (.getfield 13, 3) := by decide +kernel
theorem dX2_allocate_82 : decode cX2_allocate 82 = .ok (.iload_n 1, 1) := by decide +kernel
theorem dX2_allocate_83 : decode cX2_allocate 83 = .ok (.iaload, 1) := by decide +kernel
theorem dX2_allocate_84 : decode cX2_allocate 84 = .ok (.ifCond .eq 7, 3) := by decide +kernel
theorem dX2_allocate_87 : decode cX2_allocate 87 = .ok (.iconst 1, 1) := by decide +kernel
theorem dX2_allocate_88 : decode cX2_allocate 88 = .ok (.goto 4, 3) := by decide +kernel
theorem dX2_allocate_91 : decode cX2_allocate 91 = .ok (.iconst 0, 1) := by decide +kernel
theorem dX2_allocate_92 : decode cX2_allocate 92 = .ok (.istore 5, 2) := by decide +kernel
theorem dX2_allocate_94 : decode cX2_allocate 94 = .ok (.aload_n 0, 1) := by decide +kernel
theorem dX2_allocate_95 : decode cX2_allocate 95 = .ok (.getfield 13, 3) := by decide +kernel
theorem dX2_allocate_98 : decode cX2_allocate 98 = .ok (.iload_n 1, 1) := by decide +kernel
theorem dX2_allocate_99 : decode cX2_allocate 99 = .ok (.iconst 0, 1) := by decide +kernel
theorem dX2_allocate_100 : decode cX2_allocate 100 = .ok (.iastore, 1) := by decide +kernel
theorem dX2_allocate_101 : decode cX2_allocate 101 = .ok (.aload_n 0, 1) := by decide +kernel
theorem dX2_allocate_102 : decode cX2_allocate 102 = .ok (.iload_n 1, 1) := by decide +kernel
theorem dX2_allocate_103 : decode cX2_allocate 103 = .ok (.iload_n 2, 1) := by decide +kernel
theorem dX2_allocate_104 : decode cX2_allocate 104 = .ok (.aload_n 0, 1) := by decide +kernel
theorem dX2_allocate_105 : decode cX2_allocate 105 = .ok (.invokevirtual 60, 3) := by decide +kernel
theorem dX2_allocate_108 : decode cX2_allocate 108 = .ok (.iconst 0, 1) := by decide +kernel
theorem dX2_allocate_109 : decode cX2_allocate 109 = .ok (.iload_n 3, 1) := by decide +kernel
theorem dX2_allocate_110 : decode cX2_allocate 110 = .ok (.iconst 0, 1) := by decide +kernel
theorem dX2_allocate_111 : decode cX2_allocate 111 = .ok (.invokevirtual 68, 3) := by decide +kernel
theorem dX2_allocate_114 : decode cX2_allocate 114 = .ok (.iload 5, 2) := by decide +kernel
theorem dX2_allocate_116 : decode cX2_allocate 116 = .ok (.ireturn, 1) := by decide +kernel
set_option maxRecDepth 20000 in
theorem ggX2_wrap_X2_in : GoodIn wsX2_wrap wsX2_in := goodIn_r _ [7] (by decide +kernel) (by decide +kernel)
set_option maxRecDepth 20000 in
theorem gX2_wrap_X2_in : GoodIn wsX2_wrap (va_wsS RX2 52 yX2_in wsX2_in) := goodIn_app (goodIn_of _ (by decide +kernel)) ggX2_wrap_X2_in
set_option maxRecDepth 20000 in
theorem ggX2_wrap_X2_becomes : GoodIn wsX2_wrap wsX2_becomes := goodIn_ca (goodIn_r _ [11, 12, 13, 14, 15, 16, 17, 18, 19, 20, 21, 22, 23, 24, 25, 26, 27, 28, 29, 30, 31, 32] (by decide +kernel) (by decide +kernel)) (goodIn_sub (fun _ h => List.mem_cons_of_mem _ (List.mem_append_right _ h)) (by decide +kernel))
set_option maxRecDepth 20000 in
theorem gX2_wrap_X2_becomes : GoodIn wsX2_wrap (wsV RX2 68 RX2 yX2_becomes wsX2_becomes) := goodIn_app (goodIn_of _ (by decide +kernel)) ggX2_wrap_X2_becomes
theorem dX2_wrap_0 : decode cX2_wrap 0 = .ok (.aload_n 0, 1) := by decide +kernel
theorem dX2_wrap_1 : decode cX2_wrap 1 = .ok (.iload_n 1, 1) := by decide +kernel
theorem dX2_wrap_2 : decode cX2_wrap 2 = .ok (.iconst 0, 1) := by decide +kernel
theorem dX2_wrap_3 : decode cX2_wrap 3 = .ok (.bipush 7, 2) := by decide +kernel
theorem dX2_wrap_5 : decode cX2_wrap 5 = .ok (.invokestatic 52, 3) := by decide +kernel
theorem dX2_wrap_8 : decode cX2_wrap 8 = .ok (.ifCond .eq 12, 3) := by decide +kernel
theorem dX2_wrap_11 : decode cX2_wrap 11 = .ok (.iload_n 2, 1) := by decide +kernel
theorem dX2_wrap_12 : decode cX2_wrap 12 = .ok (.iconst 0, 1) := by decide +kernel
theorem dX2_wrap_13 : decode cX2_wrap 13 = .ok (.iconst 1, 1) := by decide +kernel
theorem dX2_wrap_14 : decode cX2_wrap 14 = .ok (.invokestatic 52, 3) := by decide +kernel
theorem dX2_wrap_17 : decode cX2_wrap 17 = .ok (.ifCond .ne 7, 3) := by decide +kernel
theorem dX2_wrap_20 : decode cX2_wrap 20 = .ok (.iconst 1, 1) := by decide +kernel
theorem dX2_wrap_21 : decode cX2_wrap 21 = .ok (.goto 4, 3) := by decide +kernel
theorem dX2_wrap_24 : decode cX2_wrap 24 = .ok (.iconst 0, 1) := by decide +kernel
theorem dX2_wrap_25 : decode cX2_wrap 25 = .ok (.putfield 48, 3) := by decide +kernel
theorem dX2_wrap_28 : decode cX2_wrap 28 = .ok (.aload_n 0, 1) := by decide +kernel
theorem dX2_wrap_29 : decode cX2_wrap 29 = .ok (.getfield 48, 3) := by decide +kernel
theorem dX2_wrap_32 : decode cX2_wrap 32 = .ok (.ifCond .le 5, 3) := by decide +kernel
theorem dX2_wrap_35 : decode cX2_wrap 35 = .ok (.iconst 0, 1) := by decide +kernel
theorem dX2_wrap_36 : decode cX2_wrap 36 = .ok (.ireturn, 1) := by decide +kernel
theorem dX2_wrap_37 : decode cX2_wrap 37 = .ok (.aload_n 0, 1) := by decide +kernel
theorem dX2_wrap_38 : decode cX2_wrap 38 = .ok (.iload_n 1, 1) := by decide +kernel
theorem dX2_wrap_39 : decode cX2_wrap 39 = .ok (.bipush 105, 2) := by decide +kernel
theorem dX2_wrap_41 : decode cX2_wrap 41 = .ok (.aload_n 0, 1) := by decide +kernel
theorem dX2_wrap_42 : decode cX2_wrap 42 = .ok (.getfield 39, 3) := by decide +kernel
theorem dX2_wrap_45 : decode cX2_wrap 45 = .ok (.iload_n 2, 1) := by decide +kernel
theorem dX2_wrap_46 : decode cX2_wrap 46 = .ok (.iaload, 1) := by decide +kernel
theorem dX2_wrap_47 : decode cX2_wrap 47 = .ok (.iconst 0, 1) := by decide +kernel
theorem dX2_wrap_48 : decode cX2_wrap 48 = .ok (.aload_n 0, 1) := by decide +kernel
theorem dX2_wrap_49 : decode cX2_wrap 49 = .ok (.getfield 42, 3) := by decide +kernel
theorem dX2_wrap_52 : decode cX2_wrap 52 = .ok (.iload_n 2, 1) := by decide +kernel
theorem dX2_wrap_53 : decode cX2_wrap 53 = .ok (.iaload, 1) := by decide +kernel
theorem dX2_wrap_54 : decode cX2_wrap 54 = .ok (.iconst 0, 1) := by decide +kernel
theorem dX2_wrap_55 : decode cX2_wrap 55 = .ok (.invokevirtual 68, 3) := by decide +kernel
theorem dX2_wrap_58 : decode cX2_wrap 58 = .ok (.aload_n 0, 1) := by decide +kernel
theorem dX2_wrap_59 : decode cX2_wrap 59 = .ok (.getfield 42, 3) := by decide +kernel
theorem dX2_wrap_62 : decode cX2_wrap 62 = .ok (.iload_n 2, 1) := by decide +kernel
theorem dX2_wrap_63 : decode cX2_wrap 63 = .ok (.iaload, 1) := by decide +kernel
theorem dX2_wrap_64 : decode cX2_wrap 64 = .ok (.ireturn, 1) := by decide +kernel
set_option maxRecDepth 20000 in
theorem ggX2_kind_X2_in : GoodIn wsX2_kind wsX2_in := goodIn_r _ [6] (by decide +kernel) (by decide +kernel)
set_option maxRecDepth 20000 in
theorem gX2_kind_X2_in : GoodIn wsX2_kind (va_wsS RX2 52 yX2_in wsX2_in) := goodIn_app (goodIn_of _ (by decide +kernel)) ggX2_kind_X2_in
theorem dX2_kind_0 : decode cX2_kind 0 = .ok (.aload_n 0, 1) := by decide +kernel
theorem dX2_kind_1 : decode cX2_kind 1 = .ok (.iload_n 1, 1) := by decide +kernel
theorem dX2_kind_2 : decode cX2_kind 2 = .ok (.iconst 0, 1) := by decide +kernel
theorem dX2_kind_3 : decode cX2_kind 3 = .ok (.bipush 7, 2) := by decide +kernel
theorem dX2_kind_5 : decode cX2_kind 5 = .ok (.invokestatic 52, 3) := by decide +kernel
theorem dX2_kind_8 : decode cX2_kind 8 = .ok (.ifCond .ne 7, 3) := by decide +kernel
theorem dX2_kind_11 : decode cX2_kind 11 = .ok (.iconst 1, 1) := by decide +kernel
theorem dX2_kind_12 : decode cX2_kind 12 = .ok (.goto 4, 3) := by decide +kernel
theorem dX2_kind_15 : decode cX2_kind 15 = .ok (.iconst 0, 1) := by decide +kernel
theorem dX2_kind_16 : decode cX2_kind 16 = .ok (.putfield 48, 3) := by decide +kernel
theorem dX2_kind_19 : decode cX2_kind 19 = .ok (.aload_n 0, 1) := by decide +kernel
theorem dX2_kind_20 : decode cX2_kind 20 = .ok (.getfield 48, 3) := by decide +kernel
theorem dX2_kind_23 : decode cX2_kind 23 = .ok (.ifCond .le 8, 3) := by decide +kernel
theorem dX2_kind_26 : decode cX2_kind 26 = .ok (.bipush 32, 2) := by decide +kernel
theorem dX2_kind_28 : decode cX2_kind 28 = .ok (.goto 24, 3) := by decide +kernel
theorem dX2_kind_31 : decode cX2_kind 31 = .ok (.aload_n 0, 1) := by decide +kernel
theorem dX2_kind_32 : decode cX2_kind 32 = .ok (.getfield 13, 3) := by decide +kernel
theorem dX2_kind_35 : decode cX2_kind 35 = .ok (.iload_n 1, 1) := by decide +kernel
theorem dX2_kind_36 : decode cX2_kind 36 = .ok (.iaload, 1) := by decide +kernel
theorem dX2_kind_37 : decode cX2_kind 37 = .ok (.ifCond .ne 8, 3) := by decide +kernel
theorem dX2_kind_40 : decode cX2_kind 40 = .ok (.bipush 45, 2) := by decide +kernel
theorem dX2_kind_42 : decode cX2_kind 42 = .ok (.goto 10, 3) := by decide +kernel
theorem dX2_kind_45 : decode cX2_kind 45 = .ok (.aload_n 0, 1) := by decide +kernel
theorem dX2_kind_46 : decode cX2_kind 46 = .ok (.getfield 13, 3) := by decide +kernel
theorem dX2_kind_49 : decode cX2_kind 49 = .ok (.iload_n 1, 1) := by decide +kernel
theorem dX2_kind_50 : decode cX2_kind 50 = .ok (.iaload, 1) := by decide +kernel
theorem dX2_kind_51 : decode cX2_kind 51 = .ok (.i2c, 1) := by decide +kernel
theorem dX2_kind_52 : decode cX2_kind 52 = .ok (.ireturn, 1) := by decide +kernel
set_option maxRecDepth 20000 in
theorem ggX2_capacity_X2_isWindow : GoodIn wsX2_capacity wsX2_isWindow := goodIn_ca (goodIn_r _ [6, 7, 8, 9, 10, 5, 11, 12, 13, 14, 15, 16, 17, 18, 19, 20, 21, 22, 23, 24, 25, 26, 27, 28] (by decide +kernel) (by decide +kernel)) (goodIn_sub (fun _ h => List.mem_cons_of_mem _ (List.mem_append_right _ h)) (by decide +kernel))
set_option maxRecDepth 20000 in
theorem gX2_capacity_X2_isWindow : GoodIn wsX2_capacity (wsV RX2 72 RX2 yX2_isWindow wsX2_isWindow) := goodIn_app (goodIn_of _ (by decide +kernel)) ggX2_capacity_X2_isWindow
theorem dX2_capacity_0 : decode cX2_capacity 0 = .ok (.aload_n 0, 1) := by decide +kernel
theorem dX2_capacity_1 : decode cX2_capacity 1 = .ok (.iload_n 1, 1) := by decide +kernel
theorem dX2_capacity_2 : decode cX2_capacity 2 = .ok (.invokevirtual 72, 3) := by decide +kernel
theorem dX2_capacity_5 : decode cX2_capacity 5 = .ok (.ifCond .eq 12, 3) := by decide +kernel
theorem dX2_capacity_8 : decode cX2_capacity 8 = .ok (.aload_n 0, 1) := by decide +kernel
theorem dX2_capacity_9 : decode cX2_capacity 9 = .ok (.getfield 23, 3) := by decide +kernel
theorem dX2_capacity_12 : decode cX2_capacity 12 = .ok (.iload_n 1, 1) := by decide +kernel
theorem dX2_capacity_13 : decode cX2_capacity 13 = .ok (.iaload, 1) := by decide +kernel
theorem dX2_capacity_14 : decode cX2_capacity 14 = .ok (.goto 4, 3) := by decide +kernel
theorem dX2_capacity_17 : decode cX2_capacity 17 = .ok (.iconst 0, 1) := by decide +kernel
theorem dX2_capacity_18 : decode cX2_capacity 18 = .ok (.ireturn, 1) := by decide +kernel
set_option maxRecDepth 20000 in
theorem ggX2_place_X2_isWindow : GoodIn wsX2_place wsX2_isWindow := goodIn_ca (goodIn_r _ [6, 7, 8, 9, 10, 5, 11, 12, 13, 14, 15, 16, 17, 18, 19, 20, 21, 22, 23, 24, 25, 26, 27, 28] (by decide +kernel) (by decide +kernel)) (goodIn_sub (fun _ h => List.mem_cons_of_mem _ (List.mem_append_right _ h)) (by decide +kernel))
set_option maxRecDepth 20000 in
theorem gX2_place_X2_isWindow : GoodIn wsX2_place (wsV RX2 72 RX2 yX2_isWindow wsX2_isWindow) := goodIn_app (goodIn_of _ (by decide +kernel)) ggX2_place_X2_isWindow
theorem dX2_place_0 : decode cX2_place 0 = .ok (.aload_n 0, 1) := by decide +kernel
theorem dX2_place_1 : decode cX2_place 1 = .ok (.iload_n 1, 1) := by decide +kernel
theorem dX2_place_2 : decode cX2_place 2 = .ok (.invokevirtual 72, 3) := by decide +kernel
theorem dX2_place_5 : decode cX2_place 5 = .ok (.ifCond .eq 12, 3) := by decide +kernel
theorem dX2_place_8 : decode cX2_place 8 = .ok (.aload_n 0, 1) := by decide +kernel
theorem dX2_place_9 : decode cX2_place 9 = .ok (.getfield 26, 3) := by decide +kernel
theorem dX2_place_12 : decode cX2_place 12 = .ok (.iload_n 1, 1) := by decide +kernel
theorem dX2_place_13 : decode cX2_place 13 = .ok (.iaload, 1) := by decide +kernel
theorem dX2_place_14 : decode cX2_place 14 = .ok (.goto 4, 3) := by decide +kernel
theorem dX2_place_17 : decode cX2_place 17 = .ok (.iconst 0, 1) := by decide +kernel
theorem dX2_place_18 : decode cX2_place 18 = .ok (.ireturn, 1) := by decide +kernel
set_option maxRecDepth 20000 in
theorem ggX2_end_X2_isWindow : GoodIn wsX2_end wsX2_isWindow := goodIn_ca (goodIn_r _ [6, 7, 8, 9, 10, 5, 11, 12, 13, 14, 15, 16, 17, 18, 19, 20, 21, 22, 23, 24, 25, 26, 27, 28] (by decide +kernel) (by decide +kernel)) (goodIn_sub (fun _ h => List.mem_cons_of_mem _ (List.mem_append_right _ h)) (by decide +kernel))
set_option maxRecDepth 20000 in
theorem gX2_end_X2_isWindow : GoodIn wsX2_end (wsV RX2 72 RX2 yX2_isWindow wsX2_isWindow) := goodIn_app (goodIn_of _ (by decide +kernel)) ggX2_end_X2_isWindow
theorem dX2_end_0 : decode cX2_end 0 = .ok (.aload_n 0, 1) := by decide +kernel
theorem dX2_end_1 : decode cX2_end 1 = .ok (.iload_n 1, 1) := by decide +kernel
theorem dX2_end_2 : decode cX2_end 2 = .ok (.invokevirtual 72, 3) := by decide +kernel
theorem dX2_end_5 : decode cX2_end 5 = .ok (.ifCond .eq 12, 3) := by decide +kernel
theorem dX2_end_8 : decode cX2_end 8 = .ok (.aload_n 0, 1) := by decide +kernel
theorem dX2_end_9 : decode cX2_end 9 = .ok (.getfield 29, 3) := by decide +kernel
theorem dX2_end_12 : decode cX2_end 12 = .ok (.iload_n 1, 1) := by decide +kernel
theorem dX2_end_13 : decode cX2_end 13 = .ok (.iaload, 1) := by decide +kernel
theorem dX2_end_14 : decode cX2_end 14 = .ok (.goto 4, 3) := by decide +kernel
theorem dX2_end_17 : decode cX2_end 17 = .ok (.iconst 0, 1) := by decide +kernel
theorem dX2_end_18 : decode cX2_end 18 = .ok (.ireturn, 1) := by decide +kernel
set_option maxRecDepth 20000 in
theorem ggX2_left_X2_isWindow : GoodIn wsX2_left wsX2_isWindow := goodIn_ca (goodIn_r _ [7, 8, 9, 10, 11, 6, 12, 13, 14, 15, 16, 17, 18, 19, 20, 21, 22, 23, 24, 25, 26, 27, 28, 29] (by decide +kernel) (by decide +kernel)) (goodIn_sub (fun _ h => List.mem_cons_of_mem _ (List.mem_append_right _ h)) (by decide +kernel))
set_option maxRecDepth 20000 in
theorem gX2_left_X2_isWindow : GoodIn wsX2_left (wsV RX2 72 RX2 yX2_isWindow wsX2_isWindow) := goodIn_app (goodIn_of _ (by decide +kernel)) ggX2_left_X2_isWindow
theorem dX2_left_0 : decode cX2_left 0 = .ok (.aload_n 0, 1) := by decide +kernel
theorem dX2_left_1 : decode cX2_left 1 = .ok (.iload_n 1, 1) := by decide +kernel
theorem dX2_left_2 : decode cX2_left 2 = .ok (.invokevirtual 72, 3) := by decide +kernel
theorem dX2_left_5 : decode cX2_left 5 = .ok (.ifCond .eq 19, 3) := by decide +kernel
theorem dX2_left_8 : decode cX2_left 8 = .ok (.aload_n 0, 1) := by decide +kernel
theorem dX2_left_9 : decode cX2_left 9 = .ok (.getfield 29, 3) := by decide +kernel
theorem dX2_left_12 : decode cX2_left 12 = .ok (.iload_n 1, 1) := by decide +kernel
theorem dX2_left_13 : decode cX2_left 13 = .ok (.iaload, 1) := by decide +kernel
theorem dX2_left_14 : decode cX2_left 14 = .ok (.aload_n 0, 1) := by decide +kernel
theorem dX2_left_15 : decode cX2_left 15 = .ok (.getfield 26, 3) := by decide +kernel
theorem dX2_left_18 : decode cX2_left 18 = .ok (.iload_n 1, 1) := by decide +kernel
theorem dX2_left_19 : decode cX2_left 19 = .ok (.iaload, 1) := by decide +kernel
theorem dX2_left_20 : decode cX2_left 20 = .ok (.isub, 1) := by decide +kernel
theorem dX2_left_21 : decode cX2_left 21 = .ok (.goto 4, 3) := by decide +kernel
theorem dX2_left_24 : decode cX2_left 24 = .ok (.iconst 0, 1) := by decide +kernel
theorem dX2_left_25 : decode cX2_left 25 = .ok (.ireturn, 1) := by decide +kernel
set_option maxRecDepth 20000 in
theorem ggX2_hasLeft_X2_isWindow : GoodIn wsX2_hasLeft wsX2_isWindow := goodIn_ca (goodIn_r _ [7, 8, 9, 10, 11, 6, 12, 13, 14, 15, 16, 17, 18, 19, 20, 21, 22, 23, 24, 25, 26, 27, 28, 29] (by decide +kernel) (by decide +kernel)) (goodIn_sub (fun _ h => List.mem_cons_of_mem _ (List.mem_append_right _ h)) (by decide +kernel))
set_option maxRecDepth 20000 in
theorem gX2_hasLeft_X2_isWindow : GoodIn wsX2_hasLeft (wsV RX2 72 RX2 yX2_isWindow wsX2_isWindow) := goodIn_app (goodIn_of _ (by decide +kernel)) ggX2_hasLeft_X2_isWindow
theorem dX2_hasLeft_0 : decode cX2_hasLeft 0 = .ok (.aload_n 0, 1) := by decide +kernel
theorem dX2_hasLeft_1 : decode cX2_hasLeft 1 = .ok (.iload_n 1, 1) := by decide +kernel
theorem dX2_hasLeft_2 : decode cX2_hasLeft 2 = .ok (.invokevirtual 72, 3) := by decide +kernel
theorem dX2_hasLeft_5 : decode cX2_hasLeft 5 = .ok (.ifCond .eq 22, 3) := by decide +kernel
theorem dX2_hasLeft_8 : decode cX2_hasLeft 8 = .ok (.aload_n 0, 1) := by decide +kernel
theorem dX2_hasLeft_9 : decode cX2_hasLeft 9 = .ok (.getfield 29, 3) := by decide +kernel
theorem dX2_hasLeft_12 : decode cX2_hasLeft 12 = .ok (.iload_n 1, 1) := by decide +kernel
theorem dX2_hasLeft_13 : decode cX2_hasLeft 13 = .ok (.iaload, 1) := by decide +kernel
theorem dX2_hasLeft_14 : decode cX2_hasLeft 14 = .ok (.aload_n 0, 1) := by decide +kernel
theorem dX2_hasLeft_15 : decode cX2_hasLeft 15 = .ok (.getfield 26, 3) := by decide +kernel
theorem dX2_hasLeft_18 : decode cX2_hasLeft 18 = .ok (.iload_n 1, 1) := by decide +kernel
theorem dX2_hasLeft_19 : decode cX2_hasLeft 19 = .ok (.iaload, 1) := by decide +kernel
theorem dX2_hasLeft_20 : decode cX2_hasLeft 20 = .ok (.if_icmp .le 7, 3) := by decide +kernel
theorem dX2_hasLeft_23 : decode cX2_hasLeft 23 = .ok (.iconst 1, 1) := by decide +kernel
theorem dX2_hasLeft_24 : decode cX2_hasLeft 24 = .ok (.goto 4, 3) := by decide +kernel
theorem dX2_hasLeft_27 : decode cX2_hasLeft 27 = .ok (.iconst 0, 1) := by decide +kernel
theorem dX2_hasLeft_28 : decode cX2_hasLeft 28 = .ok (.ireturn, 1) := by decide +kernel
set_option maxRecDepth 20000 in
theorem ggX2_isReadOnly_X2_isWindow : GoodIn wsX2_isReadOnly wsX2_isWindow := goodIn_ca (goodIn_r _ [6, 7, 8, 9, 10, 5, 11, 12, 13, 14, 15, 16, 17, 18, 19, 20, 21, 22, 23, 24, 25, 26, 27, 28] (by decide +kernel) (by decide +kernel)) (goodIn_sub (fun _ h => List.mem_cons_of_mem _ (List.mem_append_right _ h)) (by decide +kernel))
set_option maxRecDepth 20000 in
theorem gX2_isReadOnly_X2_isWindow : GoodIn wsX2_isReadOnly (wsV RX2 72 RX2 yX2_isWindow wsX2_isWindow) := goodIn_app (goodIn_of _ (by decide +kernel)) ggX2_isReadOnly_X2_isWindow
theorem dX2_isReadOnly_0 : decode cX2_isReadOnly 0 = .ok (.aload_n 0, 1) := by decide +kernel
theorem dX2_isReadOnly_1 : decode cX2_isReadOnly 1 = .ok (.iload_n 1, 1) := by decide +kernel
theorem dX2_isReadOnly_2 : decode cX2_isReadOnly 2 = .ok (.invokevirtual 72, 3) := by decide +kernel
theorem dX2_isReadOnly_5 : decode cX2_isReadOnly 5 = .ok (.ifCond .eq 16, 3) := by decide +kernel
theorem dX2_isReadOnly_8 : decode cX2_isReadOnly 8 = .ok (.aload_n 0, 1) := by decide +kernel
theorem dX2_isReadOnly_9 : decode cX2_isReadOnly 9 = .ok (.getfield 35, 3) := by decide +kernel
theorem dX2_isReadOnly_12 : decode cX2_isReadOnly 12 = .ok (.iload_n 1, 1) := by decide +kernel
theorem dX2_isReadOnly_13 : decode cX2_isReadOnly 13 = .ok (.baload, 1) := by decide +kernel
theorem dX2_isReadOnly_14 : decode cX2_isReadOnly 14 = .ok (.ifCond .eq 7, 3) := by decide +kernel
theorem dX2_isReadOnly_17 : decode cX2_isReadOnly 17 = .ok (.iconst 1, 1) := by decide +kernel
theorem dX2_isReadOnly_18 : decode cX2_isReadOnly 18 = .ok (.goto 4, 3) := by decide +kernel
theorem dX2_isReadOnly_21 : decode cX2_isReadOnly 21 = .ok (.iconst 0, 1) := by decide +kernel
theorem dX2_isReadOnly_22 : decode cX2_isReadOnly 22 = .ok (.ireturn, 1) := by decide +kernel
set_option maxRecDepth 20000 in
theorem ggX2_placeAt_X2_is : GoodIn wsX2_placeAt wsX2_is := goodIn_ca (goodIn_r _ [9, 10, 11, 12, 8, 13, 14, 15, 16, 17, 18, 19, 20, 21, 22, 23, 24, 25, 26] (by decide +kernel) (by decide +kernel)) (goodIn_sub (fun _ h => List.mem_cons_of_mem _ (List.mem_append_right _ h)) (by decide +kernel))
set_option maxRecDepth 20000 in
theorem gX2_placeAt_X2_is : GoodIn wsX2_placeAt (wsV RX2 56 RX2 yX2_is wsX2_is) := goodIn_app (goodIn_of _ (by decide +kernel)) ggX2_placeAt_X2_is
set_option maxRecDepth 20000 in
theorem ggX2_placeAt_X2_in : GoodIn wsX2_placeAt wsX2_in := goodIn_r _ [13] (by decide +kernel) (by decide +kernel)
set_option maxRecDepth 20000 in
theorem gX2_placeAt_X2_in : GoodIn wsX2_placeAt (va_wsS RX2 52 yX2_in wsX2_in) := goodIn_app (goodIn_of _ (by decide +kernel)) ggX2_placeAt_X2_in
theorem dX2_placeAt_0 : decode cX2_placeAt 0 = .ok (.aload_n 0, 1) := by decide +kernel
theorem dX2_placeAt_1 : decode cX2_placeAt 1 = .ok (.aload_n 0, 1) := by decide +kernel
theorem dX2_placeAt_2 : decode cX2_placeAt 2 = .ok (.iload_n 1, 1) := by decide +kernel
theorem dX2_placeAt_3 : decode cX2_placeAt 3 = .ok (.invokevirtual 56, 3) := by decide +kernel
theorem dX2_placeAt_6 : decode cX2_placeAt 6 = .ok (.ifCond .ne 7, 3) := by decide +kernel
theorem dX2_placeAt_9 : decode cX2_placeAt 9 = .ok (.iconst 1, 1) := by decide +kernel
theorem dX2_placeAt_10 : decode cX2_placeAt 10 = .ok (.goto 22, 3) := by decide +kernel
theorem dX2_placeAt_13 : decode cX2_placeAt 13 = .ok (.iload_n 2, 1) := by decide +kernel
theorem dX2_placeAt_14 : decode cX2_placeAt 14 = .ok (.iconst 0, 1) := by decide +kernel
theorem dX2_placeAt_15 : decode cX2_placeAt 15 = .ok (.aload_n 0, 1) := by decide +kernel
theorem dX2_placeAt_16 : decode cX2_placeAt 16 = .ok (.getfield 29, 3) := by decide +kernel
theorem dX2_placeAt_19 : decode cX2_placeAt 19 = .ok (.iload_n 1, 1) := by decide +kernel
theorem dX2_placeAt_20 : decode cX2_placeAt 20 = .ok (.iaload, 1) := by decide +kernel
theorem dX2_placeAt_21 : decode cX2_placeAt 21 = .ok (.invokestatic 52, 3) := by decide +kernel
theorem dX2_placeAt_24 : decode cX2_placeAt 24 = .ok (.ifCond .ne 7, 3) := by decide +kernel
theorem dX2_placeAt_27 : decode cX2_placeAt 27 = .ok (.iconst 2, 1) := by decide +kernel
theorem dX2_placeAt_28 : decode cX2_placeAt 28 = .ok (.goto 4, 3) := by decide +kernel
theorem dX2_placeAt_31 : decode cX2_placeAt 31 = .ok (.iconst 0, 1) := by decide +kernel
theorem dX2_placeAt_32 : decode cX2_placeAt 32 = .ok (.putfield 48, 3) := by decide +kernel
theorem dX2_placeAt_35 : decode cX2_placeAt 35 = .ok (.aload_n 0, 1) := by decide +kernel
theorem dX2_placeAt_36 : decode cX2_placeAt 36 = .ok (.getfield 48, 3) := by decide +kernel
theorem dX2_placeAt_39 : decode cX2_placeAt 39 = .ok (.ifCond .le 5, 3) := by decide +kernel
theorem dX2_placeAt_42 : decode cX2_placeAt 42 = .ok (.iconst 0, 1) := by decide +kernel
theorem dX2_placeAt_43 : decode cX2_placeAt 43 = .ok (.ireturn, 1) := by decide +kernel
theorem dX2_placeAt_44 : decode cX2_placeAt 44 = .ok (.aload_n 0, 1) := by decide +kernel
theorem dX2_placeAt_45 : decode cX2_placeAt 45 = .ok (.getfield 26, 3) := by decide +kernel
theorem dX2_placeAt_48 : decode cX2_placeAt 48 = .ok (.iload_n 1, 1) := by decide +kernel
theorem dX2_placeAt_49 : decode cX2_placeAt 49 = .ok (.iaload, 1) := by decide +kernel
theorem dX2_placeAt_50 : decode cX2_placeAt 50 = .ok (.istore_n 3, 1) := by decide +kernel
theorem dX2_placeAt_51 : decode cX2_placeAt 51 = .ok (.aload_n 0, 1) := by decide +kernel
theorem dX2_placeAt_52 : decode cX2_placeAt 52 = .ok (.getfield 26, 3) := by decide +kernel
theorem dX2_placeAt_55 : decode cX2_placeAt 55 = .ok (.iload_n 1, 1) := by decide +kernel
theorem dX2_placeAt_56 : decode cX2_placeAt 56 = .ok (.iload_n 2, 1) := by decide +kernel
theorem dX2_placeAt_57 : decode cX2_placeAt 57 = .ok (.iastore, 1) := by decide +kernel
theorem dX2_placeAt_58 : decode cX2_placeAt 58 = .ok (.aload_n 0, 1) := by decide +kernel
theorem dX2_placeAt_59 : decode cX2_placeAt 59 = .ok (.getfield 32, 3) := by decide +kernel
theorem dX2_placeAt_62 : decode cX2_placeAt 62 = .ok (.iload_n 1, 1) := by decide +kernel
theorem dX2_placeAt_63 : decode cX2_placeAt 63 = .ok (.aload_n 0, 1) := by decide +kernel
theorem dX2_placeAt_64 : decode cX2_placeAt 64 = .ok (.getfield 32, 3) := by decide +kernel
theorem dX2_placeAt_67 : decode cX2_placeAt 67 = .ok (.iload_n 1, 1) := by decide +kernel
theorem dX2_placeAt_68 : decode cX2_placeAt 68 = .ok (.iaload, 1) := by decide +kernel
theorem dX2_placeAt_69 : decode cX2_placeAt 69 = .ok (.iload_n 2, 1) := by decide +kernel
theorem dX2_placeAt_70 : decode cX2_placeAt 70 = .ok (.if_icmp .le 7, 3) := by decide +kernel
theorem dX2_placeAt_73 : decode cX2_placeAt 73 = .ok (.iconst (-1), 1) := by decide +kernel
theorem dX2_placeAt_74 : decode cX2_placeAt 74 = .ok (.goto 9, 3) := by decide +kernel
theorem dX2_placeAt_77 : decode cX2_placeAt 77 = .ok (.aload_n 0, 1) := by decide +kernel
theorem dX2_placeAt_78 : decode cX2_placeAt 78 = .ok (.getfield 32, 3) := by decide +kernel
theorem dX2_placeAt_81 : decode cX2_placeAt 81 = .ok (.iload_n 1, 1) := by decide +kernel
theorem dX2_placeAt_82 : decode cX2_placeAt 82 = .ok (.iaload, 1) := by decide +kernel
theorem dX2_placeAt_83 : decode cX2_placeAt 83 = .ok (.iastore, 1) := by decide +kernel
theorem dX2_placeAt_84 : decode cX2_placeAt 84 = .ok (.iload_n 3, 1) := by decide +kernel
theorem dX2_placeAt_85 : decode cX2_placeAt 85 = .ok (.ireturn, 1) := by decide +kernel
set_option maxRecDepth 20000 in
theorem ggX2_endAt_X2_is : GoodIn wsX2_endAt wsX2_is := goodIn_ca (goodIn_r _ [10, 11, 12, 13, 9, 14, 15, 16, 17, 18, 19, 20, 21, 22, 23, 24, 25, 26, 27] (by decide +kernel) (by decide +kernel)) (goodIn_sub (fun _ h => List.mem_cons_of_mem _ (List.mem_append_right _ h)) (by decide +kernel))
set_option maxRecDepth 20000 in
theorem gX2_endAt_X2_is : GoodIn wsX2_endAt (wsV RX2 56 RX2 yX2_is wsX2_is) := goodIn_app (goodIn_of _ (by decide +kernel)) ggX2_endAt_X2_is
set_option maxRecDepth 20000 in
theorem ggX2_endAt_X2_in : GoodIn wsX2_endAt wsX2_in := goodIn_r _ [14] (by decide +kernel) (by decide +kernel)
set_option maxRecDepth 20000 in
theorem gX2_endAt_X2_in : GoodIn wsX2_endAt (va_wsS RX2 52 yX2_in wsX2_in) := goodIn_app (goodIn_of _ (by decide +kernel)) ggX2_endAt_X2_in
theorem dX2_endAt_0 : decode cX2_endAt 0 = .ok (.aload_n 0, 1) := by decide +kernel
theorem dX2_endAt_1 : decode cX2_endAt 1 = .ok (.aload_n 0, 1) := by decide +kernel
theorem dX2_endAt_2 : decode cX2_endAt 2 = .ok (.iload_n 1, 1) := by decide +kernel
theorem dX2_endAt_3 : decode cX2_endAt 3 = .ok (.invokevirtual 56, 3) := by decide +kernel
theorem dX2_endAt_6 : decode cX2_endAt 6 = .ok (.ifCond .ne 7, 3) := by decide +kernel
theorem dX2_endAt_9 : decode cX2_endAt 9 = .ok (.iconst 1, 1) := by decide +kernel
theorem dX2_endAt_10 : decode cX2_endAt 10 = .ok (.goto 22, 3) := by decide +kernel
theorem dX2_endAt_13 : decode cX2_endAt 13 = .ok (.iload_n 2, 1) := by decide +kernel
theorem dX2_endAt_14 : decode cX2_endAt 14 = .ok (.iconst 0, 1) := by decide +kernel
theorem dX2_endAt_15 : decode cX2_endAt 15 = .ok (.aload_n 0, 1) := by decide +kernel
theorem dX2_endAt_16 : decode cX2_endAt 16 = .ok (.getfield 23, 3) := by decide +kernel
theorem dX2_endAt_19 : decode cX2_endAt 19 = .ok (.iload_n 1, 1) := by decide +kernel
theorem dX2_endAt_20 : decode cX2_endAt 20 = .ok (.iaload, 1) := by decide +kernel
theorem dX2_endAt_21 : decode cX2_endAt 21 = .ok (.invokestatic 52, 3) := by decide +kernel
theorem dX2_endAt_24 : decode cX2_endAt 24 = .ok (.ifCond .ne 7, 3) := by decide +kernel
theorem dX2_endAt_27 : decode cX2_endAt 27 = .ok (.iconst 2, 1) := by decide +kernel
theorem dX2_endAt_28 : decode cX2_endAt 28 = .ok (.goto 4, 3) := by decide +kernel
theorem dX2_endAt_31 : decode cX2_endAt 31 = .ok (.iconst 0, 1) := by decide +kernel
theorem dX2_endAt_32 : decode cX2_endAt 32 = .ok (.putfield 48, 3) := by decide +kernel
theorem dX2_endAt_35 : decode cX2_endAt 35 = .ok (.aload_n 0, 1) := by decide +kernel
theorem dX2_endAt_36 : decode cX2_endAt 36 = .ok (.getfield 48, 3) := by decide +kernel
theorem dX2_endAt_39 : decode cX2_endAt 39 = .ok (.ifCond .le 5, 3) := by decide +kernel
theorem dX2_endAt_42 : decode cX2_endAt 42 = .ok (.iconst 0, 1) := by decide +kernel
theorem dX2_endAt_43 : decode cX2_endAt 43 = .ok (.ireturn, 1) := by decide +kernel
theorem dX2_endAt_44 : decode cX2_endAt 44 = .ok (.aload_n 0, 1) := by decide +kernel
theorem dX2_endAt_45 : decode cX2_endAt 45 = .ok (.getfield 29, 3) := by decide +kernel
theorem dX2_endAt_48 : decode cX2_endAt 48 = .ok (.iload_n 1, 1) := by decide +kernel
theorem dX2_endAt_49 : decode cX2_endAt 49 = .ok (.iaload, 1) := by decide +kernel
theorem dX2_endAt_50 : decode cX2_endAt 50 = .ok (.istore_n 3, 1) := by decide +kernel
theorem dX2_endAt_51 : decode cX2_endAt 51 = .ok (.aload_n 0, 1) := by decide +kernel
theorem dX2_endAt_52 : decode cX2_endAt 52 = .ok (.getfield 29, 3) := by decide +kernel
theorem dX2_endAt_55 : decode cX2_endAt 55 = .ok (.iload_n 1, 1) := by decide +kernel
theorem dX2_endAt_56 : decode cX2_endAt 56 = .ok (.iload_n 2, 1) := by decide +kernel
theorem dX2_endAt_57 : decode cX2_endAt 57 = .ok (.iastore, 1) := by decide +kernel
theorem dX2_endAt_58 : decode cX2_endAt 58 = .ok (.aload_n 0, 1) := by decide +kernel
theorem dX2_endAt_59 : decode cX2_endAt 59 = .ok (.getfield 26, 3) := by decide +kernel
theorem dX2_endAt_62 : decode cX2_endAt 62 = .ok (.iload_n 1, 1) := by decide +kernel
theorem dX2_endAt_63 : decode cX2_endAt 63 = .ok (.aload_n 0, 1) := by decide +kernel
theorem dX2_endAt_64 : decode cX2_endAt 64 = .ok (.getfield 26, 3) := by decide +kernel
theorem dX2_endAt_67 : decode cX2_endAt 67 = .ok (.iload_n 1, 1) := by decide +kernel
theorem dX2_endAt_68 : decode cX2_endAt 68 = .ok (.iaload, 1) := by decide +kernel
theorem dX2_endAt_69 : decode cX2_endAt 69 = .ok (.iload_n 2, 1) := by decide +kernel
theorem dX2_endAt_70 : decode cX2_endAt 70 = .ok (.if_icmp .le 7, 3) := by decide +kernel
theorem dX2_endAt_73 : decode cX2_endAt 73 = .ok (.iload_n 2, 1) := by decide +kernel
theorem dX2_endAt_74 : decode cX2_endAt 74 = .ok (.goto 9, 3) := by decide +kernel
theorem dX2_endAt_77 : decode cX2_endAt 77 = .ok (.aload_n 0, 1) := by decide +kernel
theorem dX2_endAt_78 : decode cX2_endAt 78 = .ok (.getfield 26, 3) := by decide +kernel
theorem dX2_endAt_81 : decode cX2_endAt 81 = .ok (.iload_n 1, 1) := by decide +kernel
theorem dX2_endAt_82 : decode cX2_endAt 82 = .ok (.iaload, 1) := by decide +kernel
theorem dX2_endAt_83 : decode cX2_endAt 83 = .ok (.iastore, 1) := by decide +kernel
theorem dX2_endAt_84 : decode cX2_endAt 84 = .ok (.aload_n 0, 1) := by decide +kernel
theorem dX2_endAt_85 : decode cX2_endAt 85 = .ok (.getfield 32, 3) := by decide +kernel
theorem dX2_endAt_88 : decode cX2_endAt 88 = .ok (.iload_n 1, 1) := by decide +kernel
theorem dX2_endAt_89 : decode cX2_endAt 89 = .ok (.aload_n 0, 1) := by decide +kernel
theorem dX2_endAt_90 : decode cX2_endAt 90 = .ok (.getfield 32, 3) := by decide +kernel
theorem dX2_endAt_93 : decode cX2_endAt 93 = .ok (.iload_n 1, 1) := by decide +kernel
theorem dX2_endAt_94 : decode cX2_endAt 94 = .ok (.iaload, 1) := by decide +kernel
theorem dX2_endAt_95 : decode cX2_endAt 95 = .ok (.iload_n 2, 1) := by decide +kernel
theorem dX2_endAt_96 : decode cX2_endAt 96 = .ok (.if_icmp .le 7, 3) := by decide +kernel
theorem dX2_endAt_99 : decode cX2_endAt 99 = .ok (.iconst (-1), 1) := by decide +kernel
theorem dX2_endAt_100 : decode cX2_endAt 100 = .ok (.goto 9, 3) := by decide +kernel
theorem dX2_endAt_103 : decode cX2_endAt 103 = .ok (.aload_n 0, 1) := by decide +kernel
theorem dX2_endAt_104 : decode cX2_endAt 104 = .ok (.getfield 32, 3) := by decide +kernel
theorem dX2_endAt_107 : decode cX2_endAt 107 = .ok (.iload_n 1, 1) := by decide +kernel
theorem dX2_endAt_108 : decode cX2_endAt 108 = .ok (.iaload, 1) := by decide +kernel
theorem dX2_endAt_109 : decode cX2_endAt 109 = .ok (.iastore, 1) := by decide +kernel
theorem dX2_endAt_110 : decode cX2_endAt 110 = .ok (.iload_n 3, 1) := by decide +kernel
theorem dX2_endAt_111 : decode cX2_endAt 111 = .ok (.ireturn, 1) := by decide +kernel
set_option maxRecDepth 20000 in
theorem ggX2_mark_X2_isWindow : GoodIn wsX2_mark wsX2_isWindow := goodIn_ca (goodIn_r _ [7, 8, 9, 10, 11, 6, 12, 13, 14, 15, 16, 17, 18, 19, 20, 21, 22, 23, 24, 25, 26, 27, 28, 29] (by decide +kernel) (by decide +kernel)) (goodIn_sub (fun _ h => List.mem_cons_of_mem _ (List.mem_append_right _ h)) (by decide +kernel))
set_option maxRecDepth 20000 in
theorem gX2_mark_X2_isWindow : GoodIn wsX2_mark (wsV RX2 72 RX2 yX2_isWindow wsX2_isWindow) := goodIn_app (goodIn_of _ (by decide +kernel)) ggX2_mark_X2_isWindow
theorem dX2_mark_0 : decode cX2_mark 0 = .ok (.aload_n 0, 1) := by decide +kernel
theorem dX2_mark_1 : decode cX2_mark 1 = .ok (.iload_n 1, 1) := by decide +kernel
theorem dX2_mark_2 : decode cX2_mark 2 = .ok (.invokevirtual 72, 3) := by decide +kernel
theorem dX2_mark_5 : decode cX2_mark 5 = .ok (.ifCond .ne 5, 3) := by decide +kernel
theorem dX2_mark_8 : decode cX2_mark 8 = .ok (.iconst 0, 1) := by decide +kernel
theorem dX2_mark_9 : decode cX2_mark 9 = .ok (.ireturn, 1) := by decide +kernel
theorem dX2_mark_10 : decode cX2_mark 10 = .ok (.aload_n 0, 1) := by decide +kernel
theorem dX2_mark_11 : decode cX2_mark 11 = .ok (.getfield 32, 3) := by decide +kernel
theorem dX2_mark_14 : decode cX2_mark 14 = .ok (.iload_n 1, 1) := by decide +kernel
theorem dX2_mark_15 : decode cX2_mark 15 = .ok (.aload_n 0, 1) := by decide +kernel
theorem dX2_mark_16 : decode cX2_mark 16 = .ok (.getfield 26, 3) := by decide +kernel
theorem dX2_mark_19 : decode cX2_mark 19 = .ok (.iload_n 1, 1) := by decide +kernel
theorem dX2_mark_20 : decode cX2_mark 20 = .ok (.iaload, 1) := by decide +kernel
theorem dX2_mark_21 : decode cX2_mark 21 = .ok (.iastore, 1) := by decide +kernel
theorem dX2_mark_22 : decode cX2_mark 22 = .ok (.aload_n 0, 1) := by decide +kernel
theorem dX2_mark_23 : decode cX2_mark 23 = .ok (.getfield 26, 3) := by decide +kernel
theorem dX2_mark_26 : decode cX2_mark 26 = .ok (.iload_n 1, 1) := by decide +kernel
theorem dX2_mark_27 : decode cX2_mark 27 = .ok (.iaload, 1) := by decide +kernel
theorem dX2_mark_28 : decode cX2_mark 28 = .ok (.ireturn, 1) := by decide +kernel
set_option maxRecDepth 20000 in
theorem ggX2_back_X2_is : GoodIn wsX2_back wsX2_is := goodIn_ca (goodIn_r _ [8, 9, 10, 11, 7, 12, 13, 14, 15, 16, 17, 18, 19, 20, 21, 22, 23, 24, 25] (by decide +kernel) (by decide +kernel)) (goodIn_sub (fun _ h => List.mem_cons_of_mem _ (List.mem_append_right _ h)) (by decide +kernel))
set_option maxRecDepth 20000 in
theorem gX2_back_X2_is : GoodIn wsX2_back (wsV RX2 56 RX2 yX2_is wsX2_is) := goodIn_app (goodIn_of _ (by decide +kernel)) ggX2_back_X2_is
theorem dX2_back_0 : decode cX2_back 0 = .ok (.aload_n 0, 1) := by decide +kernel
theorem dX2_back_1 : decode cX2_back 1 = .ok (.aload_n 0, 1) := by decide +kernel
theorem dX2_back_2 : decode cX2_back 2 = .ok (.iload_n 1, 1) := by decide +kernel
theorem dX2_back_3 : decode cX2_back 3 = .ok (.invokevirtual 56, 3) := by decide +kernel
theorem dX2_back_6 : decode cX2_back 6 = .ok (.ifCond .ne 7, 3) := by decide +kernel
theorem dX2_back_9 : decode cX2_back 9 = .ok (.iconst 1, 1) := by decide +kernel
theorem dX2_back_10 : decode cX2_back 10 = .ok (.goto 18, 3) := by decide +kernel
theorem dX2_back_13 : decode cX2_back 13 = .ok (.aload_n 0, 1) := by decide +kernel
theorem dX2_back_14 : decode cX2_back 14 = .ok (.getfield 32, 3) := by decide +kernel
theorem dX2_back_17 : decode cX2_back 17 = .ok (.iload_n 1, 1) := by decide +kernel
theorem dX2_back_18 : decode cX2_back 18 = .ok (.iaload, 1) := by decide +kernel
theorem dX2_back_19 : decode cX2_back 19 = .ok (.iconst (-1), 1) := by decide +kernel
theorem dX2_back_20 : decode cX2_back 20 = .ok (.if_icmp .ne 7, 3) := by decide +kernel
theorem dX2_back_23 : decode cX2_back 23 = .ok (.iconst 2, 1) := by decide +kernel
theorem dX2_back_24 : decode cX2_back 24 = .ok (.goto 4, 3) := by decide +kernel
theorem dX2_back_27 : decode cX2_back 27 = .ok (.iconst 0, 1) := by decide +kernel
theorem dX2_back_28 : decode cX2_back 28 = .ok (.putfield 48, 3) := by decide +kernel
theorem dX2_back_31 : decode cX2_back 31 = .ok (.aload_n 0, 1) := by decide +kernel
theorem dX2_back_32 : decode cX2_back 32 = .ok (.getfield 48, 3) := by decide +kernel
theorem dX2_back_35 : decode cX2_back 35 = .ok (.ifCond .le 5, 3) := by decide +kernel
theorem dX2_back_38 : decode cX2_back 38 = .ok (.iconst 0, 1) := by decide +kernel
theorem dX2_back_39 : decode cX2_back 39 = .ok (.ireturn, 1) := by decide +kernel
theorem dX2_back_40 : decode cX2_back 40 = .ok (.aload_n 0, 1) := by decide +kernel
theorem dX2_back_41 : decode cX2_back 41 = .ok (.getfield 26, 3) := by decide +kernel
theorem dX2_back_44 : decode cX2_back 44 = .ok (.iload_n 1, 1) := by decide +kernel
theorem dX2_back_45 : decode cX2_back 45 = .ok (.iaload, 1) := by decide +kernel
theorem dX2_back_46 : decode cX2_back 46 = .ok (.aload_n 0, 1) := by decide +kernel
theorem dX2_back_47 : decode cX2_back 47 = .ok (.getfield 32, 3) := by decide +kernel
theorem dX2_back_50 : decode cX2_back 50 = .ok (.iload_n 1, 1) := by decide +kernel
theorem dX2_back_51 : decode cX2_back 51 = .ok (.iaload, 1) := by decide +kernel
theorem dX2_back_52 : decode cX2_back 52 = .ok (.isub, 1) := by decide +kernel
theorem dX2_back_53 : decode cX2_back 53 = .ok (.istore_n 2, 1) := by decide +kernel
theorem dX2_back_54 : decode cX2_back 54 = .ok (.aload_n 0, 1) := by decide +kernel
theorem dX2_back_55 : decode cX2_back 55 = .ok (.getfield 26, 3) := by decide +kernel
theorem dX2_back_58 : decode cX2_back 58 = .ok (.iload_n 1, 1) := by decide +kernel
theorem dX2_back_59 : decode cX2_back 59 = .ok (.aload_n 0, 1) := by decide +kernel
theorem dX2_back_60 : decode cX2_back 60 = .ok (.getfield 32, 3) := by decide +kernel
theorem dX2_back_63 : decode cX2_back 63 = .ok (.iload_n 1, 1) := by decide +kernel
theorem dX2_back_64 : decode cX2_back 64 = .ok (.iaload, 1) := by decide +kernel
theorem dX2_back_65 : decode cX2_back 65 = .ok (.iastore, 1) := by decide +kernel
theorem dX2_back_66 : decode cX2_back 66 = .ok (.iload_n 2, 1) := by decide +kernel
theorem dX2_back_67 : decode cX2_back 67 = .ok (.ireturn, 1) := by decide +kernel
theorem dX2_stands_0 : decode cX2_stands 0 = .ok (.aload_n 0, 1) := by decide +kernel
theorem dX2_stands_1 : decode cX2_stands 1 = .ok (.getfield 26, 3) := by decide +kernel
theorem dX2_stands_4 : decode cX2_stands 4 = .ok (.iload_n 1, 1) := by decide +kernel
theorem dX2_stands_5 : decode cX2_stands 5 = .ok (.iload_n 2, 1) := by decide +kernel
theorem dX2_stands_6 : decode cX2_stands 6 = .ok (.iastore, 1) := by decide +kernel
theorem dX2_stands_7 : decode cX2_stands 7 = .ok (.aload_n 0, 1) := by decide +kernel
theorem dX2_stands_8 : decode cX2_stands 8 = .ok (.getfield 29, 3) := by decide +kernel
theorem dX2_stands_11 : decode cX2_stands 11 = .ok (.iload_n 1, 1) := by decide +kernel
theorem dX2_stands_12 : decode cX2_stands 12 = .ok (.iload_n 3, 1) := by decide +kernel
theorem dX2_stands_13 : decode cX2_stands 13 = .ok (.iastore, 1) := by decide +kernel
theorem dX2_stands_14 : decode cX2_stands 14 = .ok (.aload_n 0, 1) := by decide +kernel
theorem dX2_stands_15 : decode cX2_stands 15 = .ok (.getfield 32, 3) := by decide +kernel
theorem dX2_stands_18 : decode cX2_stands 18 = .ok (.iload_n 1, 1) := by decide +kernel
theorem dX2_stands_19 : decode cX2_stands 19 = .ok (.iconst (-1), 1) := by decide +kernel
theorem dX2_stands_20 : decode cX2_stands 20 = .ok (.iastore, 1) := by decide +kernel
theorem dX2_stands_21 : decode cX2_stands 21 = .ok (.return_, 1) := by decide +kernel
set_option maxRecDepth 20000 in
theorem ggX2_clear_X2_isWindow : GoodIn wsX2_clear wsX2_isWindow := goodIn_ca (goodIn_r _ [7, 8, 9, 10, 11, 6, 12, 13, 14, 15, 16, 23, 24, 25, 26, 27, 28, 29, 30, 31, 32, 33, 34, 35] (by decide +kernel) (by decide +kernel)) (goodIn_sub (fun _ h => List.mem_cons_of_mem _ (List.mem_append_right _ h)) (by decide +kernel))
set_option maxRecDepth 20000 in
theorem gX2_clear_X2_isWindow : GoodIn wsX2_clear (wsV RX2 72 RX2 yX2_isWindow wsX2_isWindow) := goodIn_app (goodIn_of _ (by decide +kernel)) ggX2_clear_X2_isWindow
set_option maxRecDepth 20000 in
theorem ggX2_clear_X2_stands : GoodIn wsX2_clear wsX2_stands := goodIn_ca (goodIn_r _ [20, 21, 2, 22, 23, 24, 25, 26, 27, 28, 29, 30, 31, 32, 33, 34, 35] (by decide +kernel) (by decide +kernel)) (goodIn_sub (fun _ h => List.mem_cons_of_mem _ (List.mem_append_right _ h)) (by decide +kernel))
set_option maxRecDepth 20000 in
theorem gX2_clear_X2_stands : GoodIn wsX2_clear (wsV RX2 75 RX2 yX2_stands wsX2_stands) := goodIn_app (goodIn_of _ (by decide +kernel)) ggX2_clear_X2_stands
theorem dX2_clear_0 : decode cX2_clear 0 = .ok (.aload_n 0, 1) := by decide +kernel
theorem dX2_clear_1 : decode cX2_clear 1 = .ok (.iload_n 1, 1) := by decide +kernel
theorem dX2_clear_2 : decode cX2_clear 2 = .ok (.invokevirtual 72, 3) := by decide +kernel
theorem dX2_clear_5 : decode cX2_clear 5 = .ok (.ifCond .ne 5, 3) := by decide +kernel
theorem dX2_clear_8 : decode cX2_clear 8 = .ok (.iconst 0, 1) := by decide +kernel
theorem dX2_clear_9 : decode cX2_clear 9 = .ok (.ireturn, 1) := by decide +kernel
theorem dX2_clear_10 : decode cX2_clear 10 = .ok (.aload_n 0, 1) := by decide +kernel
theorem dX2_clear_11 : decode cX2_clear 11 = .ok (.iload_n 1, 1) := by decide +kernel
theorem dX2_clear_12 : decode cX2_clear 12 = .ok (.iconst 0, 1) := by decide +kernel
theorem dX2_clear_13 : decode cX2_clear 13 = .ok (.aload_n 0, 1) := by decide +kernel
theorem dX2_clear_14 : decode cX2_clear 14 = .ok (.getfield 23, 3) := by decide +kernel
theorem dX2_clear_17 : decode cX2_clear 17 = .ok (.iload_n 1, 1) := by decide +kernel
theorem dX2_clear_18 : decode cX2_clear 18 = .ok (.iaload, 1) := by decide +kernel
theorem dX2_clear_19 : decode cX2_clear 19 = .ok (.invokevirtual 75, 3) := by decide +kernel
theorem dX2_clear_22 : decode cX2_clear 22 = .ok (.aload_n 0, 1) := by decide +kernel
theorem dX2_clear_23 : decode cX2_clear 23 = .ok (.getfield 29, 3) := by decide +kernel
theorem dX2_clear_26 : decode cX2_clear 26 = .ok (.iload_n 1, 1) := by decide +kernel
theorem dX2_clear_27 : decode cX2_clear 27 = .ok (.iaload, 1) := by decide +kernel
theorem dX2_clear_28 : decode cX2_clear 28 = .ok (.ireturn, 1) := by decide +kernel
set_option maxRecDepth 20000 in
theorem ggX2_flip_X2_isWindow : GoodIn wsX2_flip wsX2_isWindow := goodIn_ca (goodIn_r _ [7, 8, 9, 10, 11, 6, 12, 13, 14, 15, 16, 22, 23, 24, 25, 26, 27, 28, 29, 30, 31, 32, 33, 34] (by decide +kernel) (by decide +kernel)) (goodIn_sub (fun _ h => List.mem_cons_of_mem _ (List.mem_append_right _ h)) (by decide +kernel))
set_option maxRecDepth 20000 in
theorem gX2_flip_X2_isWindow : GoodIn wsX2_flip (wsV RX2 72 RX2 yX2_isWindow wsX2_isWindow) := goodIn_app (goodIn_of _ (by decide +kernel)) ggX2_flip_X2_isWindow
set_option maxRecDepth 20000 in
theorem ggX2_flip_X2_stands : GoodIn wsX2_flip wsX2_stands := goodIn_ca (goodIn_r _ [20, 1, 2, 21, 22, 23, 24, 25, 26, 27, 28, 29, 30, 31, 32, 33, 34] (by decide +kernel) (by decide +kernel)) (goodIn_sub (fun _ h => List.mem_cons_of_mem _ (List.mem_append_right _ h)) (by decide +kernel))
set_option maxRecDepth 20000 in
theorem gX2_flip_X2_stands : GoodIn wsX2_flip (wsV RX2 75 RX2 yX2_stands wsX2_stands) := goodIn_app (goodIn_of _ (by decide +kernel)) ggX2_flip_X2_stands
theorem dX2_flip_0 : decode cX2_flip 0 = .ok (.aload_n 0, 1) := by decide +kernel
theorem dX2_flip_1 : decode cX2_flip 1 = .ok (.iload_n 1, 1) := by decide +kernel
theorem dX2_flip_2 : decode cX2_flip 2 = .ok (.invokevirtual 72, 3) := by decide +kernel
theorem dX2_flip_5 : decode cX2_flip 5 = .ok (.ifCond .ne 5, 3) := by decide +kernel
theorem dX2_flip_8 : decode cX2_flip 8 = .ok (.iconst 0, 1) := by decide +kernel
theorem dX2_flip_9 : decode cX2_flip 9 = .ok (.ireturn, 1) := by decide +kernel
theorem dX2_flip_10 : decode cX2_flip 10 = .ok (.aload_n 0, 1) := by decide +kernel
theorem dX2_flip_11 : decode cX2_flip 11 = .ok (.iload_n 1, 1) := by decide +kernel
theorem dX2_flip_12 : decode cX2_flip 12 = .ok (.iconst 0, 1) := by decide +kernel
theorem dX2_flip_13 : decode cX2_flip 13 = .ok (.aload_n 0, 1) := by decide +kernel
theorem dX2_flip_14 : decode cX2_flip 14 = .ok (.getfield 26, 3) := by decide +kernel
theorem dX2_flip_17 : decode cX2_flip 17 = .ok (.iload_n 1, 1) := by decide +kernel
theorem dX2_flip_18 : decode cX2_flip 18 = .ok (.iaload, 1) := by decide +kernel
theorem dX2_flip_19 : decode cX2_flip 19 = .ok (.invokevirtual 75, 3) := by decide +kernel
theorem dX2_flip_22 : decode cX2_flip 22 = .ok (.aload_n 0, 1) := by decide +kernel
theorem dX2_flip_23 : decode cX2_flip 23 = .ok (.getfield 29, 3) := by decide +kernel
theorem dX2_flip_26 : decode cX2_flip 26 = .ok (.iload_n 1, 1) := by decide +kernel
theorem dX2_flip_27 : decode cX2_flip 27 = .ok (.iaload, 1) := by decide +kernel
theorem dX2_flip_28 : decode cX2_flip 28 = .ok (.ireturn, 1) := by decide +kernel
set_option maxRecDepth 20000 in
theorem ggX2_rewind_X2_isWindow : GoodIn wsX2_rewind wsX2_isWindow := goodIn_ca (goodIn_r _ [6, 7, 8, 9, 10, 5, 11, 12, 13, 14, 15, 22, 23, 24, 25, 26, 27, 28, 29, 30, 31, 32, 33, 34] (by decide +kernel) (by decide +kernel)) (goodIn_sub (fun _ h => List.mem_cons_of_mem _ (List.mem_append_right _ h)) (by decide +kernel))
set_option maxRecDepth 20000 in
theorem gX2_rewind_X2_isWindow : GoodIn wsX2_rewind (wsV RX2 72 RX2 yX2_isWindow wsX2_isWindow) := goodIn_app (goodIn_of _ (by decide +kernel)) ggX2_rewind_X2_isWindow
set_option maxRecDepth 20000 in
theorem ggX2_rewind_X2_stands : GoodIn wsX2_rewind wsX2_stands := goodIn_ca (goodIn_r _ [19, 20, 1, 21, 22, 23, 24, 25, 26, 27, 28, 29, 30, 31, 32, 33, 34] (by decide +kernel) (by decide +kernel)) (goodIn_sub (fun _ h => List.mem_cons_of_mem _ (List.mem_append_right _ h)) (by decide +kernel))
set_option maxRecDepth 20000 in
theorem gX2_rewind_X2_stands : GoodIn wsX2_rewind (wsV RX2 75 RX2 yX2_stands wsX2_stands) := goodIn_app (goodIn_of _ (by decide +kernel)) ggX2_rewind_X2_stands
theorem dX2_rewind_0 : decode cX2_rewind 0 = .ok (.aload_n 0, 1) := by decide +kernel
theorem dX2_rewind_1 : decode cX2_rewind 1 = .ok (.iload_n 1, 1) := by decide +kernel
theorem dX2_rewind_2 : decode cX2_rewind 2 = .ok (.invokevirtual 72, 3) := by decide +kernel
theorem dX2_rewind_5 : decode cX2_rewind 5 = .ok (.ifCond .ne 5, 3) := by decide +kernel
theorem dX2_rewind_8 : decode cX2_rewind 8 = .ok (.iconst 0, 1) := by decide +kernel
theorem dX2_rewind_9 : decode cX2_rewind 9 = .ok (.ireturn, 1) := by decide +kernel
theorem dX2_rewind_10 : decode cX2_rewind 10 = .ok (.aload_n 0, 1) := by decide +kernel
theorem dX2_rewind_11 : decode cX2_rewind 11 = .ok (.iload_n 1, 1) := by decide +kernel
theorem dX2_rewind_12 : decode cX2_rewind 12 = .ok (.iconst 0, 1) := by decide +kernel
theorem dX2_rewind_13 : decode cX2_rewind 13 = .ok (.aload_n 0, 1) := by decide +kernel
theorem dX2_rewind_14 : decode cX2_rewind 14 = .ok (.getfield 29, 3) := by decide +kernel
theorem dX2_rewind_17 : decode cX2_rewind 17 = .ok (.iload_n 1, 1) := by decide +kernel
theorem dX2_rewind_18 : decode cX2_rewind 18 = .ok (.iaload, 1) := by decide +kernel
theorem dX2_rewind_19 : decode cX2_rewind 19 = .ok (.invokevirtual 75, 3) := by decide +kernel
theorem dX2_rewind_22 : decode cX2_rewind 22 = .ok (.aload_n 0, 1) := by decide +kernel
theorem dX2_rewind_23 : decode cX2_rewind 23 = .ok (.getfield 29, 3) := by decide +kernel
theorem dX2_rewind_26 : decode cX2_rewind 26 = .ok (.iload_n 1, 1) := by decide +kernel
theorem dX2_rewind_27 : decode cX2_rewind 27 = .ok (.iaload, 1) := by decide +kernel
theorem dX2_rewind_28 : decode cX2_rewind 28 = .ok (.ireturn, 1) := by decide +kernel
theorem dX2_value_0 : decode cX2_value 0 = .ok (.aload_n 0, 1) := by decide +kernel
theorem dX2_value_1 : decode cX2_value 1 = .ok (.getfield 7, 3) := by decide +kernel
theorem dX2_value_4 : decode cX2_value 4 = .ok (.bipush 64, 2) := by decide +kernel
theorem dX2_value_6 : decode cX2_value 6 = .ok (.aload_n 0, 1) := by decide +kernel
theorem dX2_value_7 : decode cX2_value 7 = .ok (.getfield 17, 3) := by decide +kernel
theorem dX2_value_10 : decode cX2_value 10 = .ok (.iload_n 1, 1) := by decide +kernel
theorem dX2_value_11 : decode cX2_value 11 = .ok (.iaload, 1) := by decide +kernel
theorem dX2_value_12 : decode cX2_value 12 = .ok (.imul, 1) := by decide +kernel
theorem dX2_value_13 : decode cX2_value 13 = .ok (.aload_n 0, 1) := by decide +kernel
theorem dX2_value_14 : decode cX2_value 14 = .ok (.getfield 20, 3) := by decide +kernel
theorem dX2_value_17 : decode cX2_value 17 = .ok (.iload_n 1, 1) := by decide +kernel
theorem dX2_value_18 : decode cX2_value 18 = .ok (.iaload, 1) := by decide +kernel
theorem dX2_value_19 : decode cX2_value 19 = .ok (.iadd, 1) := by decide +kernel
theorem dX2_value_20 : decode cX2_value 20 = .ok (.iload_n 2, 1) := by decide +kernel
theorem dX2_value_21 : decode cX2_value 21 = .ok (.iadd, 1) := by decide +kernel
theorem dX2_value_22 : decode cX2_value 22 = .ok (.laload, 1) := by decide +kernel
theorem dX2_value_23 : decode cX2_value 23 = .ok (.lreturn, 1) := by decide +kernel
theorem dX2_lays_0 : decode cX2_lays 0 = .ok (.aload_n 0, 1) := by decide +kernel
theorem dX2_lays_1 : decode cX2_lays 1 = .ok (.getfield 13, 3) := by decide +kernel
theorem dX2_lays_4 : decode cX2_lays 4 = .ok (.iload_n 1, 1) := by decide +kernel
theorem dX2_lays_5 : decode cX2_lays 5 = .ok (.iaload, 1) := by decide +kernel
theorem dX2_lays_6 : decode cX2_lays 6 = .ok (.istore 5, 2) := by decide +kernel
theorem dX2_lays_8 : decode cX2_lays 8 = .ok (.iload 5, 2) := by decide +kernel
theorem dX2_lays_10 : decode cX2_lays 10 = .ok (.bipush 105, 2) := by decide +kernel
theorem dX2_lays_12 : decode cX2_lays 12 = .ok (.if_icmp .ne 9, 3) := by decide +kernel
theorem dX2_lays_15 : decode cX2_lays 15 = .ok (.lload_n 3, 1) := by decide +kernel
theorem dX2_lays_16 : decode cX2_lays 16 = .ok (.l2i, 1) := by decide +kernel
theorem dX2_lays_17 : decode cX2_lays 17 = .ok (.i2l, 1) := by decide +kernel
theorem dX2_lays_18 : decode cX2_lays 18 = .ok (.goto 33, 3) := by decide +kernel
theorem dX2_lays_21 : decode cX2_lays 21 = .ok (.iload 5, 2) := by decide +kernel
theorem dX2_lays_23 : decode cX2_lays 23 = .ok (.bipush 99, 2) := by decide +kernel
theorem dX2_lays_25 : decode cX2_lays 25 = .ok (.if_icmp .ne 11, 3) := by decide +kernel
theorem dX2_lays_28 : decode cX2_lays 28 = .ok (.lload_n 3, 1) := by decide +kernel
theorem dX2_lays_29 : decode cX2_lays 29 = .ok (.ldc2_w 79, 3) := by decide +kernel
theorem dX2_lays_32 : decode cX2_lays 32 = .ok (.land, 1) := by decide +kernel
theorem dX2_lays_33 : decode cX2_lays 33 = .ok (.goto 18, 3) := by decide +kernel
theorem dX2_lays_36 : decode cX2_lays 36 = .ok (.iload 5, 2) := by decide +kernel
theorem dX2_lays_38 : decode cX2_lays 38 = .ok (.bipush 115, 2) := by decide +kernel
theorem dX2_lays_40 : decode cX2_lays 40 = .ok (.if_icmp .ne 10, 3) := by decide +kernel
theorem dX2_lays_43 : decode cX2_lays 43 = .ok (.lload_n 3, 1) := by decide +kernel
theorem dX2_lays_44 : decode cX2_lays 44 = .ok (.l2i, 1) := by decide +kernel
theorem dX2_lays_45 : decode cX2_lays 45 = .ok (.i2s, 1) := by decide +kernel
theorem dX2_lays_46 : decode cX2_lays 46 = .ok (.i2l, 1) := by decide +kernel
theorem dX2_lays_47 : decode cX2_lays 47 = .ok (.goto 4, 3) := by decide +kernel
theorem dX2_lays_50 : decode cX2_lays 50 = .ok (.lload_n 3, 1) := by decide +kernel
theorem dX2_lays_51 : decode cX2_lays 51 = .ok (.lstore 6, 2) := by decide +kernel
theorem dX2_lays_53 : decode cX2_lays 53 = .ok (.aload_n 0, 1) := by decide +kernel
theorem dX2_lays_54 : decode cX2_lays 54 = .ok (.getfield 7, 3) := by decide +kernel
theorem dX2_lays_57 : decode cX2_lays 57 = .ok (.bipush 64, 2) := by decide +kernel
theorem dX2_lays_59 : decode cX2_lays 59 = .ok (.aload_n 0, 1) := by decide +kernel
theorem dX2_lays_60 : decode cX2_lays 60 = .ok (.getfield 17, 3) := by decide +kernel
theorem dX2_lays_63 : decode cX2_lays 63 = .ok (.iload_n 1, 1) := by decide +kernel
theorem dX2_lays_64 : decode cX2_lays 64 = .ok (.iaload, 1) := by decide +kernel
theorem dX2_lays_65 : decode cX2_lays 65 = .ok (.imul, 1) := by decide +kernel
theorem dX2_lays_66 : decode cX2_lays 66 = .ok (.aload_n 0, 1) := by decide +kernel
theorem dX2_lays_67 : decode cX2_lays 67 = .ok (.getfield 20, 3) := by decide +kernel
theorem dX2_lays_70 : decode cX2_lays 70 = .ok (.iload_n 1, 1) := by decide +kernel
theorem dX2_lays_71 : decode cX2_lays 71 = .ok (.iaload, 1) := by decide +kernel
theorem dX2_lays_72 : decode cX2_lays 72 = .ok (.iadd, 1) := by decide +kernel
theorem dX2_lays_73 : decode cX2_lays 73 = .ok (.iload_n 2, 1) := by decide +kernel
theorem dX2_lays_74 : decode cX2_lays 74 = .ok (.iadd, 1) := by decide +kernel
theorem dX2_lays_75 : decode cX2_lays 75 = .ok (.lload 6, 2) := by decide +kernel
theorem dX2_lays_77 : decode cX2_lays 77 = .ok (.lastore, 1) := by decide +kernel
theorem dX2_lays_78 : decode cX2_lays 78 = .ok (.return_, 1) := by decide +kernel
set_option maxRecDepth 20000 in
theorem ggX2_compact_X2_is : GoodIn wsX2_compact wsX2_is := goodIn_ca (goodIn_r _ [11, 12, 13, 14, 10, 15, 33, 34, 35, 36, 37, 38, 39, 40, 41, 42, 43, 44, 45] (by decide +kernel) (by decide +kernel)) (goodIn_sub (fun _ h => List.mem_cons_of_mem _ (List.mem_append_right _ h)) (by decide +kernel))
set_option maxRecDepth 20000 in
theorem gX2_compact_X2_is : GoodIn wsX2_compact (wsV RX2 56 RX2 yX2_is wsX2_is) := goodIn_app (goodIn_of _ (by decide +kernel)) ggX2_compact_X2_is
set_option maxRecDepth 20000 in
theorem ggX2_compact_X2_value : GoodIn wsX2_compact wsX2_value := goodIn_ca (goodIn_r _ [19, 20, 21, 22, 33, 34, 35, 36, 37, 38, 39, 40, 41, 42, 43, 44, 45] (by decide +kernel) (by decide +kernel)) (goodIn_sub (fun _ h => List.mem_cons_of_mem _ (List.mem_append_right _ h)) (by decide +kernel))
set_option maxRecDepth 20000 in
theorem gX2_compact_X2_value : GoodIn wsX2_compact (wsV RX2 81 RX2 yX2_value wsX2_value) := goodIn_app (goodIn_of _ (by decide +kernel)) ggX2_compact_X2_value
set_option maxRecDepth 20000 in
theorem ggX2_compact_X2_lays : GoodIn wsX2_compact wsX2_lays := goodIn_ca (goodIn_r _ [26, 12, 27, 20, 21, 22, 33, 34, 35, 36, 37, 38, 39, 40, 41, 42, 43, 44, 45] (by decide +kernel) (by decide +kernel)) (goodIn_sub (fun _ h => List.mem_cons_of_mem _ (List.mem_append_right _ h)) (by decide +kernel))
set_option maxRecDepth 20000 in
theorem gX2_compact_X2_lays : GoodIn wsX2_compact (wsV RX2 85 RX2 yX2_lays wsX2_lays) := goodIn_app (goodIn_of _ (by decide +kernel)) ggX2_compact_X2_lays
set_option maxRecDepth 20000 in
theorem ggX2_compact_X2_stands : GoodIn wsX2_compact wsX2_stands := goodIn_ca (goodIn_r _ [31, 4, 3, 32, 33, 34, 35, 36, 37, 38, 39, 40, 41, 42, 43, 44, 45] (by decide +kernel) (by decide +kernel)) (goodIn_sub (fun _ h => List.mem_cons_of_mem _ (List.mem_append_right _ h)) (by decide +kernel))
set_option maxRecDepth 20000 in
theorem gX2_compact_X2_stands : GoodIn wsX2_compact (wsV RX2 75 RX2 yX2_stands wsX2_stands) := goodIn_app (goodIn_of _ (by decide +kernel)) ggX2_compact_X2_stands
theorem dX2_compact_0 : decode cX2_compact 0 = .ok (.aload_n 0, 1) := by decide +kernel
theorem dX2_compact_1 : decode cX2_compact 1 = .ok (.aload_n 0, 1) := by decide +kernel
theorem dX2_compact_2 : decode cX2_compact 2 = .ok (.iload_n 1, 1) := by decide +kernel
theorem dX2_compact_3 : decode cX2_compact 3 = .ok (.invokevirtual 56, 3) := by decide +kernel
theorem dX2_compact_6 : decode cX2_compact 6 = .ok (.ifCond .ne 7, 3) := by decide +kernel
theorem dX2_compact_9 : decode cX2_compact 9 = .ok (.iconst 1, 1) := by decide +kernel
theorem dX2_compact_10 : decode cX2_compact 10 = .ok (.goto 17, 3) := by decide +kernel
theorem dX2_compact_13 : decode cX2_compact 13 = .ok (.aload_n 0, 1) := by decide +kernel
theorem dX2_compact_14 : decode cX2_compact 14 = .ok (.getfield 35, 3) := by decide +kernel
theorem dX2_compact_17 : decode cX2_compact 17 = .ok (.iload_n 1, 1) := by decide +kernel
theorem dX2_compact_18 : decode cX2_compact 18 = .ok (.baload, 1) := by decide +kernel
theorem dX2_compact_19 : decode cX2_compact 19 = .ok (.ifCond .eq 7, 3) := by decide +kernel
theorem dX2_compact_22 : decode cX2_compact 22 = .ok (.iconst 2, 1) := by decide +kernel
theorem dX2_compact_23 : decode cX2_compact 23 = .ok (.goto 4, 3) := by decide +kernel
theorem dX2_compact_26 : decode cX2_compact 26 = .ok (.iconst 0, 1) := by decide +kernel
theorem dX2_compact_27 : decode cX2_compact 27 = .ok (.putfield 48, 3) := by decide +kernel
theorem dX2_compact_30 : decode cX2_compact 30 = .ok (.aload_n 0, 1) := by decide +kernel
theorem dX2_compact_31 : decode cX2_compact 31 = .ok (.getfield 48, 3) := by decide +kernel
theorem dX2_compact_34 : decode cX2_compact 34 = .ok (.ifCond .le 5, 3) := by decide +kernel
theorem dX2_compact_37 : decode cX2_compact 37 = .ok (.iconst 0, 1) := by decide +kernel
theorem dX2_compact_38 : decode cX2_compact 38 = .ok (.ireturn, 1) := by decide +kernel
theorem dX2_compact_39 : decode cX2_compact 39 = .ok (.aload_n 0, 1) := by decide +kernel
theorem dX2_compact_40 : decode cX2_compact 40 = .ok (.getfield 29, 3) := by decide +kernel
theorem dX2_compact_43 : decode cX2_compact 43 = .ok (.iload_n 1, 1) := by decide +kernel
theorem dX2_compact_44 : decode cX2_compact 44 = .ok (.iaload, 1) := by decide +kernel
theorem dX2_compact_45 : decode cX2_compact 45 = .ok (.aload_n 0, 1) := by decide +kernel
theorem dX2_compact_46 : decode cX2_compact 46 = .ok (.getfield 26, 3) := by decide +kernel
theorem dX2_compact_49 : decode cX2_compact 49 = .ok (.iload_n 1, 1) := by decide +kernel
theorem dX2_compact_50 : decode cX2_compact 50 = .ok (.iaload, 1) := by decide +kernel
theorem dX2_compact_51 : decode cX2_compact 51 = .ok (.isub, 1) := by decide +kernel
theorem dX2_compact_52 : decode cX2_compact 52 = .ok (.istore_n 2, 1) := by decide +kernel
theorem dX2_compact_53 : decode cX2_compact 53 = .ok (.iconst 0, 1) := by decide +kernel
theorem dX2_compact_54 : decode cX2_compact 54 = .ok (.istore_n 3, 1) := by decide +kernel
theorem dX2_compact_55 : decode cX2_compact 55 = .ok (.iload_n 3, 1) := by decide +kernel
theorem dX2_compact_56 : decode cX2_compact 56 = .ok (.iload_n 2, 1) := by decide +kernel
theorem dX2_compact_57 : decode cX2_compact 57 = .ok (.if_icmp .ge 28, 3) := by decide +kernel
theorem dX2_compact_60 : decode cX2_compact 60 = .ok (.aload_n 0, 1) := by decide +kernel
theorem dX2_compact_61 : decode cX2_compact 61 = .ok (.getfield 45, 3) := by decide +kernel
theorem dX2_compact_64 : decode cX2_compact 64 = .ok (.iload_n 3, 1) := by decide +kernel
theorem dX2_compact_65 : decode cX2_compact 65 = .ok (.aload_n 0, 1) := by decide +kernel
theorem dX2_compact_66 : decode cX2_compact 66 = .ok (.iload_n 1, 1) := by decide +kernel
theorem dX2_compact_67 : decode cX2_compact 67 = .ok (.aload_n 0, 1) := by decide +kernel
theorem dX2_compact_68 : decode cX2_compact 68 = .ok (.getfield 26, 3) := by decide +kernel
theorem dX2_compact_71 : decode cX2_compact 71 = .ok (.iload_n 1, 1) := by decide +kernel
theorem dX2_compact_72 : decode cX2_compact 72 = .ok (.iaload, 1) := by decide +kernel
theorem dX2_compact_73 : decode cX2_compact 73 = .ok (.iload_n 3, 1) := by decide +kernel
theorem dX2_compact_74 : decode cX2_compact 74 = .ok (.iadd, 1) := by decide +kernel
theorem dX2_compact_75 : decode cX2_compact 75 = .ok (.invokevirtual 81, 3) := by decide +kernel
theorem dX2_compact_78 : decode cX2_compact 78 = .ok (.lastore, 1) := by decide +kernel
theorem dX2_compact_79 : decode cX2_compact 79 = .ok (.iinc 3 1, 3) := by decide +kernel
theorem dX2_compact_82 : decode cX2_compact 82 = .ok (.goto (-27), 3) := by decide +kernel
theorem dX2_compact_85 : decode cX2_compact 85 = .ok (.iconst 0, 1) := by decide +kernel
theorem dX2_compact_86 : decode cX2_compact 86 = .ok (.istore_n 3, 1) := by decide +kernel
theorem dX2_compact_87 : decode cX2_compact 87 = .ok (.iload_n 3, 1) := by decide +kernel
theorem dX2_compact_88 : decode cX2_compact 88 = .ok (.iload_n 2, 1) := by decide +kernel
theorem dX2_compact_89 : decode cX2_compact 89 = .ok (.if_icmp .ge 21, 3) := by decide +kernel
theorem dX2_compact_92 : decode cX2_compact 92 = .ok (.aload_n 0, 1) := by decide +kernel
theorem dX2_compact_93 : decode cX2_compact 93 = .ok (.iload_n 1, 1) := by decide +kernel
theorem dX2_compact_94 : decode cX2_compact 94 = .ok (.iload_n 3, 1) := by decide +kernel
theorem dX2_compact_95 : decode cX2_compact 95 = .ok (.aload_n 0, 1) := by decide +kernel
theorem dX2_compact_96 : decode cX2_compact 96 = .ok (.getfield 45, 3) := by decide +kernel
theorem dX2_compact_99 : decode cX2_compact 99 = .ok (.iload_n 3, 1) := by decide +kernel
theorem dX2_compact_100 : decode cX2_compact 100 = .ok (.laload, 1) := by decide +kernel
theorem dX2_compact_101 : decode cX2_compact 101 = .ok (.invokevirtual 85, 3) := by decide +kernel
theorem dX2_compact_104 : decode cX2_compact 104 = .ok (.iinc 3 1, 3) := by decide +kernel
theorem dX2_compact_107 : decode cX2_compact 107 = .ok (.goto (-20), 3) := by decide +kernel
theorem dX2_compact_110 : decode cX2_compact 110 = .ok (.aload_n 0, 1) := by decide +kernel
theorem dX2_compact_111 : decode cX2_compact 111 = .ok (.iload_n 1, 1) := by decide +kernel
theorem dX2_compact_112 : decode cX2_compact 112 = .ok (.iload_n 2, 1) := by decide +kernel
theorem dX2_compact_113 : decode cX2_compact 113 = .ok (.aload_n 0, 1) := by decide +kernel
theorem dX2_compact_114 : decode cX2_compact 114 = .ok (.getfield 23, 3) := by decide +kernel
theorem dX2_compact_117 : decode cX2_compact 117 = .ok (.iload_n 1, 1) := by decide +kernel
theorem dX2_compact_118 : decode cX2_compact 118 = .ok (.iaload, 1) := by decide +kernel
theorem dX2_compact_119 : decode cX2_compact 119 = .ok (.invokevirtual 75, 3) := by decide +kernel
theorem dX2_compact_122 : decode cX2_compact 122 = .ok (.iload_n 2, 1) := by decide +kernel
theorem dX2_compact_123 : decode cX2_compact 123 = .ok (.ireturn, 1) := by decide +kernel
set_option maxRecDepth 20000 in
theorem ggX2_get_X2_is : GoodIn wsX2_get wsX2_is := goodIn_ca (goodIn_r _ [8, 9, 10, 11, 7, 12, 20, 21, 22, 23, 24, 25, 26, 27, 28, 29, 30, 31, 32] (by decide +kernel) (by decide +kernel)) (goodIn_sub (fun _ h => List.mem_cons_of_mem _ (List.mem_append_right _ h)) (by decide +kernel))
set_option maxRecDepth 20000 in
theorem gX2_get_X2_is : GoodIn wsX2_get (wsV RX2 56 RX2 yX2_is wsX2_is) := goodIn_app (goodIn_of _ (by decide +kernel)) ggX2_get_X2_is
set_option maxRecDepth 20000 in
theorem ggX2_get_X2_value : GoodIn wsX2_get wsX2_value := goodIn_ca (goodIn_r _ [16, 17, 18, 19, 20, 21, 22, 23, 24, 25, 26, 27, 28, 29, 30, 31, 32] (by decide +kernel) (by decide +kernel)) (goodIn_sub (fun _ h => List.mem_cons_of_mem _ (List.mem_append_right _ h)) (by decide +kernel))
set_option maxRecDepth 20000 in
theorem gX2_get_X2_value : GoodIn wsX2_get (wsV RX2 81 RX2 yX2_value wsX2_value) := goodIn_app (goodIn_of _ (by decide +kernel)) ggX2_get_X2_value
theorem dX2_get_0 : decode cX2_get 0 = .ok (.aload_n 0, 1) := by decide +kernel
theorem dX2_get_1 : decode cX2_get 1 = .ok (.aload_n 0, 1) := by decide +kernel
theorem dX2_get_2 : decode cX2_get 2 = .ok (.iload_n 1, 1) := by decide +kernel
theorem dX2_get_3 : decode cX2_get 3 = .ok (.invokevirtual 56, 3) := by decide +kernel
theorem dX2_get_6 : decode cX2_get 6 = .ok (.ifCond .ne 7, 3) := by decide +kernel
theorem dX2_get_9 : decode cX2_get 9 = .ok (.iconst 1, 1) := by decide +kernel
theorem dX2_get_10 : decode cX2_get 10 = .ok (.goto 23, 3) := by decide +kernel
theorem dX2_get_13 : decode cX2_get 13 = .ok (.aload_n 0, 1) := by decide +kernel
theorem dX2_get_14 : decode cX2_get 14 = .ok (.getfield 26, 3) := by decide +kernel
theorem dX2_get_17 : decode cX2_get 17 = .ok (.iload_n 1, 1) := by decide +kernel
theorem dX2_get_18 : decode cX2_get 18 = .ok (.iaload, 1) := by decide +kernel
theorem dX2_get_19 : decode cX2_get 19 = .ok (.aload_n 0, 1) := by decide +kernel
theorem dX2_get_20 : decode cX2_get 20 = .ok (.getfield 29, 3) := by decide +kernel
theorem dX2_get_23 : decode cX2_get 23 = .ok (.iload_n 1, 1) := by decide +kernel
theorem dX2_get_24 : decode cX2_get 24 = .ok (.iaload, 1) := by decide +kernel
theorem dX2_get_25 : decode cX2_get 25 = .ok (.if_icmp .ne 7, 3) := by decide +kernel
theorem dX2_get_28 : decode cX2_get 28 = .ok (.iconst 2, 1) := by decide +kernel
theorem dX2_get_29 : decode cX2_get 29 = .ok (.goto 4, 3) := by decide +kernel
theorem dX2_get_32 : decode cX2_get 32 = .ok (.iconst 0, 1) := by decide +kernel
theorem dX2_get_33 : decode cX2_get 33 = .ok (.putfield 48, 3) := by decide +kernel
theorem dX2_get_36 : decode cX2_get 36 = .ok (.aload_n 0, 1) := by decide +kernel
theorem dX2_get_37 : decode cX2_get 37 = .ok (.getfield 48, 3) := by decide +kernel
theorem dX2_get_40 : decode cX2_get 40 = .ok (.ifCond .le 5, 3) := by decide +kernel
theorem dX2_get_43 : decode cX2_get 43 = .ok (.lconst 0, 1) := by decide +kernel
theorem dX2_get_44 : decode cX2_get 44 = .ok (.lreturn, 1) := by decide +kernel
theorem dX2_get_45 : decode cX2_get 45 = .ok (.aload_n 0, 1) := by decide +kernel
theorem dX2_get_46 : decode cX2_get 46 = .ok (.getfield 26, 3) := by decide +kernel
theorem dX2_get_49 : decode cX2_get 49 = .ok (.iload_n 1, 1) := by decide +kernel
theorem dX2_get_50 : decode cX2_get 50 = .ok (.dup2, 1) := by decide +kernel
theorem dX2_get_51 : decode cX2_get 51 = .ok (.iaload, 1) := by decide +kernel
theorem dX2_get_52 : decode cX2_get 52 = .ok (.iconst 1, 1) := by decide +kernel
theorem dX2_get_53 : decode cX2_get 53 = .ok (.iadd, 1) := by decide +kernel
theorem dX2_get_54 : decode cX2_get 54 = .ok (.iastore, 1) := by decide +kernel
theorem dX2_get_55 : decode cX2_get 55 = .ok (.aload_n 0, 1) := by decide +kernel
theorem dX2_get_56 : decode cX2_get 56 = .ok (.iload_n 1, 1) := by decide +kernel
theorem dX2_get_57 : decode cX2_get 57 = .ok (.aload_n 0, 1) := by decide +kernel
theorem dX2_get_58 : decode cX2_get 58 = .ok (.getfield 26, 3) := by decide +kernel
theorem dX2_get_61 : decode cX2_get 61 = .ok (.iload_n 1, 1) := by decide +kernel
theorem dX2_get_62 : decode cX2_get 62 = .ok (.iaload, 1) := by decide +kernel
theorem dX2_get_63 : decode cX2_get 63 = .ok (.iconst 1, 1) := by decide +kernel
theorem dX2_get_64 : decode cX2_get 64 = .ok (.isub, 1) := by decide +kernel
theorem dX2_get_65 : decode cX2_get 65 = .ok (.invokevirtual 81, 3) := by decide +kernel
theorem dX2_get_68 : decode cX2_get 68 = .ok (.lreturn, 1) := by decide +kernel
set_option maxRecDepth 20000 in
theorem ggX2_put_X2_is : GoodIn wsX2_put wsX2_is := goodIn_ca (goodIn_r _ [9, 10, 11, 12, 8, 13, 22, 23, 24, 25, 26, 27, 28, 29, 30, 31, 32, 33, 34] (by decide +kernel) (by decide +kernel)) (goodIn_sub (fun _ h => List.mem_cons_of_mem _ (List.mem_append_right _ h)) (by decide +kernel))
set_option maxRecDepth 20000 in
theorem gX2_put_X2_is : GoodIn wsX2_put (wsV RX2 56 RX2 yX2_is wsX2_is) := goodIn_app (goodIn_of _ (by decide +kernel)) ggX2_put_X2_is
set_option maxRecDepth 20000 in
theorem ggX2_put_X2_lays : GoodIn wsX2_put wsX2_lays := goodIn_ca (goodIn_r _ [17, 10, 18, 19, 20, 21, 22, 23, 24, 25, 26, 27, 28, 29, 30, 31, 32, 33, 34] (by decide +kernel) (by decide +kernel)) (goodIn_sub (fun _ h => List.mem_cons_of_mem _ (List.mem_append_right _ h)) (by decide +kernel))
set_option maxRecDepth 20000 in
theorem gX2_put_X2_lays : GoodIn wsX2_put (wsV RX2 85 RX2 yX2_lays wsX2_lays) := goodIn_app (goodIn_of _ (by decide +kernel)) ggX2_put_X2_lays
theorem dX2_put_0 : decode cX2_put 0 = .ok (.aload_n 0, 1) := by decide +kernel
theorem dX2_put_1 : decode cX2_put 1 = .ok (.aload_n 0, 1) := by decide +kernel
theorem dX2_put_2 : decode cX2_put 2 = .ok (.iload_n 1, 1) := by decide +kernel
theorem dX2_put_3 : decode cX2_put 3 = .ok (.invokevirtual 56, 3) := by decide +kernel
theorem dX2_put_6 : decode cX2_put 6 = .ok (.ifCond .ne 7, 3) := by decide +kernel
theorem dX2_put_9 : decode cX2_put 9 = .ok (.iconst 1, 1) := by decide +kernel
theorem dX2_put_10 : decode cX2_put 10 = .ok (.goto 36, 3) := by decide +kernel
theorem dX2_put_13 : decode cX2_put 13 = .ok (.aload_n 0, 1) := by decide +kernel
theorem dX2_put_14 : decode cX2_put 14 = .ok (.getfield 35, 3) := by decide +kernel
theorem dX2_put_17 : decode cX2_put 17 = .ok (.iload_n 1, 1) := by decide +kernel
theorem dX2_put_18 : decode cX2_put 18 = .ok (.baload, 1) := by decide +kernel
theorem dX2_put_19 : decode cX2_put 19 = .ok (.ifCond .eq 7, 3) := by decide +kernel
theorem dX2_put_22 : decode cX2_put 22 = .ok (.iconst 2, 1) := by decide +kernel
theorem dX2_put_23 : decode cX2_put 23 = .ok (.goto 23, 3) := by decide +kernel
theorem dX2_put_26 : decode cX2_put 26 = .ok (.aload_n 0, 1) := by decide +kernel
theorem dX2_put_27 : decode cX2_put 27 = .ok (.getfield 26, 3) := by decide +kernel
theorem dX2_put_30 : decode cX2_put 30 = .ok (.iload_n 1, 1) := by decide +kernel
theorem dX2_put_31 : decode cX2_put 31 = .ok (.iaload, 1) := by decide +kernel
theorem dX2_put_32 : decode cX2_put 32 = .ok (.aload_n 0, 1) := by decide +kernel
theorem dX2_put_33 : decode cX2_put 33 = .ok (.getfield 29, 3) := by decide +kernel
theorem dX2_put_36 : decode cX2_put 36 = .ok (.iload_n 1, 1) := by decide +kernel
theorem dX2_put_37 : decode cX2_put 37 = .ok (.iaload, 1) := by decide +kernel
theorem dX2_put_38 : decode cX2_put 38 = .ok (.if_icmp .ne 7, 3) := by decide +kernel
theorem dX2_put_41 : decode cX2_put 41 = .ok (.iconst 3, 1) := by decide +kernel
theorem dX2_put_42 : decode cX2_put 42 = .ok (.goto 4, 3) := by decide +kernel
theorem dX2_put_45 : decode cX2_put 45 = .ok (.iconst 0, 1) := by decide +kernel
theorem dX2_put_46 : decode cX2_put 46 = .ok (.putfield 48, 3) := by decide +kernel
theorem dX2_put_49 : decode cX2_put 49 = .ok (.aload_n 0, 1) := by decide +kernel
theorem dX2_put_50 : decode cX2_put 50 = .ok (.getfield 48, 3) := by decide +kernel
theorem dX2_put_53 : decode cX2_put 53 = .ok (.ifCond .le 5, 3) := by decide +kernel
theorem dX2_put_56 : decode cX2_put 56 = .ok (.iconst 0, 1) := by decide +kernel
theorem dX2_put_57 : decode cX2_put 57 = .ok (.ireturn, 1) := by decide +kernel
theorem dX2_put_58 : decode cX2_put 58 = .ok (.aload_n 0, 1) := by decide +kernel
theorem dX2_put_59 : decode cX2_put 59 = .ok (.iload_n 1, 1) := by decide +kernel
theorem dX2_put_60 : decode cX2_put 60 = .ok (.aload_n 0, 1) := by decide +kernel
theorem dX2_put_61 : decode cX2_put 61 = .ok (.getfield 26, 3) := by decide +kernel
theorem dX2_put_64 : decode cX2_put 64 = .ok (.iload_n 1, 1) := by decide +kernel
theorem dX2_put_65 : decode cX2_put 65 = .ok (.iaload, 1) := by decide +kernel
theorem dX2_put_66 : decode cX2_put 66 = .ok (.lload_n 2, 1) := by decide +kernel
theorem dX2_put_67 : decode cX2_put 67 = .ok (.invokevirtual 85, 3) := by decide +kernel
theorem dX2_put_70 : decode cX2_put 70 = .ok (.aload_n 0, 1) := by decide +kernel
theorem dX2_put_71 : decode cX2_put 71 = .ok (.getfield 26, 3) := by decide +kernel
theorem dX2_put_74 : decode cX2_put 74 = .ok (.iload_n 1, 1) := by decide +kernel
theorem dX2_put_75 : decode cX2_put 75 = .ok (.dup2, 1) := by decide +kernel
theorem dX2_put_76 : decode cX2_put 76 = .ok (.iaload, 1) := by decide +kernel
theorem dX2_put_77 : decode cX2_put 77 = .ok (.iconst 1, 1) := by decide +kernel
theorem dX2_put_78 : decode cX2_put 78 = .ok (.iadd, 1) := by decide +kernel
theorem dX2_put_79 : decode cX2_put 79 = .ok (.iastore, 1) := by decide +kernel
theorem dX2_put_80 : decode cX2_put 80 = .ok (.aload_n 0, 1) := by decide +kernel
theorem dX2_put_81 : decode cX2_put 81 = .ok (.getfield 26, 3) := by decide +kernel
theorem dX2_put_84 : decode cX2_put 84 = .ok (.iload_n 1, 1) := by decide +kernel
theorem dX2_put_85 : decode cX2_put 85 = .ok (.iaload, 1) := by decide +kernel
theorem dX2_put_86 : decode cX2_put 86 = .ok (.ireturn, 1) := by decide +kernel
set_option maxRecDepth 20000 in
theorem ggX2_getAt_X2_is : GoodIn wsX2_getAt wsX2_is := goodIn_ca (goodIn_r _ [7, 8, 9, 10, 6, 11, 19, 20, 21, 22, 23, 24, 25, 26, 27, 28, 29, 30, 31] (by decide +kernel) (by decide +kernel)) (goodIn_sub (fun _ h => List.mem_cons_of_mem _ (List.mem_append_right _ h)) (by decide +kernel))
set_option maxRecDepth 20000 in
theorem gX2_getAt_X2_is : GoodIn wsX2_getAt (wsV RX2 56 RX2 yX2_is wsX2_is) := goodIn_app (goodIn_of _ (by decide +kernel)) ggX2_getAt_X2_is
set_option maxRecDepth 20000 in
theorem ggX2_getAt_X2_in : GoodIn wsX2_getAt wsX2_in := goodIn_r _ [11] (by decide +kernel) (by decide +kernel)
set_option maxRecDepth 20000 in
theorem gX2_getAt_X2_in : GoodIn wsX2_getAt (va_wsS RX2 52 yX2_in wsX2_in) := goodIn_app (goodIn_of _ (by decide +kernel)) ggX2_getAt_X2_in
set_option maxRecDepth 20000 in
theorem ggX2_getAt_X2_value : GoodIn wsX2_getAt wsX2_value := goodIn_ca (goodIn_r _ [15, 16, 17, 18, 19, 20, 21, 22, 23, 24, 25, 26, 27, 28, 29, 30, 31] (by decide +kernel) (by decide +kernel)) (goodIn_sub (fun _ h => List.mem_cons_of_mem _ (List.mem_append_right _ h)) (by decide +kernel))
set_option maxRecDepth 20000 in
theorem gX2_getAt_X2_value : GoodIn wsX2_getAt (wsV RX2 81 RX2 yX2_value wsX2_value) := goodIn_app (goodIn_of _ (by decide +kernel)) ggX2_getAt_X2_value
theorem dX2_getAt_0 : decode cX2_getAt 0 = .ok (.aload_n 0, 1) := by decide +kernel
theorem dX2_getAt_1 : decode cX2_getAt 1 = .ok (.aload_n 0, 1) := by decide +kernel
theorem dX2_getAt_2 : decode cX2_getAt 2 = .ok (.iload_n 1, 1) := by decide +kernel
theorem dX2_getAt_3 : decode cX2_getAt 3 = .ok (.invokevirtual 56, 3) := by decide +kernel
theorem dX2_getAt_6 : decode cX2_getAt 6 = .ok (.ifCond .eq 23, 3) := by decide +kernel
theorem dX2_getAt_9 : decode cX2_getAt 9 = .ok (.iload_n 2, 1) := by decide +kernel
theorem dX2_getAt_10 : decode cX2_getAt 10 = .ok (.iconst 0, 1) := by decide +kernel
theorem dX2_getAt_11 : decode cX2_getAt 11 = .ok (.aload_n 0, 1) := by decide +kernel
theorem dX2_getAt_12 : decode cX2_getAt 12 = .ok (.getfield 29, 3) := by decide +kernel
theorem dX2_getAt_15 : decode cX2_getAt 15 = .ok (.iload_n 1, 1) := by decide +kernel
theorem dX2_getAt_16 : decode cX2_getAt 16 = .ok (.iaload, 1) := by decide +kernel
theorem dX2_getAt_17 : decode cX2_getAt 17 = .ok (.iconst 1, 1) := by decide +kernel
theorem dX2_getAt_18 : decode cX2_getAt 18 = .ok (.isub, 1) := by decide +kernel
theorem dX2_getAt_19 : decode cX2_getAt 19 = .ok (.invokestatic 52, 3) := by decide +kernel
theorem dX2_getAt_22 : decode cX2_getAt 22 = .ok (.ifCond .eq 7, 3) := by decide +kernel
theorem dX2_getAt_25 : decode cX2_getAt 25 = .ok (.iconst 0, 1) := by decide +kernel
theorem dX2_getAt_26 : decode cX2_getAt 26 = .ok (.goto 4, 3) := by decide +kernel
theorem dX2_getAt_29 : decode cX2_getAt 29 = .ok (.iconst 1, 1) := by decide +kernel
theorem dX2_getAt_30 : decode cX2_getAt 30 = .ok (.putfield 48, 3) := by decide +kernel
theorem dX2_getAt_33 : decode cX2_getAt 33 = .ok (.aload_n 0, 1) := by decide +kernel
theorem dX2_getAt_34 : decode cX2_getAt 34 = .ok (.getfield 48, 3) := by decide +kernel
theorem dX2_getAt_37 : decode cX2_getAt 37 = .ok (.ifCond .le 7, 3) := by decide +kernel
theorem dX2_getAt_40 : decode cX2_getAt 40 = .ok (.lconst 0, 1) := by decide +kernel
theorem dX2_getAt_41 : decode cX2_getAt 41 = .ok (.goto 9, 3) := by decide +kernel
theorem dX2_getAt_44 : decode cX2_getAt 44 = .ok (.aload_n 0, 1) := by decide +kernel
theorem dX2_getAt_45 : decode cX2_getAt 45 = .ok (.iload_n 1, 1) := by decide +kernel
theorem dX2_getAt_46 : decode cX2_getAt 46 = .ok (.iload_n 2, 1) := by decide +kernel
theorem dX2_getAt_47 : decode cX2_getAt 47 = .ok (.invokevirtual 81, 3) := by decide +kernel
theorem dX2_getAt_50 : decode cX2_getAt 50 = .ok (.lreturn, 1) := by decide +kernel
set_option maxRecDepth 20000 in
theorem ggX2_putAt_X2_is : GoodIn wsX2_putAt wsX2_is := goodIn_ca (goodIn_r _ [8, 9, 10, 11, 7, 12, 25, 26, 27, 28, 29, 30, 31, 32, 33, 34, 35, 36, 37] (by decide +kernel) (by decide +kernel)) (goodIn_sub (fun _ h => List.mem_cons_of_mem _ (List.mem_append_right _ h)) (by decide +kernel))
set_option maxRecDepth 20000 in
theorem gX2_putAt_X2_is : GoodIn wsX2_putAt (wsV RX2 56 RX2 yX2_is wsX2_is) := goodIn_app (goodIn_of _ (by decide +kernel)) ggX2_putAt_X2_is
set_option maxRecDepth 20000 in
theorem ggX2_putAt_X2_in : GoodIn wsX2_putAt wsX2_in := goodIn_r _ [12] (by decide +kernel) (by decide +kernel)
set_option maxRecDepth 20000 in
theorem gX2_putAt_X2_in : GoodIn wsX2_putAt (va_wsS RX2 52 yX2_in wsX2_in) := goodIn_app (goodIn_of _ (by decide +kernel)) ggX2_putAt_X2_in
set_option maxRecDepth 20000 in
theorem ggX2_putAt_X2_value : GoodIn wsX2_putAt wsX2_value := goodIn_ca (goodIn_r _ [16, 17, 18, 19, 25, 26, 27, 28, 29, 30, 31, 32, 33, 34, 35, 36, 37] (by decide +kernel) (by decide +kernel)) (goodIn_sub (fun _ h => List.mem_cons_of_mem _ (List.mem_append_right _ h)) (by decide +kernel))
set_option maxRecDepth 20000 in
theorem gX2_putAt_X2_value : GoodIn wsX2_putAt (wsV RX2 81 RX2 yX2_value wsX2_value) := goodIn_app (goodIn_of _ (by decide +kernel)) ggX2_putAt_X2_value
set_option maxRecDepth 20000 in
theorem ggX2_putAt_X2_lays : GoodIn wsX2_putAt wsX2_lays := goodIn_ca (goodIn_r _ [23, 9, 24, 17, 18, 19, 25, 26, 27, 28, 29, 30, 31, 32, 33, 34, 35, 36, 37] (by decide +kernel) (by decide +kernel)) (goodIn_sub (fun _ h => List.mem_cons_of_mem _ (List.mem_append_right _ h)) (by decide +kernel))
set_option maxRecDepth 20000 in
theorem gX2_putAt_X2_lays : GoodIn wsX2_putAt (wsV RX2 85 RX2 yX2_lays wsX2_lays) := goodIn_app (goodIn_of _ (by decide +kernel)) ggX2_putAt_X2_lays
theorem dX2_putAt_0 : decode cX2_putAt 0 = .ok (.aload_n 0, 1) := by decide +kernel
theorem dX2_putAt_1 : decode cX2_putAt 1 = .ok (.aload_n 0, 1) := by decide +kernel
theorem dX2_putAt_2 : decode cX2_putAt 2 = .ok (.iload_n 1, 1) := by decide +kernel
theorem dX2_putAt_3 : decode cX2_putAt 3 = .ok (.invokevirtual 56, 3) := by decide +kernel
theorem dX2_putAt_6 : decode cX2_putAt 6 = .ok (.ifCond .eq 19, 3) := by decide +kernel
theorem dX2_putAt_9 : decode cX2_putAt 9 = .ok (.iload_n 2, 1) := by decide +kernel
theorem dX2_putAt_10 : decode cX2_putAt 10 = .ok (.iconst 0, 1) := by decide +kernel
theorem dX2_putAt_11 : decode cX2_putAt 11 = .ok (.aload_n 0, 1) := by decide +kernel
theorem dX2_putAt_12 : decode cX2_putAt 12 = .ok (.getfield 29, 3) := by decide +kernel
theorem dX2_putAt_15 : decode cX2_putAt 15 = .ok (.iload_n 1, 1) := by decide +kernel
theorem dX2_putAt_16 : decode cX2_putAt 16 = .ok (.iaload, 1) := by decide +kernel
theorem dX2_putAt_17 : decode cX2_putAt 17 = .ok (.iconst 1, 1) := by decide +kernel
theorem dX2_putAt_18 : decode cX2_putAt 18 = .ok (.isub, 1) := by decide +kernel
theorem dX2_putAt_19 : decode cX2_putAt 19 = .ok (.invokestatic 52, 3) := by decide +kernel
theorem dX2_putAt_22 : decode cX2_putAt 22 = .ok (.ifCond .ne 7, 3) := by decide +kernel
theorem dX2_putAt_25 : decode cX2_putAt 25 = .ok (.iconst 1, 1) := by decide +kernel
theorem dX2_putAt_26 : decode cX2_putAt 26 = .ok (.goto 17, 3) := by decide +kernel
theorem dX2_putAt_29 : decode cX2_putAt 29 = .ok (.aload_n 0, 1) := by decide +kernel
theorem dX2_putAt_30 : decode cX2_putAt 30 = .ok (.getfield 35, 3) := by decide +kernel
theorem dX2_putAt_33 : decode cX2_putAt 33 = .ok (.iload_n 1, 1) := by decide +kernel
theorem dX2_putAt_34 : decode cX2_putAt 34 = .ok (.baload, 1) := by decide +kernel
theorem dX2_putAt_35 : decode cX2_putAt 35 = .ok (.ifCond .eq 7, 3) := by decide +kernel
theorem dX2_putAt_38 : decode cX2_putAt 38 = .ok (.iconst 2, 1) := by decide +kernel
theorem dX2_putAt_39 : decode cX2_putAt 39 = .ok (.goto 4, 3) := by decide +kernel
theorem dX2_putAt_42 : decode cX2_putAt 42 = .ok (.iconst 0, 1) := by decide +kernel
theorem dX2_putAt_43 : decode cX2_putAt 43 = .ok (.putfield 48, 3) := by decide +kernel
theorem dX2_putAt_46 : decode cX2_putAt 46 = .ok (.aload_n 0, 1) := by decide +kernel
theorem dX2_putAt_47 : decode cX2_putAt 47 = .ok (.getfield 48, 3) := by decide +kernel
theorem dX2_putAt_50 : decode cX2_putAt 50 = .ok (.ifCond .le 5, 3) := by decide +kernel
theorem dX2_putAt_53 : decode cX2_putAt 53 = .ok (.lconst 0, 1) := by decide +kernel
theorem dX2_putAt_54 : decode cX2_putAt 54 = .ok (.lreturn, 1) := by decide +kernel
theorem dX2_putAt_55 : decode cX2_putAt 55 = .ok (.aload_n 0, 1) := by decide +kernel
theorem dX2_putAt_56 : decode cX2_putAt 56 = .ok (.iload_n 1, 1) := by decide +kernel
theorem dX2_putAt_57 : decode cX2_putAt 57 = .ok (.iload_n 2, 1) := by decide +kernel
theorem dX2_putAt_58 : decode cX2_putAt 58 = .ok (.invokevirtual 81, 3) := by decide +kernel
theorem dX2_putAt_61 : decode cX2_putAt 61 = .ok (.lstore 5, 2) := by decide +kernel
theorem dX2_putAt_63 : decode cX2_putAt 63 = .ok (.aload_n 0, 1) := by decide +kernel
theorem dX2_putAt_64 : decode cX2_putAt 64 = .ok (.iload_n 1, 1) := by decide +kernel
theorem dX2_putAt_65 : decode cX2_putAt 65 = .ok (.iload_n 2, 1) := by decide +kernel
theorem dX2_putAt_66 : decode cX2_putAt 66 = .ok (.lload_n 3, 1) := by decide +kernel
theorem dX2_putAt_67 : decode cX2_putAt 67 = .ok (.invokevirtual 85, 3) := by decide +kernel
theorem dX2_putAt_70 : decode cX2_putAt 70 = .ok (.lload 5, 2) := by decide +kernel
theorem dX2_putAt_72 : decode cX2_putAt 72 = .ok (.lreturn, 1) := by decide +kernel
set_option maxRecDepth 20000 in
theorem ggX2_fill_X2_is : GoodIn wsX2_fill wsX2_is := goodIn_ca (goodIn_r _ [9, 10, 11, 12, 8, 13, 22, 23, 24, 25, 26, 27, 28, 29, 30, 31, 32, 33, 34] (by decide +kernel) (by decide +kernel)) (goodIn_sub (fun _ h => List.mem_cons_of_mem _ (List.mem_append_right _ h)) (by decide +kernel))
set_option maxRecDepth 20000 in
theorem gX2_fill_X2_is : GoodIn wsX2_fill (wsV RX2 56 RX2 yX2_is wsX2_is) := goodIn_app (goodIn_of _ (by decide +kernel)) ggX2_fill_X2_is
set_option maxRecDepth 20000 in
theorem ggX2_fill_X2_lays : GoodIn wsX2_fill wsX2_lays := goodIn_ca (goodIn_r _ [17, 10, 18, 19, 20, 21, 22, 23, 24, 25, 26, 27, 28, 29, 30, 31, 32, 33, 34] (by decide +kernel) (by decide +kernel)) (goodIn_sub (fun _ h => List.mem_cons_of_mem _ (List.mem_append_right _ h)) (by decide +kernel))
set_option maxRecDepth 20000 in
theorem gX2_fill_X2_lays : GoodIn wsX2_fill (wsV RX2 85 RX2 yX2_lays wsX2_lays) := goodIn_app (goodIn_of _ (by decide +kernel)) ggX2_fill_X2_lays
theorem dX2_fill_0 : decode cX2_fill 0 = .ok (.aload_n 0, 1) := by decide +kernel
theorem dX2_fill_1 : decode cX2_fill 1 = .ok (.aload_n 0, 1) := by decide +kernel
theorem dX2_fill_2 : decode cX2_fill 2 = .ok (.iload_n 1, 1) := by decide +kernel
theorem dX2_fill_3 : decode cX2_fill 3 = .ok (.invokevirtual 56, 3) := by decide +kernel
theorem dX2_fill_6 : decode cX2_fill 6 = .ok (.ifCond .ne 7, 3) := by decide +kernel
theorem dX2_fill_9 : decode cX2_fill 9 = .ok (.iconst 1, 1) := by decide +kernel
theorem dX2_fill_10 : decode cX2_fill 10 = .ok (.goto 46, 3) := by decide +kernel
theorem dX2_fill_13 : decode cX2_fill 13 = .ok (.iload_n 2, 1) := by decide +kernel
theorem dX2_fill_14 : decode cX2_fill 14 = .ok (.ifCond .ge 7, 3) := by decide +kernel
theorem dX2_fill_17 : decode cX2_fill 17 = .ok (.iconst 2, 1) := by decide +kernel
theorem dX2_fill_18 : decode cX2_fill 18 = .ok (.goto 38, 3) := by decide +kernel
theorem dX2_fill_21 : decode cX2_fill 21 = .ok (.aload_n 0, 1) := by decide +kernel
theorem dX2_fill_22 : decode cX2_fill 22 = .ok (.getfield 35, 3) := by decide +kernel
theorem dX2_fill_25 : decode cX2_fill 25 = .ok (.iload_n 1, 1) := by decide +kernel
theorem dX2_fill_26 : decode cX2_fill 26 = .ok (.baload, 1) := by decide +kernel
theorem dX2_fill_27 : decode cX2_fill 27 = .ok (.ifCond .eq 7, 3) := by decide +kernel
theorem dX2_fill_30 : decode cX2_fill 30 = .ok (.iconst 3, 1) := by decide +kernel
theorem dX2_fill_31 : decode cX2_fill 31 = .ok (.goto 25, 3) := by decide +kernel
theorem dX2_fill_34 : decode cX2_fill 34 = .ok (.iload_n 2, 1) := by decide +kernel
theorem dX2_fill_35 : decode cX2_fill 35 = .ok (.aload_n 0, 1) := by decide +kernel
theorem dX2_fill_36 : decode cX2_fill 36 = .ok (.getfield 29, 3) := by decide +kernel
theorem dX2_fill_39 : decode cX2_fill 39 = .ok (.iload_n 1, 1) := by decide +kernel
theorem dX2_fill_40 : decode cX2_fill 40 = .ok (.iaload, 1) := by decide +kernel
theorem dX2_fill_41 : decode cX2_fill 41 = .ok (.aload_n 0, 1) := by decide +kernel
theorem dX2_fill_42 : decode cX2_fill 42 = .ok (.getfield 26, 3) := by decide +kernel
theorem dX2_fill_45 : decode cX2_fill 45 = .ok (.iload_n 1, 1) := by decide +kernel
theorem dX2_fill_46 : decode cX2_fill 46 = .ok (.iaload, 1) := by decide +kernel
theorem dX2_fill_47 : decode cX2_fill 47 = .ok (.isub, 1) := by decide +kernel
theorem dX2_fill_48 : decode cX2_fill 48 = .ok (.if_icmp .le 7, 3) := by decide +kernel
theorem dX2_fill_51 : decode cX2_fill 51 = .ok (.iconst 4, 1) := by decide +kernel
theorem dX2_fill_52 : decode cX2_fill 52 = .ok (.goto 4, 3) := by decide +kernel
theorem dX2_fill_55 : decode cX2_fill 55 = .ok (.iconst 0, 1) := by decide +kernel
theorem dX2_fill_56 : decode cX2_fill 56 = .ok (.putfield 48, 3) := by decide +kernel
theorem dX2_fill_59 : decode cX2_fill 59 = .ok (.aload_n 0, 1) := by decide +kernel
theorem dX2_fill_60 : decode cX2_fill 60 = .ok (.getfield 48, 3) := by decide +kernel
theorem dX2_fill_63 : decode cX2_fill 63 = .ok (.ifCond .le 5, 3) := by decide +kernel
theorem dX2_fill_66 : decode cX2_fill 66 = .ok (.iconst 0, 1) := by decide +kernel
theorem dX2_fill_67 : decode cX2_fill 67 = .ok (.ireturn, 1) := by decide +kernel
theorem dX2_fill_68 : decode cX2_fill 68 = .ok (.iconst 0, 1) := by decide +kernel
theorem dX2_fill_69 : decode cX2_fill 69 = .ok (.istore 7, 2) := by decide +kernel
theorem dX2_fill_71 : decode cX2_fill 71 = .ok (.iload 7, 2) := by decide +kernel
theorem dX2_fill_73 : decode cX2_fill 73 = .ok (.iload_n 2, 1) := by decide +kernel
theorem dX2_fill_74 : decode cX2_fill 74 = .ok (.if_icmp .ge 38, 3) := by decide +kernel
theorem dX2_fill_77 : decode cX2_fill 77 = .ok (.aload_n 0, 1) := by decide +kernel
theorem dX2_fill_78 : decode cX2_fill 78 = .ok (.iload_n 1, 1) := by decide +kernel
theorem dX2_fill_79 : decode cX2_fill 79 = .ok (.aload_n 0, 1) := by decide +kernel
theorem dX2_fill_80 : decode cX2_fill 80 = .ok (.getfield 26, 3) := by decide +kernel
theorem dX2_fill_83 : decode cX2_fill 83 = .ok (.iload_n 1, 1) := by decide +kernel
theorem dX2_fill_84 : decode cX2_fill 84 = .ok (.iaload, 1) := by decide +kernel
theorem dX2_fill_85 : decode cX2_fill 85 = .ok (.lload_n 3, 1) := by decide +kernel
theorem dX2_fill_86 : decode cX2_fill 86 = .ok (.iload 7, 2) := by decide +kernel
theorem dX2_fill_88 : decode cX2_fill 88 = .ok (.i2l, 1) := by decide +kernel
theorem dX2_fill_89 : decode cX2_fill 89 = .ok (.lload 5, 2) := by decide +kernel
theorem dX2_fill_91 : decode cX2_fill 91 = .ok (.lmul, 1) := by decide +kernel
theorem dX2_fill_92 : decode cX2_fill 92 = .ok (.ladd, 1) := by decide +kernel
theorem dX2_fill_93 : decode cX2_fill 93 = .ok (.invokevirtual 85, 3) := by decide +kernel
theorem dX2_fill_96 : decode cX2_fill 96 = .ok (.aload_n 0, 1) := by decide +kernel
theorem dX2_fill_97 : decode cX2_fill 97 = .ok (.getfield 26, 3) := by decide +kernel
theorem dX2_fill_100 : decode cX2_fill 100 = .ok (.iload_n 1, 1) := by decide +kernel
theorem dX2_fill_101 : decode cX2_fill 101 = .ok (.dup2, 1) := by decide +kernel
theorem dX2_fill_102 : decode cX2_fill 102 = .ok (.iaload, 1) := by decide +kernel
theorem dX2_fill_103 : decode cX2_fill 103 = .ok (.iconst 1, 1) := by decide +kernel
theorem dX2_fill_104 : decode cX2_fill 104 = .ok (.iadd, 1) := by decide +kernel
theorem dX2_fill_105 : decode cX2_fill 105 = .ok (.iastore, 1) := by decide +kernel
theorem dX2_fill_106 : decode cX2_fill 106 = .ok (.iinc 7 1, 3) := by decide +kernel
theorem dX2_fill_109 : decode cX2_fill 109 = .ok (.goto (-38), 3) := by decide +kernel
theorem dX2_fill_112 : decode cX2_fill 112 = .ok (.aload_n 0, 1) := by decide +kernel
theorem dX2_fill_113 : decode cX2_fill 113 = .ok (.getfield 26, 3) := by decide +kernel
theorem dX2_fill_116 : decode cX2_fill 116 = .ok (.iload_n 1, 1) := by decide +kernel
theorem dX2_fill_117 : decode cX2_fill 117 = .ok (.iaload, 1) := by decide +kernel
theorem dX2_fill_118 : decode cX2_fill 118 = .ok (.ireturn, 1) := by decide +kernel
set_option maxRecDepth 20000 in
theorem ggX2_pour_X2_is : GoodIn wsX2_pour wsX2_is := goodIn_ca (goodIn_r _ [9, 10, 11, 12, 8, 13, 26, 27, 28, 29, 30, 31, 32, 33, 34, 35, 36, 37, 38] (by decide +kernel) (by decide +kernel)) (goodIn_sub (fun _ h => List.mem_cons_of_mem _ (List.mem_append_right _ h)) (by decide +kernel))
set_option maxRecDepth 20000 in
theorem gX2_pour_X2_is : GoodIn wsX2_pour (wsV RX2 56 RX2 yX2_is wsX2_is) := goodIn_app (goodIn_of _ (by decide +kernel)) ggX2_pour_X2_is
set_option maxRecDepth 20000 in
theorem ggX2_pour_X2_value : GoodIn wsX2_pour wsX2_value := goodIn_ca (goodIn_r _ [17, 18, 19, 20, 26, 27, 28, 29, 30, 31, 32, 33, 34, 35, 36, 37, 38] (by decide +kernel) (by decide +kernel)) (goodIn_sub (fun _ h => List.mem_cons_of_mem _ (List.mem_append_right _ h)) (by decide +kernel))
set_option maxRecDepth 20000 in
theorem gX2_pour_X2_value : GoodIn wsX2_pour (wsV RX2 81 RX2 yX2_value wsX2_value) := goodIn_app (goodIn_of _ (by decide +kernel)) ggX2_pour_X2_value
set_option maxRecDepth 20000 in
theorem ggX2_pour_X2_lays : GoodIn wsX2_pour wsX2_lays := goodIn_ca (goodIn_r _ [24, 10, 25, 18, 19, 20, 26, 27, 28, 29, 30, 31, 32, 33, 34, 35, 36, 37, 38] (by decide +kernel) (by decide +kernel)) (goodIn_sub (fun _ h => List.mem_cons_of_mem _ (List.mem_append_right _ h)) (by decide +kernel))
set_option maxRecDepth 20000 in
theorem gX2_pour_X2_lays : GoodIn wsX2_pour (wsV RX2 85 RX2 yX2_lays wsX2_lays) := goodIn_app (goodIn_of _ (by decide +kernel)) ggX2_pour_X2_lays
theorem dX2_pour_0 : decode cX2_pour 0 = .ok (.aload_n 0, 1) := by decide +kernel
theorem dX2_pour_1 : decode cX2_pour 1 = .ok (.iload_n 1, 1) := by decide +kernel
theorem dX2_pour_2 : decode cX2_pour 2 = .ok (.invokevirtual 56, 3) := by decide +kernel
theorem dX2_pour_5 : decode cX2_pour 5 = .ok (.ifCond .eq 15, 3) := by decide +kernel
theorem dX2_pour_8 : decode cX2_pour 8 = .ok (.aload_n 0, 1) := by decide +kernel
theorem dX2_pour_9 : decode cX2_pour 9 = .ok (.iload_n 2, 1) := by decide +kernel
theorem dX2_pour_10 : decode cX2_pour 10 = .ok (.invokevirtual 56, 3) := by decide +kernel
theorem dX2_pour_13 : decode cX2_pour 13 = .ok (.ifCond .eq 7, 3) := by decide +kernel
theorem dX2_pour_16 : decode cX2_pour 16 = .ok (.iconst 1, 1) := by decide +kernel
theorem dX2_pour_17 : decode cX2_pour 17 = .ok (.goto 4, 3) := by decide +kernel
theorem dX2_pour_20 : decode cX2_pour 20 = .ok (.iconst 0, 1) := by decide +kernel
theorem dX2_pour_21 : decode cX2_pour 21 = .ok (.istore 4, 2) := by decide +kernel
theorem dX2_pour_23 : decode cX2_pour 23 = .ok (.aload_n 0, 1) := by decide +kernel
theorem dX2_pour_24 : decode cX2_pour 24 = .ok (.iload 4, 2) := by decide +kernel
theorem dX2_pour_26 : decode cX2_pour 26 = .ok (.ifCond .ne 7, 3) := by decide +kernel
theorem dX2_pour_29 : decode cX2_pour 29 = .ok (.iconst 1, 1) := by decide +kernel
theorem dX2_pour_30 : decode cX2_pour 30 = .ok (.goto 72, 3) := by decide +kernel
theorem dX2_pour_33 : decode cX2_pour 33 = .ok (.iload_n 1, 1) := by decide +kernel
theorem dX2_pour_34 : decode cX2_pour 34 = .ok (.iload_n 2, 1) := by decide +kernel
theorem dX2_pour_35 : decode cX2_pour 35 = .ok (.if_icmp .eq 7, 3) := by decide +kernel
theorem dX2_pour_38 : decode cX2_pour 38 = .ok (.iload_n 3, 1) := by decide +kernel
theorem dX2_pour_39 : decode cX2_pour 39 = .ok (.ifCond .ge 7, 3) := by decide +kernel
theorem dX2_pour_42 : decode cX2_pour 42 = .ok (.iconst 2, 1) := by decide +kernel
theorem dX2_pour_43 : decode cX2_pour 43 = .ok (.goto 59, 3) := by decide +kernel
theorem dX2_pour_46 : decode cX2_pour 46 = .ok (.aload_n 0, 1) := by decide +kernel
theorem dX2_pour_47 : decode cX2_pour 47 = .ok (.getfield 35, 3) := by decide +kernel
theorem dX2_pour_50 : decode cX2_pour 50 = .ok (.iload_n 2, 1) := by decide +kernel
theorem dX2_pour_51 : decode cX2_pour 51 = .ok (.baload, 1) := by decide +kernel
theorem dX2_pour_52 : decode cX2_pour 52 = .ok (.ifCond .eq 7, 3) := by decide +kernel
theorem dX2_pour_55 : decode cX2_pour 55 = .ok (.iconst 3, 1) := by decide +kernel
theorem dX2_pour_56 : decode cX2_pour 56 = .ok (.goto 46, 3) := by decide +kernel
theorem dX2_pour_59 : decode cX2_pour 59 = .ok (.iload_n 3, 1) := by decide +kernel
theorem dX2_pour_60 : decode cX2_pour 60 = .ok (.aload_n 0, 1) := by decide +kernel
theorem dX2_pour_61 : decode cX2_pour 61 = .ok (.getfield 29, 3) := by decide +kernel
theorem dX2_pour_64 : decode cX2_pour 64 = .ok (.iload_n 1, 1) := by decide +kernel
theorem dX2_pour_65 : decode cX2_pour 65 = .ok (.iaload, 1) := by decide +kernel
theorem dX2_pour_66 : decode cX2_pour 66 = .ok (.aload_n 0, 1) := by decide +kernel
theorem dX2_pour_67 : decode cX2_pour 67 = .ok (.getfield 26, 3) := by decide +kernel
theorem dX2_pour_70 : decode cX2_pour 70 = .ok (.iload_n 1, 1) := by decide +kernel
theorem dX2_pour_71 : decode cX2_pour 71 = .ok (.iaload, 1) := by decide +kernel
theorem dX2_pour_72 : decode cX2_pour 72 = .ok (.isub, 1) := by decide +kernel
theorem dX2_pour_73 : decode cX2_pour 73 = .ok (.if_icmp .le 7, 3) := by decide +kernel
theorem dX2_pour_76 : decode cX2_pour 76 = .ok (.iconst 4, 1) := by decide +kernel
theorem dX2_pour_77 : decode cX2_pour 77 = .ok (.goto 25, 3) := by decide +kernel
theorem dX2_pour_80 : decode cX2_pour 80 = .ok (.iload_n 3, 1) := by decide +kernel
theorem dX2_pour_81 : decode cX2_pour 81 = .ok (.aload_n 0, 1) := by decide +kernel
theorem dX2_pour_82 : decode cX2_pour 82 = .ok (.getfield 29, 3) := by decide +kernel
theorem dX2_pour_85 : decode cX2_pour 85 = .ok (.iload_n 2, 1) := by decide +kernel
theorem dX2_pour_86 : decode cX2_pour 86 = .ok (.iaload, 1) := by decide +kernel
theorem dX2_pour_87 : decode cX2_pour 87 = .ok (.aload_n 0, 1) := by decide +kernel
theorem dX2_pour_88 : decode cX2_pour 88 = .ok (.getfield 26, 3) := by decide +kernel
theorem dX2_pour_91 : decode cX2_pour 91 = .ok (.iload_n 2, 1) := by decide +kernel
theorem dX2_pour_92 : decode cX2_pour 92 = .ok (.iaload, 1) := by decide +kernel
theorem dX2_pour_93 : decode cX2_pour 93 = .ok (.isub, 1) := by decide +kernel
theorem dX2_pour_94 : decode cX2_pour 94 = .ok (.if_icmp .le 7, 3) := by decide +kernel
theorem dX2_pour_97 : decode cX2_pour 97 = .ok (.iconst 5, 1) := by decide +kernel
theorem dX2_pour_98 : decode cX2_pour 98 = .ok (.goto 4, 3) := by decide +kernel
theorem dX2_pour_101 : decode cX2_pour 101 = .ok (.iconst 0, 1) := by decide +kernel
theorem dX2_pour_102 : decode cX2_pour 102 = .ok (.putfield 48, 3) := by decide +kernel
theorem dX2_pour_105 : decode cX2_pour 105 = .ok (.aload_n 0, 1) := by decide +kernel
theorem dX2_pour_106 : decode cX2_pour 106 = .ok (.getfield 48, 3) := by decide +kernel
theorem dX2_pour_109 : decode cX2_pour 109 = .ok (.ifCond .le 5, 3) := by decide +kernel
theorem dX2_pour_112 : decode cX2_pour 112 = .ok (.iconst 0, 1) := by decide +kernel
theorem dX2_pour_113 : decode cX2_pour 113 = .ok (.ireturn, 1) := by decide +kernel
theorem dX2_pour_114 : decode cX2_pour 114 = .ok (.iconst 0, 1) := by decide +kernel
theorem dX2_pour_115 : decode cX2_pour 115 = .ok (.istore 5, 2) := by decide +kernel
theorem dX2_pour_117 : decode cX2_pour 117 = .ok (.iload 5, 2) := by decide +kernel
theorem dX2_pour_119 : decode cX2_pour 119 = .ok (.iload_n 3, 1) := by decide +kernel
theorem dX2_pour_120 : decode cX2_pour 120 = .ok (.if_icmp .ge 51, 3) := by decide +kernel
theorem dX2_pour_123 : decode cX2_pour 123 = .ok (.aload_n 0, 1) := by decide +kernel
theorem dX2_pour_124 : decode cX2_pour 124 = .ok (.iload_n 2, 1) := by decide +kernel
theorem dX2_pour_125 : decode cX2_pour 125 = .ok (.aload_n 0, 1) := by decide +kernel
theorem dX2_pour_126 : decode cX2_pour 126 = .ok (.getfield 26, 3) := by decide +kernel
theorem dX2_pour_129 : decode cX2_pour 129 = .ok (.iload_n 2, 1) := by decide +kernel
theorem dX2_pour_130 : decode cX2_pour 130 = .ok (.iaload, 1) := by decide +kernel
theorem dX2_pour_131 : decode cX2_pour 131 = .ok (.aload_n 0, 1) := by decide +kernel
theorem dX2_pour_132 : decode cX2_pour 132 = .ok (.iload_n 1, 1) := by decide +kernel
theorem dX2_pour_133 : decode cX2_pour 133 = .ok (.aload_n 0, 1) := by decide +kernel
theorem dX2_pour_134 : decode cX2_pour 134 = .ok (.getfield 26, 3) := by decide +kernel
theorem dX2_pour_137 : decode cX2_pour 137 = .ok (.iload_n 1, 1) := by decide +kernel
theorem dX2_pour_138 : decode cX2_pour 138 = .ok (.iaload, 1) := by decide +kernel
theorem dX2_pour_139 : decode cX2_pour 139 = .ok (.invokevirtual 81, 3) := by decide +kernel
theorem dX2_pour_142 : decode cX2_pour 142 = .ok (.invokevirtual 85, 3) := by decide +kernel
theorem dX2_pour_145 : decode cX2_pour 145 = .ok (.aload_n 0, 1) := by decide +kernel
theorem dX2_pour_146 : decode cX2_pour 146 = .ok (.getfield 26, 3) := by decide +kernel
theorem dX2_pour_149 : decode cX2_pour 149 = .ok (.iload_n 1, 1) := by decide +kernel
theorem dX2_pour_150 : decode cX2_pour 150 = .ok (.dup2, 1) := by decide +kernel
theorem dX2_pour_151 : decode cX2_pour 151 = .ok (.iaload, 1) := by decide +kernel
theorem dX2_pour_152 : decode cX2_pour 152 = .ok (.iconst 1, 1) := by decide +kernel
theorem dX2_pour_153 : decode cX2_pour 153 = .ok (.iadd, 1) := by decide +kernel
theorem dX2_pour_154 : decode cX2_pour 154 = .ok (.iastore, 1) := by decide +kernel
theorem dX2_pour_155 : decode cX2_pour 155 = .ok (.aload_n 0, 1) := by decide +kernel
theorem dX2_pour_156 : decode cX2_pour 156 = .ok (.getfield 26, 3) := by decide +kernel
theorem dX2_pour_159 : decode cX2_pour 159 = .ok (.iload_n 2, 1) := by decide +kernel
theorem dX2_pour_160 : decode cX2_pour 160 = .ok (.dup2, 1) := by decide +kernel
theorem dX2_pour_161 : decode cX2_pour 161 = .ok (.iaload, 1) := by decide +kernel
theorem dX2_pour_162 : decode cX2_pour 162 = .ok (.iconst 1, 1) := by decide +kernel
theorem dX2_pour_163 : decode cX2_pour 163 = .ok (.iadd, 1) := by decide +kernel
theorem dX2_pour_164 : decode cX2_pour 164 = .ok (.iastore, 1) := by decide +kernel
theorem dX2_pour_165 : decode cX2_pour 165 = .ok (.iinc 5 1, 3) := by decide +kernel
theorem dX2_pour_168 : decode cX2_pour 168 = .ok (.goto (-51), 3) := by decide +kernel
theorem dX2_pour_171 : decode cX2_pour 171 = .ok (.aload_n 0, 1) := by decide +kernel
theorem dX2_pour_172 : decode cX2_pour 172 = .ok (.getfield 26, 3) := by decide +kernel
theorem dX2_pour_175 : decode cX2_pour 175 = .ok (.iload_n 2, 1) := by decide +kernel
theorem dX2_pour_176 : decode cX2_pour 176 = .ok (.iaload, 1) := by decide +kernel
theorem dX2_pour_177 : decode cX2_pour 177 = .ok (.ireturn, 1) := by decide +kernel
set_option maxRecDepth 20000 in
theorem ggX2_slice_X2_is : GoodIn wsX2_slice wsX2_is := goodIn_ca (goodIn_r _ [13, 2, 14, 15, 12, 16, 22, 23, 24, 25, 26, 27, 28, 29, 30, 31, 32, 33, 34] (by decide +kernel) (by decide +kernel)) (goodIn_sub (fun _ h => List.mem_cons_of_mem _ (List.mem_append_right _ h)) (by decide +kernel))
set_option maxRecDepth 20000 in
theorem gX2_slice_X2_is : GoodIn wsX2_slice (wsV RX2 56 RX2 yX2_is wsX2_is) := goodIn_app (goodIn_of _ (by decide +kernel)) ggX2_slice_X2_is
set_option maxRecDepth 20000 in
theorem ggX2_slice_X2_in : GoodIn wsX2_slice wsX2_in := goodIn_r _ [16] (by decide +kernel) (by decide +kernel)
set_option maxRecDepth 20000 in
theorem gX2_slice_X2_in : GoodIn wsX2_slice (va_wsS RX2 52 yX2_in wsX2_in) := goodIn_app (goodIn_of _ (by decide +kernel)) ggX2_slice_X2_in
set_option maxRecDepth 20000 in
theorem ggX2_slice_X2_becomes : GoodIn wsX2_slice wsX2_becomes := goodIn_ca (goodIn_r _ [20, 2, 3, 4, 8, 5, 6, 21, 7, 22, 23, 24, 25, 26, 27, 28, 29, 30, 31, 32, 33, 34] (by decide +kernel) (by decide +kernel)) (goodIn_sub (fun _ h => List.mem_cons_of_mem _ (List.mem_append_right _ h)) (by decide +kernel))
set_option maxRecDepth 20000 in
theorem gX2_slice_X2_becomes : GoodIn wsX2_slice (wsV RX2 68 RX2 yX2_becomes wsX2_becomes) := goodIn_app (goodIn_of _ (by decide +kernel)) ggX2_slice_X2_becomes
theorem dX2_slice_0 : decode cX2_slice 0 = .ok (.aload_n 0, 1) := by decide +kernel
theorem dX2_slice_1 : decode cX2_slice 1 = .ok (.aload_n 0, 1) := by decide +kernel
theorem dX2_slice_2 : decode cX2_slice 2 = .ok (.iload_n 1, 1) := by decide +kernel
theorem dX2_slice_3 : decode cX2_slice 3 = .ok (.invokevirtual 56, 3) := by decide +kernel
theorem dX2_slice_6 : decode cX2_slice 6 = .ok (.ifCond .eq 13, 3) := by decide +kernel
theorem dX2_slice_9 : decode cX2_slice 9 = .ok (.iload_n 2, 1) := by decide +kernel
theorem dX2_slice_10 : decode cX2_slice 10 = .ok (.iconst 0, 1) := by decide +kernel
theorem dX2_slice_11 : decode cX2_slice 11 = .ok (.bipush 7, 2) := by decide +kernel
theorem dX2_slice_13 : decode cX2_slice 13 = .ok (.invokestatic 52, 3) := by decide +kernel
theorem dX2_slice_16 : decode cX2_slice 16 = .ok (.ifCond .ne 7, 3) := by decide +kernel
theorem dX2_slice_19 : decode cX2_slice 19 = .ok (.iconst 1, 1) := by decide +kernel
theorem dX2_slice_20 : decode cX2_slice 20 = .ok (.goto 4, 3) := by decide +kernel
theorem dX2_slice_23 : decode cX2_slice 23 = .ok (.iconst 0, 1) := by decide +kernel
theorem dX2_slice_24 : decode cX2_slice 24 = .ok (.putfield 48, 3) := by decide +kernel
theorem dX2_slice_27 : decode cX2_slice 27 = .ok (.aload_n 0, 1) := by decide +kernel
theorem dX2_slice_28 : decode cX2_slice 28 = .ok (.getfield 48, 3) := by decide +kernel
theorem dX2_slice_31 : decode cX2_slice 31 = .ok (.ifCond .le 5, 3) := by decide +kernel
theorem dX2_slice_34 : decode cX2_slice 34 = .ok (.iconst 0, 1) := by decide +kernel
theorem dX2_slice_35 : decode cX2_slice 35 = .ok (.ireturn, 1) := by decide +kernel
theorem dX2_slice_36 : decode cX2_slice 36 = .ok (.aload_n 0, 1) := by decide +kernel
theorem dX2_slice_37 : decode cX2_slice 37 = .ok (.iload_n 2, 1) := by decide +kernel
theorem dX2_slice_38 : decode cX2_slice 38 = .ok (.aload_n 0, 1) := by decide +kernel
theorem dX2_slice_39 : decode cX2_slice 39 = .ok (.getfield 13, 3) := by decide +kernel
theorem dX2_slice_42 : decode cX2_slice 42 = .ok (.iload_n 1, 1) := by decide +kernel
theorem dX2_slice_43 : decode cX2_slice 43 = .ok (.iaload, 1) := by decide +kernel
theorem dX2_slice_44 : decode cX2_slice 44 = .ok (.aload_n 0, 1) := by decide +kernel
theorem dX2_slice_45 : decode cX2_slice 45 = .ok (.getfield 17, 3) := by decide +kernel
theorem dX2_slice_48 : decode cX2_slice 48 = .ok (.iload_n 1, 1) := by decide +kernel
theorem dX2_slice_49 : decode cX2_slice 49 = .ok (.iaload, 1) := by decide +kernel
theorem dX2_slice_50 : decode cX2_slice 50 = .ok (.aload_n 0, 1) := by decide +kernel
theorem dX2_slice_51 : decode cX2_slice 51 = .ok (.getfield 20, 3) := by decide +kernel
theorem dX2_slice_54 : decode cX2_slice 54 = .ok (.iload_n 1, 1) := by decide +kernel
theorem dX2_slice_55 : decode cX2_slice 55 = .ok (.iaload, 1) := by decide +kernel
theorem dX2_slice_56 : decode cX2_slice 56 = .ok (.aload_n 0, 1) := by decide +kernel
theorem dX2_slice_57 : decode cX2_slice 57 = .ok (.getfield 26, 3) := by decide +kernel
theorem dX2_slice_60 : decode cX2_slice 60 = .ok (.iload_n 1, 1) := by decide +kernel
theorem dX2_slice_61 : decode cX2_slice 61 = .ok (.iaload, 1) := by decide +kernel
theorem dX2_slice_62 : decode cX2_slice 62 = .ok (.iadd, 1) := by decide +kernel
theorem dX2_slice_63 : decode cX2_slice 63 = .ok (.aload_n 0, 1) := by decide +kernel
theorem dX2_slice_64 : decode cX2_slice 64 = .ok (.getfield 29, 3) := by decide +kernel
theorem dX2_slice_67 : decode cX2_slice 67 = .ok (.iload_n 1, 1) := by decide +kernel
theorem dX2_slice_68 : decode cX2_slice 68 = .ok (.iaload, 1) := by decide +kernel
theorem dX2_slice_69 : decode cX2_slice 69 = .ok (.aload_n 0, 1) := by decide +kernel
theorem dX2_slice_70 : decode cX2_slice 70 = .ok (.getfield 26, 3) := by decide +kernel
theorem dX2_slice_73 : decode cX2_slice 73 = .ok (.iload_n 1, 1) := by decide +kernel
theorem dX2_slice_74 : decode cX2_slice 74 = .ok (.iaload, 1) := by decide +kernel
theorem dX2_slice_75 : decode cX2_slice 75 = .ok (.isub, 1) := by decide +kernel
theorem dX2_slice_76 : decode cX2_slice 76 = .ok (.aload_n 0, 1) := by decide +kernel
theorem dX2_slice_77 : decode cX2_slice 77 = .ok (.getfield 35, 3) := by decide +kernel
theorem dX2_slice_80 : decode cX2_slice 80 = .ok (.iload_n 1, 1) := by decide +kernel
theorem dX2_slice_81 : decode cX2_slice 81 = .ok (.baload, 1) := by decide +kernel
theorem dX2_slice_82 : decode cX2_slice 82 = .ok (.invokevirtual 68, 3) := by decide +kernel
theorem dX2_slice_85 : decode cX2_slice 85 = .ok (.aload_n 0, 1) := by decide +kernel
theorem dX2_slice_86 : decode cX2_slice 86 = .ok (.getfield 23, 3) := by decide +kernel
theorem dX2_slice_89 : decode cX2_slice 89 = .ok (.iload_n 2, 1) := by decide +kernel
theorem dX2_slice_90 : decode cX2_slice 90 = .ok (.iaload, 1) := by decide +kernel
theorem dX2_slice_91 : decode cX2_slice 91 = .ok (.ireturn, 1) := by decide +kernel
set_option maxRecDepth 20000 in
theorem ggX2_sliceAt_X2_is : GoodIn wsX2_sliceAt wsX2_is := goodIn_ca (goodIn_r _ [11, 3, 12, 13, 10, 14, 22, 23, 24, 25, 26, 27, 28, 29, 30, 31, 32, 33, 34] (by decide +kernel) (by decide +kernel)) (goodIn_sub (fun _ h => List.mem_cons_of_mem _ (List.mem_append_right _ h)) (by decide +kernel))
set_option maxRecDepth 20000 in
theorem gX2_sliceAt_X2_is : GoodIn wsX2_sliceAt (wsV RX2 56 RX2 yX2_is wsX2_is) := goodIn_app (goodIn_of _ (by decide +kernel)) ggX2_sliceAt_X2_is
set_option maxRecDepth 20000 in
theorem ggX2_sliceAt_X2_in : GoodIn wsX2_sliceAt wsX2_in := goodIn_r _ [14] (by decide +kernel) (by decide +kernel)
set_option maxRecDepth 20000 in
theorem gX2_sliceAt_X2_in : GoodIn wsX2_sliceAt (va_wsS RX2 52 yX2_in wsX2_in) := goodIn_app (goodIn_of _ (by decide +kernel)) ggX2_sliceAt_X2_in
set_option maxRecDepth 20000 in
theorem ggX2_sliceAt_X2_becomes : GoodIn wsX2_sliceAt wsX2_becomes := goodIn_ca (goodIn_r _ [18, 3, 4, 5, 19, 20, 1, 21, 6, 22, 23, 24, 25, 26, 27, 28, 29, 30, 31, 32, 33, 34] (by decide +kernel) (by decide +kernel)) (goodIn_sub (fun _ h => List.mem_cons_of_mem _ (List.mem_append_right _ h)) (by decide +kernel))
set_option maxRecDepth 20000 in
theorem gX2_sliceAt_X2_becomes : GoodIn wsX2_sliceAt (wsV RX2 68 RX2 yX2_becomes wsX2_becomes) := goodIn_app (goodIn_of _ (by decide +kernel)) ggX2_sliceAt_X2_becomes
theorem dX2_sliceAt_0 : decode cX2_sliceAt 0 = .ok (.aload_n 0, 1) := by decide +kernel
theorem dX2_sliceAt_1 : decode cX2_sliceAt 1 = .ok (.iload_n 1, 1) := by decide +kernel
theorem dX2_sliceAt_2 : decode cX2_sliceAt 2 = .ok (.invokevirtual 56, 3) := by decide +kernel
theorem dX2_sliceAt_5 : decode cX2_sliceAt 5 = .ok (.ifCond .eq 48, 3) := by decide +kernel
theorem dX2_sliceAt_8 : decode cX2_sliceAt 8 = .ok (.iload_n 2, 1) := by decide +kernel
theorem dX2_sliceAt_9 : decode cX2_sliceAt 9 = .ok (.iconst 0, 1) := by decide +kernel
theorem dX2_sliceAt_10 : decode cX2_sliceAt 10 = .ok (.aload_n 0, 1) := by decide +kernel
theorem dX2_sliceAt_11 : decode cX2_sliceAt 11 = .ok (.getfield 29, 3) := by decide +kernel
theorem dX2_sliceAt_14 : decode cX2_sliceAt 14 = .ok (.iload_n 1, 1) := by decide +kernel
theorem dX2_sliceAt_15 : decode cX2_sliceAt 15 = .ok (.iaload, 1) := by decide +kernel
theorem dX2_sliceAt_16 : decode cX2_sliceAt 16 = .ok (.invokestatic 52, 3) := by decide +kernel
theorem dX2_sliceAt_19 : decode cX2_sliceAt 19 = .ok (.ifCond .eq 34, 3) := by decide +kernel
theorem dX2_sliceAt_22 : decode cX2_sliceAt 22 = .ok (.iload_n 3, 1) := by decide +kernel
theorem dX2_sliceAt_23 : decode cX2_sliceAt 23 = .ok (.iconst 0, 1) := by decide +kernel
theorem dX2_sliceAt_24 : decode cX2_sliceAt 24 = .ok (.aload_n 0, 1) := by decide +kernel
theorem dX2_sliceAt_25 : decode cX2_sliceAt 25 = .ok (.getfield 29, 3) := by decide +kernel
theorem dX2_sliceAt_28 : decode cX2_sliceAt 28 = .ok (.iload_n 1, 1) := by decide +kernel
theorem dX2_sliceAt_29 : decode cX2_sliceAt 29 = .ok (.iaload, 1) := by decide +kernel
theorem dX2_sliceAt_30 : decode cX2_sliceAt 30 = .ok (.iload_n 2, 1) := by decide +kernel
theorem dX2_sliceAt_31 : decode cX2_sliceAt 31 = .ok (.isub, 1) := by decide +kernel
theorem dX2_sliceAt_32 : decode cX2_sliceAt 32 = .ok (.invokestatic 52, 3) := by decide +kernel
theorem dX2_sliceAt_35 : decode cX2_sliceAt 35 = .ok (.ifCond .eq 18, 3) := by decide +kernel
theorem dX2_sliceAt_38 : decode cX2_sliceAt 38 = .ok (.iload 4, 2) := by decide +kernel
theorem dX2_sliceAt_40 : decode cX2_sliceAt 40 = .ok (.iconst 0, 1) := by decide +kernel
theorem dX2_sliceAt_41 : decode cX2_sliceAt 41 = .ok (.bipush 7, 2) := by decide +kernel
theorem dX2_sliceAt_43 : decode cX2_sliceAt 43 = .ok (.invokestatic 52, 3) := by decide +kernel
theorem dX2_sliceAt_46 : decode cX2_sliceAt 46 = .ok (.ifCond .eq 7, 3) := by decide +kernel
theorem dX2_sliceAt_49 : decode cX2_sliceAt 49 = .ok (.iconst 1, 1) := by decide +kernel
theorem dX2_sliceAt_50 : decode cX2_sliceAt 50 = .ok (.goto 4, 3) := by decide +kernel
theorem dX2_sliceAt_53 : decode cX2_sliceAt 53 = .ok (.iconst 0, 1) := by decide +kernel
theorem dX2_sliceAt_54 : decode cX2_sliceAt 54 = .ok (.istore 5, 2) := by decide +kernel
theorem dX2_sliceAt_56 : decode cX2_sliceAt 56 = .ok (.aload_n 0, 1) := by decide +kernel
theorem dX2_sliceAt_57 : decode cX2_sliceAt 57 = .ok (.iload 5, 2) := by decide +kernel
theorem dX2_sliceAt_59 : decode cX2_sliceAt 59 = .ok (.ifCond .eq 7, 3) := by decide +kernel
theorem dX2_sliceAt_62 : decode cX2_sliceAt 62 = .ok (.iconst 0, 1) := by decide +kernel
theorem dX2_sliceAt_63 : decode cX2_sliceAt 63 = .ok (.goto 4, 3) := by decide +kernel
theorem dX2_sliceAt_66 : decode cX2_sliceAt 66 = .ok (.iconst 1, 1) := by decide +kernel
theorem dX2_sliceAt_67 : decode cX2_sliceAt 67 = .ok (.putfield 48, 3) := by decide +kernel
theorem dX2_sliceAt_70 : decode cX2_sliceAt 70 = .ok (.aload_n 0, 1) := by decide +kernel
theorem dX2_sliceAt_71 : decode cX2_sliceAt 71 = .ok (.getfield 48, 3) := by decide +kernel
theorem dX2_sliceAt_74 : decode cX2_sliceAt 74 = .ok (.ifCond .le 5, 3) := by decide +kernel
theorem dX2_sliceAt_77 : decode cX2_sliceAt 77 = .ok (.iconst 0, 1) := by decide +kernel
theorem dX2_sliceAt_78 : decode cX2_sliceAt 78 = .ok (.ireturn, 1) := by decide +kernel
theorem dX2_sliceAt_79 : decode cX2_sliceAt 79 = .ok (.aload_n 0, 1) := by decide +kernel
theorem dX2_sliceAt_80 : decode cX2_sliceAt 80 = .ok (.iload 4, 2) := by decide +kernel
theorem dX2_sliceAt_82 : decode cX2_sliceAt 82 = .ok (.aload_n 0, 1) := by decide +kernel
theorem dX2_sliceAt_83 : decode cX2_sliceAt 83 = .ok (.getfield 13, 3) := by decide +kernel
theorem dX2_sliceAt_86 : decode cX2_sliceAt 86 = .ok (.iload_n 1, 1) := by decide +kernel
theorem dX2_sliceAt_87 : decode cX2_sliceAt 87 = .ok (.iaload, 1) := by decide +kernel
theorem dX2_sliceAt_88 : decode cX2_sliceAt 88 = .ok (.aload_n 0, 1) := by decide +kernel
theorem dX2_sliceAt_89 : decode cX2_sliceAt 89 = .ok (.getfield 17, 3) := by decide +kernel
theorem dX2_sliceAt_92 : decode cX2_sliceAt 92 = .ok (.iload_n 1, 1) := by decide +kernel
theorem dX2_sliceAt_93 : decode cX2_sliceAt 93 = .ok (.iaload, 1) := by decide +kernel
theorem dX2_sliceAt_94 : decode cX2_sliceAt 94 = .ok (.aload_n 0, 1) := by decide +kernel
theorem dX2_sliceAt_95 : decode cX2_sliceAt 95 = .ok (.getfield 20, 3) := by decide +kernel
theorem dX2_sliceAt_98 : decode cX2_sliceAt 98 = .ok (.iload_n 1, 1) := by decide +kernel
theorem dX2_sliceAt_99 : decode cX2_sliceAt 99 = .ok (.iaload, 1) := by decide +kernel
theorem dX2_sliceAt_100 : decode cX2_sliceAt 100 = .ok (.iload_n 2, 1) := by decide +kernel
theorem dX2_sliceAt_101 : decode cX2_sliceAt 101 = .ok (.iadd, 1) := by decide +kernel
theorem dX2_sliceAt_102 : decode cX2_sliceAt 102 = .ok (.iload_n 3, 1) := by decide +kernel
theorem dX2_sliceAt_103 : decode cX2_sliceAt 103 = .ok (.aload_n 0, 1) := by decide +kernel
theorem dX2_sliceAt_104 : decode cX2_sliceAt 104 = .ok (.getfield 35, 3) := by decide +kernel
theorem dX2_sliceAt_107 : decode cX2_sliceAt 107 = .ok (.iload_n 1, 1) := by decide +kernel
theorem dX2_sliceAt_108 : decode cX2_sliceAt 108 = .ok (.baload, 1) := by decide +kernel
theorem dX2_sliceAt_109 : decode cX2_sliceAt 109 = .ok (.invokevirtual 68, 3) := by decide +kernel
theorem dX2_sliceAt_112 : decode cX2_sliceAt 112 = .ok (.iload_n 3, 1) := by decide +kernel
theorem dX2_sliceAt_113 : decode cX2_sliceAt 113 = .ok (.ireturn, 1) := by decide +kernel
set_option maxRecDepth 20000 in
theorem ggX2_twin_X2_is : GoodIn wsX2_twin wsX2_is := goodIn_ca (goodIn_r _ [14, 5, 15, 16, 13, 17, 22, 23, 24, 25, 26, 27, 28, 29, 30, 31, 32, 33, 34] (by decide +kernel) (by decide +kernel)) (goodIn_sub (fun _ h => List.mem_cons_of_mem _ (List.mem_append_right _ h)) (by decide +kernel))
set_option maxRecDepth 20000 in
theorem gX2_twin_X2_is : GoodIn wsX2_twin (wsV RX2 56 RX2 yX2_is wsX2_is) := goodIn_app (goodIn_of _ (by decide +kernel)) ggX2_twin_X2_is
set_option maxRecDepth 20000 in
theorem ggX2_twin_X2_in : GoodIn wsX2_twin wsX2_in := goodIn_r _ [17] (by decide +kernel) (by decide +kernel)
set_option maxRecDepth 20000 in
theorem gX2_twin_X2_in : GoodIn wsX2_twin (va_wsS RX2 52 yX2_in wsX2_in) := goodIn_app (goodIn_of _ (by decide +kernel)) ggX2_twin_X2_in
set_option maxRecDepth 20000 in
theorem ggX2_twin_X2_becomes : GoodIn wsX2_twin wsX2_becomes := goodIn_ca (goodIn_r _ [21, 5, 6, 7, 8, 2, 3, 4, 9, 22, 23, 24, 25, 26, 27, 28, 29, 30, 31, 32, 33, 34] (by decide +kernel) (by decide +kernel)) (goodIn_sub (fun _ h => List.mem_cons_of_mem _ (List.mem_append_right _ h)) (by decide +kernel))
set_option maxRecDepth 20000 in
theorem gX2_twin_X2_becomes : GoodIn wsX2_twin (wsV RX2 68 RX2 yX2_becomes wsX2_becomes) := goodIn_app (goodIn_of _ (by decide +kernel)) ggX2_twin_X2_becomes
theorem dX2_twin_0 : decode cX2_twin 0 = .ok (.aload_n 0, 1) := by decide +kernel
theorem dX2_twin_1 : decode cX2_twin 1 = .ok (.aload_n 0, 1) := by decide +kernel
theorem dX2_twin_2 : decode cX2_twin 2 = .ok (.iload_n 1, 1) := by decide +kernel
theorem dX2_twin_3 : decode cX2_twin 3 = .ok (.invokevirtual 56, 3) := by decide +kernel
theorem dX2_twin_6 : decode cX2_twin 6 = .ok (.ifCond .eq 13, 3) := by decide +kernel
theorem dX2_twin_9 : decode cX2_twin 9 = .ok (.iload_n 2, 1) := by decide +kernel
theorem dX2_twin_10 : decode cX2_twin 10 = .ok (.iconst 0, 1) := by decide +kernel
theorem dX2_twin_11 : decode cX2_twin 11 = .ok (.bipush 7, 2) := by decide +kernel
theorem dX2_twin_13 : decode cX2_twin 13 = .ok (.invokestatic 52, 3) := by decide +kernel
theorem dX2_twin_16 : decode cX2_twin 16 = .ok (.ifCond .ne 7, 3) := by decide +kernel
theorem dX2_twin_19 : decode cX2_twin 19 = .ok (.iconst 1, 1) := by decide +kernel
theorem dX2_twin_20 : decode cX2_twin 20 = .ok (.goto 4, 3) := by decide +kernel
theorem dX2_twin_23 : decode cX2_twin 23 = .ok (.iconst 0, 1) := by decide +kernel
theorem dX2_twin_24 : decode cX2_twin 24 = .ok (.putfield 48, 3) := by decide +kernel
theorem dX2_twin_27 : decode cX2_twin 27 = .ok (.aload_n 0, 1) := by decide +kernel
theorem dX2_twin_28 : decode cX2_twin 28 = .ok (.getfield 48, 3) := by decide +kernel
theorem dX2_twin_31 : decode cX2_twin 31 = .ok (.ifCond .le 5, 3) := by decide +kernel
theorem dX2_twin_34 : decode cX2_twin 34 = .ok (.iconst 0, 1) := by decide +kernel
theorem dX2_twin_35 : decode cX2_twin 35 = .ok (.ireturn, 1) := by decide +kernel
theorem dX2_twin_36 : decode cX2_twin 36 = .ok (.aload_n 0, 1) := by decide +kernel
theorem dX2_twin_37 : decode cX2_twin 37 = .ok (.getfield 26, 3) := by decide +kernel
theorem dX2_twin_40 : decode cX2_twin 40 = .ok (.iload_n 1, 1) := by decide +kernel
theorem dX2_twin_41 : decode cX2_twin 41 = .ok (.iaload, 1) := by decide +kernel
theorem dX2_twin_42 : decode cX2_twin 42 = .ok (.istore 4, 2) := by decide +kernel
theorem dX2_twin_44 : decode cX2_twin 44 = .ok (.aload_n 0, 1) := by decide +kernel
theorem dX2_twin_45 : decode cX2_twin 45 = .ok (.getfield 29, 3) := by decide +kernel
theorem dX2_twin_48 : decode cX2_twin 48 = .ok (.iload_n 1, 1) := by decide +kernel
theorem dX2_twin_49 : decode cX2_twin 49 = .ok (.iaload, 1) := by decide +kernel
theorem dX2_twin_50 : decode cX2_twin 50 = .ok (.istore 5, 2) := by decide +kernel
theorem dX2_twin_52 : decode cX2_twin 52 = .ok (.aload_n 0, 1) := by decide +kernel
theorem dX2_twin_53 : decode cX2_twin 53 = .ok (.getfield 32, 3) := by decide +kernel
theorem dX2_twin_56 : decode cX2_twin 56 = .ok (.iload_n 1, 1) := by decide +kernel
theorem dX2_twin_57 : decode cX2_twin 57 = .ok (.iaload, 1) := by decide +kernel
theorem dX2_twin_58 : decode cX2_twin 58 = .ok (.istore 6, 2) := by decide +kernel
theorem dX2_twin_60 : decode cX2_twin 60 = .ok (.aload_n 0, 1) := by decide +kernel
theorem dX2_twin_61 : decode cX2_twin 61 = .ok (.iload_n 2, 1) := by decide +kernel
theorem dX2_twin_62 : decode cX2_twin 62 = .ok (.aload_n 0, 1) := by decide +kernel
theorem dX2_twin_63 : decode cX2_twin 63 = .ok (.getfield 13, 3) := by decide +kernel
theorem dX2_twin_66 : decode cX2_twin 66 = .ok (.iload_n 1, 1) := by decide +kernel
theorem dX2_twin_67 : decode cX2_twin 67 = .ok (.iaload, 1) := by decide +kernel
theorem dX2_twin_68 : decode cX2_twin 68 = .ok (.aload_n 0, 1) := by decide +kernel
theorem dX2_twin_69 : decode cX2_twin 69 = .ok (.getfield 17, 3) := by decide +kernel
theorem dX2_twin_72 : decode cX2_twin 72 = .ok (.iload_n 1, 1) := by decide +kernel
theorem dX2_twin_73 : decode cX2_twin 73 = .ok (.iaload, 1) := by decide +kernel
theorem dX2_twin_74 : decode cX2_twin 74 = .ok (.aload_n 0, 1) := by decide +kernel
theorem dX2_twin_75 : decode cX2_twin 75 = .ok (.getfield 20, 3) := by decide +kernel
theorem dX2_twin_78 : decode cX2_twin 78 = .ok (.iload_n 1, 1) := by decide +kernel
theorem dX2_twin_79 : decode cX2_twin 79 = .ok (.iaload, 1) := by decide +kernel
theorem dX2_twin_80 : decode cX2_twin 80 = .ok (.aload_n 0, 1) := by decide +kernel
theorem dX2_twin_81 : decode cX2_twin 81 = .ok (.getfield 23, 3) := by decide +kernel
theorem dX2_twin_84 : decode cX2_twin 84 = .ok (.iload_n 1, 1) := by decide +kernel
theorem dX2_twin_85 : decode cX2_twin 85 = .ok (.iaload, 1) := by decide +kernel
theorem dX2_twin_86 : decode cX2_twin 86 = .ok (.aload_n 0, 1) := by decide +kernel
theorem dX2_twin_87 : decode cX2_twin 87 = .ok (.getfield 35, 3) := by decide +kernel
theorem dX2_twin_90 : decode cX2_twin 90 = .ok (.iload_n 1, 1) := by decide +kernel
theorem dX2_twin_91 : decode cX2_twin 91 = .ok (.baload, 1) := by decide +kernel
theorem dX2_twin_92 : decode cX2_twin 92 = .ok (.ifCond .ne 7, 3) := by decide +kernel
theorem dX2_twin_95 : decode cX2_twin 95 = .ok (.iload_n 3, 1) := by decide +kernel
theorem dX2_twin_96 : decode cX2_twin 96 = .ok (.ifCond .eq 7, 3) := by decide +kernel
theorem dX2_twin_99 : decode cX2_twin 99 = .ok (.iconst 1, 1) := by decide +kernel
theorem dX2_twin_100 : decode cX2_twin 100 = .ok (.goto 4, 3) := by decide +kernel
theorem dX2_twin_103 : decode cX2_twin 103 = .ok (.iconst 0, 1) := by decide +kernel
theorem dX2_twin_104 : decode cX2_twin 104 = .ok (.invokevirtual 68, 3) := by decide +kernel
theorem dX2_twin_107 : decode cX2_twin 107 = .ok (.aload_n 0, 1) := by decide +kernel
theorem dX2_twin_108 : decode cX2_twin 108 = .ok (.getfield 26, 3) := by decide +kernel
theorem dX2_twin_111 : decode cX2_twin 111 = .ok (.iload_n 2, 1) := by decide +kernel
theorem dX2_twin_112 : decode cX2_twin 112 = .ok (.iload 4, 2) := by decide +kernel
theorem dX2_twin_114 : decode cX2_twin 114 = .ok (.iastore, 1) := by decide +kernel
theorem dX2_twin_115 : decode cX2_twin 115 = .ok (.aload_n 0, 1) := by decide +kernel
theorem dX2_twin_116 : decode cX2_twin 116 = .ok (.getfield 29, 3) := by decide +kernel
theorem dX2_twin_119 : decode cX2_twin 119 = .ok (.iload_n 2, 1) := by decide +kernel
theorem dX2_twin_120 : decode cX2_twin 120 = .ok (.iload 5, 2) := by decide +kernel
theorem dX2_twin_122 : decode cX2_twin 122 = .ok (.iastore, 1) := by decide +kernel
theorem dX2_twin_123 : decode cX2_twin 123 = .ok (.aload_n 0, 1) := by decide +kernel
theorem dX2_twin_124 : decode cX2_twin 124 = .ok (.getfield 32, 3) := by decide +kernel
theorem dX2_twin_127 : decode cX2_twin 127 = .ok (.iload_n 2, 1) := by decide +kernel
theorem dX2_twin_128 : decode cX2_twin 128 = .ok (.iload 6, 2) := by decide +kernel
theorem dX2_twin_130 : decode cX2_twin 130 = .ok (.iastore, 1) := by decide +kernel
theorem dX2_twin_131 : decode cX2_twin 131 = .ok (.iload 5, 2) := by decide +kernel
theorem dX2_twin_133 : decode cX2_twin 133 = .ok (.iload 4, 2) := by decide +kernel
theorem dX2_twin_135 : decode cX2_twin 135 = .ok (.isub, 1) := by decide +kernel
theorem dX2_twin_136 : decode cX2_twin 136 = .ok (.ireturn, 1) := by decide +kernel
set_option maxRecDepth 20000 in
theorem ggX2_duplicate_X2_twin : GoodIn wsX2_duplicate wsX2_twin := goodIn_ca (goodIn_r _ [5, 6, 7, 8, 9, 10, 11, 12, 13, 14, 15, 16, 17, 4, 18, 19, 20, 21, 22, 23, 24, 25, 26, 27, 28, 29, 30, 31, 32, 33, 34, 35, 36, 37, 38] (by decide +kernel) (by decide +kernel)) (goodIn_sub (fun _ h => List.mem_cons_of_mem _ (List.mem_append_right _ h)) (by decide +kernel))
set_option maxRecDepth 20000 in
theorem gX2_duplicate_X2_twin : GoodIn wsX2_duplicate (wsV RX2 89 RX2 yX2_twin wsX2_twin) := goodIn_app (goodIn_of _ (by decide +kernel)) ggX2_duplicate_X2_twin
theorem dX2_duplicate_0 : decode cX2_duplicate 0 = .ok (.aload_n 0, 1) := by decide +kernel
theorem dX2_duplicate_1 : decode cX2_duplicate 1 = .ok (.iload_n 1, 1) := by decide +kernel
theorem dX2_duplicate_2 : decode cX2_duplicate 2 = .ok (.iload_n 2, 1) := by decide +kernel
theorem dX2_duplicate_3 : decode cX2_duplicate 3 = .ok (.iconst 0, 1) := by decide +kernel
theorem dX2_duplicate_4 : decode cX2_duplicate 4 = .ok (.invokevirtual 89, 3) := by decide +kernel
theorem dX2_duplicate_7 : decode cX2_duplicate 7 = .ok (.ireturn, 1) := by decide +kernel
set_option maxRecDepth 20000 in
theorem ggX2_readOnly_X2_twin : GoodIn wsX2_readOnly wsX2_twin := goodIn_ca (goodIn_r _ [5, 6, 7, 8, 9, 10, 11, 12, 13, 14, 15, 16, 17, 4, 18, 19, 20, 21, 22, 23, 24, 25, 26, 27, 28, 29, 30, 31, 32, 33, 34, 35, 36, 37, 38] (by decide +kernel) (by decide +kernel)) (goodIn_sub (fun _ h => List.mem_cons_of_mem _ (List.mem_append_right _ h)) (by decide +kernel))
set_option maxRecDepth 20000 in
theorem gX2_readOnly_X2_twin : GoodIn wsX2_readOnly (wsV RX2 89 RX2 yX2_twin wsX2_twin) := goodIn_app (goodIn_of _ (by decide +kernel)) ggX2_readOnly_X2_twin
theorem dX2_readOnly_0 : decode cX2_readOnly 0 = .ok (.aload_n 0, 1) := by decide +kernel
theorem dX2_readOnly_1 : decode cX2_readOnly 1 = .ok (.iload_n 1, 1) := by decide +kernel
theorem dX2_readOnly_2 : decode cX2_readOnly 2 = .ok (.iload_n 2, 1) := by decide +kernel
theorem dX2_readOnly_3 : decode cX2_readOnly 3 = .ok (.iconst 1, 1) := by decide +kernel
theorem dX2_readOnly_4 : decode cX2_readOnly 4 = .ok (.invokevirtual 89, 3) := by decide +kernel
theorem dX2_readOnly_7 : decode cX2_readOnly 7 = .ok (.ireturn, 1) := by decide +kernel
set_option maxRecDepth 20000 in
theorem ggX2_signAt_X2_is : GoodIn wsX2_signAt wsX2_is := goodIn_ca (goodIn_r _ [9, 1, 10, 11, 8, 12, 20, 21, 22, 23, 24, 25, 26, 27, 28, 29, 30, 31, 32] (by decide +kernel) (by decide +kernel)) (goodIn_sub (fun _ h => List.mem_cons_of_mem _ (List.mem_append_right _ h)) (by decide +kernel))
set_option maxRecDepth 20000 in
theorem gX2_signAt_X2_is : GoodIn wsX2_signAt (wsV RX2 56 RX2 yX2_is wsX2_is) := goodIn_app (goodIn_of _ (by decide +kernel)) ggX2_signAt_X2_is
set_option maxRecDepth 20000 in
theorem ggX2_signAt_X2_in : GoodIn wsX2_signAt wsX2_in := goodIn_r _ [12] (by decide +kernel) (by decide +kernel)
set_option maxRecDepth 20000 in
theorem gX2_signAt_X2_in : GoodIn wsX2_signAt (va_wsS RX2 52 yX2_in wsX2_in) := goodIn_app (goodIn_of _ (by decide +kernel)) ggX2_signAt_X2_in
set_option maxRecDepth 20000 in
theorem ggX2_signAt_X2_value : GoodIn wsX2_signAt wsX2_value := goodIn_ca (goodIn_r _ [16, 17, 18, 19, 20, 21, 22, 23, 24, 25, 26, 27, 28, 29, 30, 31, 32] (by decide +kernel) (by decide +kernel)) (goodIn_sub (fun _ h => List.mem_cons_of_mem _ (List.mem_append_right _ h)) (by decide +kernel))
set_option maxRecDepth 20000 in
theorem gX2_signAt_X2_value : GoodIn wsX2_signAt (wsV RX2 81 RX2 yX2_value wsX2_value) := goodIn_app (goodIn_of _ (by decide +kernel)) ggX2_signAt_X2_value
theorem dX2_signAt_0 : decode cX2_signAt 0 = .ok (.aload_n 0, 1) := by decide +kernel
theorem dX2_signAt_1 : decode cX2_signAt 1 = .ok (.aload_n 0, 1) := by decide +kernel
theorem dX2_signAt_2 : decode cX2_signAt 2 = .ok (.iload_n 1, 1) := by decide +kernel
theorem dX2_signAt_3 : decode cX2_signAt 3 = .ok (.invokevirtual 56, 3) := by decide +kernel
theorem dX2_signAt_6 : decode cX2_signAt 6 = .ok (.ifCond .ne 7, 3) := by decide +kernel
theorem dX2_signAt_9 : decode cX2_signAt 9 = .ok (.iconst 1, 1) := by decide +kernel
theorem dX2_signAt_10 : decode cX2_signAt 10 = .ok (.goto 46, 3) := by decide +kernel
theorem dX2_signAt_13 : decode cX2_signAt 13 = .ok (.aload_n 0, 1) := by decide +kernel
theorem dX2_signAt_14 : decode cX2_signAt 14 = .ok (.getfield 13, 3) := by decide +kernel
theorem dX2_signAt_17 : decode cX2_signAt 17 = .ok (.iload_n 1, 1) := by decide +kernel
theorem dX2_signAt_18 : decode cX2_signAt 18 = .ok (.iaload, 1) := by decide +kernel
theorem dX2_signAt_19 : decode cX2_signAt 19 = .ok (.bipush 99, 2) := by decide +kernel
theorem dX2_signAt_21 : decode cX2_signAt 21 = .ok (.if_icmp .eq 7, 3) := by decide +kernel
theorem dX2_signAt_24 : decode cX2_signAt 24 = .ok (.iconst 2, 1) := by decide +kernel
theorem dX2_signAt_25 : decode cX2_signAt 25 = .ok (.goto 31, 3) := by decide +kernel
theorem dX2_signAt_28 : decode cX2_signAt 28 = .ok (.iload_n 2, 1) := by decide +kernel
theorem dX2_signAt_29 : decode cX2_signAt 29 = .ok (.iconst 0, 1) := by decide +kernel
theorem dX2_signAt_30 : decode cX2_signAt 30 = .ok (.aload_n 0, 1) := by decide +kernel
theorem dX2_signAt_31 : decode cX2_signAt 31 = .ok (.getfield 29, 3) := by decide +kernel
theorem dX2_signAt_34 : decode cX2_signAt 34 = .ok (.iload_n 1, 1) := by decide +kernel
theorem dX2_signAt_35 : decode cX2_signAt 35 = .ok (.iaload, 1) := by decide +kernel
theorem dX2_signAt_36 : decode cX2_signAt 36 = .ok (.aload_n 0, 1) := by decide +kernel
theorem dX2_signAt_37 : decode cX2_signAt 37 = .ok (.getfield 26, 3) := by decide +kernel
theorem dX2_signAt_40 : decode cX2_signAt 40 = .ok (.iload_n 1, 1) := by decide +kernel
theorem dX2_signAt_41 : decode cX2_signAt 41 = .ok (.iaload, 1) := by decide +kernel
theorem dX2_signAt_42 : decode cX2_signAt 42 = .ok (.isub, 1) := by decide +kernel
theorem dX2_signAt_43 : decode cX2_signAt 43 = .ok (.iconst 1, 1) := by decide +kernel
theorem dX2_signAt_44 : decode cX2_signAt 44 = .ok (.isub, 1) := by decide +kernel
theorem dX2_signAt_45 : decode cX2_signAt 45 = .ok (.invokestatic 52, 3) := by decide +kernel
theorem dX2_signAt_48 : decode cX2_signAt 48 = .ok (.ifCond .ne 7, 3) := by decide +kernel
theorem dX2_signAt_51 : decode cX2_signAt 51 = .ok (.iconst 3, 1) := by decide +kernel
theorem dX2_signAt_52 : decode cX2_signAt 52 = .ok (.goto 4, 3) := by decide +kernel
theorem dX2_signAt_55 : decode cX2_signAt 55 = .ok (.iconst 0, 1) := by decide +kernel
theorem dX2_signAt_56 : decode cX2_signAt 56 = .ok (.putfield 48, 3) := by decide +kernel
theorem dX2_signAt_59 : decode cX2_signAt 59 = .ok (.aload_n 0, 1) := by decide +kernel
theorem dX2_signAt_60 : decode cX2_signAt 60 = .ok (.getfield 48, 3) := by decide +kernel
theorem dX2_signAt_63 : decode cX2_signAt 63 = .ok (.ifCond .le 8, 3) := by decide +kernel
theorem dX2_signAt_66 : decode cX2_signAt 66 = .ok (.bipush 32, 2) := by decide +kernel
theorem dX2_signAt_68 : decode cX2_signAt 68 = .ok (.goto 18, 3) := by decide +kernel
theorem dX2_signAt_71 : decode cX2_signAt 71 = .ok (.aload_n 0, 1) := by decide +kernel
theorem dX2_signAt_72 : decode cX2_signAt 72 = .ok (.iload_n 1, 1) := by decide +kernel
theorem dX2_signAt_73 : decode cX2_signAt 73 = .ok (.aload_n 0, 1) := by decide +kernel
theorem dX2_signAt_74 : decode cX2_signAt 74 = .ok (.getfield 26, 3) := by decide +kernel
theorem dX2_signAt_77 : decode cX2_signAt 77 = .ok (.iload_n 1, 1) := by decide +kernel
theorem dX2_signAt_78 : decode cX2_signAt 78 = .ok (.iaload, 1) := by decide +kernel
theorem dX2_signAt_79 : decode cX2_signAt 79 = .ok (.iload_n 2, 1) := by decide +kernel
theorem dX2_signAt_80 : decode cX2_signAt 80 = .ok (.iadd, 1) := by decide +kernel
theorem dX2_signAt_81 : decode cX2_signAt 81 = .ok (.invokevirtual 81, 3) := by decide +kernel
theorem dX2_signAt_84 : decode cX2_signAt 84 = .ok (.l2i, 1) := by decide +kernel
theorem dX2_signAt_85 : decode cX2_signAt 85 = .ok (.i2c, 1) := by decide +kernel
theorem dX2_signAt_86 : decode cX2_signAt 86 = .ok (.ireturn, 1) := by decide +kernel
set_option maxRecDepth 20000 in
theorem ggX2_signsLeft_X2_is : GoodIn wsX2_signsLeft wsX2_is := goodIn_ca (goodIn_r _ [9, 1, 10, 11, 8, 12, 13, 14, 15, 16, 17, 18, 19, 20, 21, 22, 23, 24, 25] (by decide +kernel) (by decide +kernel)) (goodIn_sub (fun _ h => List.mem_cons_of_mem _ (List.mem_append_right _ h)) (by decide +kernel))
set_option maxRecDepth 20000 in
theorem gX2_signsLeft_X2_is : GoodIn wsX2_signsLeft (wsV RX2 56 RX2 yX2_is wsX2_is) := goodIn_app (goodIn_of _ (by decide +kernel)) ggX2_signsLeft_X2_is
theorem dX2_signsLeft_0 : decode cX2_signsLeft 0 = .ok (.aload_n 0, 1) := by decide +kernel
theorem dX2_signsLeft_1 : decode cX2_signsLeft 1 = .ok (.aload_n 0, 1) := by decide +kernel
theorem dX2_signsLeft_2 : decode cX2_signsLeft 2 = .ok (.iload_n 1, 1) := by decide +kernel
theorem dX2_signsLeft_3 : decode cX2_signsLeft 3 = .ok (.invokevirtual 56, 3) := by decide +kernel
theorem dX2_signsLeft_6 : decode cX2_signsLeft 6 = .ok (.ifCond .ne 7, 3) := by decide +kernel
theorem dX2_signsLeft_9 : decode cX2_signsLeft 9 = .ok (.iconst 1, 1) := by decide +kernel
theorem dX2_signsLeft_10 : decode cX2_signsLeft 10 = .ok (.goto 19, 3) := by decide +kernel
theorem dX2_signsLeft_13 : decode cX2_signsLeft 13 = .ok (.aload_n 0, 1) := by decide +kernel
theorem dX2_signsLeft_14 : decode cX2_signsLeft 14 = .ok (.getfield 13, 3) := by decide +kernel
theorem dX2_signsLeft_17 : decode cX2_signsLeft 17 = .ok (.iload_n 1, 1) := by decide +kernel
theorem dX2_signsLeft_18 : decode cX2_signsLeft 18 = .ok (.iaload, 1) := by decide +kernel
theorem dX2_signsLeft_19 : decode cX2_signsLeft 19 = .ok (.bipush 99, 2) := by decide +kernel
theorem dX2_signsLeft_21 : decode cX2_signsLeft 21 = .ok (.if_icmp .eq 7, 3) := by decide +kernel
theorem dX2_signsLeft_24 : decode cX2_signsLeft 24 = .ok (.iconst 2, 1) := by decide +kernel
theorem dX2_signsLeft_25 : decode cX2_signsLeft 25 = .ok (.goto 4, 3) := by decide +kernel
theorem dX2_signsLeft_28 : decode cX2_signsLeft 28 = .ok (.iconst 0, 1) := by decide +kernel
theorem dX2_signsLeft_29 : decode cX2_signsLeft 29 = .ok (.putfield 48, 3) := by decide +kernel
theorem dX2_signsLeft_32 : decode cX2_signsLeft 32 = .ok (.aload_n 0, 1) := by decide +kernel
theorem dX2_signsLeft_33 : decode cX2_signsLeft 33 = .ok (.getfield 48, 3) := by decide +kernel
theorem dX2_signsLeft_36 : decode cX2_signsLeft 36 = .ok (.ifCond .le 7, 3) := by decide +kernel
theorem dX2_signsLeft_39 : decode cX2_signsLeft 39 = .ok (.iconst 0, 1) := by decide +kernel
theorem dX2_signsLeft_40 : decode cX2_signsLeft 40 = .ok (.goto 16, 3) := by decide +kernel
theorem dX2_signsLeft_43 : decode cX2_signsLeft 43 = .ok (.aload_n 0, 1) := by decide +kernel
theorem dX2_signsLeft_44 : decode cX2_signsLeft 44 = .ok (.getfield 29, 3) := by decide +kernel
theorem dX2_signsLeft_47 : decode cX2_signsLeft 47 = .ok (.iload_n 1, 1) := by decide +kernel
theorem dX2_signsLeft_48 : decode cX2_signsLeft 48 = .ok (.iaload, 1) := by decide +kernel
theorem dX2_signsLeft_49 : decode cX2_signsLeft 49 = .ok (.aload_n 0, 1) := by decide +kernel
theorem dX2_signsLeft_50 : decode cX2_signsLeft 50 = .ok (.getfield 26, 3) := by decide +kernel
theorem dX2_signsLeft_53 : decode cX2_signsLeft 53 = .ok (.iload_n 1, 1) := by decide +kernel
theorem dX2_signsLeft_54 : decode cX2_signsLeft 54 = .ok (.iaload, 1) := by decide +kernel
theorem dX2_signsLeft_55 : decode cX2_signsLeft 55 = .ok (.isub, 1) := by decide +kernel
theorem dX2_signsLeft_56 : decode cX2_signsLeft 56 = .ok (.ireturn, 1) := by decide +kernel
set_option maxRecDepth 20000 in
theorem ggX2_append_X2_is : GoodIn wsX2_append wsX2_is := goodIn_ca (goodIn_r _ [10, 1, 11, 12, 9, 13, 22, 23, 24, 25, 26, 27, 28, 29, 30, 31, 32, 33, 34] (by decide +kernel) (by decide +kernel)) (goodIn_sub (fun _ h => List.mem_cons_of_mem _ (List.mem_append_right _ h)) (by decide +kernel))
set_option maxRecDepth 20000 in
theorem gX2_append_X2_is : GoodIn wsX2_append (wsV RX2 56 RX2 yX2_is wsX2_is) := goodIn_app (goodIn_of _ (by decide +kernel)) ggX2_append_X2_is
set_option maxRecDepth 20000 in
theorem ggX2_append_X2_lays : GoodIn wsX2_append wsX2_lays := goodIn_ca (goodIn_r _ [17, 1, 18, 19, 20, 21, 22, 23, 24, 25, 26, 27, 28, 29, 30, 31, 32, 33, 34] (by decide +kernel) (by decide +kernel)) (goodIn_sub (fun _ h => List.mem_cons_of_mem _ (List.mem_append_right _ h)) (by decide +kernel))
set_option maxRecDepth 20000 in
theorem gX2_append_X2_lays : GoodIn wsX2_append (wsV RX2 85 RX2 yX2_lays wsX2_lays) := goodIn_app (goodIn_of _ (by decide +kernel)) ggX2_append_X2_lays
theorem dX2_append_0 : decode cX2_append 0 = .ok (.aload_n 0, 1) := by decide +kernel
theorem dX2_append_1 : decode cX2_append 1 = .ok (.aload_n 0, 1) := by decide +kernel
theorem dX2_append_2 : decode cX2_append 2 = .ok (.iload_n 1, 1) := by decide +kernel
theorem dX2_append_3 : decode cX2_append 3 = .ok (.invokevirtual 56, 3) := by decide +kernel
theorem dX2_append_6 : decode cX2_append 6 = .ok (.ifCond .ne 7, 3) := by decide +kernel
theorem dX2_append_9 : decode cX2_append 9 = .ok (.iconst 1, 1) := by decide +kernel
theorem dX2_append_10 : decode cX2_append 10 = .ok (.goto 47, 3) := by decide +kernel
theorem dX2_append_13 : decode cX2_append 13 = .ok (.aload_n 0, 1) := by decide +kernel
theorem dX2_append_14 : decode cX2_append 14 = .ok (.getfield 13, 3) := by decide +kernel
theorem dX2_append_17 : decode cX2_append 17 = .ok (.iload_n 1, 1) := by decide +kernel
theorem dX2_append_18 : decode cX2_append 18 = .ok (.iaload, 1) := by decide +kernel
theorem dX2_append_19 : decode cX2_append 19 = .ok (.bipush 99, 2) := by decide +kernel
theorem dX2_append_21 : decode cX2_append 21 = .ok (.if_icmp .ne 12, 3) := by decide +kernel
theorem dX2_append_24 : decode cX2_append 24 = .ok (.aload_n 0, 1) := by decide +kernel
theorem dX2_append_25 : decode cX2_append 25 = .ok (.getfield 35, 3) := by decide +kernel
theorem dX2_append_28 : decode cX2_append 28 = .ok (.iload_n 1, 1) := by decide +kernel
theorem dX2_append_29 : decode cX2_append 29 = .ok (.baload, 1) := by decide +kernel
theorem dX2_append_30 : decode cX2_append 30 = .ok (.ifCond .eq 7, 3) := by decide +kernel
theorem dX2_append_33 : decode cX2_append 33 = .ok (.iconst 2, 1) := by decide +kernel
theorem dX2_append_34 : decode cX2_append 34 = .ok (.goto 23, 3) := by decide +kernel
theorem dX2_append_37 : decode cX2_append 37 = .ok (.aload_n 0, 1) := by decide +kernel
theorem dX2_append_38 : decode cX2_append 38 = .ok (.getfield 26, 3) := by decide +kernel
theorem dX2_append_41 : decode cX2_append 41 = .ok (.iload_n 1, 1) := by decide +kernel
theorem dX2_append_42 : decode cX2_append 42 = .ok (.iaload, 1) := by decide +kernel
theorem dX2_append_43 : decode cX2_append 43 = .ok (.aload_n 0, 1) := by decide +kernel
theorem dX2_append_44 : decode cX2_append 44 = .ok (.getfield 29, 3) := by decide +kernel
theorem dX2_append_47 : decode cX2_append 47 = .ok (.iload_n 1, 1) := by decide +kernel
theorem dX2_append_48 : decode cX2_append 48 = .ok (.iaload, 1) := by decide +kernel
theorem dX2_append_49 : decode cX2_append 49 = .ok (.if_icmp .ne 7, 3) := by decide +kernel
theorem dX2_append_52 : decode cX2_append 52 = .ok (.iconst 3, 1) := by decide +kernel
theorem dX2_append_53 : decode cX2_append 53 = .ok (.goto 4, 3) := by decide +kernel
theorem dX2_append_56 : decode cX2_append 56 = .ok (.iconst 0, 1) := by decide +kernel
theorem dX2_append_57 : decode cX2_append 57 = .ok (.putfield 48, 3) := by decide +kernel
theorem dX2_append_60 : decode cX2_append 60 = .ok (.aload_n 0, 1) := by decide +kernel
theorem dX2_append_61 : decode cX2_append 61 = .ok (.getfield 48, 3) := by decide +kernel
theorem dX2_append_64 : decode cX2_append 64 = .ok (.ifCond .le 5, 3) := by decide +kernel
theorem dX2_append_67 : decode cX2_append 67 = .ok (.iconst 0, 1) := by decide +kernel
theorem dX2_append_68 : decode cX2_append 68 = .ok (.ireturn, 1) := by decide +kernel
theorem dX2_append_69 : decode cX2_append 69 = .ok (.aload_n 0, 1) := by decide +kernel
theorem dX2_append_70 : decode cX2_append 70 = .ok (.iload_n 1, 1) := by decide +kernel
theorem dX2_append_71 : decode cX2_append 71 = .ok (.aload_n 0, 1) := by decide +kernel
theorem dX2_append_72 : decode cX2_append 72 = .ok (.getfield 26, 3) := by decide +kernel
theorem dX2_append_75 : decode cX2_append 75 = .ok (.iload_n 1, 1) := by decide +kernel
theorem dX2_append_76 : decode cX2_append 76 = .ok (.iaload, 1) := by decide +kernel
theorem dX2_append_77 : decode cX2_append 77 = .ok (.iload_n 2, 1) := by decide +kernel
theorem dX2_append_78 : decode cX2_append 78 = .ok (.i2l, 1) := by decide +kernel
theorem dX2_append_79 : decode cX2_append 79 = .ok (.invokevirtual 85, 3) := by decide +kernel
theorem dX2_append_82 : decode cX2_append 82 = .ok (.aload_n 0, 1) := by decide +kernel
theorem dX2_append_83 : decode cX2_append 83 = .ok (.getfield 26, 3) := by decide +kernel
theorem dX2_append_86 : decode cX2_append 86 = .ok (.iload_n 1, 1) := by decide +kernel
theorem dX2_append_87 : decode cX2_append 87 = .ok (.dup2, 1) := by decide +kernel
theorem dX2_append_88 : decode cX2_append 88 = .ok (.iaload, 1) := by decide +kernel
theorem dX2_append_89 : decode cX2_append 89 = .ok (.iconst 1, 1) := by decide +kernel
theorem dX2_append_90 : decode cX2_append 90 = .ok (.iadd, 1) := by decide +kernel
theorem dX2_append_91 : decode cX2_append 91 = .ok (.iastore, 1) := by decide +kernel
theorem dX2_append_92 : decode cX2_append 92 = .ok (.aload_n 0, 1) := by decide +kernel
theorem dX2_append_93 : decode cX2_append 93 = .ok (.getfield 26, 3) := by decide +kernel
theorem dX2_append_96 : decode cX2_append 96 = .ok (.iload_n 1, 1) := by decide +kernel
theorem dX2_append_97 : decode cX2_append 97 = .ok (.iaload, 1) := by decide +kernel
theorem dX2_append_98 : decode cX2_append 98 = .ok (.ireturn, 1) := by decide +kernel
set_option maxRecDepth 20000 in
theorem ggX2_text_X2_is : GoodIn wsX2_text wsX2_is := goodIn_ca (goodIn_r _ [11, 1, 12, 13, 10, 14, 22, 23, 24, 25, 26, 27, 28, 29, 30, 31, 32, 33, 34] (by decide +kernel) (by decide +kernel)) (goodIn_sub (fun _ h => List.mem_cons_of_mem _ (List.mem_append_right _ h)) (by decide +kernel))
set_option maxRecDepth 20000 in
theorem gX2_text_X2_is : GoodIn wsX2_text (wsV RX2 56 RX2 yX2_is wsX2_is) := goodIn_app (goodIn_of _ (by decide +kernel)) ggX2_text_X2_is
set_option maxRecDepth 20000 in
theorem ggX2_text_X2_value : GoodIn wsX2_text wsX2_value := goodIn_ca (goodIn_r _ [18, 19, 20, 21, 22, 23, 24, 25, 26, 27, 28, 29, 30, 31, 32, 33, 34] (by decide +kernel) (by decide +kernel)) (goodIn_sub (fun _ h => List.mem_cons_of_mem _ (List.mem_append_right _ h)) (by decide +kernel))
set_option maxRecDepth 20000 in
theorem gX2_text_X2_value : GoodIn wsX2_text (wsV RX2 81 RX2 yX2_value wsX2_value) := goodIn_app (goodIn_of _ (by decide +kernel)) ggX2_text_X2_value
theorem dX2_text_0 : decode cX2_text 0 = .ok (.aload_n 0, 1) := by decide +kernel
theorem dX2_text_1 : decode cX2_text 1 = .ok (.aload_n 0, 1) := by decide +kernel
theorem dX2_text_2 : decode cX2_text 2 = .ok (.iload_n 1, 1) := by decide +kernel
theorem dX2_text_3 : decode cX2_text 3 = .ok (.invokevirtual 56, 3) := by decide +kernel
theorem dX2_text_6 : decode cX2_text 6 = .ok (.ifCond .ne 7, 3) := by decide +kernel
theorem dX2_text_9 : decode cX2_text 9 = .ok (.iconst 1, 1) := by decide +kernel
theorem dX2_text_10 : decode cX2_text 10 = .ok (.goto 19, 3) := by decide +kernel
theorem dX2_text_13 : decode cX2_text 13 = .ok (.aload_n 0, 1) := by decide +kernel
theorem dX2_text_14 : decode cX2_text 14 = .ok (.getfield 13, 3) := by decide +kernel
theorem dX2_text_17 : decode cX2_text 17 = .ok (.iload_n 1, 1) := by decide +kernel
theorem dX2_text_18 : decode cX2_text 18 = .ok (.iaload, 1) := by decide +kernel
theorem dX2_text_19 : decode cX2_text 19 = .ok (.bipush 99, 2) := by decide +kernel
theorem dX2_text_21 : decode cX2_text 21 = .ok (.if_icmp .eq 7, 3) := by decide +kernel
theorem dX2_text_24 : decode cX2_text 24 = .ok (.iconst 2, 1) := by decide +kernel
theorem dX2_text_25 : decode cX2_text 25 = .ok (.goto 4, 3) := by decide +kernel
theorem dX2_text_28 : decode cX2_text 28 = .ok (.iconst 0, 1) := by decide +kernel
theorem dX2_text_29 : decode cX2_text 29 = .ok (.putfield 48, 3) := by decide +kernel
theorem dX2_text_32 : decode cX2_text 32 = .ok (.ldc2_w 93, 3) := by decide +kernel
theorem dX2_text_35 : decode cX2_text 35 = .ok (.lstore_n 2, 1) := by decide +kernel
theorem dX2_text_36 : decode cX2_text 36 = .ok (.aload_n 0, 1) := by decide +kernel
theorem dX2_text_37 : decode cX2_text 37 = .ok (.getfield 48, 3) := by decide +kernel
theorem dX2_text_40 : decode cX2_text 40 = .ok (.ifCond .le 7, 3) := by decide +kernel
theorem dX2_text_43 : decode cX2_text 43 = .ok (.iconst 0, 1) := by decide +kernel
theorem dX2_text_44 : decode cX2_text 44 = .ok (.goto 9, 3) := by decide +kernel
theorem dX2_text_47 : decode cX2_text 47 = .ok (.aload_n 0, 1) := by decide +kernel
theorem dX2_text_48 : decode cX2_text 48 = .ok (.getfield 26, 3) := by decide +kernel
theorem dX2_text_51 : decode cX2_text 51 = .ok (.iload_n 1, 1) := by decide +kernel
theorem dX2_text_52 : decode cX2_text 52 = .ok (.iaload, 1) := by decide +kernel
theorem dX2_text_53 : decode cX2_text 53 = .ok (.istore 4, 2) := by decide +kernel
theorem dX2_text_55 : decode cX2_text 55 = .ok (.aload_n 0, 1) := by decide +kernel
theorem dX2_text_56 : decode cX2_text 56 = .ok (.getfield 48, 3) := by decide +kernel
theorem dX2_text_59 : decode cX2_text 59 = .ok (.ifCond .ne 34, 3) := by decide +kernel
theorem dX2_text_62 : decode cX2_text 62 = .ok (.iload 4, 2) := by decide +kernel
theorem dX2_text_64 : decode cX2_text 64 = .ok (.aload_n 0, 1) := by decide +kernel
theorem dX2_text_65 : decode cX2_text 65 = .ok (.getfield 29, 3) := by decide +kernel
theorem dX2_text_68 : decode cX2_text 68 = .ok (.iload_n 1, 1) := by decide +kernel
theorem dX2_text_69 : decode cX2_text 69 = .ok (.iaload, 1) := by decide +kernel
theorem dX2_text_70 : decode cX2_text 70 = .ok (.if_icmp .ge 23, 3) := by decide +kernel
theorem dX2_text_73 : decode cX2_text 73 = .ok (.ldc2_w 95, 3) := by decide +kernel
theorem dX2_text_76 : decode cX2_text 76 = .ok (.lload_n 2, 1) := by decide +kernel
theorem dX2_text_77 : decode cX2_text 77 = .ok (.lmul, 1) := by decide +kernel
theorem dX2_text_78 : decode cX2_text 78 = .ok (.aload_n 0, 1) := by decide +kernel
theorem dX2_text_79 : decode cX2_text 79 = .ok (.iload_n 1, 1) := by decide +kernel
theorem dX2_text_80 : decode cX2_text 80 = .ok (.iload 4, 2) := by decide +kernel
theorem dX2_text_82 : decode cX2_text 82 = .ok (.invokevirtual 81, 3) := by decide +kernel
theorem dX2_text_85 : decode cX2_text 85 = .ok (.ladd, 1) := by decide +kernel
theorem dX2_text_86 : decode cX2_text 86 = .ok (.lstore_n 2, 1) := by decide +kernel
theorem dX2_text_87 : decode cX2_text 87 = .ok (.iinc 4 1, 3) := by decide +kernel
theorem dX2_text_90 : decode cX2_text 90 = .ok (.goto (-35), 3) := by decide +kernel
theorem dX2_text_93 : decode cX2_text 93 = .ok (.aload_n 0, 1) := by decide +kernel
theorem dX2_text_94 : decode cX2_text 94 = .ok (.getfield 48, 3) := by decide +kernel
theorem dX2_text_97 : decode cX2_text 97 = .ok (.ifCond .le 7, 3) := by decide +kernel
theorem dX2_text_100 : decode cX2_text 100 = .ok (.lconst 0, 1) := by decide +kernel
theorem dX2_text_101 : decode cX2_text 101 = .ok (.goto 4, 3) := by decide +kernel
theorem dX2_text_104 : decode cX2_text 104 = .ok (.lload_n 2, 1) := by decide +kernel
theorem dX2_text_105 : decode cX2_text 105 = .ok (.lreturn, 1) := by decide +kernel
set_option maxRecDepth 20000 in
theorem ggX2_isAlike_X2_is : GoodIn wsX2_isAlike wsX2_is := goodIn_ca (goodIn_r _ [8, 9, 10, 11, 7, 12, 20, 21, 22, 23, 24, 25, 26, 27, 28, 29, 30, 31, 32] (by decide +kernel) (by decide +kernel)) (goodIn_sub (fun _ h => List.mem_cons_of_mem _ (List.mem_append_right _ h)) (by decide +kernel))
set_option maxRecDepth 20000 in
theorem gX2_isAlike_X2_is : GoodIn wsX2_isAlike (wsV RX2 56 RX2 yX2_is wsX2_is) := goodIn_app (goodIn_of _ (by decide +kernel)) ggX2_isAlike_X2_is
set_option maxRecDepth 20000 in
theorem ggX2_isAlike_X2_value : GoodIn wsX2_isAlike wsX2_value := goodIn_ca (goodIn_r _ [16, 17, 18, 19, 20, 21, 22, 23, 24, 25, 26, 27, 28, 29, 30, 31, 32] (by decide +kernel) (by decide +kernel)) (goodIn_sub (fun _ h => List.mem_cons_of_mem _ (List.mem_append_right _ h)) (by decide +kernel))
set_option maxRecDepth 20000 in
theorem gX2_isAlike_X2_value : GoodIn wsX2_isAlike (wsV RX2 81 RX2 yX2_value wsX2_value) := goodIn_app (goodIn_of _ (by decide +kernel)) ggX2_isAlike_X2_value
theorem dX2_isAlike_0 : decode cX2_isAlike 0 = .ok (.aload_n 0, 1) := by decide +kernel
theorem dX2_isAlike_1 : decode cX2_isAlike 1 = .ok (.aload_n 0, 1) := by decide +kernel
theorem dX2_isAlike_2 : decode cX2_isAlike 2 = .ok (.iload_n 1, 1) := by decide +kernel
theorem dX2_isAlike_3 : decode cX2_isAlike 3 = .ok (.invokevirtual 56, 3) := by decide +kernel
theorem dX2_isAlike_6 : decode cX2_isAlike 6 = .ok (.ifCond .eq 15, 3) := by decide +kernel
theorem dX2_isAlike_9 : decode cX2_isAlike 9 = .ok (.aload_n 0, 1) := by decide +kernel
theorem dX2_isAlike_10 : decode cX2_isAlike 10 = .ok (.iload_n 2, 1) := by decide +kernel
theorem dX2_isAlike_11 : decode cX2_isAlike 11 = .ok (.invokevirtual 56, 3) := by decide +kernel
theorem dX2_isAlike_14 : decode cX2_isAlike 14 = .ok (.ifCond .eq 7, 3) := by decide +kernel
theorem dX2_isAlike_17 : decode cX2_isAlike 17 = .ok (.iconst 0, 1) := by decide +kernel
theorem dX2_isAlike_18 : decode cX2_isAlike 18 = .ok (.goto 4, 3) := by decide +kernel
theorem dX2_isAlike_21 : decode cX2_isAlike 21 = .ok (.iconst 1, 1) := by decide +kernel
theorem dX2_isAlike_22 : decode cX2_isAlike 22 = .ok (.putfield 48, 3) := by decide +kernel
theorem dX2_isAlike_25 : decode cX2_isAlike 25 = .ok (.aload_n 0, 1) := by decide +kernel
theorem dX2_isAlike_26 : decode cX2_isAlike 26 = .ok (.getfield 48, 3) := by decide +kernel
theorem dX2_isAlike_29 : decode cX2_isAlike 29 = .ok (.ifCond .le 5, 3) := by decide +kernel
theorem dX2_isAlike_32 : decode cX2_isAlike 32 = .ok (.iconst 0, 1) := by decide +kernel
theorem dX2_isAlike_33 : decode cX2_isAlike 33 = .ok (.ireturn, 1) := by decide +kernel
theorem dX2_isAlike_34 : decode cX2_isAlike 34 = .ok (.aload_n 0, 1) := by decide +kernel
theorem dX2_isAlike_35 : decode cX2_isAlike 35 = .ok (.getfield 29, 3) := by decide +kernel
theorem dX2_isAlike_38 : decode cX2_isAlike 38 = .ok (.iload_n 1, 1) := by decide +kernel
theorem dX2_isAlike_39 : decode cX2_isAlike 39 = .ok (.iaload, 1) := by decide +kernel
theorem dX2_isAlike_40 : decode cX2_isAlike 40 = .ok (.aload_n 0, 1) := by decide +kernel
theorem dX2_isAlike_41 : decode cX2_isAlike 41 = .ok (.getfield 26, 3) := by decide +kernel
theorem dX2_isAlike_44 : decode cX2_isAlike 44 = .ok (.iload_n 1, 1) := by decide +kernel
theorem dX2_isAlike_45 : decode cX2_isAlike 45 = .ok (.iaload, 1) := by decide +kernel
theorem dX2_isAlike_46 : decode cX2_isAlike 46 = .ok (.isub, 1) := by decide +kernel
theorem dX2_isAlike_47 : decode cX2_isAlike 47 = .ok (.istore_n 3, 1) := by decide +kernel
theorem dX2_isAlike_48 : decode cX2_isAlike 48 = .ok (.iload_n 3, 1) := by decide +kernel
theorem dX2_isAlike_49 : decode cX2_isAlike 49 = .ok (.aload_n 0, 1) := by decide +kernel
theorem dX2_isAlike_50 : decode cX2_isAlike 50 = .ok (.getfield 29, 3) := by decide +kernel
theorem dX2_isAlike_53 : decode cX2_isAlike 53 = .ok (.iload_n 2, 1) := by decide +kernel
theorem dX2_isAlike_54 : decode cX2_isAlike 54 = .ok (.iaload, 1) := by decide +kernel
theorem dX2_isAlike_55 : decode cX2_isAlike 55 = .ok (.aload_n 0, 1) := by decide +kernel
theorem dX2_isAlike_56 : decode cX2_isAlike 56 = .ok (.getfield 26, 3) := by decide +kernel
theorem dX2_isAlike_59 : decode cX2_isAlike 59 = .ok (.iload_n 2, 1) := by decide +kernel
theorem dX2_isAlike_60 : decode cX2_isAlike 60 = .ok (.iaload, 1) := by decide +kernel
theorem dX2_isAlike_61 : decode cX2_isAlike 61 = .ok (.isub, 1) := by decide +kernel
theorem dX2_isAlike_62 : decode cX2_isAlike 62 = .ok (.if_icmp .ne 7, 3) := by decide +kernel
theorem dX2_isAlike_65 : decode cX2_isAlike 65 = .ok (.iconst 1, 1) := by decide +kernel
theorem dX2_isAlike_66 : decode cX2_isAlike 66 = .ok (.goto 4, 3) := by decide +kernel
theorem dX2_isAlike_69 : decode cX2_isAlike 69 = .ok (.iconst 0, 1) := by decide +kernel
theorem dX2_isAlike_70 : decode cX2_isAlike 70 = .ok (.istore 4, 2) := by decide +kernel
theorem dX2_isAlike_72 : decode cX2_isAlike 72 = .ok (.iconst 0, 1) := by decide +kernel
theorem dX2_isAlike_73 : decode cX2_isAlike 73 = .ok (.istore 5, 2) := by decide +kernel
theorem dX2_isAlike_75 : decode cX2_isAlike 75 = .ok (.iload 4, 2) := by decide +kernel
theorem dX2_isAlike_77 : decode cX2_isAlike 77 = .ok (.ifCond .eq 54, 3) := by decide +kernel
theorem dX2_isAlike_80 : decode cX2_isAlike 80 = .ok (.iload 5, 2) := by decide +kernel
theorem dX2_isAlike_82 : decode cX2_isAlike 82 = .ok (.iload_n 3, 1) := by decide +kernel
theorem dX2_isAlike_83 : decode cX2_isAlike 83 = .ok (.if_icmp .ge 48, 3) := by decide +kernel
theorem dX2_isAlike_86 : decode cX2_isAlike 86 = .ok (.aload_n 0, 1) := by decide +kernel
theorem dX2_isAlike_87 : decode cX2_isAlike 87 = .ok (.iload_n 1, 1) := by decide +kernel
theorem dX2_isAlike_88 : decode cX2_isAlike 88 = .ok (.aload_n 0, 1) := by decide +kernel
theorem dX2_isAlike_89 : decode cX2_isAlike 89 = .ok (.getfield 26, 3) := by decide +kernel
theorem dX2_isAlike_92 : decode cX2_isAlike 92 = .ok (.iload_n 1, 1) := by decide +kernel
theorem dX2_isAlike_93 : decode cX2_isAlike 93 = .ok (.iaload, 1) := by decide +kernel
theorem dX2_isAlike_94 : decode cX2_isAlike 94 = .ok (.iload 5, 2) := by decide +kernel
theorem dX2_isAlike_96 : decode cX2_isAlike 96 = .ok (.iadd, 1) := by decide +kernel
theorem dX2_isAlike_97 : decode cX2_isAlike 97 = .ok (.invokevirtual 81, 3) := by decide +kernel
theorem dX2_isAlike_100 : decode cX2_isAlike 100 = .ok (.aload_n 0, 1) := by decide +kernel
theorem dX2_isAlike_101 : decode cX2_isAlike 101 = .ok (.iload_n 2, 1) := by decide +kernel
theorem dX2_isAlike_102 : decode cX2_isAlike 102 = .ok (.aload_n 0, 1) := by decide +kernel
theorem dX2_isAlike_103 : decode cX2_isAlike 103 = .ok (.getfield 26, 3) := by decide +kernel
theorem dX2_isAlike_106 : decode cX2_isAlike 106 = .ok (.iload_n 2, 1) := by decide +kernel
theorem dX2_isAlike_107 : decode cX2_isAlike 107 = .ok (.iaload, 1) := by decide +kernel
theorem dX2_isAlike_108 : decode cX2_isAlike 108 = .ok (.iload 5, 2) := by decide +kernel
theorem dX2_isAlike_110 : decode cX2_isAlike 110 = .ok (.iadd, 1) := by decide +kernel
theorem dX2_isAlike_111 : decode cX2_isAlike 111 = .ok (.invokevirtual 81, 3) := by decide +kernel
theorem dX2_isAlike_114 : decode cX2_isAlike 114 = .ok (.lcmp, 1) := by decide +kernel
theorem dX2_isAlike_115 : decode cX2_isAlike 115 = .ok (.ifCond .ne 7, 3) := by decide +kernel
theorem dX2_isAlike_118 : decode cX2_isAlike 118 = .ok (.iconst 1, 1) := by decide +kernel
theorem dX2_isAlike_119 : decode cX2_isAlike 119 = .ok (.goto 4, 3) := by decide +kernel
theorem dX2_isAlike_122 : decode cX2_isAlike 122 = .ok (.iconst 0, 1) := by decide +kernel
theorem dX2_isAlike_123 : decode cX2_isAlike 123 = .ok (.istore 4, 2) := by decide +kernel
theorem dX2_isAlike_125 : decode cX2_isAlike 125 = .ok (.iinc 5 1, 3) := by decide +kernel
theorem dX2_isAlike_128 : decode cX2_isAlike 128 = .ok (.goto (-53), 3) := by decide +kernel
theorem dX2_isAlike_131 : decode cX2_isAlike 131 = .ok (.iload 4, 2) := by decide +kernel
theorem dX2_isAlike_133 : decode cX2_isAlike 133 = .ok (.ireturn, 1) := by decide +kernel
set_option maxRecDepth 20000 in
theorem ggX2_fullShare_X2_is : GoodIn wsX2_fullShare wsX2_is := goodIn_ca (goodIn_r _ [8, 9, 10, 11, 7, 12, 13, 14, 15, 16, 17, 18, 19, 20, 21, 22, 23, 24, 25] (by decide +kernel) (by decide +kernel)) (goodIn_sub (fun _ h => List.mem_cons_of_mem _ (List.mem_append_right _ h)) (by decide +kernel))
set_option maxRecDepth 20000 in
theorem gX2_fullShare_X2_is : GoodIn wsX2_fullShare (wsV RX2 56 RX2 yX2_is wsX2_is) := goodIn_app (goodIn_of _ (by decide +kernel)) ggX2_fullShare_X2_is
theorem dX2_fullShare_0 : decode cX2_fullShare 0 = .ok (.aload_n 0, 1) := by decide +kernel
theorem dX2_fullShare_1 : decode cX2_fullShare 1 = .ok (.aload_n 0, 1) := by decide +kernel
theorem dX2_fullShare_2 : decode cX2_fullShare 2 = .ok (.iload_n 1, 1) := by decide +kernel
theorem dX2_fullShare_3 : decode cX2_fullShare 3 = .ok (.invokevirtual 56, 3) := by decide +kernel
theorem dX2_fullShare_6 : decode cX2_fullShare 6 = .ok (.ifCond .ne 7, 3) := by decide +kernel
theorem dX2_fullShare_9 : decode cX2_fullShare 9 = .ok (.iconst 1, 1) := by decide +kernel
theorem dX2_fullShare_10 : decode cX2_fullShare 10 = .ok (.goto 17, 3) := by decide +kernel
theorem dX2_fullShare_13 : decode cX2_fullShare 13 = .ok (.aload_n 0, 1) := by decide +kernel
theorem dX2_fullShare_14 : decode cX2_fullShare 14 = .ok (.getfield 23, 3) := by decide +kernel
theorem dX2_fullShare_17 : decode cX2_fullShare 17 = .ok (.iload_n 1, 1) := by decide +kernel
theorem dX2_fullShare_18 : decode cX2_fullShare 18 = .ok (.iaload, 1) := by decide +kernel
theorem dX2_fullShare_19 : decode cX2_fullShare 19 = .ok (.ifCond .ne 7, 3) := by decide +kernel
theorem dX2_fullShare_22 : decode cX2_fullShare 22 = .ok (.iconst 2, 1) := by decide +kernel
theorem dX2_fullShare_23 : decode cX2_fullShare 23 = .ok (.goto 4, 3) := by decide +kernel
theorem dX2_fullShare_26 : decode cX2_fullShare 26 = .ok (.iconst 0, 1) := by decide +kernel
theorem dX2_fullShare_27 : decode cX2_fullShare 27 = .ok (.putfield 48, 3) := by decide +kernel
theorem dX2_fullShare_30 : decode cX2_fullShare 30 = .ok (.aload_n 0, 1) := by decide +kernel
theorem dX2_fullShare_31 : decode cX2_fullShare 31 = .ok (.getfield 48, 3) := by decide +kernel
theorem dX2_fullShare_34 : decode cX2_fullShare 34 = .ok (.ifCond .le 7, 3) := by decide +kernel
theorem dX2_fullShare_37 : decode cX2_fullShare 37 = .ok (.fconst 0, 1) := by decide +kernel
theorem dX2_fullShare_38 : decode cX2_fullShare 38 = .ok (.goto 18, 3) := by decide +kernel
theorem dX2_fullShare_41 : decode cX2_fullShare 41 = .ok (.aload_n 0, 1) := by decide +kernel
theorem dX2_fullShare_42 : decode cX2_fullShare 42 = .ok (.getfield 26, 3) := by decide +kernel
theorem dX2_fullShare_45 : decode cX2_fullShare 45 = .ok (.iload_n 1, 1) := by decide +kernel
theorem dX2_fullShare_46 : decode cX2_fullShare 46 = .ok (.iaload, 1) := by decide +kernel
theorem dX2_fullShare_47 : decode cX2_fullShare 47 = .ok (.i2f, 1) := by decide +kernel
theorem dX2_fullShare_48 : decode cX2_fullShare 48 = .ok (.aload_n 0, 1) := by decide +kernel
theorem dX2_fullShare_49 : decode cX2_fullShare 49 = .ok (.getfield 23, 3) := by decide +kernel
theorem dX2_fullShare_52 : decode cX2_fullShare 52 = .ok (.iload_n 1, 1) := by decide +kernel
theorem dX2_fullShare_53 : decode cX2_fullShare 53 = .ok (.iaload, 1) := by decide +kernel
theorem dX2_fullShare_54 : decode cX2_fullShare 54 = .ok (.i2f, 1) := by decide +kernel
theorem dX2_fullShare_55 : decode cX2_fullShare 55 = .ok (.fdiv, 1) := by decide +kernel
theorem dX2_fullShare_56 : decode cX2_fullShare 56 = .ok (.freturn, 1) := by decide +kernel
set_option maxRecDepth 20000 in
theorem ggX2_meanLeft_X2_is : GoodIn wsX2_meanLeft wsX2_is := goodIn_ca (goodIn_r _ [8, 9, 10, 11, 7, 12, 13, 14, 15, 16, 17, 18, 19, 20, 21, 22, 23, 24, 25] (by decide +kernel) (by decide +kernel)) (goodIn_sub (fun _ h => List.mem_cons_of_mem _ (List.mem_append_right _ h)) (by decide +kernel))
set_option maxRecDepth 20000 in
theorem gX2_meanLeft_X2_is : GoodIn wsX2_meanLeft (wsV RX2 56 RX2 yX2_is wsX2_is) := goodIn_app (goodIn_of _ (by decide +kernel)) ggX2_meanLeft_X2_is
theorem dX2_meanLeft_0 : decode cX2_meanLeft 0 = .ok (.iconst 0, 1) := by decide +kernel
theorem dX2_meanLeft_1 : decode cX2_meanLeft 1 = .ok (.istore_n 1, 1) := by decide +kernel
theorem dX2_meanLeft_2 : decode cX2_meanLeft 2 = .ok (.iconst 0, 1) := by decide +kernel
theorem dX2_meanLeft_3 : decode cX2_meanLeft 3 = .ok (.istore_n 2, 1) := by decide +kernel
theorem dX2_meanLeft_4 : decode cX2_meanLeft 4 = .ok (.iconst 0, 1) := by decide +kernel
theorem dX2_meanLeft_5 : decode cX2_meanLeft 5 = .ok (.istore_n 3, 1) := by decide +kernel
theorem dX2_meanLeft_6 : decode cX2_meanLeft 6 = .ok (.iload_n 3, 1) := by decide +kernel
theorem dX2_meanLeft_7 : decode cX2_meanLeft 7 = .ok (.bipush 8, 2) := by decide +kernel
theorem dX2_meanLeft_9 : decode cX2_meanLeft 9 = .ok (.if_icmp .ge 53, 3) := by decide +kernel
theorem dX2_meanLeft_12 : decode cX2_meanLeft 12 = .ok (.iload_n 1, 1) := by decide +kernel
theorem dX2_meanLeft_13 : decode cX2_meanLeft 13 = .ok (.aload_n 0, 1) := by decide +kernel
theorem dX2_meanLeft_14 : decode cX2_meanLeft 14 = .ok (.iload_n 3, 1) := by decide +kernel
theorem dX2_meanLeft_15 : decode cX2_meanLeft 15 = .ok (.invokevirtual 56, 3) := by decide +kernel
theorem dX2_meanLeft_18 : decode cX2_meanLeft 18 = .ok (.ifCond .eq 19, 3) := by decide +kernel
theorem dX2_meanLeft_21 : decode cX2_meanLeft 21 = .ok (.aload_n 0, 1) := by decide +kernel
theorem dX2_meanLeft_22 : decode cX2_meanLeft 22 = .ok (.getfield 29, 3) := by decide +kernel
theorem dX2_meanLeft_25 : decode cX2_meanLeft 25 = .ok (.iload_n 3, 1) := by decide +kernel
theorem dX2_meanLeft_26 : decode cX2_meanLeft 26 = .ok (.iaload, 1) := by decide +kernel
theorem dX2_meanLeft_27 : decode cX2_meanLeft 27 = .ok (.aload_n 0, 1) := by decide +kernel
theorem dX2_meanLeft_28 : decode cX2_meanLeft 28 = .ok (.getfield 26, 3) := by decide +kernel
theorem dX2_meanLeft_31 : decode cX2_meanLeft 31 = .ok (.iload_n 3, 1) := by decide +kernel
theorem dX2_meanLeft_32 : decode cX2_meanLeft 32 = .ok (.iaload, 1) := by decide +kernel
theorem dX2_meanLeft_33 : decode cX2_meanLeft 33 = .ok (.isub, 1) := by decide +kernel
theorem dX2_meanLeft_34 : decode cX2_meanLeft 34 = .ok (.goto 4, 3) := by decide +kernel
theorem dX2_meanLeft_37 : decode cX2_meanLeft 37 = .ok (.iconst 0, 1) := by decide +kernel
theorem dX2_meanLeft_38 : decode cX2_meanLeft 38 = .ok (.iadd, 1) := by decide +kernel
theorem dX2_meanLeft_39 : decode cX2_meanLeft 39 = .ok (.istore_n 1, 1) := by decide +kernel
theorem dX2_meanLeft_40 : decode cX2_meanLeft 40 = .ok (.iload_n 2, 1) := by decide +kernel
theorem dX2_meanLeft_41 : decode cX2_meanLeft 41 = .ok (.aload_n 0, 1) := by decide +kernel
theorem dX2_meanLeft_42 : decode cX2_meanLeft 42 = .ok (.iload_n 3, 1) := by decide +kernel
theorem dX2_meanLeft_43 : decode cX2_meanLeft 43 = .ok (.invokevirtual 56, 3) := by decide +kernel
theorem dX2_meanLeft_46 : decode cX2_meanLeft 46 = .ok (.ifCond .eq 7, 3) := by decide +kernel
theorem dX2_meanLeft_49 : decode cX2_meanLeft 49 = .ok (.iconst 1, 1) := by decide +kernel
theorem dX2_meanLeft_50 : decode cX2_meanLeft 50 = .ok (.goto 4, 3) := by decide +kernel
theorem dX2_meanLeft_53 : decode cX2_meanLeft 53 = .ok (.iconst 0, 1) := by decide +kernel
theorem dX2_meanLeft_54 : decode cX2_meanLeft 54 = .ok (.iadd, 1) := by decide +kernel
theorem dX2_meanLeft_55 : decode cX2_meanLeft 55 = .ok (.istore_n 2, 1) := by decide +kernel
theorem dX2_meanLeft_56 : decode cX2_meanLeft 56 = .ok (.iinc 3 1, 3) := by decide +kernel
theorem dX2_meanLeft_59 : decode cX2_meanLeft 59 = .ok (.goto (-53), 3) := by decide +kernel
theorem dX2_meanLeft_62 : decode cX2_meanLeft 62 = .ok (.aload_n 0, 1) := by decide +kernel
theorem dX2_meanLeft_63 : decode cX2_meanLeft 63 = .ok (.iload_n 2, 1) := by decide +kernel
theorem dX2_meanLeft_64 : decode cX2_meanLeft 64 = .ok (.ifCond .ne 7, 3) := by decide +kernel
theorem dX2_meanLeft_67 : decode cX2_meanLeft 67 = .ok (.iconst 1, 1) := by decide +kernel
theorem dX2_meanLeft_68 : decode cX2_meanLeft 68 = .ok (.goto 4, 3) := by decide +kernel
theorem dX2_meanLeft_71 : decode cX2_meanLeft 71 = .ok (.iconst 0, 1) := by decide +kernel
theorem dX2_meanLeft_72 : decode cX2_meanLeft 72 = .ok (.putfield 48, 3) := by decide +kernel
theorem dX2_meanLeft_75 : decode cX2_meanLeft 75 = .ok (.aload_n 0, 1) := by decide +kernel
theorem dX2_meanLeft_76 : decode cX2_meanLeft 76 = .ok (.getfield 48, 3) := by decide +kernel
theorem dX2_meanLeft_79 : decode cX2_meanLeft 79 = .ok (.ifCond .le 7, 3) := by decide +kernel
theorem dX2_meanLeft_82 : decode cX2_meanLeft 82 = .ok (.dconst 0, 1) := by decide +kernel
theorem dX2_meanLeft_83 : decode cX2_meanLeft 83 = .ok (.goto 8, 3) := by decide +kernel
theorem dX2_meanLeft_86 : decode cX2_meanLeft 86 = .ok (.iload_n 1, 1) := by decide +kernel
theorem dX2_meanLeft_87 : decode cX2_meanLeft 87 = .ok (.i2d, 1) := by decide +kernel
theorem dX2_meanLeft_88 : decode cX2_meanLeft 88 = .ok (.iload_n 2, 1) := by decide +kernel
theorem dX2_meanLeft_89 : decode cX2_meanLeft 89 = .ok (.i2d, 1) := by decide +kernel
theorem dX2_meanLeft_90 : decode cX2_meanLeft 90 = .ok (.ddiv, 1) := by decide +kernel
theorem dX2_meanLeft_91 : decode cX2_meanLeft 91 = .ok (.dreturn, 1) := by decide +kernel
set_option maxRecDepth 20000 in
theorem ggX2_checksum_X2_value : GoodIn wsX2_checksum wsX2_value := goodIn_ca (goodIn_r _ [15, 9, 16, 17, 18, 19, 20, 21, 22, 23, 24, 25, 26, 27, 28, 29, 30] (by decide +kernel) (by decide +kernel)) (goodIn_sub (fun _ h => List.mem_cons_of_mem _ (List.mem_append_right _ h)) (by decide +kernel))
set_option maxRecDepth 20000 in
theorem gX2_checksum_X2_value : GoodIn wsX2_checksum (wsV RX2 81 RX2 yX2_value wsX2_value) := goodIn_app (goodIn_of _ (by decide +kernel)) ggX2_checksum_X2_value
theorem dX2_checksum_0 : decode cX2_checksum 0 = .ok (.aload_n 0, 1) := by decide +kernel
theorem dX2_checksum_1 : decode cX2_checksum 1 = .ok (.iconst 0, 1) := by decide +kernel
theorem dX2_checksum_2 : decode cX2_checksum 2 = .ok (.putfield 48, 3) := by decide +kernel
theorem dX2_checksum_5 : decode cX2_checksum 5 = .ok (.ldc2_w 93, 3) := by decide +kernel
theorem dX2_checksum_8 : decode cX2_checksum 8 = .ok (.lstore_n 1, 1) := by decide +kernel
theorem dX2_checksum_9 : decode cX2_checksum 9 = .ok (.iconst 0, 1) := by decide +kernel
theorem dX2_checksum_10 : decode cX2_checksum 10 = .ok (.istore_n 3, 1) := by decide +kernel
theorem dX2_checksum_11 : decode cX2_checksum 11 = .ok (.iload_n 3, 1) := by decide +kernel
theorem dX2_checksum_12 : decode cX2_checksum 12 = .ok (.bipush 8, 2) := by decide +kernel
theorem dX2_checksum_14 : decode cX2_checksum 14 = .ok (.if_icmp .ge 122, 3) := by decide +kernel
theorem dX2_checksum_17 : decode cX2_checksum 17 = .ok (.ldc2_w 95, 3) := by decide +kernel
theorem dX2_checksum_20 : decode cX2_checksum 20 = .ok (.lload_n 1, 1) := by decide +kernel
theorem dX2_checksum_21 : decode cX2_checksum 21 = .ok (.lmul, 1) := by decide +kernel
theorem dX2_checksum_22 : decode cX2_checksum 22 = .ok (.aload_n 0, 1) := by decide +kernel
theorem dX2_checksum_23 : decode cX2_checksum 23 = .ok (.getfield 13, 3) := by decide +kernel
theorem dX2_checksum_26 : decode cX2_checksum 26 = .ok (.iload_n 3, 1) := by decide +kernel
theorem dX2_checksum_27 : decode cX2_checksum 27 = .ok (.iaload, 1) := by decide +kernel
theorem dX2_checksum_28 : decode cX2_checksum 28 = .ok (.ifCond .ne 8, 3) := by decide +kernel
theorem dX2_checksum_31 : decode cX2_checksum 31 = .ok (.bipush 45, 2) := by decide +kernel
theorem dX2_checksum_33 : decode cX2_checksum 33 = .ok (.goto 9, 3) := by decide +kernel
theorem dX2_checksum_36 : decode cX2_checksum 36 = .ok (.aload_n 0, 1) := by decide +kernel
theorem dX2_checksum_37 : decode cX2_checksum 37 = .ok (.getfield 13, 3) := by decide +kernel
theorem dX2_checksum_40 : decode cX2_checksum 40 = .ok (.iload_n 3, 1) := by decide +kernel
theorem dX2_checksum_41 : decode cX2_checksum 41 = .ok (.iaload, 1) := by decide +kernel
theorem dX2_checksum_42 : decode cX2_checksum 42 = .ok (.i2l, 1) := by decide +kernel
theorem dX2_checksum_43 : decode cX2_checksum 43 = .ok (.ladd, 1) := by decide +kernel
theorem dX2_checksum_44 : decode cX2_checksum 44 = .ok (.lstore_n 1, 1) := by decide +kernel
theorem dX2_checksum_45 : decode cX2_checksum 45 = .ok (.aload_n 0, 1) := by decide +kernel
theorem dX2_checksum_46 : decode cX2_checksum 46 = .ok (.getfield 13, 3) := by decide +kernel
theorem dX2_checksum_49 : decode cX2_checksum 49 = .ok (.iload_n 3, 1) := by decide +kernel
theorem dX2_checksum_50 : decode cX2_checksum 50 = .ok (.iaload, 1) := by decide +kernel
theorem dX2_checksum_51 : decode cX2_checksum 51 = .ok (.ifCond .eq 79, 3) := by decide +kernel
theorem dX2_checksum_54 : decode cX2_checksum 54 = .ok (.ldc2_w 95, 3) := by decide +kernel
theorem dX2_checksum_57 : decode cX2_checksum 57 = .ok (.lload_n 1, 1) := by decide +kernel
theorem dX2_checksum_58 : decode cX2_checksum 58 = .ok (.lmul, 1) := by decide +kernel
theorem dX2_checksum_59 : decode cX2_checksum 59 = .ok (.aload_n 0, 1) := by decide +kernel
theorem dX2_checksum_60 : decode cX2_checksum 60 = .ok (.getfield 26, 3) := by decide +kernel
theorem dX2_checksum_63 : decode cX2_checksum 63 = .ok (.iload_n 3, 1) := by decide +kernel
theorem dX2_checksum_64 : decode cX2_checksum 64 = .ok (.iaload, 1) := by decide +kernel
theorem dX2_checksum_65 : decode cX2_checksum 65 = .ok (.i2l, 1) := by decide +kernel
theorem dX2_checksum_66 : decode cX2_checksum 66 = .ok (.ladd, 1) := by decide +kernel
theorem dX2_checksum_67 : decode cX2_checksum 67 = .ok (.lstore_n 1, 1) := by decide +kernel
theorem dX2_checksum_68 : decode cX2_checksum 68 = .ok (.ldc2_w 95, 3) := by decide +kernel
theorem dX2_checksum_71 : decode cX2_checksum 71 = .ok (.lload_n 1, 1) := by decide +kernel
theorem dX2_checksum_72 : decode cX2_checksum 72 = .ok (.lmul, 1) := by decide +kernel
theorem dX2_checksum_73 : decode cX2_checksum 73 = .ok (.aload_n 0, 1) := by decide +kernel
theorem dX2_checksum_74 : decode cX2_checksum 74 = .ok (.getfield 29, 3) := by decide +kernel
theorem dX2_checksum_77 : decode cX2_checksum 77 = .ok (.iload_n 3, 1) := by decide +kernel
theorem dX2_checksum_78 : decode cX2_checksum 78 = .ok (.iaload, 1) := by decide +kernel
theorem dX2_checksum_79 : decode cX2_checksum 79 = .ok (.i2l, 1) := by decide +kernel
theorem dX2_checksum_80 : decode cX2_checksum 80 = .ok (.ladd, 1) := by decide +kernel
theorem dX2_checksum_81 : decode cX2_checksum 81 = .ok (.lstore_n 1, 1) := by decide +kernel
theorem dX2_checksum_82 : decode cX2_checksum 82 = .ok (.ldc2_w 95, 3) := by decide +kernel
theorem dX2_checksum_85 : decode cX2_checksum 85 = .ok (.lload_n 1, 1) := by decide +kernel
theorem dX2_checksum_86 : decode cX2_checksum 86 = .ok (.lmul, 1) := by decide +kernel
theorem dX2_checksum_87 : decode cX2_checksum 87 = .ok (.aload_n 0, 1) := by decide +kernel
theorem dX2_checksum_88 : decode cX2_checksum 88 = .ok (.getfield 23, 3) := by decide +kernel
theorem dX2_checksum_91 : decode cX2_checksum 91 = .ok (.iload_n 3, 1) := by decide +kernel
theorem dX2_checksum_92 : decode cX2_checksum 92 = .ok (.iaload, 1) := by decide +kernel
theorem dX2_checksum_93 : decode cX2_checksum 93 = .ok (.i2l, 1) := by decide +kernel
theorem dX2_checksum_94 : decode cX2_checksum 94 = .ok (.ladd, 1) := by decide +kernel
theorem dX2_checksum_95 : decode cX2_checksum 95 = .ok (.lstore_n 1, 1) := by decide +kernel
theorem dX2_checksum_96 : decode cX2_checksum 96 = .ok (.iconst 0, 1) := by decide +kernel
theorem dX2_checksum_97 : decode cX2_checksum 97 = .ok (.istore 4, 2) := by decide +kernel
theorem dX2_checksum_99 : decode cX2_checksum 99 = .ok (.iload 4, 2) := by decide +kernel
theorem dX2_checksum_101 : decode cX2_checksum 101 = .ok (.aload_n 0, 1) := by decide +kernel
theorem dX2_checksum_102 : decode cX2_checksum 102 = .ok (.getfield 29, 3) := by decide +kernel
theorem dX2_checksum_105 : decode cX2_checksum 105 = .ok (.iload_n 3, 1) := by decide +kernel
theorem dX2_checksum_106 : decode cX2_checksum 106 = .ok (.iaload, 1) := by decide +kernel
theorem dX2_checksum_107 : decode cX2_checksum 107 = .ok (.if_icmp .ge 23, 3) := by decide +kernel
theorem dX2_checksum_110 : decode cX2_checksum 110 = .ok (.ldc2_w 95, 3) := by decide +kernel
theorem dX2_checksum_113 : decode cX2_checksum 113 = .ok (.lload_n 1, 1) := by decide +kernel
theorem dX2_checksum_114 : decode cX2_checksum 114 = .ok (.lmul, 1) := by decide +kernel
theorem dX2_checksum_115 : decode cX2_checksum 115 = .ok (.aload_n 0, 1) := by decide +kernel
theorem dX2_checksum_116 : decode cX2_checksum 116 = .ok (.iload_n 3, 1) := by decide +kernel
theorem dX2_checksum_117 : decode cX2_checksum 117 = .ok (.iload 4, 2) := by decide +kernel
theorem dX2_checksum_119 : decode cX2_checksum 119 = .ok (.invokevirtual 81, 3) := by decide +kernel
theorem dX2_checksum_122 : decode cX2_checksum 122 = .ok (.ladd, 1) := by decide +kernel
theorem dX2_checksum_123 : decode cX2_checksum 123 = .ok (.lstore_n 1, 1) := by decide +kernel
theorem dX2_checksum_124 : decode cX2_checksum 124 = .ok (.iinc 4 1, 3) := by decide +kernel
theorem dX2_checksum_127 : decode cX2_checksum 127 = .ok (.goto (-28), 3) := by decide +kernel
theorem dX2_checksum_130 : decode cX2_checksum 130 = .ok (.iinc 3 1, 3) := by decide +kernel
theorem dX2_checksum_133 : decode cX2_checksum 133 = .ok (.goto (-122), 3) := by decide +kernel
theorem dX2_checksum_136 : decode cX2_checksum 136 = .ok (.iconst 0, 1) := by decide +kernel
theorem dX2_checksum_137 : decode cX2_checksum 137 = .ok (.istore_n 3, 1) := by decide +kernel
theorem dX2_checksum_138 : decode cX2_checksum 138 = .ok (.iload_n 3, 1) := by decide +kernel
theorem dX2_checksum_139 : decode cX2_checksum 139 = .ok (.iconst 2, 1) := by decide +kernel
theorem dX2_checksum_140 : decode cX2_checksum 140 = .ok (.if_icmp .ge 53, 3) := by decide +kernel
theorem dX2_checksum_143 : decode cX2_checksum 143 = .ok (.iconst 0, 1) := by decide +kernel
theorem dX2_checksum_144 : decode cX2_checksum 144 = .ok (.istore 4, 2) := by decide +kernel
theorem dX2_checksum_146 : decode cX2_checksum 146 = .ok (.iload 4, 2) := by decide +kernel
theorem dX2_checksum_148 : decode cX2_checksum 148 = .ok (.aload_n 0, 1) := by decide +kernel
theorem dX2_checksum_149 : decode cX2_checksum 149 = .ok (.getfield 42, 3) := by decide +kernel
theorem dX2_checksum_152 : decode cX2_checksum 152 = .ok (.iload_n 3, 1) := by decide +kernel
theorem dX2_checksum_153 : decode cX2_checksum 153 = .ok (.iaload, 1) := by decide +kernel
theorem dX2_checksum_154 : decode cX2_checksum 154 = .ok (.if_icmp .ge 33, 3) := by decide +kernel
theorem dX2_checksum_157 : decode cX2_checksum 157 = .ok (.ldc2_w 95, 3) := by decide +kernel
theorem dX2_checksum_160 : decode cX2_checksum 160 = .ok (.lload_n 1, 1) := by decide +kernel
theorem dX2_checksum_161 : decode cX2_checksum 161 = .ok (.lmul, 1) := by decide +kernel
theorem dX2_checksum_162 : decode cX2_checksum 162 = .ok (.aload_n 0, 1) := by decide +kernel
theorem dX2_checksum_163 : decode cX2_checksum 163 = .ok (.getfield 7, 3) := by decide +kernel
theorem dX2_checksum_166 : decode cX2_checksum 166 = .ok (.bipush 64, 2) := by decide +kernel
theorem dX2_checksum_168 : decode cX2_checksum 168 = .ok (.aload_n 0, 1) := by decide +kernel
theorem dX2_checksum_169 : decode cX2_checksum 169 = .ok (.getfield 39, 3) := by decide +kernel
theorem dX2_checksum_172 : decode cX2_checksum 172 = .ok (.iload_n 3, 1) := by decide +kernel
theorem dX2_checksum_173 : decode cX2_checksum 173 = .ok (.iaload, 1) := by decide +kernel
theorem dX2_checksum_174 : decode cX2_checksum 174 = .ok (.imul, 1) := by decide +kernel
theorem dX2_checksum_175 : decode cX2_checksum 175 = .ok (.iload 4, 2) := by decide +kernel
theorem dX2_checksum_177 : decode cX2_checksum 177 = .ok (.iadd, 1) := by decide +kernel
theorem dX2_checksum_178 : decode cX2_checksum 178 = .ok (.laload, 1) := by decide +kernel
theorem dX2_checksum_179 : decode cX2_checksum 179 = .ok (.ladd, 1) := by decide +kernel
theorem dX2_checksum_180 : decode cX2_checksum 180 = .ok (.lstore_n 1, 1) := by decide +kernel
theorem dX2_checksum_181 : decode cX2_checksum 181 = .ok (.iinc 4 1, 3) := by decide +kernel
theorem dX2_checksum_184 : decode cX2_checksum 184 = .ok (.goto (-38), 3) := by decide +kernel
theorem dX2_checksum_187 : decode cX2_checksum 187 = .ok (.iinc 3 1, 3) := by decide +kernel
theorem dX2_checksum_190 : decode cX2_checksum 190 = .ok (.goto (-52), 3) := by decide +kernel
theorem dX2_checksum_193 : decode cX2_checksum 193 = .ok (.lload_n 1, 1) := by decide +kernel
theorem dX2_checksum_194 : decode cX2_checksum 194 = .ok (.lreturn, 1) := by decide +kernel
theorem dX2_isTrue_0 : decode cX2_isTrue 0 = .ok (.aload_n 0, 1) := by decide +kernel
theorem dX2_isTrue_1 : decode cX2_isTrue 1 = .ok (.iconst 0, 1) := by decide +kernel
theorem dX2_isTrue_2 : decode cX2_isTrue 2 = .ok (.putfield 48, 3) := by decide +kernel
theorem dX2_isTrue_5 : decode cX2_isTrue 5 = .ok (.iconst 1, 1) := by decide +kernel
theorem dX2_isTrue_6 : decode cX2_isTrue 6 = .ok (.ireturn, 1) := by decide +kernel
theorem dJx00060_init_a7421_0 : decode cJx00060_init_a7421 0 = .ok (.aload_n 0, 1) := by decide +kernel
theorem dJx00060_init_a7421_1 : decode cJx00060_init_a7421 1 = .ok (.aload_n 1, 1) := by decide +kernel
theorem dJx00060_init_a7421_2 : decode cJx00060_init_a7421 2 = .ok (.invokespecial 7, 3) := by decide +kernel
theorem dJx00060_init_a7421_5 : decode cJx00060_init_a7421 5 = .ok (.return_, 1) := by decide +kernel
theorem dJ9_min_7cf53_0 : decode cJ9_min_7cf53 0 = .ok (.iload_n 0, 1) := by decide +kernel
theorem dJ9_min_7cf53_1 : decode cJ9_min_7cf53 1 = .ok (.iload_n 1, 1) := by decide +kernel
theorem dJ9_min_7cf53_2 : decode cJ9_min_7cf53 2 = .ok (.if_icmp .gt 7, 3) := by decide +kernel
theorem dJ9_min_7cf53_5 : decode cJ9_min_7cf53 5 = .ok (.iload_n 0, 1) := by decide +kernel
theorem dJ9_min_7cf53_6 : decode cJ9_min_7cf53 6 = .ok (.goto 4, 3) := by decide +kernel
theorem dJ9_min_7cf53_9 : decode cJ9_min_7cf53 9 = .ok (.iload_n 1, 1) := by decide +kernel
theorem dJ9_min_7cf53_10 : decode cJ9_min_7cf53 10 = .ok (.ireturn, 1) := by decide +kernel
