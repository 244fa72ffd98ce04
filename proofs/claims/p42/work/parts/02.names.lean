/-! ===== BEGIN printed: names, fields, word lists, decode rows ===== -/
def RX0 : String := "Windowhouse$Window"
def TX0 : u_T := fun k => match k with
  | 0 => ("Windowhouse$Window", "kind", "C", false)
  | 1 => ("Windowhouse$Window", "onlyReads", "Z", false)
  | 2 => ("Windowhouse$Window", "store", "[J", false)
  | 3 => ("Windowhouse$Window", "start", "I", false)
  | 4 => ("Windowhouse$Window", "capacity", "I", false)
  | 5 => ("Windowhouse$Window", "place", "I", false)
  | 6 => ("Windowhouse$Window", "end", "I", false)
  | _ => ("Windowhouse$Window", "mark", "I", false)
def tyX0 : Nat → FieldType := fun k => match k with
  | 0 => .char
  | 1 => .boolean
  | 2 => .array .long
  | 3 => .int
  | 4 => .int
  | 5 => .int
  | 6 => .int
  | _ => .int
abbrev wsX00 : List Cond := u_ws RX0 TX0 8
theorem nmX0 : ∀ a, a < 8 → ∀ b, b < 8 → a ≠ b → (TX0 a).2.1 ≠ (TX0 b).2.1 := by decide +kernel
theorem tyX0_ok : ∀ k, k < 8 → parseFieldDescriptor (TX0 k).2.2.1 = some (tyX0 k) := by decide +kernel
abbrev cX0_init : ByteArray := prog_2_method_1_code
def yX0_init : MethodName := ⟨RX0, "<init>", "()V"⟩
abbrev cX0_isThere : ByteArray := prog_2_method_2_code
def yX0_isThere : MethodName := ⟨RX0, "isThere", "()Z"⟩
abbrev cX0_rest : ByteArray := prog_2_method_3_code
def yX0_rest : MethodName := ⟨RX0, "rest", "()I"⟩
abbrev cX0_isInBounds : ByteArray := prog_2_method_4_code
def yX0_isInBounds : MethodName := ⟨RX0, "isInBounds", "()Z"⟩
abbrev cX0_layOver : ByteArray := prog_2_method_5_code
def yX0_layOver : MethodName := ⟨RX0, "layOver", "(C[J)V"⟩
abbrev cX0_becomeSlice : ByteArray := prog_2_method_6_code
def yX0_becomeSlice : MethodName := ⟨RX0, "becomeSlice", "(LWindowhouse$Window;II)V"⟩
abbrev cX0_becomeDuplicate : ByteArray := prog_2_method_7_code
def yX0_becomeDuplicate : MethodName := ⟨RX0, "becomeDuplicate", "(LWindowhouse$Window;)V"⟩
abbrev cX0_moveTo : ByteArray := prog_2_method_8_code
def yX0_moveTo : MethodName := ⟨RX0, "moveTo", "(II)V"⟩
abbrev cX0_dropMarkBeyond : ByteArray := prog_2_method_9_code
def yX0_dropMarkBeyond : MethodName := ⟨RX0, "dropMarkBeyond", "(I)V"⟩
abbrev cX0_valueAt : ByteArray := prog_2_method_10_code
def yX0_valueAt : MethodName := ⟨RX0, "valueAt", "(I)J"⟩
abbrev cX0_changeAt : ByteArray := prog_2_method_11_code
def yX0_changeAt : MethodName := ⟨RX0, "changeAt", "(IJ)V"⟩
abbrev cX0_takeNext : ByteArray := prog_2_method_12_code
def yX0_takeNext : MethodName := ⟨RX0, "takeNext", "()J"⟩
abbrev cX0_putNext : ByteArray := prog_2_method_13_code
def yX0_putNext : MethodName := ⟨RX0, "putNext", "(J)V"⟩
abbrev cX0_cut : ByteArray := prog_2_method_14_code
def yX0_cut : MethodName := ⟨RX0, "cut", "(J)J"⟩
abbrev cX0_sumOver : ByteArray := prog_2_method_15_code
def yX0_sumOver : MethodName := ⟨RX0, "sumOver", "(JI)J"⟩
abbrev cX0_sumOfAll : ByteArray := prog_2_method_16_code
def yX0_sumOfAll : MethodName := ⟨RX0, "sumOfAll", "(J)J"⟩
def RX1 : String := "Windowhouse"
def TX1 : u_T := fun k => match k with
  | 0 => ("Windowhouse", "windows", "[LWindowhouse$Window;", true)
  | 1 => ("Windowhouse", "rows", "[[J", true)
  | 2 => ("Windowhouse", "probe", "LWindowhouse$Window;", true)
  | _ => ("Windowhouse", "twin", "LWindowhouse$Window;", true)
def tyX1 : Nat → FieldType := fun k => match k with
  | 0 => .array (.object "Windowhouse$Window")
  | 1 => .array (.array .long)
  | 2 => .object "Windowhouse$Window"
  | _ => .object "Windowhouse$Window"
abbrev wsX10 : List Cond := u_ws RX1 TX1 4
theorem nmX1 : ∀ a, a < 4 → ∀ b, b < 4 → a ≠ b → (TX1 a).2.1 ≠ (TX1 b).2.1 := by decide +kernel
theorem tyX1_ok : ∀ k, k < 4 → parseFieldDescriptor (TX1 k).2.2.1 = some (tyX1 k) := by decide +kernel
abbrev cX1_init : ByteArray := prog_1_method_1_code
def yX1_init : MethodName := ⟨RX1, "<init>", "()V"⟩
abbrev cX1_make : ByteArray := prog_1_method_2_code
def yX1_make : MethodName := ⟨RX1, "make", "(II)I"⟩
abbrev cX1_rowAt : ByteArray := prog_1_method_3_code
def yX1_rowAt : MethodName := ⟨RX1, "rowAt", "(II)I"⟩
abbrev cX1_rowPut : ByteArray := prog_1_method_4_code
def yX1_rowPut : MethodName := ⟨RX1, "rowPut", "(III)I"⟩
abbrev cX1_allocate : ByteArray := prog_1_method_5_code
def yX1_allocate : MethodName := ⟨RX1, "allocate", "(ICI)Z"⟩
abbrev cX1_wrap : ByteArray := prog_1_method_6_code
def yX1_wrap : MethodName := ⟨RX1, "wrap", "(II)I"⟩
abbrev cX1_slice : ByteArray := prog_1_method_7_code
def yX1_slice : MethodName := ⟨RX1, "slice", "(II)I"⟩
abbrev cX1_sliceAt : ByteArray := prog_1_method_8_code
def yX1_sliceAt : MethodName := ⟨RX1, "sliceAt", "(IIII)I"⟩
abbrev cX1_duplicate : ByteArray := prog_1_method_9_code
def yX1_duplicate : MethodName := ⟨RX1, "duplicate", "(II)I"⟩
abbrev cX1_readOnly : ByteArray := prog_1_method_10_code
def yX1_readOnly : MethodName := ⟨RX1, "readOnly", "(II)I"⟩
abbrev cX1_capacity : ByteArray := prog_1_method_12_code
def yX1_capacity : MethodName := ⟨RX1, "capacity", "(I)I"⟩
abbrev cX1_place : ByteArray := prog_1_method_13_code
def yX1_place : MethodName := ⟨RX1, "place", "(I)I"⟩
abbrev cX1_end : ByteArray := prog_1_method_14_code
def yX1_end : MethodName := ⟨RX1, "end", "(I)I"⟩
abbrev cX1_left : ByteArray := prog_1_method_15_code
def yX1_left : MethodName := ⟨RX1, "left", "(I)I"⟩
abbrev cX1_hasLeft : ByteArray := prog_1_method_16_code
def yX1_hasLeft : MethodName := ⟨RX1, "hasLeft", "(I)Z"⟩
abbrev cX1_isReadOnly : ByteArray := prog_1_method_17_code
def yX1_isReadOnly : MethodName := ⟨RX1, "isReadOnly", "(I)Z"⟩
abbrev cX1_placeAt : ByteArray := prog_1_method_18_code
def yX1_placeAt : MethodName := ⟨RX1, "placeAt", "(II)I"⟩
abbrev cX1_endAt : ByteArray := prog_1_method_19_code
def yX1_endAt : MethodName := ⟨RX1, "endAt", "(II)I"⟩
abbrev cX1_mark : ByteArray := prog_1_method_20_code
def yX1_mark : MethodName := ⟨RX1, "mark", "(I)I"⟩
abbrev cX1_back : ByteArray := prog_1_method_21_code
def yX1_back : MethodName := ⟨RX1, "back", "(I)I"⟩
abbrev cX1_clear : ByteArray := prog_1_method_22_code
def yX1_clear : MethodName := ⟨RX1, "clear", "(I)I"⟩
abbrev cX1_flip : ByteArray := prog_1_method_23_code
def yX1_flip : MethodName := ⟨RX1, "flip", "(I)I"⟩
abbrev cX1_rewind : ByteArray := prog_1_method_24_code
def yX1_rewind : MethodName := ⟨RX1, "rewind", "(I)I"⟩
abbrev cX1_compact : ByteArray := prog_1_method_25_code
def yX1_compact : MethodName := ⟨RX1, "compact", "(I)I"⟩
abbrev cX1_get : ByteArray := prog_1_method_26_code
def yX1_get : MethodName := ⟨RX1, "get", "(I)J"⟩
abbrev cX1_put : ByteArray := prog_1_method_27_code
def yX1_put : MethodName := ⟨RX1, "put", "(IJ)I"⟩
abbrev cX1_getAt : ByteArray := prog_1_method_28_code
def yX1_getAt : MethodName := ⟨RX1, "getAt", "(II)J"⟩
abbrev cX1_putAt : ByteArray := prog_1_method_29_code
def yX1_putAt : MethodName := ⟨RX1, "putAt", "(IIJ)J"⟩
abbrev cX1_fill : ByteArray := prog_1_method_30_code
def yX1_fill : MethodName := ⟨RX1, "fill", "(IIJJ)I"⟩
abbrev cX1_isAlike : ByteArray := prog_1_method_36_code
def yX1_isAlike : MethodName := ⟨RX1, "isAlike", "(II)Z"⟩
abbrev cX1_checksum : ByteArray := prog_1_method_39_code
def yX1_checksum : MethodName := ⟨RX1, "checksum", "()J"⟩
abbrev cX1_isTrue : ByteArray := prog_1_method_40_code
def yX1_isTrue : MethodName := ⟨RX1, "isTrue", "()Z"⟩
abbrev cX1_keepsTheorem : ByteArray := prog_1_method_41_code
def yX1_keepsTheorem : MethodName := ⟨RX1, "keepsTheorem", "(LWindowhouse$Window;)Z"⟩
abbrev cX1_showsChange : ByteArray := prog_1_method_42_code
def yX1_showsChange : MethodName := ⟨RX1, "showsChange", "(LWindowhouse$Window;I)Z"⟩
abbrev cX1_sumOfRow : ByteArray := prog_1_method_43_code
def yX1_sumOfRow : MethodName := ⟨RX1, "sumOfRow", "(J[J)J"⟩
abbrev cX1_summed : ByteArray := prog_1_method_44_code
def yX1_summed : MethodName := ⟨RX1, "summed", "(JJ)J"⟩
abbrev cX1_slotOf : ByteArray := prog_1_method_45_code
def yX1_slotOf : MethodName := ⟨RX1, "slotOf", "(I)LWindowhouse$Window;"⟩
abbrev cX1_windowOf : ByteArray := prog_1_method_46_code
def yX1_windowOf : MethodName := ⟨RX1, "windowOf", "(I)LWindowhouse$Window;"⟩
abbrev cX1_rowOf : ByteArray := prog_1_method_47_code
def yX1_rowOf : MethodName := ⟨RX1, "rowOf", "(I)[J"⟩
abbrev cX1_checkIndex : ByteArray := prog_1_method_48_code
def yX1_checkIndex : MethodName := ⟨RX1, "checkIndex", "(II)V"⟩
abbrev cX1_checkPart : ByteArray := prog_1_method_49_code
def yX1_checkPart : MethodName := ⟨RX1, "checkPart", "(III)V"⟩
abbrev cX1_checkBound : ByteArray := prog_1_method_50_code
def yX1_checkBound : MethodName := ⟨RX1, "checkBound", "(II)V"⟩
abbrev cX1_checkLength : ByteArray := prog_1_method_51_code
def yX1_checkLength : MethodName := ⟨RX1, "checkLength", "(I)V"⟩
abbrev cX1_checkKind : ByteArray := prog_1_method_52_code
def yX1_checkKind : MethodName := ⟨RX1, "checkKind", "(C)V"⟩
abbrev cX1_checkMany : ByteArray := prog_1_method_53_code
def yX1_checkMany : MethodName := ⟨RX1, "checkMany", "(I)V"⟩
abbrev cX1_checkWritable : ByteArray := prog_1_method_54_code
def yX1_checkWritable : MethodName := ⟨RX1, "checkWritable", "(LWindowhouse$Window;)V"⟩
abbrev cX1_checkEnoughToGet : ByteArray := prog_1_method_56_code
def yX1_checkEnoughToGet : MethodName := ⟨RX1, "checkEnoughToGet", "(LWindowhouse$Window;I)V"⟩
abbrev cX1_checkEnoughToPut : ByteArray := prog_1_method_57_code
def yX1_checkEnoughToPut : MethodName := ⟨RX1, "checkEnoughToPut", "(LWindowhouse$Window;I)V"⟩
def RX2 : String := "WindowhouseModel"
def TX2 : u_T := fun k => match k with
  | _ => ("", "", "", false)
def tyX2 : Nat → FieldType := fun k => match k with
  | _ => .int
abbrev wsX20 : List Cond := u_ws RX2 TX2 0
theorem nmX2 : ∀ a, a < 0 → ∀ b, b < 0 → a ≠ b → (TX2 a).2.1 ≠ (TX2 b).2.1 := by decide +kernel
theorem tyX2_ok : ∀ k, k < 0 → parseFieldDescriptor (TX2 k).2.2.1 = some (tyX2 k) := by decide +kernel
def RJx145de : String := "java/io/Serializable"
def TJx145de : u_T := fun k => match k with
  | _ => ("", "", "", false)
def tyJx145de : Nat → FieldType := fun k => match k with
  | _ => .int
abbrev wsJx145de0 : List Cond := u_ws RJx145de TJx145de 0
theorem nmJx145de : ∀ a, a < 0 → ∀ b, b < 0 → a ≠ b → (TJx145de a).2.1 ≠ (TJx145de b).2.1 := by decide +kernel
theorem tyJx145de_ok : ∀ k, k < 0 → parseFieldDescriptor (TJx145de k).2.2.1 = some (tyJx145de k) := by decide +kernel
def RJ9 : String := "java/lang/Math"
def TJ9 : u_T := fun k => match k with
  | _ => ("", "", "", false)
def tyJ9 : Nat → FieldType := fun k => match k with
  | _ => .int
abbrev wsJ90 : List Cond := u_ws RJ9 TJ9 0
theorem nmJ9 : ∀ a, a < 0 → ∀ b, b < 0 → a ≠ b → (TJ9 a).2.1 ≠ (TJ9 b).2.1 := by decide +kernel
theorem tyJ9_ok : ∀ k, k < 0 → parseFieldDescriptor (TJ9 k).2.2.1 = some (tyJ9 k) := by decide +kernel
abbrev cJ9_min_7cf53 : ByteArray := prog_10_method_69_code
def yJ9_min_7cf53 : MethodName := ⟨RJ9, "min", "(II)I"⟩
def RJ0 : String := "java/lang/String"
def TJ0 : u_T := fun k => match k with
  | _ => ("", "", "", false)
def tyJ0 : Nat → FieldType := fun k => match k with
  | _ => .int
abbrev wsJ00 : List Cond := u_ws RJ0 TJ0 0
theorem nmJ0 : ∀ a, a < 0 → ∀ b, b < 0 → a ≠ b → (TJ0 a).2.1 ≠ (TJ0 b).2.1 := by decide +kernel
theorem tyJ0_ok : ∀ k, k < 0 → parseFieldDescriptor (TJ0 k).2.2.1 = some (tyJ0 k) := by decide +kernel
def RJ10 : String := "java/lang/System"
def TJ10 : u_T := fun k => match k with
  | _ => ("", "", "", false)
def tyJ10 : Nat → FieldType := fun k => match k with
  | _ => .int
abbrev wsJ100 : List Cond := u_ws RJ10 TJ10 0
theorem nmJ10 : ∀ a, a < 0 → ∀ b, b < 0 → a ≠ b → (TJ10 a).2.1 ≠ (TJ10 b).2.1 := by decide +kernel
theorem tyJ10_ok : ∀ k, k < 0 → parseFieldDescriptor (TJ10 k).2.2.1 = some (tyJ10 k) := by decide +kernel
def RL : String := "WindowhouseLaw"
def TL : u_T := fun k => match k with
  | 0 => ("WindowhouseLaw", "script", "[I", false)
  | 1 => ("WindowhouseLaw", "at", "I", false)
  | 2 => ("WindowhouseLaw", "seed", "I", false)
  | _ => ("WindowhouseLaw", "x", "LWindowhouse;", true)
def tyL : Nat → FieldType := fun k => match k with
  | 0 => .array .int
  | 1 => .int
  | 2 => .int
  | _ => .object "Windowhouse"
abbrev wsL0 : List Cond := u_ws RL TL 4
theorem nmL : ∀ a, a < 4 → ∀ b, b < 4 → a ≠ b → (TL a).2.1 ≠ (TL b).2.1 := by decide +kernel
theorem tyL_ok : ∀ k, k < 4 → parseFieldDescriptor (TL k).2.2.1 = some (tyL k) := by decide +kernel
def wsX0_init : List Cond := .code yX0_init cX0_init 1 none :: ([.methodLink RX0 3 objectInit, .instanceMethod objectInit, .code objectInit ⟨#[0xb1]⟩ 1 none, .fieldLink RX0 9 "Windowhouse$Window" "kind" "C", .arrayClass .long, .fieldLink RX0 15 "Windowhouse$Window" "store" "[J", .fieldLink RX0 19 "Windowhouse$Window" "mark" "I"] ++ wsX00)
def wsX0_isThere : List Cond := .code yX0_isThere cX0_isThere 1 (some .boolean) :: ([.fieldLink RX0 9 "Windowhouse$Window" "kind" "C"] ++ wsX00)
def wsX0_rest : List Cond := .code yX0_rest cX0_rest 1 (some .int) :: ([.fieldLink RX0 23 "Windowhouse$Window" "end" "I", .fieldLink RX0 26 "Windowhouse$Window" "place" "I"] ++ wsX00)
def wsX0_isInBounds : List Cond := .code yX0_isInBounds cX0_isInBounds 1 (some .boolean) :: ([.fieldLink RX0 26 "Windowhouse$Window" "place" "I", .fieldLink RX0 23 "Windowhouse$Window" "end" "I", .fieldLink RX0 29 "Windowhouse$Window" "capacity" "I", .fieldLink RX0 32 "Windowhouse$Window" "start" "I", .fieldLink RX0 15 "Windowhouse$Window" "store" "[J"] ++ wsX00)
def wsX0_moveTo : List Cond := .code yX0_moveTo cX0_moveTo 3 none :: ([.fieldLink RX0 26 "Windowhouse$Window" "place" "I", .fieldLink RX0 23 "Windowhouse$Window" "end" "I", .fieldLink RX0 19 "Windowhouse$Window" "mark" "I"] ++ wsX00)
def wsX0_layOver : List Cond := .code yX0_layOver cX0_layOver 3 none :: ([.fieldLink RX0 9 "Windowhouse$Window" "kind" "C", .fieldLink RX0 35 "Windowhouse$Window" "onlyReads" "Z", .fieldLink RX0 15 "Windowhouse$Window" "store" "[J", .fieldLink RX0 32 "Windowhouse$Window" "start" "I", .fieldLink RX0 29 "Windowhouse$Window" "capacity" "I", .methodLink RX0 39 yX0_moveTo, .instanceMethod yX0_moveTo, .selects RX0 yX0_moveTo yX0_moveTo, .initialized RX0, .code yX0_moveTo cX0_moveTo 3 none, .fieldLink RX0 26 "Windowhouse$Window" "place" "I", .fieldLink RX0 23 "Windowhouse$Window" "end" "I", .fieldLink RX0 19 "Windowhouse$Window" "mark" "I"] ++ wsX00)
def wsX0_becomeSlice : List Cond := .code yX0_becomeSlice cX0_becomeSlice 4 none :: ([.fieldLink RX0 9 "Windowhouse$Window" "kind" "C", .fieldLink RX0 35 "Windowhouse$Window" "onlyReads" "Z", .fieldLink RX0 15 "Windowhouse$Window" "store" "[J", .fieldLink RX0 32 "Windowhouse$Window" "start" "I", .fieldLink RX0 29 "Windowhouse$Window" "capacity" "I", .methodLink RX0 39 yX0_moveTo, .instanceMethod yX0_moveTo, .selects RX0 yX0_moveTo yX0_moveTo, .initialized RX0, .code yX0_moveTo cX0_moveTo 3 none, .fieldLink RX0 26 "Windowhouse$Window" "place" "I", .fieldLink RX0 23 "Windowhouse$Window" "end" "I", .fieldLink RX0 19 "Windowhouse$Window" "mark" "I"] ++ wsX00)
def wsX0_becomeDuplicate : List Cond := .code yX0_becomeDuplicate cX0_becomeDuplicate 2 none :: ([.fieldLink RX0 9 "Windowhouse$Window" "kind" "C", .fieldLink RX0 35 "Windowhouse$Window" "onlyReads" "Z", .fieldLink RX0 15 "Windowhouse$Window" "store" "[J", .fieldLink RX0 32 "Windowhouse$Window" "start" "I", .fieldLink RX0 29 "Windowhouse$Window" "capacity" "I", .fieldLink RX0 26 "Windowhouse$Window" "place" "I", .fieldLink RX0 23 "Windowhouse$Window" "end" "I", .fieldLink RX0 19 "Windowhouse$Window" "mark" "I"] ++ wsX00)
def wsX0_dropMarkBeyond : List Cond := .code yX0_dropMarkBeyond cX0_dropMarkBeyond 2 none :: ([.fieldLink RX0 19 "Windowhouse$Window" "mark" "I"] ++ wsX00)
def wsX0_valueAt : List Cond := .code yX0_valueAt cX0_valueAt 2 (some .long) :: ([.fieldLink RX0 15 "Windowhouse$Window" "store" "[J", .fieldLink RX0 32 "Windowhouse$Window" "start" "I"] ++ wsX00)
def wsX0_cut : List Cond := .code yX0_cut cX0_cut 3 (some .long) :: ([.fieldLink RX0 9 "Windowhouse$Window" "kind" "C", .constantLong RX0 55 (255)] ++ wsX00)
def wsX0_changeAt : List Cond := .code yX0_changeAt cX0_changeAt 4 none :: ([.fieldLink RX0 15 "Windowhouse$Window" "store" "[J", .fieldLink RX0 32 "Windowhouse$Window" "start" "I", .methodLink RX0 43 yX0_cut, .instanceMethod yX0_cut, .selects RX0 yX0_cut yX0_cut, .initialized RX0, .code yX0_cut cX0_cut 3 (some .long), .fieldLink RX0 9 "Windowhouse$Window" "kind" "C", .constantLong RX0 55 (255)] ++ wsX00)
def wsX0_takeNext : List Cond := .code yX0_takeNext cX0_takeNext 3 (some .long) :: ([.fieldLink RX0 26 "Windowhouse$Window" "place" "I", .methodLink RX0 47 yX0_valueAt, .instanceMethod yX0_valueAt, .selects RX0 yX0_valueAt yX0_valueAt, .initialized RX0, .code yX0_valueAt cX0_valueAt 2 (some .long), .fieldLink RX0 15 "Windowhouse$Window" "store" "[J", .fieldLink RX0 32 "Windowhouse$Window" "start" "I"] ++ wsX00)
def wsX0_putNext : List Cond := .code yX0_putNext cX0_putNext 3 none :: ([.fieldLink RX0 26 "Windowhouse$Window" "place" "I", .methodLink RX0 51 yX0_changeAt, .instanceMethod yX0_changeAt, .selects RX0 yX0_changeAt yX0_changeAt, .initialized RX0, .code yX0_changeAt cX0_changeAt 4 none, .fieldLink RX0 15 "Windowhouse$Window" "store" "[J", .fieldLink RX0 32 "Windowhouse$Window" "start" "I", .methodLink RX0 43 yX0_cut, .instanceMethod yX0_cut, .selects RX0 yX0_cut yX0_cut, .code yX0_cut cX0_cut 3 (some .long), .fieldLink RX0 9 "Windowhouse$Window" "kind" "C", .constantLong RX0 55 (255)] ++ wsX00)
def wsX1_summed : List Cond := .code yX1_summed cX1_summed 4 (some .long) :: ([.constantLong RX1 214 (31)])
def wsX0_sumOver : List Cond := .code yX0_sumOver cX0_sumOver 7 (some .long) :: ([.fieldLink RX0 23 "Windowhouse$Window" "end" "I", .methodLink RX0 47 yX0_valueAt, .instanceMethod yX0_valueAt, .selects RX0 yX0_valueAt yX0_valueAt, .initialized RX0, .code yX0_valueAt cX0_valueAt 2 (some .long), .fieldLink RX0 15 "Windowhouse$Window" "store" "[J", .fieldLink RX0 32 "Windowhouse$Window" "start" "I", .static yX1_summed, .initialized RX1, .code yX1_summed cX1_summed 4 (some .long), .constantLong RX1 214 (31)] ++ wsX00)
def wsX0_sumOfAll : List Cond := .code yX0_sumOfAll cX0_sumOfAll 5 (some .long) :: ([.fieldLink RX0 9 "Windowhouse$Window" "kind" "C", .fieldLink RX0 26 "Windowhouse$Window" "place" "I", .fieldLink RX0 23 "Windowhouse$Window" "end" "I", .fieldLink RX0 29 "Windowhouse$Window" "capacity" "I", .static yX1_summed, .initialized RX1, .code yX1_summed cX1_summed 4 (some .long), .constantLong RX1 214 (31), .methodLink RX0 61 yX0_isThere, .instanceMethod yX0_isThere, .selects RX0 yX0_isThere yX0_isThere, .initialized RX0, .code yX0_isThere cX0_isThere 1 (some .boolean), .methodLink RX0 65 yX0_sumOver, .instanceMethod yX0_sumOver, .selects RX0 yX0_sumOver yX0_sumOver, .code yX0_sumOver cX0_sumOver 7 (some .long), .methodLink RX0 47 yX0_valueAt, .instanceMethod yX0_valueAt, .selects RX0 yX0_valueAt yX0_valueAt, .code yX0_valueAt cX0_valueAt 2 (some .long), .fieldLink RX0 15 "Windowhouse$Window" "store" "[J", .fieldLink RX0 32 "Windowhouse$Window" "start" "I"] ++ wsX00)
def wsX1_init : List Cond := .code yX1_init cX1_init 2 none :: ([.methodLink RX1 1 objectInit, .instanceMethod objectInit, .code objectInit ⟨#[0xb1]⟩ 1 none, .classLink RX1 9 "[[J", .arrayClass .long, .fieldLink RX1 11 "Windowhouse" "rows" "[[J", .classLink RX1 14 RX0, .fieldLink RX1 16 "Windowhouse" "windows" "[LWindowhouse$Window;", .instantiable RX0 8, .initialized RX0, .fieldLink RX1 21 "Windowhouse" "probe" "LWindowhouse$Window;", .fieldLink RX1 25 "Windowhouse" "twin" "LWindowhouse$Window;", .methodLink RX1 20 yX0_init, .instanceMethod yX0_init, .code yX0_init cX0_init 1 none, .methodLink RX0 3 objectInit, .fieldLink RX0 9 "Windowhouse$Window" "kind" "C", .fieldLink RX0 15 "Windowhouse$Window" "store" "[J", .fieldLink RX0 19 "Windowhouse$Window" "mark" "I"] ++ wsX10 ++ wsX00)
def wsX1_checkIndex : List Cond := .code yX1_checkIndex cX1_checkIndex 2 none :: ([.classLink RX1 216 "java/lang/IndexOutOfBoundsException", .initialized "java/lang/IndexOutOfBoundsException"] ++ (vx_atS RX1 220 "java/lang/IndexOutOfBoundsException" ["java/lang/RuntimeException", "java/lang/Exception"]).filter goodWord)
def wsX1_rowOf : List Cond := .code yX1_rowOf cX1_rowOf 2 (some (.array .long)) :: ([.fieldLink RX1 11 "Windowhouse" "rows" "[[J", .methodLink RX1 36 yX1_checkIndex, .static yX1_checkIndex, .initialized RX1, .code yX1_checkIndex cX1_checkIndex 2 none, .classLink RX1 216 "java/lang/IndexOutOfBoundsException", .initialized "java/lang/IndexOutOfBoundsException"] ++ wsX10 ++ (vx_atS RX1 220 "java/lang/IndexOutOfBoundsException" ["java/lang/RuntimeException", "java/lang/Exception"]).filter goodWord)
def wsX1_checkLength : List Cond := .code yX1_checkLength cX1_checkLength 1 none :: ([.classLink RX1 160 "java/lang/IllegalArgumentException", .initialized "java/lang/IllegalArgumentException"] ++ (vx_atS RX1 164 "java/lang/IllegalArgumentException" ["java/lang/RuntimeException", "java/lang/Exception"]).filter goodWord)
def wsX1_make : List Cond := .code yX1_make cX1_make 4 (some .int) :: ([.fieldLink RX1 11 "Windowhouse" "rows" "[[J", .arrayClass .long, .methodLink RX1 28 yX1_rowOf, .instanceMethod yX1_rowOf, .selects RX1 yX1_rowOf yX1_rowOf, .initialized RX1, .code yX1_rowOf cX1_rowOf 2 (some (.array .long)), .methodLink RX1 36 yX1_checkIndex, .static yX1_checkIndex, .code yX1_checkIndex cX1_checkIndex 2 none, .classLink RX1 216 "java/lang/IndexOutOfBoundsException", .initialized "java/lang/IndexOutOfBoundsException", .methodLink RX1 32 yX1_checkLength, .static yX1_checkLength, .code yX1_checkLength cX1_checkLength 1 none, .classLink RX1 160 "java/lang/IllegalArgumentException", .initialized "java/lang/IllegalArgumentException"] ++ wsX10 ++ (vx_atS RX1 220 "java/lang/IndexOutOfBoundsException" ["java/lang/RuntimeException", "java/lang/Exception"]).filter goodWord ++ (vx_atS RX1 164 "java/lang/IllegalArgumentException" ["java/lang/RuntimeException", "java/lang/Exception"]).filter goodWord)
def wsX1_rowAt : List Cond := .code yX1_rowAt cX1_rowAt 4 (some .int) :: ([.methodLink RX1 28 yX1_rowOf, .instanceMethod yX1_rowOf, .selects RX1 yX1_rowOf yX1_rowOf, .initialized RX1, .code yX1_rowOf cX1_rowOf 2 (some (.array .long)), .fieldLink RX1 11 "Windowhouse" "rows" "[[J", .methodLink RX1 36 yX1_checkIndex, .static yX1_checkIndex, .code yX1_checkIndex cX1_checkIndex 2 none, .classLink RX1 216 "java/lang/IndexOutOfBoundsException", .initialized "java/lang/IndexOutOfBoundsException"] ++ wsX10 ++ (vx_atS RX1 220 "java/lang/IndexOutOfBoundsException" ["java/lang/RuntimeException", "java/lang/Exception"]).filter goodWord)
def wsX1_rowPut : List Cond := .code yX1_rowPut cX1_rowPut 6 (some .int) :: ([.methodLink RX1 28 yX1_rowOf, .instanceMethod yX1_rowOf, .selects RX1 yX1_rowOf yX1_rowOf, .initialized RX1, .code yX1_rowOf cX1_rowOf 2 (some (.array .long)), .fieldLink RX1 11 "Windowhouse" "rows" "[[J", .methodLink RX1 36 yX1_checkIndex, .static yX1_checkIndex, .code yX1_checkIndex cX1_checkIndex 2 none, .classLink RX1 216 "java/lang/IndexOutOfBoundsException", .initialized "java/lang/IndexOutOfBoundsException"] ++ wsX10 ++ (vx_atS RX1 220 "java/lang/IndexOutOfBoundsException" ["java/lang/RuntimeException", "java/lang/Exception"]).filter goodWord)
def wsX1_slotOf : List Cond := .code yX1_slotOf cX1_slotOf 2 (some (.object "Windowhouse$Window")) :: ([.fieldLink RX1 16 "Windowhouse" "windows" "[LWindowhouse$Window;", .methodLink RX1 36 yX1_checkIndex, .static yX1_checkIndex, .initialized RX1, .code yX1_checkIndex cX1_checkIndex 2 none, .classLink RX1 216 "java/lang/IndexOutOfBoundsException", .initialized "java/lang/IndexOutOfBoundsException"] ++ wsX10 ++ (vx_atS RX1 220 "java/lang/IndexOutOfBoundsException" ["java/lang/RuntimeException", "java/lang/Exception"]).filter goodWord)
def wsX1_checkKind : List Cond := .code yX1_checkKind cX1_checkKind 1 none :: ([.classLink RX1 160 "java/lang/IllegalArgumentException", .initialized "java/lang/IllegalArgumentException"] ++ (vx_atS RX1 164 "java/lang/IllegalArgumentException" ["java/lang/RuntimeException", "java/lang/Exception"]).filter goodWord)
def wsX1_allocate_r1 : List Cond := [Cond.arrayClass .long, Cond.methodLink RX1 40 yX1_slotOf, Cond.instanceMethod yX1_slotOf, Cond.selects RX1 yX1_slotOf yX1_slotOf, Cond.initialized RX1, Cond.code yX1_slotOf cX1_slotOf 2 (some (.object "Windowhouse$Window")), Cond.fieldLink RX1 16 "Windowhouse" "windows" "[LWindowhouse$Window;", Cond.methodLink RX1 36 yX1_checkIndex, Cond.static yX1_checkIndex, Cond.code yX1_checkIndex cX1_checkIndex 2 none, Cond.classLink RX1 216 "java/lang/IndexOutOfBoundsException", Cond.initialized "java/lang/IndexOutOfBoundsException", Cond.methodLink RX1 44 yX1_checkKind, Cond.static yX1_checkKind, Cond.code yX1_checkKind cX1_checkKind 1 none, Cond.classLink RX1 160 "java/lang/IllegalArgumentException", Cond.initialized "java/lang/IllegalArgumentException", Cond.methodLink RX1 32 yX1_checkLength, Cond.static yX1_checkLength, Cond.code yX1_checkLength cX1_checkLength 1 none, Cond.methodLink RX1 48 yX0_isThere, Cond.instanceMethod yX0_isThere, Cond.selects RX0 yX0_isThere yX0_isThere, Cond.initialized RX0]
def wsX1_allocate_r2 : List Cond := [Cond.code yX0_isThere cX0_isThere 1 (some .boolean), Cond.fieldLink RX0 9 "Windowhouse$Window" "kind" "C", Cond.methodLink RX1 52 yX0_layOver, Cond.instanceMethod yX0_layOver, Cond.selects RX0 yX0_layOver yX0_layOver, Cond.code yX0_layOver cX0_layOver 3 none, Cond.fieldLink RX0 35 "Windowhouse$Window" "onlyReads" "Z", Cond.fieldLink RX0 15 "Windowhouse$Window" "store" "[J", Cond.fieldLink RX0 32 "Windowhouse$Window" "start" "I", Cond.fieldLink RX0 29 "Windowhouse$Window" "capacity" "I", Cond.methodLink RX0 39 yX0_moveTo, Cond.instanceMethod yX0_moveTo, Cond.selects RX0 yX0_moveTo yX0_moveTo, Cond.code yX0_moveTo cX0_moveTo 3 none, Cond.fieldLink RX0 26 "Windowhouse$Window" "place" "I", Cond.fieldLink RX0 23 "Windowhouse$Window" "end" "I", Cond.fieldLink RX0 19 "Windowhouse$Window" "mark" "I"]
def wsX1_allocate : List Cond := .code yX1_allocate cX1_allocate 6 (some .boolean) :: ((wsX1_allocate_r1 ++ wsX1_allocate_r2) ++ wsX10 ++ wsX00 ++ (vx_atS RX1 220 "java/lang/IndexOutOfBoundsException" ["java/lang/RuntimeException", "java/lang/Exception"]).filter goodWord ++ (vx_atS RX1 164 "java/lang/IllegalArgumentException" ["java/lang/RuntimeException", "java/lang/Exception"]).filter goodWord)
def wsX1_wrap_r1 : List Cond := [Cond.fieldLink RX1 56 "Windowhouse$Window" "capacity" "I", Cond.methodLink RX1 40 yX1_slotOf, Cond.instanceMethod yX1_slotOf, Cond.selects RX1 yX1_slotOf yX1_slotOf, Cond.initialized RX1, Cond.code yX1_slotOf cX1_slotOf 2 (some (.object "Windowhouse$Window")), Cond.fieldLink RX1 16 "Windowhouse" "windows" "[LWindowhouse$Window;", Cond.methodLink RX1 36 yX1_checkIndex, Cond.static yX1_checkIndex, Cond.code yX1_checkIndex cX1_checkIndex 2 none, Cond.classLink RX1 216 "java/lang/IndexOutOfBoundsException", Cond.initialized "java/lang/IndexOutOfBoundsException", Cond.methodLink RX1 28 yX1_rowOf, Cond.instanceMethod yX1_rowOf, Cond.selects RX1 yX1_rowOf yX1_rowOf, Cond.code yX1_rowOf cX1_rowOf 2 (some (.array .long)), Cond.fieldLink RX1 11 "Windowhouse" "rows" "[[J", Cond.methodLink RX1 52 yX0_layOver, Cond.instanceMethod yX0_layOver, Cond.selects RX0 yX0_layOver yX0_layOver, Cond.initialized RX0, Cond.code yX0_layOver cX0_layOver 3 none, Cond.fieldLink RX0 9 "Windowhouse$Window" "kind" "C", Cond.fieldLink RX0 35 "Windowhouse$Window" "onlyReads" "Z"]
def wsX1_wrap_r2 : List Cond := [Cond.fieldLink RX0 15 "Windowhouse$Window" "store" "[J", Cond.fieldLink RX0 32 "Windowhouse$Window" "start" "I", Cond.fieldLink RX0 29 "Windowhouse$Window" "capacity" "I", Cond.methodLink RX0 39 yX0_moveTo, Cond.instanceMethod yX0_moveTo, Cond.selects RX0 yX0_moveTo yX0_moveTo, Cond.code yX0_moveTo cX0_moveTo 3 none, Cond.fieldLink RX0 26 "Windowhouse$Window" "place" "I", Cond.fieldLink RX0 23 "Windowhouse$Window" "end" "I", Cond.fieldLink RX0 19 "Windowhouse$Window" "mark" "I"]
def wsX1_wrap : List Cond := .code yX1_wrap cX1_wrap 5 (some .int) :: ((wsX1_wrap_r1 ++ wsX1_wrap_r2) ++ wsX00 ++ wsX10 ++ (vx_atS RX1 220 "java/lang/IndexOutOfBoundsException" ["java/lang/RuntimeException", "java/lang/Exception"]).filter goodWord)
def wsX1_windowOf : List Cond := .code yX1_windowOf cX1_windowOf 3 (some (.object "Windowhouse$Window")) :: ([.classLink RX1 216 "java/lang/IndexOutOfBoundsException", .initialized "java/lang/IndexOutOfBoundsException", .methodLink RX1 40 yX1_slotOf, .instanceMethod yX1_slotOf, .selects RX1 yX1_slotOf yX1_slotOf, .initialized RX1, .code yX1_slotOf cX1_slotOf 2 (some (.object "Windowhouse$Window")), .fieldLink RX1 16 "Windowhouse" "windows" "[LWindowhouse$Window;", .methodLink RX1 36 yX1_checkIndex, .static yX1_checkIndex, .code yX1_checkIndex cX1_checkIndex 2 none, .methodLink RX1 48 yX0_isThere, .instanceMethod yX0_isThere, .selects RX0 yX0_isThere yX0_isThere, .initialized RX0, .code yX0_isThere cX0_isThere 1 (some .boolean), .fieldLink RX0 9 "Windowhouse$Window" "kind" "C"] ++ wsX10 ++ wsX00 ++ (vx_atS RX1 220 "java/lang/IndexOutOfBoundsException" ["java/lang/RuntimeException", "java/lang/Exception"]).filter goodWord)
def wsX1_slice_r1 : List Cond := [Cond.fieldLink RX1 63 "Windowhouse$Window" "place" "I", Cond.fieldLink RX1 56 "Windowhouse$Window" "capacity" "I", Cond.methodLink RX1 60 yX1_windowOf, Cond.instanceMethod yX1_windowOf, Cond.selects RX1 yX1_windowOf yX1_windowOf, Cond.initialized RX1, Cond.code yX1_windowOf cX1_windowOf 3 (some (.object "Windowhouse$Window")), Cond.classLink RX1 216 "java/lang/IndexOutOfBoundsException", Cond.initialized "java/lang/IndexOutOfBoundsException", Cond.methodLink RX1 40 yX1_slotOf, Cond.instanceMethod yX1_slotOf, Cond.selects RX1 yX1_slotOf yX1_slotOf, Cond.code yX1_slotOf cX1_slotOf 2 (some (.object "Windowhouse$Window")), Cond.fieldLink RX1 16 "Windowhouse" "windows" "[LWindowhouse$Window;", Cond.methodLink RX1 36 yX1_checkIndex, Cond.static yX1_checkIndex, Cond.code yX1_checkIndex cX1_checkIndex 2 none, Cond.methodLink RX1 48 yX0_isThere, Cond.instanceMethod yX0_isThere, Cond.selects RX0 yX0_isThere yX0_isThere, Cond.initialized RX0, Cond.code yX0_isThere cX0_isThere 1 (some .boolean), Cond.fieldLink RX0 9 "Windowhouse$Window" "kind" "C", Cond.methodLink RX1 66 yX0_rest]
def wsX1_slice_r2 : List Cond := [Cond.instanceMethod yX0_rest, Cond.selects RX0 yX0_rest yX0_rest, Cond.code yX0_rest cX0_rest 1 (some .int), Cond.fieldLink RX0 23 "Windowhouse$Window" "end" "I", Cond.fieldLink RX0 26 "Windowhouse$Window" "place" "I", Cond.methodLink RX1 70 yX0_becomeSlice, Cond.instanceMethod yX0_becomeSlice, Cond.selects RX0 yX0_becomeSlice yX0_becomeSlice, Cond.code yX0_becomeSlice cX0_becomeSlice 4 none, Cond.fieldLink RX0 35 "Windowhouse$Window" "onlyReads" "Z", Cond.fieldLink RX0 15 "Windowhouse$Window" "store" "[J", Cond.fieldLink RX0 32 "Windowhouse$Window" "start" "I", Cond.fieldLink RX0 29 "Windowhouse$Window" "capacity" "I", Cond.methodLink RX0 39 yX0_moveTo, Cond.instanceMethod yX0_moveTo, Cond.selects RX0 yX0_moveTo yX0_moveTo, Cond.code yX0_moveTo cX0_moveTo 3 none, Cond.fieldLink RX0 19 "Windowhouse$Window" "mark" "I"]
def wsX1_slice : List Cond := .code yX1_slice cX1_slice 5 (some .int) :: ((wsX1_slice_r1 ++ wsX1_slice_r2) ++ wsX00 ++ wsX10 ++ (vx_atS RX1 220 "java/lang/IndexOutOfBoundsException" ["java/lang/RuntimeException", "java/lang/Exception"]).filter goodWord)
def wsX1_checkPart : List Cond := .code yX1_checkPart cX1_checkPart 3 none :: ([.classLink RX1 216 "java/lang/IndexOutOfBoundsException", .initialized "java/lang/IndexOutOfBoundsException"] ++ (vx_atS RX1 220 "java/lang/IndexOutOfBoundsException" ["java/lang/RuntimeException", "java/lang/Exception"]).filter goodWord)
def wsX1_sliceAt_r1 : List Cond := [Cond.fieldLink RX1 74 "Windowhouse$Window" "end" "I", Cond.fieldLink RX1 56 "Windowhouse$Window" "capacity" "I", Cond.methodLink RX1 60 yX1_windowOf, Cond.instanceMethod yX1_windowOf, Cond.selects RX1 yX1_windowOf yX1_windowOf, Cond.initialized RX1, Cond.code yX1_windowOf cX1_windowOf 3 (some (.object "Windowhouse$Window")), Cond.classLink RX1 216 "java/lang/IndexOutOfBoundsException", Cond.initialized "java/lang/IndexOutOfBoundsException", Cond.methodLink RX1 40 yX1_slotOf, Cond.instanceMethod yX1_slotOf, Cond.selects RX1 yX1_slotOf yX1_slotOf, Cond.code yX1_slotOf cX1_slotOf 2 (some (.object "Windowhouse$Window")), Cond.fieldLink RX1 16 "Windowhouse" "windows" "[LWindowhouse$Window;", Cond.methodLink RX1 36 yX1_checkIndex, Cond.static yX1_checkIndex, Cond.code yX1_checkIndex cX1_checkIndex 2 none, Cond.methodLink RX1 48 yX0_isThere, Cond.instanceMethod yX0_isThere, Cond.selects RX0 yX0_isThere yX0_isThere, Cond.initialized RX0, Cond.code yX0_isThere cX0_isThere 1 (some .boolean), Cond.fieldLink RX0 9 "Windowhouse$Window" "kind" "C", Cond.methodLink RX1 77 yX1_checkPart]
def wsX1_sliceAt_r2 : List Cond := [Cond.static yX1_checkPart, Cond.code yX1_checkPart cX1_checkPart 3 none, Cond.methodLink RX1 70 yX0_becomeSlice, Cond.instanceMethod yX0_becomeSlice, Cond.selects RX0 yX0_becomeSlice yX0_becomeSlice, Cond.code yX0_becomeSlice cX0_becomeSlice 4 none, Cond.fieldLink RX0 35 "Windowhouse$Window" "onlyReads" "Z", Cond.fieldLink RX0 15 "Windowhouse$Window" "store" "[J", Cond.fieldLink RX0 32 "Windowhouse$Window" "start" "I", Cond.fieldLink RX0 29 "Windowhouse$Window" "capacity" "I", Cond.methodLink RX0 39 yX0_moveTo, Cond.instanceMethod yX0_moveTo, Cond.selects RX0 yX0_moveTo yX0_moveTo, Cond.code yX0_moveTo cX0_moveTo 3 none, Cond.fieldLink RX0 26 "Windowhouse$Window" "place" "I", Cond.fieldLink RX0 23 "Windowhouse$Window" "end" "I", Cond.fieldLink RX0 19 "Windowhouse$Window" "mark" "I"]
def wsX1_sliceAt : List Cond := .code yX1_sliceAt cX1_sliceAt 7 (some .int) :: ((wsX1_sliceAt_r1 ++ wsX1_sliceAt_r2) ++ wsX00 ++ wsX10 ++ (vx_atS RX1 220 "java/lang/IndexOutOfBoundsException" ["java/lang/RuntimeException", "java/lang/Exception"]).filter goodWord)
def wsX1_duplicate_r1 : List Cond := [Cond.methodLink RX1 60 yX1_windowOf, Cond.instanceMethod yX1_windowOf, Cond.selects RX1 yX1_windowOf yX1_windowOf, Cond.initialized RX1, Cond.code yX1_windowOf cX1_windowOf 3 (some (.object "Windowhouse$Window")), Cond.classLink RX1 216 "java/lang/IndexOutOfBoundsException", Cond.initialized "java/lang/IndexOutOfBoundsException", Cond.methodLink RX1 40 yX1_slotOf, Cond.instanceMethod yX1_slotOf, Cond.selects RX1 yX1_slotOf yX1_slotOf, Cond.code yX1_slotOf cX1_slotOf 2 (some (.object "Windowhouse$Window")), Cond.fieldLink RX1 16 "Windowhouse" "windows" "[LWindowhouse$Window;", Cond.methodLink RX1 36 yX1_checkIndex, Cond.static yX1_checkIndex, Cond.code yX1_checkIndex cX1_checkIndex 2 none, Cond.methodLink RX1 48 yX0_isThere, Cond.instanceMethod yX0_isThere, Cond.selects RX0 yX0_isThere yX0_isThere, Cond.initialized RX0, Cond.code yX0_isThere cX0_isThere 1 (some .boolean), Cond.fieldLink RX0 9 "Windowhouse$Window" "kind" "C", Cond.methodLink RX1 81 yX0_becomeDuplicate, Cond.instanceMethod yX0_becomeDuplicate, Cond.selects RX0 yX0_becomeDuplicate yX0_becomeDuplicate]
def wsX1_duplicate_r2 : List Cond := [Cond.code yX0_becomeDuplicate cX0_becomeDuplicate 2 none, Cond.fieldLink RX0 35 "Windowhouse$Window" "onlyReads" "Z", Cond.fieldLink RX0 15 "Windowhouse$Window" "store" "[J", Cond.fieldLink RX0 32 "Windowhouse$Window" "start" "I", Cond.fieldLink RX0 29 "Windowhouse$Window" "capacity" "I", Cond.fieldLink RX0 26 "Windowhouse$Window" "place" "I", Cond.fieldLink RX0 23 "Windowhouse$Window" "end" "I", Cond.fieldLink RX0 19 "Windowhouse$Window" "mark" "I", Cond.methodLink RX1 66 yX0_rest, Cond.instanceMethod yX0_rest, Cond.selects RX0 yX0_rest yX0_rest, Cond.code yX0_rest cX0_rest 1 (some .int)]
def wsX1_duplicate : List Cond := .code yX1_duplicate cX1_duplicate 5 (some .int) :: ((wsX1_duplicate_r1 ++ wsX1_duplicate_r2) ++ wsX10 ++ wsX00 ++ (vx_atS RX1 220 "java/lang/IndexOutOfBoundsException" ["java/lang/RuntimeException", "java/lang/Exception"]).filter goodWord)
def wsX1_readOnly_r1 : List Cond := [Cond.fieldLink RX1 85 "Windowhouse$Window" "onlyReads" "Z", Cond.methodLink RX1 60 yX1_windowOf, Cond.instanceMethod yX1_windowOf, Cond.selects RX1 yX1_windowOf yX1_windowOf, Cond.initialized RX1, Cond.code yX1_windowOf cX1_windowOf 3 (some (.object "Windowhouse$Window")), Cond.classLink RX1 216 "java/lang/IndexOutOfBoundsException", Cond.initialized "java/lang/IndexOutOfBoundsException", Cond.methodLink RX1 40 yX1_slotOf, Cond.instanceMethod yX1_slotOf, Cond.selects RX1 yX1_slotOf yX1_slotOf, Cond.code yX1_slotOf cX1_slotOf 2 (some (.object "Windowhouse$Window")), Cond.fieldLink RX1 16 "Windowhouse" "windows" "[LWindowhouse$Window;", Cond.methodLink RX1 36 yX1_checkIndex, Cond.static yX1_checkIndex, Cond.code yX1_checkIndex cX1_checkIndex 2 none, Cond.methodLink RX1 48 yX0_isThere, Cond.instanceMethod yX0_isThere, Cond.selects RX0 yX0_isThere yX0_isThere, Cond.initialized RX0, Cond.code yX0_isThere cX0_isThere 1 (some .boolean), Cond.fieldLink RX0 9 "Windowhouse$Window" "kind" "C", Cond.methodLink RX1 81 yX0_becomeDuplicate, Cond.instanceMethod yX0_becomeDuplicate]
def wsX1_readOnly_r2 : List Cond := [Cond.selects RX0 yX0_becomeDuplicate yX0_becomeDuplicate, Cond.code yX0_becomeDuplicate cX0_becomeDuplicate 2 none, Cond.fieldLink RX0 35 "Windowhouse$Window" "onlyReads" "Z", Cond.fieldLink RX0 15 "Windowhouse$Window" "store" "[J", Cond.fieldLink RX0 32 "Windowhouse$Window" "start" "I", Cond.fieldLink RX0 29 "Windowhouse$Window" "capacity" "I", Cond.fieldLink RX0 26 "Windowhouse$Window" "place" "I", Cond.fieldLink RX0 23 "Windowhouse$Window" "end" "I", Cond.fieldLink RX0 19 "Windowhouse$Window" "mark" "I", Cond.methodLink RX1 66 yX0_rest, Cond.instanceMethod yX0_rest, Cond.selects RX0 yX0_rest yX0_rest, Cond.code yX0_rest cX0_rest 1 (some .int)]
def wsX1_readOnly : List Cond := .code yX1_readOnly cX1_readOnly 5 (some .int) :: ((wsX1_readOnly_r1 ++ wsX1_readOnly_r2) ++ wsX00 ++ wsX10 ++ (vx_atS RX1 220 "java/lang/IndexOutOfBoundsException" ["java/lang/RuntimeException", "java/lang/Exception"]).filter goodWord)
def wsX1_capacity : List Cond := .code yX1_capacity cX1_capacity 2 (some .int) :: ([.fieldLink RX1 56 "Windowhouse$Window" "capacity" "I", .methodLink RX1 60 yX1_windowOf, .instanceMethod yX1_windowOf, .selects RX1 yX1_windowOf yX1_windowOf, .initialized RX1, .code yX1_windowOf cX1_windowOf 3 (some (.object "Windowhouse$Window")), .classLink RX1 216 "java/lang/IndexOutOfBoundsException", .initialized "java/lang/IndexOutOfBoundsException", .methodLink RX1 40 yX1_slotOf, .instanceMethod yX1_slotOf, .selects RX1 yX1_slotOf yX1_slotOf, .code yX1_slotOf cX1_slotOf 2 (some (.object "Windowhouse$Window")), .fieldLink RX1 16 "Windowhouse" "windows" "[LWindowhouse$Window;", .methodLink RX1 36 yX1_checkIndex, .static yX1_checkIndex, .code yX1_checkIndex cX1_checkIndex 2 none, .methodLink RX1 48 yX0_isThere, .instanceMethod yX0_isThere, .selects RX0 yX0_isThere yX0_isThere, .initialized RX0, .code yX0_isThere cX0_isThere 1 (some .boolean), .fieldLink RX0 9 "Windowhouse$Window" "kind" "C"] ++ wsX00 ++ wsX10 ++ (vx_atS RX1 220 "java/lang/IndexOutOfBoundsException" ["java/lang/RuntimeException", "java/lang/Exception"]).filter goodWord)
def wsX1_place : List Cond := .code yX1_place cX1_place 2 (some .int) :: ([.fieldLink RX1 63 "Windowhouse$Window" "place" "I", .methodLink RX1 60 yX1_windowOf, .instanceMethod yX1_windowOf, .selects RX1 yX1_windowOf yX1_windowOf, .initialized RX1, .code yX1_windowOf cX1_windowOf 3 (some (.object "Windowhouse$Window")), .classLink RX1 216 "java/lang/IndexOutOfBoundsException", .initialized "java/lang/IndexOutOfBoundsException", .methodLink RX1 40 yX1_slotOf, .instanceMethod yX1_slotOf, .selects RX1 yX1_slotOf yX1_slotOf, .code yX1_slotOf cX1_slotOf 2 (some (.object "Windowhouse$Window")), .fieldLink RX1 16 "Windowhouse" "windows" "[LWindowhouse$Window;", .methodLink RX1 36 yX1_checkIndex, .static yX1_checkIndex, .code yX1_checkIndex cX1_checkIndex 2 none, .methodLink RX1 48 yX0_isThere, .instanceMethod yX0_isThere, .selects RX0 yX0_isThere yX0_isThere, .initialized RX0, .code yX0_isThere cX0_isThere 1 (some .boolean), .fieldLink RX0 9 "Windowhouse$Window" "kind" "C"] ++ wsX00 ++ wsX10 ++ (vx_atS RX1 220 "java/lang/IndexOutOfBoundsException" ["java/lang/RuntimeException", "java/lang/Exception"]).filter goodWord)
def wsX1_end : List Cond := .code yX1_end cX1_end 2 (some .int) :: ([.fieldLink RX1 74 "Windowhouse$Window" "end" "I", .methodLink RX1 60 yX1_windowOf, .instanceMethod yX1_windowOf, .selects RX1 yX1_windowOf yX1_windowOf, .initialized RX1, .code yX1_windowOf cX1_windowOf 3 (some (.object "Windowhouse$Window")), .classLink RX1 216 "java/lang/IndexOutOfBoundsException", .initialized "java/lang/IndexOutOfBoundsException", .methodLink RX1 40 yX1_slotOf, .instanceMethod yX1_slotOf, .selects RX1 yX1_slotOf yX1_slotOf, .code yX1_slotOf cX1_slotOf 2 (some (.object "Windowhouse$Window")), .fieldLink RX1 16 "Windowhouse" "windows" "[LWindowhouse$Window;", .methodLink RX1 36 yX1_checkIndex, .static yX1_checkIndex, .code yX1_checkIndex cX1_checkIndex 2 none, .methodLink RX1 48 yX0_isThere, .instanceMethod yX0_isThere, .selects RX0 yX0_isThere yX0_isThere, .initialized RX0, .code yX0_isThere cX0_isThere 1 (some .boolean), .fieldLink RX0 9 "Windowhouse$Window" "kind" "C"] ++ wsX00 ++ wsX10 ++ (vx_atS RX1 220 "java/lang/IndexOutOfBoundsException" ["java/lang/RuntimeException", "java/lang/Exception"]).filter goodWord)
def wsX1_left_r1 : List Cond := [Cond.methodLink RX1 60 yX1_windowOf, Cond.instanceMethod yX1_windowOf, Cond.selects RX1 yX1_windowOf yX1_windowOf, Cond.initialized RX1, Cond.code yX1_windowOf cX1_windowOf 3 (some (.object "Windowhouse$Window")), Cond.classLink RX1 216 "java/lang/IndexOutOfBoundsException", Cond.initialized "java/lang/IndexOutOfBoundsException", Cond.methodLink RX1 40 yX1_slotOf, Cond.instanceMethod yX1_slotOf, Cond.selects RX1 yX1_slotOf yX1_slotOf, Cond.code yX1_slotOf cX1_slotOf 2 (some (.object "Windowhouse$Window")), Cond.fieldLink RX1 16 "Windowhouse" "windows" "[LWindowhouse$Window;", Cond.methodLink RX1 36 yX1_checkIndex, Cond.static yX1_checkIndex, Cond.code yX1_checkIndex cX1_checkIndex 2 none, Cond.methodLink RX1 48 yX0_isThere, Cond.instanceMethod yX0_isThere, Cond.selects RX0 yX0_isThere yX0_isThere, Cond.initialized RX0, Cond.code yX0_isThere cX0_isThere 1 (some .boolean), Cond.fieldLink RX0 9 "Windowhouse$Window" "kind" "C", Cond.methodLink RX1 66 yX0_rest, Cond.instanceMethod yX0_rest, Cond.selects RX0 yX0_rest yX0_rest]
def wsX1_left_r2 : List Cond := [Cond.code yX0_rest cX0_rest 1 (some .int), Cond.fieldLink RX0 23 "Windowhouse$Window" "end" "I", Cond.fieldLink RX0 26 "Windowhouse$Window" "place" "I"]
def wsX1_left : List Cond := .code yX1_left cX1_left 2 (some .int) :: ((wsX1_left_r1 ++ wsX1_left_r2) ++ wsX10 ++ wsX00 ++ (vx_atS RX1 220 "java/lang/IndexOutOfBoundsException" ["java/lang/RuntimeException", "java/lang/Exception"]).filter goodWord)
def wsX1_hasLeft_r1 : List Cond := [Cond.methodLink RX1 60 yX1_windowOf, Cond.instanceMethod yX1_windowOf, Cond.selects RX1 yX1_windowOf yX1_windowOf, Cond.initialized RX1, Cond.code yX1_windowOf cX1_windowOf 3 (some (.object "Windowhouse$Window")), Cond.classLink RX1 216 "java/lang/IndexOutOfBoundsException", Cond.initialized "java/lang/IndexOutOfBoundsException", Cond.methodLink RX1 40 yX1_slotOf, Cond.instanceMethod yX1_slotOf, Cond.selects RX1 yX1_slotOf yX1_slotOf, Cond.code yX1_slotOf cX1_slotOf 2 (some (.object "Windowhouse$Window")), Cond.fieldLink RX1 16 "Windowhouse" "windows" "[LWindowhouse$Window;", Cond.methodLink RX1 36 yX1_checkIndex, Cond.static yX1_checkIndex, Cond.code yX1_checkIndex cX1_checkIndex 2 none, Cond.methodLink RX1 48 yX0_isThere, Cond.instanceMethod yX0_isThere, Cond.selects RX0 yX0_isThere yX0_isThere, Cond.initialized RX0, Cond.code yX0_isThere cX0_isThere 1 (some .boolean), Cond.fieldLink RX0 9 "Windowhouse$Window" "kind" "C", Cond.methodLink RX1 66 yX0_rest, Cond.instanceMethod yX0_rest, Cond.selects RX0 yX0_rest yX0_rest]
def wsX1_hasLeft_r2 : List Cond := [Cond.code yX0_rest cX0_rest 1 (some .int), Cond.fieldLink RX0 23 "Windowhouse$Window" "end" "I", Cond.fieldLink RX0 26 "Windowhouse$Window" "place" "I"]
def wsX1_hasLeft : List Cond := .code yX1_hasLeft cX1_hasLeft 2 (some .boolean) :: ((wsX1_hasLeft_r1 ++ wsX1_hasLeft_r2) ++ wsX10 ++ wsX00 ++ (vx_atS RX1 220 "java/lang/IndexOutOfBoundsException" ["java/lang/RuntimeException", "java/lang/Exception"]).filter goodWord)
def wsX1_isReadOnly : List Cond := .code yX1_isReadOnly cX1_isReadOnly 2 (some .boolean) :: ([.fieldLink RX1 85 "Windowhouse$Window" "onlyReads" "Z", .methodLink RX1 60 yX1_windowOf, .instanceMethod yX1_windowOf, .selects RX1 yX1_windowOf yX1_windowOf, .initialized RX1, .code yX1_windowOf cX1_windowOf 3 (some (.object "Windowhouse$Window")), .classLink RX1 216 "java/lang/IndexOutOfBoundsException", .initialized "java/lang/IndexOutOfBoundsException", .methodLink RX1 40 yX1_slotOf, .instanceMethod yX1_slotOf, .selects RX1 yX1_slotOf yX1_slotOf, .code yX1_slotOf cX1_slotOf 2 (some (.object "Windowhouse$Window")), .fieldLink RX1 16 "Windowhouse" "windows" "[LWindowhouse$Window;", .methodLink RX1 36 yX1_checkIndex, .static yX1_checkIndex, .code yX1_checkIndex cX1_checkIndex 2 none, .methodLink RX1 48 yX0_isThere, .instanceMethod yX0_isThere, .selects RX0 yX0_isThere yX0_isThere, .initialized RX0, .code yX0_isThere cX0_isThere 1 (some .boolean), .fieldLink RX0 9 "Windowhouse$Window" "kind" "C"] ++ wsX00 ++ wsX10 ++ (vx_atS RX1 220 "java/lang/IndexOutOfBoundsException" ["java/lang/RuntimeException", "java/lang/Exception"]).filter goodWord)
def wsX1_checkBound : List Cond := .code yX1_checkBound cX1_checkBound 2 none :: ([.classLink RX1 160 "java/lang/IllegalArgumentException", .initialized "java/lang/IllegalArgumentException"] ++ (vx_atS RX1 164 "java/lang/IllegalArgumentException" ["java/lang/RuntimeException", "java/lang/Exception"]).filter goodWord)
def wsX1_placeAt_r1 : List Cond := [Cond.fieldLink RX1 74 "Windowhouse$Window" "end" "I", Cond.fieldLink RX1 63 "Windowhouse$Window" "place" "I", Cond.methodLink RX1 60 yX1_windowOf, Cond.instanceMethod yX1_windowOf, Cond.selects RX1 yX1_windowOf yX1_windowOf, Cond.initialized RX1, Cond.code yX1_windowOf cX1_windowOf 3 (some (.object "Windowhouse$Window")), Cond.classLink RX1 216 "java/lang/IndexOutOfBoundsException", Cond.initialized "java/lang/IndexOutOfBoundsException", Cond.methodLink RX1 40 yX1_slotOf, Cond.instanceMethod yX1_slotOf, Cond.selects RX1 yX1_slotOf yX1_slotOf, Cond.code yX1_slotOf cX1_slotOf 2 (some (.object "Windowhouse$Window")), Cond.fieldLink RX1 16 "Windowhouse" "windows" "[LWindowhouse$Window;", Cond.methodLink RX1 36 yX1_checkIndex, Cond.static yX1_checkIndex, Cond.code yX1_checkIndex cX1_checkIndex 2 none, Cond.methodLink RX1 48 yX0_isThere, Cond.instanceMethod yX0_isThere, Cond.selects RX0 yX0_isThere yX0_isThere, Cond.initialized RX0, Cond.code yX0_isThere cX0_isThere 1 (some .boolean), Cond.fieldLink RX0 9 "Windowhouse$Window" "kind" "C", Cond.methodLink RX1 93 yX1_checkBound]
def wsX1_placeAt_r2 : List Cond := [Cond.static yX1_checkBound, Cond.code yX1_checkBound cX1_checkBound 2 none, Cond.classLink RX1 160 "java/lang/IllegalArgumentException", Cond.initialized "java/lang/IllegalArgumentException", Cond.methodLink RX1 96 yX0_dropMarkBeyond, Cond.instanceMethod yX0_dropMarkBeyond, Cond.selects RX0 yX0_dropMarkBeyond yX0_dropMarkBeyond, Cond.code yX0_dropMarkBeyond cX0_dropMarkBeyond 2 none, Cond.fieldLink RX0 19 "Windowhouse$Window" "mark" "I"]
def wsX1_placeAt : List Cond := .code yX1_placeAt cX1_placeAt 5 (some .int) :: ((wsX1_placeAt_r1 ++ wsX1_placeAt_r2) ++ wsX00 ++ wsX10 ++ (vx_atS RX1 220 "java/lang/IndexOutOfBoundsException" ["java/lang/RuntimeException", "java/lang/Exception"]).filter goodWord ++ (vx_atS RX1 164 "java/lang/IllegalArgumentException" ["java/lang/RuntimeException", "java/lang/Exception"]).filter goodWord)
def wsX1_endAt_r1 : List Cond := [Cond.fieldLink RX1 56 "Windowhouse$Window" "capacity" "I", Cond.fieldLink RX1 74 "Windowhouse$Window" "end" "I", Cond.fieldLink RX1 63 "Windowhouse$Window" "place" "I", Cond.methodLink RX1 99 Lib.Math.min.name, Cond.static Lib.Math.min.name, Cond.initialized "java/lang/Math", Cond.code Lib.Math.min.name Lib.Math.min.code 2 (some .int), Cond.methodLink RX1 60 yX1_windowOf, Cond.instanceMethod yX1_windowOf, Cond.selects RX1 yX1_windowOf yX1_windowOf, Cond.initialized RX1, Cond.code yX1_windowOf cX1_windowOf 3 (some (.object "Windowhouse$Window")), Cond.classLink RX1 216 "java/lang/IndexOutOfBoundsException", Cond.initialized "java/lang/IndexOutOfBoundsException", Cond.methodLink RX1 40 yX1_slotOf, Cond.instanceMethod yX1_slotOf, Cond.selects RX1 yX1_slotOf yX1_slotOf, Cond.code yX1_slotOf cX1_slotOf 2 (some (.object "Windowhouse$Window")), Cond.fieldLink RX1 16 "Windowhouse" "windows" "[LWindowhouse$Window;", Cond.methodLink RX1 36 yX1_checkIndex, Cond.static yX1_checkIndex, Cond.code yX1_checkIndex cX1_checkIndex 2 none, Cond.methodLink RX1 48 yX0_isThere, Cond.instanceMethod yX0_isThere]
def wsX1_endAt_r2 : List Cond := [Cond.selects RX0 yX0_isThere yX0_isThere, Cond.initialized RX0, Cond.code yX0_isThere cX0_isThere 1 (some .boolean), Cond.fieldLink RX0 9 "Windowhouse$Window" "kind" "C", Cond.methodLink RX1 93 yX1_checkBound, Cond.static yX1_checkBound, Cond.code yX1_checkBound cX1_checkBound 2 none, Cond.classLink RX1 160 "java/lang/IllegalArgumentException", Cond.initialized "java/lang/IllegalArgumentException", Cond.methodLink RX1 96 yX0_dropMarkBeyond, Cond.instanceMethod yX0_dropMarkBeyond, Cond.selects RX0 yX0_dropMarkBeyond yX0_dropMarkBeyond, Cond.code yX0_dropMarkBeyond cX0_dropMarkBeyond 2 none, Cond.fieldLink RX0 19 "Windowhouse$Window" "mark" "I"]
def wsX1_endAt : List Cond := .code yX1_endAt cX1_endAt 5 (some .int) :: ((wsX1_endAt_r1 ++ wsX1_endAt_r2) ++ wsX00 ++ wsX10 ++ (vx_atS RX1 220 "java/lang/IndexOutOfBoundsException" ["java/lang/RuntimeException", "java/lang/Exception"]).filter goodWord ++ (vx_atS RX1 164 "java/lang/IllegalArgumentException" ["java/lang/RuntimeException", "java/lang/Exception"]).filter goodWord)
def wsX1_mark : List Cond := .code yX1_mark cX1_mark 3 (some .int) :: ([.fieldLink RX1 63 "Windowhouse$Window" "place" "I", .fieldLink RX1 105 "Windowhouse$Window" "mark" "I", .methodLink RX1 60 yX1_windowOf, .instanceMethod yX1_windowOf, .selects RX1 yX1_windowOf yX1_windowOf, .initialized RX1, .code yX1_windowOf cX1_windowOf 3 (some (.object "Windowhouse$Window")), .classLink RX1 216 "java/lang/IndexOutOfBoundsException", .initialized "java/lang/IndexOutOfBoundsException", .methodLink RX1 40 yX1_slotOf, .instanceMethod yX1_slotOf, .selects RX1 yX1_slotOf yX1_slotOf, .code yX1_slotOf cX1_slotOf 2 (some (.object "Windowhouse$Window")), .fieldLink RX1 16 "Windowhouse" "windows" "[LWindowhouse$Window;", .methodLink RX1 36 yX1_checkIndex, .static yX1_checkIndex, .code yX1_checkIndex cX1_checkIndex 2 none, .methodLink RX1 48 yX0_isThere, .instanceMethod yX0_isThere, .selects RX0 yX0_isThere yX0_isThere, .initialized RX0, .code yX0_isThere cX0_isThere 1 (some .boolean), .fieldLink RX0 9 "Windowhouse$Window" "kind" "C"] ++ wsX00 ++ wsX10 ++ (vx_atS RX1 220 "java/lang/IndexOutOfBoundsException" ["java/lang/RuntimeException", "java/lang/Exception"]).filter goodWord)
def wsX1_back_r1 : List Cond := [Cond.classLink RX1 108 "java/lang/IllegalStateException", Cond.initialized "java/lang/IllegalStateException", Cond.fieldLink RX1 105 "Windowhouse$Window" "mark" "I", Cond.fieldLink RX1 63 "Windowhouse$Window" "place" "I", Cond.methodLink RX1 60 yX1_windowOf, Cond.instanceMethod yX1_windowOf, Cond.selects RX1 yX1_windowOf yX1_windowOf, Cond.initialized RX1, Cond.code yX1_windowOf cX1_windowOf 3 (some (.object "Windowhouse$Window")), Cond.classLink RX1 216 "java/lang/IndexOutOfBoundsException", Cond.initialized "java/lang/IndexOutOfBoundsException", Cond.methodLink RX1 40 yX1_slotOf, Cond.instanceMethod yX1_slotOf, Cond.selects RX1 yX1_slotOf yX1_slotOf, Cond.code yX1_slotOf cX1_slotOf 2 (some (.object "Windowhouse$Window")), Cond.fieldLink RX1 16 "Windowhouse" "windows" "[LWindowhouse$Window;", Cond.methodLink RX1 36 yX1_checkIndex, Cond.static yX1_checkIndex, Cond.code yX1_checkIndex cX1_checkIndex 2 none, Cond.methodLink RX1 48 yX0_isThere, Cond.instanceMethod yX0_isThere, Cond.selects RX0 yX0_isThere yX0_isThere, Cond.initialized RX0, Cond.code yX0_isThere cX0_isThere 1 (some .boolean)]
def wsX1_back_r2 : List Cond := [Cond.fieldLink RX0 9 "Windowhouse$Window" "kind" "C"]
def wsX1_back : List Cond := .code yX1_back cX1_back 4 (some .int) :: ((wsX1_back_r1 ++ wsX1_back_r2) ++ wsX00 ++ wsX10 ++ (vx_atS RX1 112 "java/lang/IllegalStateException" ["java/lang/RuntimeException", "java/lang/Exception"]).filter goodWord ++ (vx_atS RX1 220 "java/lang/IndexOutOfBoundsException" ["java/lang/RuntimeException", "java/lang/Exception"]).filter goodWord)
def wsX1_clear_r1 : List Cond := [Cond.fieldLink RX1 56 "Windowhouse$Window" "capacity" "I", Cond.fieldLink RX1 74 "Windowhouse$Window" "end" "I", Cond.methodLink RX1 60 yX1_windowOf, Cond.instanceMethod yX1_windowOf, Cond.selects RX1 yX1_windowOf yX1_windowOf, Cond.initialized RX1, Cond.code yX1_windowOf cX1_windowOf 3 (some (.object "Windowhouse$Window")), Cond.classLink RX1 216 "java/lang/IndexOutOfBoundsException", Cond.initialized "java/lang/IndexOutOfBoundsException", Cond.methodLink RX1 40 yX1_slotOf, Cond.instanceMethod yX1_slotOf, Cond.selects RX1 yX1_slotOf yX1_slotOf, Cond.code yX1_slotOf cX1_slotOf 2 (some (.object "Windowhouse$Window")), Cond.fieldLink RX1 16 "Windowhouse" "windows" "[LWindowhouse$Window;", Cond.methodLink RX1 36 yX1_checkIndex, Cond.static yX1_checkIndex, Cond.code yX1_checkIndex cX1_checkIndex 2 none, Cond.methodLink RX1 48 yX0_isThere, Cond.instanceMethod yX0_isThere, Cond.selects RX0 yX0_isThere yX0_isThere, Cond.initialized RX0, Cond.code yX0_isThere cX0_isThere 1 (some .boolean), Cond.fieldLink RX0 9 "Windowhouse$Window" "kind" "C", Cond.methodLink RX1 115 yX0_moveTo]
def wsX1_clear_r2 : List Cond := [Cond.instanceMethod yX0_moveTo, Cond.selects RX0 yX0_moveTo yX0_moveTo, Cond.code yX0_moveTo cX0_moveTo 3 none, Cond.fieldLink RX0 26 "Windowhouse$Window" "place" "I", Cond.fieldLink RX0 23 "Windowhouse$Window" "end" "I", Cond.fieldLink RX0 19 "Windowhouse$Window" "mark" "I"]
def wsX1_clear : List Cond := .code yX1_clear cX1_clear 3 (some .int) :: ((wsX1_clear_r1 ++ wsX1_clear_r2) ++ wsX00 ++ wsX10 ++ (vx_atS RX1 220 "java/lang/IndexOutOfBoundsException" ["java/lang/RuntimeException", "java/lang/Exception"]).filter goodWord)
def wsX1_flip_r1 : List Cond := [Cond.fieldLink RX1 63 "Windowhouse$Window" "place" "I", Cond.fieldLink RX1 74 "Windowhouse$Window" "end" "I", Cond.methodLink RX1 60 yX1_windowOf, Cond.instanceMethod yX1_windowOf, Cond.selects RX1 yX1_windowOf yX1_windowOf, Cond.initialized RX1, Cond.code yX1_windowOf cX1_windowOf 3 (some (.object "Windowhouse$Window")), Cond.classLink RX1 216 "java/lang/IndexOutOfBoundsException", Cond.initialized "java/lang/IndexOutOfBoundsException", Cond.methodLink RX1 40 yX1_slotOf, Cond.instanceMethod yX1_slotOf, Cond.selects RX1 yX1_slotOf yX1_slotOf, Cond.code yX1_slotOf cX1_slotOf 2 (some (.object "Windowhouse$Window")), Cond.fieldLink RX1 16 "Windowhouse" "windows" "[LWindowhouse$Window;", Cond.methodLink RX1 36 yX1_checkIndex, Cond.static yX1_checkIndex, Cond.code yX1_checkIndex cX1_checkIndex 2 none, Cond.methodLink RX1 48 yX0_isThere, Cond.instanceMethod yX0_isThere, Cond.selects RX0 yX0_isThere yX0_isThere, Cond.initialized RX0, Cond.code yX0_isThere cX0_isThere 1 (some .boolean), Cond.fieldLink RX0 9 "Windowhouse$Window" "kind" "C", Cond.methodLink RX1 115 yX0_moveTo]
def wsX1_flip_r2 : List Cond := [Cond.instanceMethod yX0_moveTo, Cond.selects RX0 yX0_moveTo yX0_moveTo, Cond.code yX0_moveTo cX0_moveTo 3 none, Cond.fieldLink RX0 26 "Windowhouse$Window" "place" "I", Cond.fieldLink RX0 23 "Windowhouse$Window" "end" "I", Cond.fieldLink RX0 19 "Windowhouse$Window" "mark" "I"]
def wsX1_flip : List Cond := .code yX1_flip cX1_flip 3 (some .int) :: ((wsX1_flip_r1 ++ wsX1_flip_r2) ++ wsX00 ++ wsX10 ++ (vx_atS RX1 220 "java/lang/IndexOutOfBoundsException" ["java/lang/RuntimeException", "java/lang/Exception"]).filter goodWord)
def wsX1_rewind_r1 : List Cond := [Cond.fieldLink RX1 74 "Windowhouse$Window" "end" "I", Cond.methodLink RX1 60 yX1_windowOf, Cond.instanceMethod yX1_windowOf, Cond.selects RX1 yX1_windowOf yX1_windowOf, Cond.initialized RX1, Cond.code yX1_windowOf cX1_windowOf 3 (some (.object "Windowhouse$Window")), Cond.classLink RX1 216 "java/lang/IndexOutOfBoundsException", Cond.initialized "java/lang/IndexOutOfBoundsException", Cond.methodLink RX1 40 yX1_slotOf, Cond.instanceMethod yX1_slotOf, Cond.selects RX1 yX1_slotOf yX1_slotOf, Cond.code yX1_slotOf cX1_slotOf 2 (some (.object "Windowhouse$Window")), Cond.fieldLink RX1 16 "Windowhouse" "windows" "[LWindowhouse$Window;", Cond.methodLink RX1 36 yX1_checkIndex, Cond.static yX1_checkIndex, Cond.code yX1_checkIndex cX1_checkIndex 2 none, Cond.methodLink RX1 48 yX0_isThere, Cond.instanceMethod yX0_isThere, Cond.selects RX0 yX0_isThere yX0_isThere, Cond.initialized RX0, Cond.code yX0_isThere cX0_isThere 1 (some .boolean), Cond.fieldLink RX0 9 "Windowhouse$Window" "kind" "C", Cond.methodLink RX1 115 yX0_moveTo, Cond.instanceMethod yX0_moveTo]
def wsX1_rewind_r2 : List Cond := [Cond.selects RX0 yX0_moveTo yX0_moveTo, Cond.code yX0_moveTo cX0_moveTo 3 none, Cond.fieldLink RX0 26 "Windowhouse$Window" "place" "I", Cond.fieldLink RX0 23 "Windowhouse$Window" "end" "I", Cond.fieldLink RX0 19 "Windowhouse$Window" "mark" "I", Cond.methodLink RX1 66 yX0_rest, Cond.instanceMethod yX0_rest, Cond.selects RX0 yX0_rest yX0_rest, Cond.code yX0_rest cX0_rest 1 (some .int)]
def wsX1_rewind : List Cond := .code yX1_rewind cX1_rewind 3 (some .int) :: ((wsX1_rewind_r1 ++ wsX1_rewind_r2) ++ wsX00 ++ wsX10 ++ (vx_atS RX1 220 "java/lang/IndexOutOfBoundsException" ["java/lang/RuntimeException", "java/lang/Exception"]).filter goodWord)
def wsX1_checkWritable : List Cond := .code yX1_checkWritable cX1_checkWritable 1 none :: ([.classLink RX1 233 "java/lang/UnsupportedOperationException", .initialized "java/lang/UnsupportedOperationException", .fieldLink RX1 85 "Windowhouse$Window" "onlyReads" "Z"] ++ wsX00 ++ (vx_atS RX1 237 "java/lang/UnsupportedOperationException" ["java/lang/RuntimeException", "java/lang/Exception"]).filter goodWord)
def wsX1_compact_r1 : List Cond := [Cond.fieldLink RX1 121 "Windowhouse$Window" "store" "[J", Cond.fieldLink RX1 125 "Windowhouse$Window" "start" "I", Cond.fieldLink RX1 63 "Windowhouse$Window" "place" "I", Cond.methodLink RX1 128 arraycopyName, Cond.native arraycopyName, Cond.static arraycopyName, Cond.initialized "java/lang/System", Cond.fieldLink RX1 56 "Windowhouse$Window" "capacity" "I", Cond.methodLink RX1 60 yX1_windowOf, Cond.instanceMethod yX1_windowOf, Cond.selects RX1 yX1_windowOf yX1_windowOf, Cond.initialized RX1, Cond.code yX1_windowOf cX1_windowOf 3 (some (.object "Windowhouse$Window")), Cond.classLink RX1 216 "java/lang/IndexOutOfBoundsException", Cond.initialized "java/lang/IndexOutOfBoundsException", Cond.methodLink RX1 40 yX1_slotOf, Cond.instanceMethod yX1_slotOf, Cond.selects RX1 yX1_slotOf yX1_slotOf, Cond.code yX1_slotOf cX1_slotOf 2 (some (.object "Windowhouse$Window")), Cond.fieldLink RX1 16 "Windowhouse" "windows" "[LWindowhouse$Window;", Cond.methodLink RX1 36 yX1_checkIndex, Cond.static yX1_checkIndex, Cond.code yX1_checkIndex cX1_checkIndex 2 none, Cond.methodLink RX1 48 yX0_isThere]
def wsX1_compact_r2 : List Cond := [Cond.instanceMethod yX0_isThere, Cond.selects RX0 yX0_isThere yX0_isThere, Cond.initialized RX0, Cond.code yX0_isThere cX0_isThere 1 (some .boolean), Cond.fieldLink RX0 9 "Windowhouse$Window" "kind" "C", Cond.methodLink RX1 118 yX1_checkWritable, Cond.static yX1_checkWritable, Cond.code yX1_checkWritable cX1_checkWritable 1 none, Cond.classLink RX1 233 "java/lang/UnsupportedOperationException", Cond.initialized "java/lang/UnsupportedOperationException", Cond.fieldLink RX1 85 "Windowhouse$Window" "onlyReads" "Z", Cond.methodLink RX1 66 yX0_rest, Cond.instanceMethod yX0_rest, Cond.selects RX0 yX0_rest yX0_rest, Cond.code yX0_rest cX0_rest 1 (some .int), Cond.fieldLink RX0 23 "Windowhouse$Window" "end" "I", Cond.fieldLink RX0 26 "Windowhouse$Window" "place" "I", Cond.methodLink RX1 115 yX0_moveTo, Cond.instanceMethod yX0_moveTo, Cond.selects RX0 yX0_moveTo yX0_moveTo, Cond.code yX0_moveTo cX0_moveTo 3 none, Cond.fieldLink RX0 19 "Windowhouse$Window" "mark" "I"]
def wsX1_compact : List Cond := .code yX1_compact cX1_compact 4 (some .int) :: ((wsX1_compact_r1 ++ wsX1_compact_r2) ++ wsX00 ++ wsX10 ++ (vx_atS RX1 220 "java/lang/IndexOutOfBoundsException" ["java/lang/RuntimeException", "java/lang/Exception"]).filter goodWord ++ (vx_atS RX1 237 "java/lang/UnsupportedOperationException" ["java/lang/RuntimeException", "java/lang/Exception"]).filter goodWord)
def wsX1_checkEnoughToGet : List Cond := .code yX1_checkEnoughToGet cX1_checkEnoughToGet 2 none :: ([.classLink RX1 168 "java/util/NoSuchElementException", .initialized "java/util/NoSuchElementException", .methodLink RX1 66 yX0_rest, .instanceMethod yX0_rest, .selects RX0 yX0_rest yX0_rest, .initialized RX0, .code yX0_rest cX0_rest 1 (some .int), .fieldLink RX0 23 "Windowhouse$Window" "end" "I", .fieldLink RX0 26 "Windowhouse$Window" "place" "I"] ++ wsX00 ++ (zx_at RX1 172 "java/util/NoSuchElementException" ["java/lang/RuntimeException", "java/lang/Exception"]).filter goodWord)
def wsX1_get_r1 : List Cond := [Cond.methodLink RX1 60 yX1_windowOf, Cond.instanceMethod yX1_windowOf, Cond.selects RX1 yX1_windowOf yX1_windowOf, Cond.initialized RX1, Cond.code yX1_windowOf cX1_windowOf 3 (some (.object "Windowhouse$Window")), Cond.classLink RX1 216 "java/lang/IndexOutOfBoundsException", Cond.initialized "java/lang/IndexOutOfBoundsException", Cond.methodLink RX1 40 yX1_slotOf, Cond.instanceMethod yX1_slotOf, Cond.selects RX1 yX1_slotOf yX1_slotOf, Cond.code yX1_slotOf cX1_slotOf 2 (some (.object "Windowhouse$Window")), Cond.fieldLink RX1 16 "Windowhouse" "windows" "[LWindowhouse$Window;", Cond.methodLink RX1 36 yX1_checkIndex, Cond.static yX1_checkIndex, Cond.code yX1_checkIndex cX1_checkIndex 2 none, Cond.methodLink RX1 48 yX0_isThere, Cond.instanceMethod yX0_isThere, Cond.selects RX0 yX0_isThere yX0_isThere, Cond.initialized RX0, Cond.code yX0_isThere cX0_isThere 1 (some .boolean), Cond.fieldLink RX0 9 "Windowhouse$Window" "kind" "C", Cond.methodLink RX1 134 yX1_checkEnoughToGet, Cond.static yX1_checkEnoughToGet, Cond.code yX1_checkEnoughToGet cX1_checkEnoughToGet 2 none]
def wsX1_get_r2 : List Cond := [Cond.classLink RX1 168 "java/util/NoSuchElementException", Cond.initialized "java/util/NoSuchElementException", Cond.methodLink RX1 66 yX0_rest, Cond.instanceMethod yX0_rest, Cond.selects RX0 yX0_rest yX0_rest, Cond.code yX0_rest cX0_rest 1 (some .int), Cond.fieldLink RX0 23 "Windowhouse$Window" "end" "I", Cond.fieldLink RX0 26 "Windowhouse$Window" "place" "I", Cond.methodLink RX1 138 yX0_takeNext, Cond.instanceMethod yX0_takeNext, Cond.selects RX0 yX0_takeNext yX0_takeNext, Cond.code yX0_takeNext cX0_takeNext 3 (some .long), Cond.methodLink RX0 47 yX0_valueAt, Cond.instanceMethod yX0_valueAt, Cond.selects RX0 yX0_valueAt yX0_valueAt, Cond.code yX0_valueAt cX0_valueAt 2 (some .long), Cond.fieldLink RX0 15 "Windowhouse$Window" "store" "[J", Cond.fieldLink RX0 32 "Windowhouse$Window" "start" "I"]
def wsX1_get : List Cond := .code yX1_get cX1_get 3 (some .long) :: ((wsX1_get_r1 ++ wsX1_get_r2) ++ wsX10 ++ wsX00 ++ (vx_atS RX1 220 "java/lang/IndexOutOfBoundsException" ["java/lang/RuntimeException", "java/lang/Exception"]).filter goodWord ++ (zx_at RX1 172 "java/util/NoSuchElementException" ["java/lang/RuntimeException", "java/lang/Exception"]).filter goodWord)
def wsX1_checkEnoughToPut : List Cond := .code yX1_checkEnoughToPut cX1_checkEnoughToPut 2 none :: ([.classLink RX1 108 "java/lang/IllegalStateException", .initialized "java/lang/IllegalStateException", .methodLink RX1 66 yX0_rest, .instanceMethod yX0_rest, .selects RX0 yX0_rest yX0_rest, .initialized RX0, .code yX0_rest cX0_rest 1 (some .int), .fieldLink RX0 23 "Windowhouse$Window" "end" "I", .fieldLink RX0 26 "Windowhouse$Window" "place" "I"] ++ wsX00 ++ (vx_atS RX1 112 "java/lang/IllegalStateException" ["java/lang/RuntimeException", "java/lang/Exception"]).filter goodWord)
def wsX1_put_r1 : List Cond := [Cond.fieldLink RX1 63 "Windowhouse$Window" "place" "I", Cond.methodLink RX1 60 yX1_windowOf, Cond.instanceMethod yX1_windowOf, Cond.selects RX1 yX1_windowOf yX1_windowOf, Cond.initialized RX1, Cond.code yX1_windowOf cX1_windowOf 3 (some (.object "Windowhouse$Window")), Cond.classLink RX1 216 "java/lang/IndexOutOfBoundsException", Cond.initialized "java/lang/IndexOutOfBoundsException", Cond.methodLink RX1 40 yX1_slotOf, Cond.instanceMethod yX1_slotOf, Cond.selects RX1 yX1_slotOf yX1_slotOf, Cond.code yX1_slotOf cX1_slotOf 2 (some (.object "Windowhouse$Window")), Cond.fieldLink RX1 16 "Windowhouse" "windows" "[LWindowhouse$Window;", Cond.methodLink RX1 36 yX1_checkIndex, Cond.static yX1_checkIndex, Cond.code yX1_checkIndex cX1_checkIndex 2 none, Cond.methodLink RX1 48 yX0_isThere, Cond.instanceMethod yX0_isThere, Cond.selects RX0 yX0_isThere yX0_isThere, Cond.initialized RX0, Cond.code yX0_isThere cX0_isThere 1 (some .boolean), Cond.fieldLink RX0 9 "Windowhouse$Window" "kind" "C", Cond.methodLink RX1 118 yX1_checkWritable, Cond.static yX1_checkWritable]
def wsX1_put_r2 : List Cond := [Cond.code yX1_checkWritable cX1_checkWritable 1 none, Cond.classLink RX1 233 "java/lang/UnsupportedOperationException", Cond.initialized "java/lang/UnsupportedOperationException", Cond.fieldLink RX1 85 "Windowhouse$Window" "onlyReads" "Z", Cond.methodLink RX1 142 yX1_checkEnoughToPut, Cond.static yX1_checkEnoughToPut, Cond.code yX1_checkEnoughToPut cX1_checkEnoughToPut 2 none, Cond.classLink RX1 108 "java/lang/IllegalStateException", Cond.initialized "java/lang/IllegalStateException", Cond.methodLink RX1 66 yX0_rest, Cond.instanceMethod yX0_rest, Cond.selects RX0 yX0_rest yX0_rest, Cond.code yX0_rest cX0_rest 1 (some .int), Cond.fieldLink RX0 23 "Windowhouse$Window" "end" "I", Cond.fieldLink RX0 26 "Windowhouse$Window" "place" "I", Cond.methodLink RX1 145 yX0_putNext, Cond.instanceMethod yX0_putNext, Cond.selects RX0 yX0_putNext yX0_putNext, Cond.code yX0_putNext cX0_putNext 3 none, Cond.methodLink RX0 51 yX0_changeAt, Cond.instanceMethod yX0_changeAt, Cond.selects RX0 yX0_changeAt yX0_changeAt, Cond.code yX0_changeAt cX0_changeAt 4 none, Cond.fieldLink RX0 15 "Windowhouse$Window" "store" "[J"]
def wsX1_put_r3 : List Cond := [Cond.fieldLink RX0 32 "Windowhouse$Window" "start" "I", Cond.methodLink RX0 43 yX0_cut, Cond.instanceMethod yX0_cut, Cond.selects RX0 yX0_cut yX0_cut, Cond.code yX0_cut cX0_cut 3 (some .long), Cond.constantLong RX0 55 (255)]
def wsX1_put : List Cond := .code yX1_put cX1_put 5 (some .int) :: ((wsX1_put_r1 ++ (wsX1_put_r2 ++ wsX1_put_r3)) ++ wsX00 ++ wsX10 ++ (vx_atS RX1 220 "java/lang/IndexOutOfBoundsException" ["java/lang/RuntimeException", "java/lang/Exception"]).filter goodWord ++ (vx_atS RX1 237 "java/lang/UnsupportedOperationException" ["java/lang/RuntimeException", "java/lang/Exception"]).filter goodWord ++ (vx_atS RX1 112 "java/lang/IllegalStateException" ["java/lang/RuntimeException", "java/lang/Exception"]).filter goodWord)
def wsX1_getAt_r1 : List Cond := [Cond.fieldLink RX1 74 "Windowhouse$Window" "end" "I", Cond.methodLink RX1 60 yX1_windowOf, Cond.instanceMethod yX1_windowOf, Cond.selects RX1 yX1_windowOf yX1_windowOf, Cond.initialized RX1, Cond.code yX1_windowOf cX1_windowOf 3 (some (.object "Windowhouse$Window")), Cond.classLink RX1 216 "java/lang/IndexOutOfBoundsException", Cond.initialized "java/lang/IndexOutOfBoundsException", Cond.methodLink RX1 40 yX1_slotOf, Cond.instanceMethod yX1_slotOf, Cond.selects RX1 yX1_slotOf yX1_slotOf, Cond.code yX1_slotOf cX1_slotOf 2 (some (.object "Windowhouse$Window")), Cond.fieldLink RX1 16 "Windowhouse" "windows" "[LWindowhouse$Window;", Cond.methodLink RX1 36 yX1_checkIndex, Cond.static yX1_checkIndex, Cond.code yX1_checkIndex cX1_checkIndex 2 none, Cond.methodLink RX1 48 yX0_isThere, Cond.instanceMethod yX0_isThere, Cond.selects RX0 yX0_isThere yX0_isThere, Cond.initialized RX0, Cond.code yX0_isThere cX0_isThere 1 (some .boolean), Cond.fieldLink RX0 9 "Windowhouse$Window" "kind" "C", Cond.methodLink RX1 149 yX0_valueAt, Cond.instanceMethod yX0_valueAt]
def wsX1_getAt_r2 : List Cond := [Cond.selects RX0 yX0_valueAt yX0_valueAt, Cond.code yX0_valueAt cX0_valueAt 2 (some .long), Cond.fieldLink RX0 15 "Windowhouse$Window" "store" "[J", Cond.fieldLink RX0 32 "Windowhouse$Window" "start" "I"]
def wsX1_getAt : List Cond := .code yX1_getAt cX1_getAt 4 (some .long) :: ((wsX1_getAt_r1 ++ wsX1_getAt_r2) ++ wsX00 ++ wsX10 ++ (vx_atS RX1 220 "java/lang/IndexOutOfBoundsException" ["java/lang/RuntimeException", "java/lang/Exception"]).filter goodWord)
def wsX1_putAt_r1 : List Cond := [Cond.fieldLink RX1 74 "Windowhouse$Window" "end" "I", Cond.methodLink RX1 60 yX1_windowOf, Cond.instanceMethod yX1_windowOf, Cond.selects RX1 yX1_windowOf yX1_windowOf, Cond.initialized RX1, Cond.code yX1_windowOf cX1_windowOf 3 (some (.object "Windowhouse$Window")), Cond.classLink RX1 216 "java/lang/IndexOutOfBoundsException", Cond.initialized "java/lang/IndexOutOfBoundsException", Cond.methodLink RX1 40 yX1_slotOf, Cond.instanceMethod yX1_slotOf, Cond.selects RX1 yX1_slotOf yX1_slotOf, Cond.code yX1_slotOf cX1_slotOf 2 (some (.object "Windowhouse$Window")), Cond.fieldLink RX1 16 "Windowhouse" "windows" "[LWindowhouse$Window;", Cond.methodLink RX1 36 yX1_checkIndex, Cond.static yX1_checkIndex, Cond.code yX1_checkIndex cX1_checkIndex 2 none, Cond.methodLink RX1 48 yX0_isThere, Cond.instanceMethod yX0_isThere, Cond.selects RX0 yX0_isThere yX0_isThere, Cond.initialized RX0, Cond.code yX0_isThere cX0_isThere 1 (some .boolean), Cond.fieldLink RX0 9 "Windowhouse$Window" "kind" "C", Cond.methodLink RX1 118 yX1_checkWritable, Cond.static yX1_checkWritable]
def wsX1_putAt_r2 : List Cond := [Cond.code yX1_checkWritable cX1_checkWritable 1 none, Cond.classLink RX1 233 "java/lang/UnsupportedOperationException", Cond.initialized "java/lang/UnsupportedOperationException", Cond.fieldLink RX1 85 "Windowhouse$Window" "onlyReads" "Z", Cond.methodLink RX1 149 yX0_valueAt, Cond.instanceMethod yX0_valueAt, Cond.selects RX0 yX0_valueAt yX0_valueAt, Cond.code yX0_valueAt cX0_valueAt 2 (some .long), Cond.fieldLink RX0 15 "Windowhouse$Window" "store" "[J", Cond.fieldLink RX0 32 "Windowhouse$Window" "start" "I", Cond.methodLink RX1 153 yX0_changeAt, Cond.instanceMethod yX0_changeAt, Cond.selects RX0 yX0_changeAt yX0_changeAt, Cond.code yX0_changeAt cX0_changeAt 4 none, Cond.methodLink RX0 43 yX0_cut, Cond.instanceMethod yX0_cut, Cond.selects RX0 yX0_cut yX0_cut, Cond.code yX0_cut cX0_cut 3 (some .long), Cond.constantLong RX0 55 (255)]
def wsX1_putAt : List Cond := .code yX1_putAt cX1_putAt 8 (some .long) :: ((wsX1_putAt_r1 ++ wsX1_putAt_r2) ++ wsX00 ++ wsX10 ++ (vx_atS RX1 220 "java/lang/IndexOutOfBoundsException" ["java/lang/RuntimeException", "java/lang/Exception"]).filter goodWord ++ (vx_atS RX1 237 "java/lang/UnsupportedOperationException" ["java/lang/RuntimeException", "java/lang/Exception"]).filter goodWord)
def wsX1_checkMany : List Cond := .code yX1_checkMany cX1_checkMany 1 none :: ([.classLink RX1 160 "java/lang/IllegalArgumentException", .initialized "java/lang/IllegalArgumentException"] ++ (vx_atS RX1 164 "java/lang/IllegalArgumentException" ["java/lang/RuntimeException", "java/lang/Exception"]).filter goodWord)
def wsX1_fill_r1 : List Cond := [Cond.fieldLink RX1 63 "Windowhouse$Window" "place" "I", Cond.methodLink RX1 60 yX1_windowOf, Cond.instanceMethod yX1_windowOf, Cond.selects RX1 yX1_windowOf yX1_windowOf, Cond.initialized RX1, Cond.code yX1_windowOf cX1_windowOf 3 (some (.object "Windowhouse$Window")), Cond.classLink RX1 216 "java/lang/IndexOutOfBoundsException", Cond.initialized "java/lang/IndexOutOfBoundsException", Cond.methodLink RX1 40 yX1_slotOf, Cond.instanceMethod yX1_slotOf, Cond.selects RX1 yX1_slotOf yX1_slotOf, Cond.code yX1_slotOf cX1_slotOf 2 (some (.object "Windowhouse$Window")), Cond.fieldLink RX1 16 "Windowhouse" "windows" "[LWindowhouse$Window;", Cond.methodLink RX1 36 yX1_checkIndex, Cond.static yX1_checkIndex, Cond.code yX1_checkIndex cX1_checkIndex 2 none, Cond.methodLink RX1 48 yX0_isThere, Cond.instanceMethod yX0_isThere, Cond.selects RX0 yX0_isThere yX0_isThere, Cond.initialized RX0, Cond.code yX0_isThere cX0_isThere 1 (some .boolean), Cond.fieldLink RX0 9 "Windowhouse$Window" "kind" "C", Cond.methodLink RX1 157 yX1_checkMany, Cond.static yX1_checkMany]
def wsX1_fill_r2 : List Cond := [Cond.code yX1_checkMany cX1_checkMany 1 none, Cond.classLink RX1 160 "java/lang/IllegalArgumentException", Cond.initialized "java/lang/IllegalArgumentException", Cond.methodLink RX1 118 yX1_checkWritable, Cond.static yX1_checkWritable, Cond.code yX1_checkWritable cX1_checkWritable 1 none, Cond.classLink RX1 233 "java/lang/UnsupportedOperationException", Cond.initialized "java/lang/UnsupportedOperationException", Cond.fieldLink RX1 85 "Windowhouse$Window" "onlyReads" "Z", Cond.methodLink RX1 142 yX1_checkEnoughToPut, Cond.static yX1_checkEnoughToPut, Cond.code yX1_checkEnoughToPut cX1_checkEnoughToPut 2 none, Cond.classLink RX1 108 "java/lang/IllegalStateException", Cond.initialized "java/lang/IllegalStateException", Cond.methodLink RX1 66 yX0_rest, Cond.instanceMethod yX0_rest, Cond.selects RX0 yX0_rest yX0_rest, Cond.code yX0_rest cX0_rest 1 (some .int), Cond.fieldLink RX0 23 "Windowhouse$Window" "end" "I", Cond.fieldLink RX0 26 "Windowhouse$Window" "place" "I", Cond.methodLink RX1 145 yX0_putNext, Cond.instanceMethod yX0_putNext, Cond.selects RX0 yX0_putNext yX0_putNext, Cond.code yX0_putNext cX0_putNext 3 none]
def wsX1_fill_r3 : List Cond := [Cond.methodLink RX0 51 yX0_changeAt, Cond.instanceMethod yX0_changeAt, Cond.selects RX0 yX0_changeAt yX0_changeAt, Cond.code yX0_changeAt cX0_changeAt 4 none, Cond.fieldLink RX0 15 "Windowhouse$Window" "store" "[J", Cond.fieldLink RX0 32 "Windowhouse$Window" "start" "I", Cond.methodLink RX0 43 yX0_cut, Cond.instanceMethod yX0_cut, Cond.selects RX0 yX0_cut yX0_cut, Cond.code yX0_cut cX0_cut 3 (some .long), Cond.constantLong RX0 55 (255)]
def wsX1_fill : List Cond := .code yX1_fill cX1_fill 11 (some .int) :: ((wsX1_fill_r1 ++ (wsX1_fill_r2 ++ wsX1_fill_r3)) ++ wsX00 ++ wsX10 ++ (vx_atS RX1 220 "java/lang/IndexOutOfBoundsException" ["java/lang/RuntimeException", "java/lang/Exception"]).filter goodWord ++ (vx_atS RX1 164 "java/lang/IllegalArgumentException" ["java/lang/RuntimeException", "java/lang/Exception"]).filter goodWord ++ (vx_atS RX1 237 "java/lang/UnsupportedOperationException" ["java/lang/RuntimeException", "java/lang/Exception"]).filter goodWord ++ (vx_atS RX1 112 "java/lang/IllegalStateException" ["java/lang/RuntimeException", "java/lang/Exception"]).filter goodWord)
def wsX1_isAlike_r1 : List Cond := [Cond.fieldLink RX1 63 "Windowhouse$Window" "place" "I", Cond.methodLink RX1 60 yX1_windowOf, Cond.instanceMethod yX1_windowOf, Cond.selects RX1 yX1_windowOf yX1_windowOf, Cond.initialized RX1, Cond.code yX1_windowOf cX1_windowOf 3 (some (.object "Windowhouse$Window")), Cond.classLink RX1 216 "java/lang/IndexOutOfBoundsException", Cond.initialized "java/lang/IndexOutOfBoundsException", Cond.methodLink RX1 40 yX1_slotOf, Cond.instanceMethod yX1_slotOf, Cond.selects RX1 yX1_slotOf yX1_slotOf, Cond.code yX1_slotOf cX1_slotOf 2 (some (.object "Windowhouse$Window")), Cond.fieldLink RX1 16 "Windowhouse" "windows" "[LWindowhouse$Window;", Cond.methodLink RX1 36 yX1_checkIndex, Cond.static yX1_checkIndex, Cond.code yX1_checkIndex cX1_checkIndex 2 none, Cond.methodLink RX1 48 yX0_isThere, Cond.instanceMethod yX0_isThere, Cond.selects RX0 yX0_isThere yX0_isThere, Cond.initialized RX0, Cond.code yX0_isThere cX0_isThere 1 (some .boolean), Cond.fieldLink RX0 9 "Windowhouse$Window" "kind" "C", Cond.methodLink RX1 66 yX0_rest, Cond.instanceMethod yX0_rest]
def wsX1_isAlike_r2 : List Cond := [Cond.selects RX0 yX0_rest yX0_rest, Cond.code yX0_rest cX0_rest 1 (some .int), Cond.fieldLink RX0 23 "Windowhouse$Window" "end" "I", Cond.fieldLink RX0 26 "Windowhouse$Window" "place" "I", Cond.methodLink RX1 149 yX0_valueAt, Cond.instanceMethod yX0_valueAt, Cond.selects RX0 yX0_valueAt yX0_valueAt, Cond.code yX0_valueAt cX0_valueAt 2 (some .long), Cond.fieldLink RX0 15 "Windowhouse$Window" "store" "[J", Cond.fieldLink RX0 32 "Windowhouse$Window" "start" "I"]
def wsX1_isAlike : List Cond := .code yX1_isAlike cX1_isAlike 7 (some .boolean) :: ((wsX1_isAlike_r1 ++ wsX1_isAlike_r2) ++ wsX00 ++ wsX10 ++ (vx_atS RX1 220 "java/lang/IndexOutOfBoundsException" ["java/lang/RuntimeException", "java/lang/Exception"]).filter goodWord)
def wsX1_sumOfRow : List Cond := .code yX1_sumOfRow cX1_sumOfRow 6 (some .long) :: ([.methodLink RX1 210 yX1_summed, .static yX1_summed, .initialized RX1, .code yX1_summed cX1_summed 4 (some .long), .constantLong RX1 214 (31)])
def wsX1_checksum_r1 : List Cond := [Cond.constantLong RX1 173 (7), Cond.fieldLink RX1 16 "Windowhouse" "windows" "[LWindowhouse$Window;", Cond.fieldLink RX1 11 "Windowhouse" "rows" "[[J", Cond.methodLink RX1 186 yX0_sumOfAll, Cond.instanceMethod yX0_sumOfAll, Cond.selects RX0 yX0_sumOfAll yX0_sumOfAll, Cond.initialized RX0, Cond.code yX0_sumOfAll cX0_sumOfAll 5 (some .long), Cond.fieldLink RX0 9 "Windowhouse$Window" "kind" "C", Cond.fieldLink RX0 26 "Windowhouse$Window" "place" "I", Cond.fieldLink RX0 23 "Windowhouse$Window" "end" "I", Cond.fieldLink RX0 29 "Windowhouse$Window" "capacity" "I", Cond.static yX1_summed, Cond.initialized RX1, Cond.code yX1_summed cX1_summed 4 (some .long), Cond.constantLong RX1 214 (31), Cond.methodLink RX0 61 yX0_isThere, Cond.instanceMethod yX0_isThere, Cond.selects RX0 yX0_isThere yX0_isThere, Cond.code yX0_isThere cX0_isThere 1 (some .boolean), Cond.methodLink RX0 65 yX0_sumOver, Cond.instanceMethod yX0_sumOver, Cond.selects RX0 yX0_sumOver yX0_sumOver, Cond.code yX0_sumOver cX0_sumOver 7 (some .long)]
def wsX1_checksum_r2 : List Cond := [Cond.methodLink RX0 47 yX0_valueAt, Cond.instanceMethod yX0_valueAt, Cond.selects RX0 yX0_valueAt yX0_valueAt, Cond.code yX0_valueAt cX0_valueAt 2 (some .long), Cond.fieldLink RX0 15 "Windowhouse$Window" "store" "[J", Cond.fieldLink RX0 32 "Windowhouse$Window" "start" "I", Cond.methodLink RX1 190 yX1_sumOfRow, Cond.static yX1_sumOfRow, Cond.code yX1_sumOfRow cX1_sumOfRow 6 (some .long), Cond.methodLink RX1 210 yX1_summed]
def wsX1_checksum : List Cond := .code yX1_checksum cX1_checksum 4 (some .long) :: ((wsX1_checksum_r1 ++ wsX1_checksum_r2) ++ wsX10 ++ wsX00)
def wsX1_showsChange : List Cond := .code yX1_showsChange cX1_showsChange 8 (some .boolean) :: ([.fieldLink RX1 21 "Windowhouse" "probe" "LWindowhouse$Window;", .constantLong RX1 205 (-1), .fieldLink RX1 63 "Windowhouse$Window" "place" "I", .fieldLink RX1 25 "Windowhouse" "twin" "LWindowhouse$Window;", .methodLink RX1 149 yX0_valueAt, .instanceMethod yX0_valueAt, .selects RX0 yX0_valueAt yX0_valueAt, .initialized RX0, .code yX0_valueAt cX0_valueAt 2 (some .long), .fieldLink RX0 15 "Windowhouse$Window" "store" "[J", .fieldLink RX0 32 "Windowhouse$Window" "start" "I", .methodLink RX1 207 yX0_cut, .instanceMethod yX0_cut, .selects RX0 yX0_cut yX0_cut, .code yX0_cut cX0_cut 3 (some .long), .fieldLink RX0 9 "Windowhouse$Window" "kind" "C", .constantLong RX0 55 (255), .methodLink RX1 153 yX0_changeAt, .instanceMethod yX0_changeAt, .selects RX0 yX0_changeAt yX0_changeAt, .code yX0_changeAt cX0_changeAt 4 none, .methodLink RX0 43 yX0_cut] ++ wsX10 ++ wsX00)
def wsX1_keepsTheorem_r1 : List Cond := [Cond.fieldLink RX1 85 "Windowhouse$Window" "onlyReads" "Z", Cond.fieldLink RX1 21 "Windowhouse" "probe" "LWindowhouse$Window;", Cond.fieldLink RX1 63 "Windowhouse$Window" "place" "I", Cond.fieldLink RX1 25 "Windowhouse" "twin" "LWindowhouse$Window;", Cond.methodLink RX1 198 yX0_isInBounds, Cond.instanceMethod yX0_isInBounds, Cond.selects RX0 yX0_isInBounds yX0_isInBounds, Cond.initialized RX0, Cond.code yX0_isInBounds cX0_isInBounds 1 (some .boolean), Cond.fieldLink RX0 26 "Windowhouse$Window" "place" "I", Cond.fieldLink RX0 23 "Windowhouse$Window" "end" "I", Cond.fieldLink RX0 29 "Windowhouse$Window" "capacity" "I", Cond.fieldLink RX0 32 "Windowhouse$Window" "start" "I", Cond.fieldLink RX0 15 "Windowhouse$Window" "store" "[J", Cond.methodLink RX1 66 yX0_rest, Cond.instanceMethod yX0_rest, Cond.selects RX0 yX0_rest yX0_rest, Cond.code yX0_rest cX0_rest 1 (some .int), Cond.methodLink RX1 70 yX0_becomeSlice, Cond.instanceMethod yX0_becomeSlice, Cond.selects RX0 yX0_becomeSlice yX0_becomeSlice, Cond.code yX0_becomeSlice cX0_becomeSlice 4 none, Cond.fieldLink RX0 9 "Windowhouse$Window" "kind" "C", Cond.fieldLink RX0 35 "Windowhouse$Window" "onlyReads" "Z"]
def wsX1_keepsTheorem_r2 : List Cond := [Cond.methodLink RX0 39 yX0_moveTo, Cond.instanceMethod yX0_moveTo, Cond.selects RX0 yX0_moveTo yX0_moveTo, Cond.code yX0_moveTo cX0_moveTo 3 none, Cond.fieldLink RX0 19 "Windowhouse$Window" "mark" "I", Cond.methodLink RX1 81 yX0_becomeDuplicate, Cond.instanceMethod yX0_becomeDuplicate, Cond.selects RX0 yX0_becomeDuplicate yX0_becomeDuplicate, Cond.code yX0_becomeDuplicate cX0_becomeDuplicate 2 none, Cond.methodLink RX1 201 yX1_showsChange, Cond.instanceMethod yX1_showsChange, Cond.selects RX1 yX1_showsChange yX1_showsChange, Cond.initialized RX1, Cond.code yX1_showsChange cX1_showsChange 8 (some .boolean), Cond.constantLong RX1 205 (-1), Cond.methodLink RX1 149 yX0_valueAt, Cond.instanceMethod yX0_valueAt, Cond.selects RX0 yX0_valueAt yX0_valueAt, Cond.code yX0_valueAt cX0_valueAt 2 (some .long), Cond.methodLink RX1 207 yX0_cut, Cond.instanceMethod yX0_cut, Cond.selects RX0 yX0_cut yX0_cut, Cond.code yX0_cut cX0_cut 3 (some .long), Cond.constantLong RX0 55 (255)]
def wsX1_keepsTheorem_r3 : List Cond := [Cond.methodLink RX1 153 yX0_changeAt, Cond.instanceMethod yX0_changeAt, Cond.selects RX0 yX0_changeAt yX0_changeAt, Cond.code yX0_changeAt cX0_changeAt 4 none, Cond.methodLink RX0 43 yX0_cut]
def wsX1_keepsTheorem : List Cond := .code yX1_keepsTheorem cX1_keepsTheorem 4 (some .boolean) :: ((wsX1_keepsTheorem_r1 ++ (wsX1_keepsTheorem_r2 ++ wsX1_keepsTheorem_r3)) ++ wsX00 ++ wsX10)
def wsX1_isTrue_r1 : List Cond := [Cond.fieldLink RX1 16 "Windowhouse" "windows" "[LWindowhouse$Window;", Cond.methodLink RX1 48 yX0_isThere, Cond.instanceMethod yX0_isThere, Cond.selects RX0 yX0_isThere yX0_isThere, Cond.initialized RX0, Cond.code yX0_isThere cX0_isThere 1 (some .boolean), Cond.fieldLink RX0 9 "Windowhouse$Window" "kind" "C", Cond.methodLink RX1 194 yX1_keepsTheorem, Cond.instanceMethod yX1_keepsTheorem, Cond.selects RX1 yX1_keepsTheorem yX1_keepsTheorem, Cond.initialized RX1, Cond.code yX1_keepsTheorem cX1_keepsTheorem 4 (some .boolean), Cond.fieldLink RX1 85 "Windowhouse$Window" "onlyReads" "Z", Cond.fieldLink RX1 21 "Windowhouse" "probe" "LWindowhouse$Window;", Cond.fieldLink RX1 63 "Windowhouse$Window" "place" "I", Cond.fieldLink RX1 25 "Windowhouse" "twin" "LWindowhouse$Window;", Cond.methodLink RX1 198 yX0_isInBounds, Cond.instanceMethod yX0_isInBounds, Cond.selects RX0 yX0_isInBounds yX0_isInBounds, Cond.code yX0_isInBounds cX0_isInBounds 1 (some .boolean), Cond.fieldLink RX0 26 "Windowhouse$Window" "place" "I", Cond.fieldLink RX0 23 "Windowhouse$Window" "end" "I", Cond.fieldLink RX0 29 "Windowhouse$Window" "capacity" "I", Cond.fieldLink RX0 32 "Windowhouse$Window" "start" "I"]
def wsX1_isTrue_r2 : List Cond := [Cond.fieldLink RX0 15 "Windowhouse$Window" "store" "[J", Cond.methodLink RX1 66 yX0_rest, Cond.instanceMethod yX0_rest, Cond.selects RX0 yX0_rest yX0_rest, Cond.code yX0_rest cX0_rest 1 (some .int), Cond.methodLink RX1 70 yX0_becomeSlice, Cond.instanceMethod yX0_becomeSlice, Cond.selects RX0 yX0_becomeSlice yX0_becomeSlice, Cond.code yX0_becomeSlice cX0_becomeSlice 4 none, Cond.fieldLink RX0 35 "Windowhouse$Window" "onlyReads" "Z", Cond.methodLink RX0 39 yX0_moveTo, Cond.instanceMethod yX0_moveTo, Cond.selects RX0 yX0_moveTo yX0_moveTo, Cond.code yX0_moveTo cX0_moveTo 3 none, Cond.fieldLink RX0 19 "Windowhouse$Window" "mark" "I", Cond.methodLink RX1 81 yX0_becomeDuplicate, Cond.instanceMethod yX0_becomeDuplicate, Cond.selects RX0 yX0_becomeDuplicate yX0_becomeDuplicate, Cond.code yX0_becomeDuplicate cX0_becomeDuplicate 2 none, Cond.methodLink RX1 201 yX1_showsChange, Cond.instanceMethod yX1_showsChange, Cond.selects RX1 yX1_showsChange yX1_showsChange, Cond.code yX1_showsChange cX1_showsChange 8 (some .boolean), Cond.constantLong RX1 205 (-1)]
def wsX1_isTrue_r3 : List Cond := [Cond.methodLink RX1 149 yX0_valueAt, Cond.instanceMethod yX0_valueAt, Cond.selects RX0 yX0_valueAt yX0_valueAt, Cond.code yX0_valueAt cX0_valueAt 2 (some .long), Cond.methodLink RX1 207 yX0_cut, Cond.instanceMethod yX0_cut, Cond.selects RX0 yX0_cut yX0_cut, Cond.code yX0_cut cX0_cut 3 (some .long), Cond.constantLong RX0 55 (255), Cond.methodLink RX1 153 yX0_changeAt, Cond.instanceMethod yX0_changeAt, Cond.selects RX0 yX0_changeAt yX0_changeAt, Cond.code yX0_changeAt cX0_changeAt 4 none, Cond.methodLink RX0 43 yX0_cut]
def wsX1_isTrue : List Cond := .code yX1_isTrue cX1_isTrue 2 (some .boolean) :: ((wsX1_isTrue_r1 ++ (wsX1_isTrue_r2 ++ wsX1_isTrue_r3)) ++ wsX10 ++ wsX00)
def wsJ9_min_7cf53 : List Cond := .code yJ9_min_7cf53 cJ9_min_7cf53 2 (some .int) :: ([])
theorem dX0_init_0 : decode cX0_init 0 = .ok (.aload_n 0, 1) := by decide +kernel
theorem dX0_init_1 : decode cX0_init 1 = .ok (.invokespecial 3, 3) := by decide +kernel
theorem dX0_init_4 : decode cX0_init 4 = .ok (.aload_n 0, 1) := by decide +kernel
theorem dX0_init_5 : decode cX0_init 5 = .ok (.bipush 45, 2) := by decide +kernel
theorem dX0_init_7 : decode cX0_init 7 = .ok (.putfield 9, 3) := by decide +kernel
theorem dX0_init_10 : decode cX0_init 10 = .ok (.aload_n 0, 1) := by decide +kernel
theorem dX0_init_11 : decode cX0_init 11 = .ok (.iconst 0, 1) := by decide +kernel
theorem dX0_init_12 : decode cX0_init 12 = .ok (.newarray .long, 2) := by decide +kernel
theorem dX0_init_14 : decode cX0_init 14 = .ok (.putfield 15, 3) := by decide +kernel
theorem dX0_init_17 : decode cX0_init 17 = .ok (.aload_n 0, 1) := by decide +kernel
theorem dX0_init_18 : decode cX0_init 18 = .ok (.iconst (-1), 1) := by decide +kernel
theorem dX0_init_19 : decode cX0_init 19 = .ok (.putfield 19, 3) := by decide +kernel
theorem dX0_init_22 : decode cX0_init 22 = .ok (.return_, 1) := by decide +kernel
theorem dX0_isThere_0 : decode cX0_isThere 0 = .ok (.aload_n 0, 1) := by decide +kernel
theorem dX0_isThere_1 : decode cX0_isThere 1 = .ok (.getfield 9, 3) := by decide +kernel
theorem dX0_isThere_4 : decode cX0_isThere 4 = .ok (.bipush 45, 2) := by decide +kernel
theorem dX0_isThere_6 : decode cX0_isThere 6 = .ok (.if_icmp .eq 7, 3) := by decide +kernel
theorem dX0_isThere_9 : decode cX0_isThere 9 = .ok (.iconst 1, 1) := by decide +kernel
theorem dX0_isThere_10 : decode cX0_isThere 10 = .ok (.goto 4, 3) := by decide +kernel
theorem dX0_isThere_13 : decode cX0_isThere 13 = .ok (.iconst 0, 1) := by decide +kernel
theorem dX0_isThere_14 : decode cX0_isThere 14 = .ok (.ireturn, 1) := by decide +kernel
theorem dX0_rest_0 : decode cX0_rest 0 = .ok (.aload_n 0, 1) := by decide +kernel
theorem dX0_rest_1 : decode cX0_rest 1 = .ok (.getfield 23, 3) := by decide +kernel
theorem dX0_rest_4 : decode cX0_rest 4 = .ok (.aload_n 0, 1) := by decide +kernel
theorem dX0_rest_5 : decode cX0_rest 5 = .ok (.getfield 26, 3) := by decide +kernel
theorem dX0_rest_8 : decode cX0_rest 8 = .ok (.isub, 1) := by decide +kernel
theorem dX0_rest_9 : decode cX0_rest 9 = .ok (.ireturn, 1) := by decide +kernel
theorem dX0_isInBounds_0 : decode cX0_isInBounds 0 = .ok (.iconst 0, 1) := by decide +kernel
theorem dX0_isInBounds_1 : decode cX0_isInBounds 1 = .ok (.aload_n 0, 1) := by decide +kernel
theorem dX0_isInBounds_2 : decode cX0_isInBounds 2 = .ok (.getfield 26, 3) := by decide +kernel
theorem dX0_isInBounds_5 : decode cX0_isInBounds 5 = .ok (.if_icmp .gt 54, 3) := by decide +kernel
theorem dX0_isInBounds_8 : decode cX0_isInBounds 8 = .ok (.aload_n 0, 1) := by decide +kernel
theorem dX0_isInBounds_9 : decode cX0_isInBounds 9 = .ok (.getfield 26, 3) := by decide +kernel
theorem dX0_isInBounds_12 : decode cX0_isInBounds 12 = .ok (.aload_n 0, 1) := by decide +kernel
theorem dX0_isInBounds_13 : decode cX0_isInBounds 13 = .ok (.getfield 23, 3) := by decide +kernel
theorem dX0_isInBounds_16 : decode cX0_isInBounds 16 = .ok (.if_icmp .gt 43, 3) := by decide +kernel
theorem dX0_isInBounds_19 : decode cX0_isInBounds 19 = .ok (.aload_n 0, 1) := by decide +kernel
theorem dX0_isInBounds_20 : decode cX0_isInBounds 20 = .ok (.getfield 23, 3) := by decide +kernel
theorem dX0_isInBounds_23 : decode cX0_isInBounds 23 = .ok (.aload_n 0, 1) := by decide +kernel
theorem dX0_isInBounds_24 : decode cX0_isInBounds 24 = .ok (.getfield 29, 3) := by decide +kernel
theorem dX0_isInBounds_27 : decode cX0_isInBounds 27 = .ok (.if_icmp .gt 32, 3) := by decide +kernel
theorem dX0_isInBounds_30 : decode cX0_isInBounds 30 = .ok (.iconst 0, 1) := by decide +kernel
theorem dX0_isInBounds_31 : decode cX0_isInBounds 31 = .ok (.aload_n 0, 1) := by decide +kernel
theorem dX0_isInBounds_32 : decode cX0_isInBounds 32 = .ok (.getfield 32, 3) := by decide +kernel
theorem dX0_isInBounds_35 : decode cX0_isInBounds 35 = .ok (.if_icmp .gt 24, 3) := by decide +kernel
theorem dX0_isInBounds_38 : decode cX0_isInBounds 38 = .ok (.aload_n 0, 1) := by decide +kernel
theorem dX0_isInBounds_39 : decode cX0_isInBounds 39 = .ok (.getfield 29, 3) := by decide +kernel
theorem dX0_isInBounds_42 : decode cX0_isInBounds 42 = .ok (.aload_n 0, 1) := by decide +kernel
theorem dX0_isInBounds_43 : decode cX0_isInBounds 43 = .ok (.getfield 15, 3) := by decide +kernel
theorem dX0_isInBounds_46 : decode cX0_isInBounds 46 = .ok (.arraylength, 1) := by decide +kernel
theorem dX0_isInBounds_47 : decode cX0_isInBounds 47 = .ok (.aload_n 0, 1) := by decide +kernel
theorem dX0_isInBounds_48 : decode cX0_isInBounds 48 = .ok (.getfield 32, 3) := by decide +kernel
theorem dX0_isInBounds_51 : decode cX0_isInBounds 51 = .ok (.isub, 1) := by decide +kernel
theorem dX0_isInBounds_52 : decode cX0_isInBounds 52 = .ok (.if_icmp .gt 7, 3) := by decide +kernel
theorem dX0_isInBounds_55 : decode cX0_isInBounds 55 = .ok (.iconst 1, 1) := by decide +kernel
theorem dX0_isInBounds_56 : decode cX0_isInBounds 56 = .ok (.goto 4, 3) := by decide +kernel
theorem dX0_isInBounds_59 : decode cX0_isInBounds 59 = .ok (.iconst 0, 1) := by decide +kernel
theorem dX0_isInBounds_60 : decode cX0_isInBounds 60 = .ok (.ireturn, 1) := by decide +kernel
set_option maxRecDepth 20000 in
theorem ggX0_layOver_X0_moveTo : GoodIn wsX0_layOver wsX0_moveTo := goodIn_r _ [10, 11, 12, 13, 14, 15, 16, 17, 18, 19, 20, 21] (by decide +kernel) (by decide +kernel)
set_option maxRecDepth 20000 in
theorem gX0_layOver_X0_moveTo : GoodIn wsX0_layOver (wsV RX0 39 RX0 yX0_moveTo wsX0_moveTo) := goodIn_app (goodIn_of _ (by decide +kernel)) ggX0_layOver_X0_moveTo
theorem dX0_layOver_0 : decode cX0_layOver 0 = .ok (.aload_n 0, 1) := by decide +kernel
theorem dX0_layOver_1 : decode cX0_layOver 1 = .ok (.iload_n 1, 1) := by decide +kernel
theorem dX0_layOver_2 : decode cX0_layOver 2 = .ok (.putfield 9, 3) := by decide +kernel
theorem dX0_layOver_5 : decode cX0_layOver 5 = .ok (.aload_n 0, 1) := by decide +kernel
theorem dX0_layOver_6 : decode cX0_layOver 6 = .ok (.iconst 0, 1) := by decide +kernel
theorem dX0_layOver_7 : decode cX0_layOver 7 = .ok (.putfield 35, 3) := by decide +kernel
theorem dX0_layOver_10 : decode cX0_layOver 10 = .ok (.aload_n 0, 1) := by decide +kernel
theorem dX0_layOver_11 : decode cX0_layOver 11 = .ok (.aload_n 2, 1) := by decide +kernel
theorem dX0_layOver_12 : decode cX0_layOver 12 = .ok (.putfield 15, 3) := by decide +kernel
theorem dX0_layOver_15 : decode cX0_layOver 15 = .ok (.aload_n 0, 1) := by decide +kernel
theorem dX0_layOver_16 : decode cX0_layOver 16 = .ok (.iconst 0, 1) := by decide +kernel
theorem dX0_layOver_17 : decode cX0_layOver 17 = .ok (.putfield 32, 3) := by decide +kernel
theorem dX0_layOver_20 : decode cX0_layOver 20 = .ok (.aload_n 0, 1) := by decide +kernel
theorem dX0_layOver_21 : decode cX0_layOver 21 = .ok (.aload_n 2, 1) := by decide +kernel
theorem dX0_layOver_22 : decode cX0_layOver 22 = .ok (.arraylength, 1) := by decide +kernel
theorem dX0_layOver_23 : decode cX0_layOver 23 = .ok (.putfield 29, 3) := by decide +kernel
theorem dX0_layOver_26 : decode cX0_layOver 26 = .ok (.aload_n 0, 1) := by decide +kernel
theorem dX0_layOver_27 : decode cX0_layOver 27 = .ok (.iconst 0, 1) := by decide +kernel
theorem dX0_layOver_28 : decode cX0_layOver 28 = .ok (.aload_n 0, 1) := by decide +kernel
theorem dX0_layOver_29 : decode cX0_layOver 29 = .ok (.getfield 29, 3) := by decide +kernel
theorem dX0_layOver_32 : decode cX0_layOver 32 = .ok (.invokevirtual 39, 3) := by decide +kernel
theorem dX0_layOver_35 : decode cX0_layOver 35 = .ok (.return_, 1) := by decide +kernel
set_option maxRecDepth 20000 in
theorem ggX0_becomeSlice_X0_moveTo : GoodIn wsX0_becomeSlice wsX0_moveTo := goodIn_r _ [10, 11, 12, 13, 14, 15, 16, 17, 18, 19, 20, 21] (by decide +kernel) (by decide +kernel)
set_option maxRecDepth 20000 in
theorem gX0_becomeSlice_X0_moveTo : GoodIn wsX0_becomeSlice (wsV RX0 39 RX0 yX0_moveTo wsX0_moveTo) := goodIn_app (goodIn_of _ (by decide +kernel)) ggX0_becomeSlice_X0_moveTo
theorem dX0_becomeSlice_0 : decode cX0_becomeSlice 0 = .ok (.aload_n 0, 1) := by decide +kernel
theorem dX0_becomeSlice_1 : decode cX0_becomeSlice 1 = .ok (.aload_n 1, 1) := by decide +kernel
theorem dX0_becomeSlice_2 : decode cX0_becomeSlice 2 = .ok (.getfield 9, 3) := by decide +kernel
theorem dX0_becomeSlice_5 : decode cX0_becomeSlice 5 = .ok (.putfield 9, 3) := by decide +kernel
theorem dX0_becomeSlice_8 : decode cX0_becomeSlice 8 = .ok (.aload_n 0, 1) := by decide +kernel
theorem dX0_becomeSlice_9 : decode cX0_becomeSlice 9 = .ok (.aload_n 1, 1) := by decide +kernel
theorem dX0_becomeSlice_10 : decode cX0_becomeSlice 10 = .ok (.getfield 35, 3) := by decide +kernel
theorem dX0_becomeSlice_13 : decode cX0_becomeSlice 13 = .ok (.putfield 35, 3) := by decide +kernel
theorem dX0_becomeSlice_16 : decode cX0_becomeSlice 16 = .ok (.aload_n 0, 1) := by decide +kernel
theorem dX0_becomeSlice_17 : decode cX0_becomeSlice 17 = .ok (.aload_n 1, 1) := by decide +kernel
theorem dX0_becomeSlice_18 : decode cX0_becomeSlice 18 = .ok (.getfield 15, 3) := by decide +kernel
theorem dX0_becomeSlice_21 : decode cX0_becomeSlice 21 = .ok (.putfield 15, 3) := by decide +kernel
theorem dX0_becomeSlice_24 : decode cX0_becomeSlice 24 = .ok (.aload_n 0, 1) := by decide +kernel
theorem dX0_becomeSlice_25 : decode cX0_becomeSlice 25 = .ok (.aload_n 1, 1) := by decide +kernel
theorem dX0_becomeSlice_26 : decode cX0_becomeSlice 26 = .ok (.getfield 32, 3) := by decide +kernel
theorem dX0_becomeSlice_29 : decode cX0_becomeSlice 29 = .ok (.iload_n 2, 1) := by decide +kernel
theorem dX0_becomeSlice_30 : decode cX0_becomeSlice 30 = .ok (.iadd, 1) := by decide +kernel
theorem dX0_becomeSlice_31 : decode cX0_becomeSlice 31 = .ok (.putfield 32, 3) := by decide +kernel
theorem dX0_becomeSlice_34 : decode cX0_becomeSlice 34 = .ok (.aload_n 0, 1) := by decide +kernel
theorem dX0_becomeSlice_35 : decode cX0_becomeSlice 35 = .ok (.iload_n 3, 1) := by decide +kernel
theorem dX0_becomeSlice_36 : decode cX0_becomeSlice 36 = .ok (.putfield 29, 3) := by decide +kernel
theorem dX0_becomeSlice_39 : decode cX0_becomeSlice 39 = .ok (.aload_n 0, 1) := by decide +kernel
theorem dX0_becomeSlice_40 : decode cX0_becomeSlice 40 = .ok (.iconst 0, 1) := by decide +kernel
theorem dX0_becomeSlice_41 : decode cX0_becomeSlice 41 = .ok (.iload_n 3, 1) := by decide +kernel
theorem dX0_becomeSlice_42 : decode cX0_becomeSlice 42 = .ok (.invokevirtual 39, 3) := by decide +kernel
theorem dX0_becomeSlice_45 : decode cX0_becomeSlice 45 = .ok (.return_, 1) := by decide +kernel
theorem dX0_becomeDuplicate_0 : decode cX0_becomeDuplicate 0 = .ok (.aload_n 0, 1) := by decide +kernel
theorem dX0_becomeDuplicate_1 : decode cX0_becomeDuplicate 1 = .ok (.aload_n 1, 1) := by decide +kernel
theorem dX0_becomeDuplicate_2 : decode cX0_becomeDuplicate 2 = .ok (.getfield 9, 3) := by decide +kernel
theorem dX0_becomeDuplicate_5 : decode cX0_becomeDuplicate 5 = .ok (.putfield 9, 3) := by decide +kernel
theorem dX0_becomeDuplicate_8 : decode cX0_becomeDuplicate 8 = .ok (.aload_n 0, 1) := by decide +kernel
theorem dX0_becomeDuplicate_9 : decode cX0_becomeDuplicate 9 = .ok (.aload_n 1, 1) := by decide +kernel
theorem dX0_becomeDuplicate_10 : decode cX0_becomeDuplicate 10 = .ok (.getfield 35, 3) := by decide +kernel
theorem dX0_becomeDuplicate_13 : decode cX0_becomeDuplicate 13 = .ok (.putfield 35, 3) := by decide +kernel
theorem dX0_becomeDuplicate_16 : decode cX0_becomeDuplicate 16 = .ok (.aload_n 0, 1) := by decide +kernel
theorem dX0_becomeDuplicate_17 : decode cX0_becomeDuplicate 17 = .ok (.aload_n 1, 1) := by decide +kernel
theorem dX0_becomeDuplicate_18 : decode cX0_becomeDuplicate 18 = .ok (.getfield 15, 3) := by decide +kernel
theorem dX0_becomeDuplicate_21 : decode cX0_becomeDuplicate 21 = .ok (.putfield 15, 3) := by decide +kernel
theorem dX0_becomeDuplicate_24 : decode cX0_becomeDuplicate 24 = .ok (.aload_n 0, 1) := by decide +kernel
theorem dX0_becomeDuplicate_25 : decode cX0_becomeDuplicate 25 = .ok (.aload_n 1, 1) := by decide +kernel
theorem dX0_becomeDuplicate_26 : decode cX0_becomeDuplicate 26 = .ok (.getfield 32, 3) := by decide +kernel
theorem dX0_becomeDuplicate_29 : decode cX0_becomeDuplicate 29 = .ok (.putfield 32, 3) := by decide +kernel
theorem dX0_becomeDuplicate_32 : decode cX0_becomeDuplicate 32 = .ok (.aload_n 0, 1) := by decide +kernel
theorem dX0_becomeDuplicate_33 : decode cX0_becomeDuplicate 33 = .ok (.aload_n 1, 1) := by decide +kernel
theorem dX0_becomeDuplicate_34 : decode cX0_becomeDuplicate 34 = .ok (.getfield 29, 3) := by decide +kernel
theorem dX0_becomeDuplicate_37 : decode cX0_becomeDuplicate 37 = .ok (.putfield 29, 3) := by decide +kernel
theorem dX0_becomeDuplicate_40 : decode cX0_becomeDuplicate 40 = .ok (.aload_n 0, 1) := by decide +kernel
theorem dX0_becomeDuplicate_41 : decode cX0_becomeDuplicate 41 = .ok (.aload_n 1, 1) := by decide +kernel
theorem dX0_becomeDuplicate_42 : decode cX0_becomeDuplicate 42 = .ok (.getfield 26, 3) := by decide +kernel
theorem dX0_becomeDuplicate_45 : decode cX0_becomeDuplicate 45 = .ok (.putfield 26, 3) := by decide +kernel
theorem dX0_becomeDuplicate_48 : decode cX0_becomeDuplicate 48 = .ok (.aload_n 0, 1) := by decide +kernel
theorem dX0_becomeDuplicate_49 : decode cX0_becomeDuplicate 49 = .ok (.aload_n 1, 1) := by decide +kernel
theorem dX0_becomeDuplicate_50 : decode cX0_becomeDuplicate 50 = .ok (.getfield 23, 3) := by decide +kernel
theorem dX0_becomeDuplicate_53 : decode cX0_becomeDuplicate 53 = .ok (.putfield 23, 3) := by decide +kernel
theorem dX0_becomeDuplicate_56 : decode cX0_becomeDuplicate 56 = .ok (.aload_n 0, 1) := by decide +kernel
theorem dX0_becomeDuplicate_57 : decode cX0_becomeDuplicate 57 = .ok (.aload_n 1, 1) := by decide +kernel
theorem dX0_becomeDuplicate_58 : decode cX0_becomeDuplicate 58 = .ok (.getfield 19, 3) := by decide +kernel
theorem dX0_becomeDuplicate_61 : decode cX0_becomeDuplicate 61 = .ok (.putfield 19, 3) := by decide +kernel
theorem dX0_becomeDuplicate_64 : decode cX0_becomeDuplicate 64 = .ok (.return_, 1) := by decide +kernel
theorem dX0_moveTo_0 : decode cX0_moveTo 0 = .ok (.aload_n 0, 1) := by decide +kernel
theorem dX0_moveTo_1 : decode cX0_moveTo 1 = .ok (.iload_n 1, 1) := by decide +kernel
theorem dX0_moveTo_2 : decode cX0_moveTo 2 = .ok (.putfield 26, 3) := by decide +kernel
theorem dX0_moveTo_5 : decode cX0_moveTo 5 = .ok (.aload_n 0, 1) := by decide +kernel
theorem dX0_moveTo_6 : decode cX0_moveTo 6 = .ok (.iload_n 2, 1) := by decide +kernel
theorem dX0_moveTo_7 : decode cX0_moveTo 7 = .ok (.putfield 23, 3) := by decide +kernel
theorem dX0_moveTo_10 : decode cX0_moveTo 10 = .ok (.aload_n 0, 1) := by decide +kernel
theorem dX0_moveTo_11 : decode cX0_moveTo 11 = .ok (.iconst (-1), 1) := by decide +kernel
theorem dX0_moveTo_12 : decode cX0_moveTo 12 = .ok (.putfield 19, 3) := by decide +kernel
theorem dX0_moveTo_15 : decode cX0_moveTo 15 = .ok (.return_, 1) := by decide +kernel
theorem dX0_dropMarkBeyond_0 : decode cX0_dropMarkBeyond 0 = .ok (.aload_n 0, 1) := by decide +kernel
theorem dX0_dropMarkBeyond_1 : decode cX0_dropMarkBeyond 1 = .ok (.getfield 19, 3) := by decide +kernel
theorem dX0_dropMarkBeyond_4 : decode cX0_dropMarkBeyond 4 = .ok (.iload_n 1, 1) := by decide +kernel
theorem dX0_dropMarkBeyond_5 : decode cX0_dropMarkBeyond 5 = .ok (.if_icmp .le 8, 3) := by decide +kernel
theorem dX0_dropMarkBeyond_8 : decode cX0_dropMarkBeyond 8 = .ok (.aload_n 0, 1) := by decide +kernel
theorem dX0_dropMarkBeyond_9 : decode cX0_dropMarkBeyond 9 = .ok (.iconst (-1), 1) := by decide +kernel
theorem dX0_dropMarkBeyond_10 : decode cX0_dropMarkBeyond 10 = .ok (.putfield 19, 3) := by decide +kernel
theorem dX0_dropMarkBeyond_13 : decode cX0_dropMarkBeyond 13 = .ok (.return_, 1) := by decide +kernel
theorem dX0_valueAt_0 : decode cX0_valueAt 0 = .ok (.aload_n 0, 1) := by decide +kernel
theorem dX0_valueAt_1 : decode cX0_valueAt 1 = .ok (.getfield 15, 3) := by decide +kernel
theorem dX0_valueAt_4 : decode cX0_valueAt 4 = .ok (.aload_n 0, 1) := by decide +kernel
theorem dX0_valueAt_5 : decode cX0_valueAt 5 = .ok (.getfield 32, 3) := by decide +kernel
theorem dX0_valueAt_8 : decode cX0_valueAt 8 = .ok (.iload_n 1, 1) := by decide +kernel
theorem dX0_valueAt_9 : decode cX0_valueAt 9 = .ok (.iadd, 1) := by decide +kernel
theorem dX0_valueAt_10 : decode cX0_valueAt 10 = .ok (.laload, 1) := by decide +kernel
theorem dX0_valueAt_11 : decode cX0_valueAt 11 = .ok (.lreturn, 1) := by decide +kernel
set_option maxRecDepth 20000 in
theorem ggX0_changeAt_X0_cut : GoodIn wsX0_changeAt wsX0_cut := goodIn_r _ [7, 8, 9, 10, 11, 12, 13, 14, 15, 16, 17] (by decide +kernel) (by decide +kernel)
set_option maxRecDepth 20000 in
theorem gX0_changeAt_X0_cut : GoodIn wsX0_changeAt (wsV RX0 43 RX0 yX0_cut wsX0_cut) := goodIn_app (goodIn_of _ (by decide +kernel)) ggX0_changeAt_X0_cut
theorem dX0_changeAt_0 : decode cX0_changeAt 0 = .ok (.aload_n 0, 1) := by decide +kernel
theorem dX0_changeAt_1 : decode cX0_changeAt 1 = .ok (.getfield 15, 3) := by decide +kernel
theorem dX0_changeAt_4 : decode cX0_changeAt 4 = .ok (.aload_n 0, 1) := by decide +kernel
theorem dX0_changeAt_5 : decode cX0_changeAt 5 = .ok (.getfield 32, 3) := by decide +kernel
theorem dX0_changeAt_8 : decode cX0_changeAt 8 = .ok (.iload_n 1, 1) := by decide +kernel
theorem dX0_changeAt_9 : decode cX0_changeAt 9 = .ok (.iadd, 1) := by decide +kernel
theorem dX0_changeAt_10 : decode cX0_changeAt 10 = .ok (.aload_n 0, 1) := by decide +kernel
theorem dX0_changeAt_11 : decode cX0_changeAt 11 = .ok (.lload_n 2, 1) := by decide +kernel
theorem dX0_changeAt_12 : decode cX0_changeAt 12 = .ok (.invokevirtual 43, 3) := by decide +kernel
theorem dX0_changeAt_15 : decode cX0_changeAt 15 = .ok (.lastore, 1) := by decide +kernel
theorem dX0_changeAt_16 : decode cX0_changeAt 16 = .ok (.return_, 1) := by decide +kernel
set_option maxRecDepth 20000 in
theorem ggX0_takeNext_X0_valueAt : GoodIn wsX0_takeNext wsX0_valueAt := goodIn_r _ [6, 7, 8, 9, 10, 11, 12, 13, 14, 15, 16] (by decide +kernel) (by decide +kernel)
set_option maxRecDepth 20000 in
theorem gX0_takeNext_X0_valueAt : GoodIn wsX0_takeNext (wsV RX0 47 RX0 yX0_valueAt wsX0_valueAt) := goodIn_app (goodIn_of _ (by decide +kernel)) ggX0_takeNext_X0_valueAt
theorem dX0_takeNext_0 : decode cX0_takeNext 0 = .ok (.aload_n 0, 1) := by decide +kernel
theorem dX0_takeNext_1 : decode cX0_takeNext 1 = .ok (.aload_n 0, 1) := by decide +kernel
theorem dX0_takeNext_2 : decode cX0_takeNext 2 = .ok (.getfield 26, 3) := by decide +kernel
theorem dX0_takeNext_5 : decode cX0_takeNext 5 = .ok (.invokevirtual 47, 3) := by decide +kernel
theorem dX0_takeNext_8 : decode cX0_takeNext 8 = .ok (.lstore_n 1, 1) := by decide +kernel
theorem dX0_takeNext_9 : decode cX0_takeNext 9 = .ok (.aload_n 0, 1) := by decide +kernel
theorem dX0_takeNext_10 : decode cX0_takeNext 10 = .ok (.dup, 1) := by decide +kernel
theorem dX0_takeNext_11 : decode cX0_takeNext 11 = .ok (.getfield 26, 3) := by decide +kernel
theorem dX0_takeNext_14 : decode cX0_takeNext 14 = .ok (.iconst 1, 1) := by decide +kernel
theorem dX0_takeNext_15 : decode cX0_takeNext 15 = .ok (.iadd, 1) := by decide +kernel
theorem dX0_takeNext_16 : decode cX0_takeNext 16 = .ok (.putfield 26, 3) := by decide +kernel
theorem dX0_takeNext_19 : decode cX0_takeNext 19 = .ok (.lload_n 1, 1) := by decide +kernel
theorem dX0_takeNext_20 : decode cX0_takeNext 20 = .ok (.lreturn, 1) := by decide +kernel
set_option maxRecDepth 20000 in
theorem ggX0_putNext_X0_changeAt : GoodIn wsX0_putNext wsX0_changeAt := goodIn_r _ [6, 7, 8, 9, 10, 11, 5, 12, 13, 14, 15, 16, 17, 18, 19, 20, 21, 22] (by decide +kernel) (by decide +kernel)
set_option maxRecDepth 20000 in
theorem gX0_putNext_X0_changeAt : GoodIn wsX0_putNext (wsV RX0 51 RX0 yX0_changeAt wsX0_changeAt) := goodIn_app (goodIn_of _ (by decide +kernel)) ggX0_putNext_X0_changeAt
theorem dX0_putNext_0 : decode cX0_putNext 0 = .ok (.aload_n 0, 1) := by decide +kernel
theorem dX0_putNext_1 : decode cX0_putNext 1 = .ok (.aload_n 0, 1) := by decide +kernel
theorem dX0_putNext_2 : decode cX0_putNext 2 = .ok (.getfield 26, 3) := by decide +kernel
theorem dX0_putNext_5 : decode cX0_putNext 5 = .ok (.lload_n 1, 1) := by decide +kernel
theorem dX0_putNext_6 : decode cX0_putNext 6 = .ok (.invokevirtual 51, 3) := by decide +kernel
theorem dX0_putNext_9 : decode cX0_putNext 9 = .ok (.aload_n 0, 1) := by decide +kernel
theorem dX0_putNext_10 : decode cX0_putNext 10 = .ok (.dup, 1) := by decide +kernel
theorem dX0_putNext_11 : decode cX0_putNext 11 = .ok (.getfield 26, 3) := by decide +kernel
theorem dX0_putNext_14 : decode cX0_putNext 14 = .ok (.iconst 1, 1) := by decide +kernel
theorem dX0_putNext_15 : decode cX0_putNext 15 = .ok (.iadd, 1) := by decide +kernel
theorem dX0_putNext_16 : decode cX0_putNext 16 = .ok (.putfield 26, 3) := by decide +kernel
theorem dX0_putNext_19 : decode cX0_putNext 19 = .ok (.return_, 1) := by decide +kernel
theorem dX0_cut_0 : decode cX0_cut 0 = .ok (.aload_n 0, 1) := by decide +kernel
theorem dX0_cut_1 : decode cX0_cut 1 = .ok (.getfield 9, 3) := by decide +kernel
theorem dX0_cut_4 : decode cX0_cut 4 = .ok (.bipush 105, 2) := by decide +kernel
theorem dX0_cut_6 : decode cX0_cut 6 = .ok (.if_icmp .ne 7, 3) := by decide +kernel
theorem dX0_cut_9 : decode cX0_cut 9 = .ok (.lload_n 1, 1) := by decide +kernel
theorem dX0_cut_10 : decode cX0_cut 10 = .ok (.l2i, 1) := by decide +kernel
theorem dX0_cut_11 : decode cX0_cut 11 = .ok (.i2l, 1) := by decide +kernel
theorem dX0_cut_12 : decode cX0_cut 12 = .ok (.lreturn, 1) := by decide +kernel
theorem dX0_cut_13 : decode cX0_cut 13 = .ok (.aload_n 0, 1) := by decide +kernel
theorem dX0_cut_14 : decode cX0_cut 14 = .ok (.getfield 9, 3) := by decide +kernel
theorem dX0_cut_17 : decode cX0_cut 17 = .ok (.bipush 99, 2) := by decide +kernel
theorem dX0_cut_19 : decode cX0_cut 19 = .ok (.if_icmp .ne 9, 3) := by decide +kernel
theorem dX0_cut_22 : decode cX0_cut 22 = .ok (.lload_n 1, 1) := by decide +kernel
theorem dX0_cut_23 : decode cX0_cut 23 = .ok (.ldc2_w 55, 3) := by decide +kernel
theorem dX0_cut_26 : decode cX0_cut 26 = .ok (.land, 1) := by decide +kernel
theorem dX0_cut_27 : decode cX0_cut 27 = .ok (.lreturn, 1) := by decide +kernel
theorem dX0_cut_28 : decode cX0_cut 28 = .ok (.aload_n 0, 1) := by decide +kernel
theorem dX0_cut_29 : decode cX0_cut 29 = .ok (.getfield 9, 3) := by decide +kernel
theorem dX0_cut_32 : decode cX0_cut 32 = .ok (.bipush 115, 2) := by decide +kernel
theorem dX0_cut_34 : decode cX0_cut 34 = .ok (.if_icmp .ne 8, 3) := by decide +kernel
theorem dX0_cut_37 : decode cX0_cut 37 = .ok (.lload_n 1, 1) := by decide +kernel
theorem dX0_cut_38 : decode cX0_cut 38 = .ok (.l2i, 1) := by decide +kernel
theorem dX0_cut_39 : decode cX0_cut 39 = .ok (.i2s, 1) := by decide +kernel
theorem dX0_cut_40 : decode cX0_cut 40 = .ok (.i2l, 1) := by decide +kernel
theorem dX0_cut_41 : decode cX0_cut 41 = .ok (.lreturn, 1) := by decide +kernel
theorem dX0_cut_42 : decode cX0_cut 42 = .ok (.lload_n 1, 1) := by decide +kernel
theorem dX0_cut_43 : decode cX0_cut 43 = .ok (.lreturn, 1) := by decide +kernel
set_option maxRecDepth 20000 in
theorem ggX0_sumOver_X0_valueAt : GoodIn wsX0_sumOver wsX0_valueAt := goodIn_r _ [6, 7, 8, 13, 14, 15, 16, 17, 18, 19, 20] (by decide +kernel) (by decide +kernel)
set_option maxRecDepth 20000 in
theorem gX0_sumOver_X0_valueAt : GoodIn wsX0_sumOver (wsV RX0 47 RX0 yX0_valueAt wsX0_valueAt) := goodIn_app (goodIn_of _ (by decide +kernel)) ggX0_sumOver_X0_valueAt
set_option maxRecDepth 20000 in
theorem ggX0_sumOver_X1_summed : GoodIn wsX0_sumOver wsX1_summed := goodIn_r _ [11, 12] (by decide +kernel) (by decide +kernel)
set_option maxRecDepth 20000 in
theorem gX0_sumOver_X1_summed_n57 : GoodIn wsX0_sumOver (wsX1_summed) := ggX0_sumOver_X1_summed
theorem dX0_sumOver_0 : decode cX0_sumOver 0 = .ok (.lload_n 1, 1) := by decide +kernel
theorem dX0_sumOver_1 : decode cX0_sumOver 1 = .ok (.lstore 4, 2) := by decide +kernel
theorem dX0_sumOver_3 : decode cX0_sumOver 3 = .ok (.iload_n 3, 1) := by decide +kernel
theorem dX0_sumOver_4 : decode cX0_sumOver 4 = .ok (.istore 6, 2) := by decide +kernel
theorem dX0_sumOver_6 : decode cX0_sumOver 6 = .ok (.iload 6, 2) := by decide +kernel
theorem dX0_sumOver_8 : decode cX0_sumOver 8 = .ok (.aload_n 0, 1) := by decide +kernel
theorem dX0_sumOver_9 : decode cX0_sumOver 9 = .ok (.getfield 23, 3) := by decide +kernel
theorem dX0_sumOver_12 : decode cX0_sumOver 12 = .ok (.if_icmp .ge 22, 3) := by decide +kernel
theorem dX0_sumOver_15 : decode cX0_sumOver 15 = .ok (.lload 4, 2) := by decide +kernel
theorem dX0_sumOver_17 : decode cX0_sumOver 17 = .ok (.aload_n 0, 1) := by decide +kernel
theorem dX0_sumOver_18 : decode cX0_sumOver 18 = .ok (.iload 6, 2) := by decide +kernel
theorem dX0_sumOver_20 : decode cX0_sumOver 20 = .ok (.invokevirtual 47, 3) := by decide +kernel
theorem dX0_sumOver_23 : decode cX0_sumOver 23 = .ok (.invokestatic 57, 3) := by decide +kernel
theorem dX0_sumOver_26 : decode cX0_sumOver 26 = .ok (.lstore 4, 2) := by decide +kernel
theorem dX0_sumOver_28 : decode cX0_sumOver 28 = .ok (.iinc 6 1, 3) := by decide +kernel
theorem dX0_sumOver_31 : decode cX0_sumOver 31 = .ok (.goto (-25), 3) := by decide +kernel
theorem dX0_sumOver_34 : decode cX0_sumOver 34 = .ok (.lload 4, 2) := by decide +kernel
theorem dX0_sumOver_36 : decode cX0_sumOver 36 = .ok (.lreturn, 1) := by decide +kernel
set_option maxRecDepth 20000 in
theorem ggX0_sumOfAll_X1_summed : GoodIn wsX0_sumOfAll wsX1_summed := goodIn_r _ [7, 8] (by decide +kernel) (by decide +kernel)
set_option maxRecDepth 20000 in
theorem gX0_sumOfAll_X1_summed_n57 : GoodIn wsX0_sumOfAll (wsX1_summed) := ggX0_sumOfAll_X1_summed
set_option maxRecDepth 20000 in
theorem ggX0_sumOfAll_X0_isThere : GoodIn wsX0_sumOfAll wsX0_isThere := goodIn_r _ [13, 1, 24, 25, 26, 27, 28, 29, 30, 31] (by decide +kernel) (by decide +kernel)
set_option maxRecDepth 20000 in
theorem gX0_sumOfAll_X0_isThere : GoodIn wsX0_sumOfAll (wsV RX0 61 RX0 yX0_isThere wsX0_isThere) := goodIn_app (goodIn_of _ (by decide +kernel)) ggX0_sumOfAll_X0_isThere
set_option maxRecDepth 20000 in
theorem ggX0_sumOfAll_X0_sumOver : GoodIn wsX0_sumOfAll wsX0_sumOver := goodIn_r _ [17, 3, 18, 19, 20, 12, 21, 22, 23, 5, 6, 7, 8, 24, 25, 26, 27, 28, 29, 30, 31] (by decide +kernel) (by decide +kernel)
set_option maxRecDepth 20000 in
theorem gX0_sumOfAll_X0_sumOver : GoodIn wsX0_sumOfAll (wsV RX0 65 RX0 yX0_sumOver wsX0_sumOver) := goodIn_app (goodIn_of _ (by decide +kernel)) ggX0_sumOfAll_X0_sumOver
theorem dX0_sumOfAll_0 : decode cX0_sumOfAll 0 = .ok (.lload_n 1, 1) := by decide +kernel
theorem dX0_sumOfAll_1 : decode cX0_sumOfAll 1 = .ok (.aload_n 0, 1) := by decide +kernel
theorem dX0_sumOfAll_2 : decode cX0_sumOfAll 2 = .ok (.getfield 9, 3) := by decide +kernel
theorem dX0_sumOfAll_5 : decode cX0_sumOfAll 5 = .ok (.i2l, 1) := by decide +kernel
theorem dX0_sumOfAll_6 : decode cX0_sumOfAll 6 = .ok (.invokestatic 57, 3) := by decide +kernel
theorem dX0_sumOfAll_9 : decode cX0_sumOfAll 9 = .ok (.lstore_n 3, 1) := by decide +kernel
theorem dX0_sumOfAll_10 : decode cX0_sumOfAll 10 = .ok (.aload_n 0, 1) := by decide +kernel
theorem dX0_sumOfAll_11 : decode cX0_sumOfAll 11 = .ok (.invokevirtual 61, 3) := by decide +kernel
theorem dX0_sumOfAll_14 : decode cX0_sumOfAll 14 = .ok (.ifCond .ne 5, 3) := by decide +kernel
theorem dX0_sumOfAll_17 : decode cX0_sumOfAll 17 = .ok (.lload_n 3, 1) := by decide +kernel
theorem dX0_sumOfAll_18 : decode cX0_sumOfAll 18 = .ok (.lreturn, 1) := by decide +kernel
theorem dX0_sumOfAll_19 : decode cX0_sumOfAll 19 = .ok (.lload_n 3, 1) := by decide +kernel
theorem dX0_sumOfAll_20 : decode cX0_sumOfAll 20 = .ok (.aload_n 0, 1) := by decide +kernel
theorem dX0_sumOfAll_21 : decode cX0_sumOfAll 21 = .ok (.getfield 26, 3) := by decide +kernel
theorem dX0_sumOfAll_24 : decode cX0_sumOfAll 24 = .ok (.i2l, 1) := by decide +kernel
theorem dX0_sumOfAll_25 : decode cX0_sumOfAll 25 = .ok (.invokestatic 57, 3) := by decide +kernel
theorem dX0_sumOfAll_28 : decode cX0_sumOfAll 28 = .ok (.lstore_n 3, 1) := by decide +kernel
theorem dX0_sumOfAll_29 : decode cX0_sumOfAll 29 = .ok (.lload_n 3, 1) := by decide +kernel
theorem dX0_sumOfAll_30 : decode cX0_sumOfAll 30 = .ok (.aload_n 0, 1) := by decide +kernel
theorem dX0_sumOfAll_31 : decode cX0_sumOfAll 31 = .ok (.getfield 23, 3) := by decide +kernel
theorem dX0_sumOfAll_34 : decode cX0_sumOfAll 34 = .ok (.i2l, 1) := by decide +kernel
theorem dX0_sumOfAll_35 : decode cX0_sumOfAll 35 = .ok (.invokestatic 57, 3) := by decide +kernel
theorem dX0_sumOfAll_38 : decode cX0_sumOfAll 38 = .ok (.lstore_n 3, 1) := by decide +kernel
theorem dX0_sumOfAll_39 : decode cX0_sumOfAll 39 = .ok (.lload_n 3, 1) := by decide +kernel
theorem dX0_sumOfAll_40 : decode cX0_sumOfAll 40 = .ok (.aload_n 0, 1) := by decide +kernel
theorem dX0_sumOfAll_41 : decode cX0_sumOfAll 41 = .ok (.getfield 29, 3) := by decide +kernel
theorem dX0_sumOfAll_44 : decode cX0_sumOfAll 44 = .ok (.i2l, 1) := by decide +kernel
theorem dX0_sumOfAll_45 : decode cX0_sumOfAll 45 = .ok (.invokestatic 57, 3) := by decide +kernel
theorem dX0_sumOfAll_48 : decode cX0_sumOfAll 48 = .ok (.lstore_n 3, 1) := by decide +kernel
theorem dX0_sumOfAll_49 : decode cX0_sumOfAll 49 = .ok (.aload_n 0, 1) := by decide +kernel
theorem dX0_sumOfAll_50 : decode cX0_sumOfAll 50 = .ok (.lload_n 3, 1) := by decide +kernel
theorem dX0_sumOfAll_51 : decode cX0_sumOfAll 51 = .ok (.iconst 0, 1) := by decide +kernel
theorem dX0_sumOfAll_52 : decode cX0_sumOfAll 52 = .ok (.invokevirtual 65, 3) := by decide +kernel
theorem dX0_sumOfAll_55 : decode cX0_sumOfAll 55 = .ok (.lreturn, 1) := by decide +kernel
set_option maxRecDepth 20000 in
theorem ggX1_init_X0_init : GoodIn wsX1_init wsX0_init := goodIn_r _ [15, 16, 2, 3, 17, 5, 18, 19, 24, 25, 26, 27, 28, 29, 30, 31] (by decide +kernel) (by decide +kernel)
set_option maxRecDepth 20000 in
theorem gX1_init_X0_init : GoodIn wsX1_init (wsX0_init) := ggX1_init_X0_init
theorem dX1_init_0 : decode cX1_init 0 = .ok (.aload_n 0, 1) := by decide +kernel
theorem dX1_init_1 : decode cX1_init 1 = .ok (.invokespecial 1, 3) := by decide +kernel
theorem dX1_init_4 : decode cX1_init 4 = .ok (.aload_n 0, 1) := by decide +kernel
theorem dX1_init_5 : decode cX1_init 5 = .ok (.iconst 2, 1) := by decide +kernel
theorem dX1_init_6 : decode cX1_init 6 = .ok (.iconst 0, 1) := by decide +kernel
theorem dX1_init_7 : decode cX1_init 7 = .ok (.multianewarray 9 2, 4) := by decide +kernel
theorem dX1_init_11 : decode cX1_init 11 = .ok (.putfield 11, 3) := by decide +kernel
theorem dX1_init_14 : decode cX1_init 14 = .ok (.aload_n 0, 1) := by decide +kernel
theorem dX1_init_15 : decode cX1_init 15 = .ok (.bipush 8, 2) := by decide +kernel
theorem dX1_init_17 : decode cX1_init 17 = .ok (.anewarray 14, 3) := by decide +kernel
theorem dX1_init_20 : decode cX1_init 20 = .ok (.putfield 16, 3) := by decide +kernel
theorem dX1_init_23 : decode cX1_init 23 = .ok (.iconst 0, 1) := by decide +kernel
theorem dX1_init_24 : decode cX1_init 24 = .ok (.istore_n 1, 1) := by decide +kernel
theorem dX1_init_25 : decode cX1_init 25 = .ok (.iload_n 1, 1) := by decide +kernel
theorem dX1_init_26 : decode cX1_init 26 = .ok (.bipush 8, 2) := by decide +kernel
theorem dX1_init_28 : decode cX1_init 28 = .ok (.if_icmp .ge 22, 3) := by decide +kernel
theorem dX1_init_31 : decode cX1_init 31 = .ok (.aload_n 0, 1) := by decide +kernel
theorem dX1_init_32 : decode cX1_init 32 = .ok (.getfield 16, 3) := by decide +kernel
theorem dX1_init_35 : decode cX1_init 35 = .ok (.iload_n 1, 1) := by decide +kernel
theorem dX1_init_36 : decode cX1_init 36 = .ok (.new 14, 3) := by decide +kernel
theorem dX1_init_39 : decode cX1_init 39 = .ok (.dup, 1) := by decide +kernel
theorem dX1_init_40 : decode cX1_init 40 = .ok (.invokespecial 20, 3) := by decide +kernel
theorem dX1_init_43 : decode cX1_init 43 = .ok (.aastore, 1) := by decide +kernel
theorem dX1_init_44 : decode cX1_init 44 = .ok (.iinc 1 1, 3) := by decide +kernel
theorem dX1_init_47 : decode cX1_init 47 = .ok (.goto (-22), 3) := by decide +kernel
theorem dX1_init_50 : decode cX1_init 50 = .ok (.aload_n 0, 1) := by decide +kernel
theorem dX1_init_51 : decode cX1_init 51 = .ok (.new 14, 3) := by decide +kernel
theorem dX1_init_54 : decode cX1_init 54 = .ok (.dup, 1) := by decide +kernel
theorem dX1_init_55 : decode cX1_init 55 = .ok (.invokespecial 20, 3) := by decide +kernel
theorem dX1_init_58 : decode cX1_init 58 = .ok (.putfield 21, 3) := by decide +kernel
theorem dX1_init_61 : decode cX1_init 61 = .ok (.aload_n 0, 1) := by decide +kernel
theorem dX1_init_62 : decode cX1_init 62 = .ok (.new 14, 3) := by decide +kernel
theorem dX1_init_65 : decode cX1_init 65 = .ok (.dup, 1) := by decide +kernel
theorem dX1_init_66 : decode cX1_init 66 = .ok (.invokespecial 20, 3) := by decide +kernel
theorem dX1_init_69 : decode cX1_init 69 = .ok (.putfield 25, 3) := by decide +kernel
theorem dX1_init_72 : decode cX1_init 72 = .ok (.return_, 1) := by decide +kernel
set_option maxRecDepth 20000 in
theorem ggX1_make_X1_rowOf : GoodIn wsX1_make wsX1_rowOf := goodIn_ca (goodIn_r _ [7, 1, 8, 9, 6, 10, 11, 12, 18, 19, 20, 21] (by decide +kernel) (by decide +kernel)) (goodIn_sub (fun _ h => List.mem_cons_of_mem _ (List.mem_append_left _ (List.mem_append_right _ h))) (by decide +kernel))
set_option maxRecDepth 20000 in
theorem gX1_make_X1_rowOf : GoodIn wsX1_make (wsV RX1 28 RX1 yX1_rowOf wsX1_rowOf) := goodIn_app (goodIn_of _ (by decide +kernel)) ggX1_make_X1_rowOf
set_option maxRecDepth 20000 in
theorem ggX1_make_X1_checkLength : GoodIn wsX1_make wsX1_checkLength := goodIn_ca (goodIn_r _ [15, 16, 17] (by decide +kernel) (by decide +kernel)) (goodIn_sub (fun _ h => List.mem_cons_of_mem _ (List.mem_append_right _ h)) (by decide +kernel))
set_option maxRecDepth 20000 in
theorem gX1_make_X1_checkLength : GoodIn wsX1_make (va_wsS RX1 32 yX1_checkLength wsX1_checkLength) := goodIn_app (goodIn_of _ (by decide +kernel)) ggX1_make_X1_checkLength
theorem dX1_make_0 : decode cX1_make 0 = .ok (.aload_n 0, 1) := by decide +kernel
theorem dX1_make_1 : decode cX1_make 1 = .ok (.iload_n 1, 1) := by decide +kernel
theorem dX1_make_2 : decode cX1_make 2 = .ok (.invokevirtual 28, 3) := by decide +kernel
theorem dX1_make_5 : decode cX1_make 5 = .ok (.astore_n 3, 1) := by decide +kernel
theorem dX1_make_6 : decode cX1_make 6 = .ok (.iload_n 2, 1) := by decide +kernel
theorem dX1_make_7 : decode cX1_make 7 = .ok (.invokestatic 32, 3) := by decide +kernel
theorem dX1_make_10 : decode cX1_make 10 = .ok (.aload_n 0, 1) := by decide +kernel
theorem dX1_make_11 : decode cX1_make 11 = .ok (.getfield 11, 3) := by decide +kernel
theorem dX1_make_14 : decode cX1_make 14 = .ok (.iload_n 1, 1) := by decide +kernel
theorem dX1_make_15 : decode cX1_make 15 = .ok (.iload_n 2, 1) := by decide +kernel
theorem dX1_make_16 : decode cX1_make 16 = .ok (.newarray .long, 2) := by decide +kernel
theorem dX1_make_18 : decode cX1_make 18 = .ok (.aastore, 1) := by decide +kernel
theorem dX1_make_19 : decode cX1_make 19 = .ok (.aload_n 3, 1) := by decide +kernel
theorem dX1_make_20 : decode cX1_make 20 = .ok (.arraylength, 1) := by decide +kernel
theorem dX1_make_21 : decode cX1_make 21 = .ok (.ireturn, 1) := by decide +kernel
set_option maxRecDepth 20000 in
theorem ggX1_rowAt_X1_rowOf : GoodIn wsX1_rowAt wsX1_rowOf := goodIn_ca (goodIn_r _ [5, 6, 7, 8, 4, 9, 10, 11, 12, 13, 14, 15] (by decide +kernel) (by decide +kernel)) (goodIn_sub (fun _ h => List.mem_cons_of_mem _ (List.mem_append_right _ h)) (by decide +kernel))
set_option maxRecDepth 20000 in
theorem gX1_rowAt_X1_rowOf : GoodIn wsX1_rowAt (wsV RX1 28 RX1 yX1_rowOf wsX1_rowOf) := goodIn_app (goodIn_of _ (by decide +kernel)) ggX1_rowAt_X1_rowOf
set_option maxRecDepth 20000 in
theorem ggX1_rowAt_X1_checkIndex : GoodIn wsX1_rowAt wsX1_checkIndex := goodIn_ca (goodIn_r _ [9, 10, 11] (by decide +kernel) (by decide +kernel)) (goodIn_sub (fun _ h => List.mem_cons_of_mem _ (List.mem_append_right _ h)) (by decide +kernel))
set_option maxRecDepth 20000 in
theorem gX1_rowAt_X1_checkIndex : GoodIn wsX1_rowAt (va_wsS RX1 36 yX1_checkIndex wsX1_checkIndex) := goodIn_app (goodIn_of _ (by decide +kernel)) ggX1_rowAt_X1_checkIndex
theorem dX1_rowAt_0 : decode cX1_rowAt 0 = .ok (.aload_n 0, 1) := by decide +kernel
theorem dX1_rowAt_1 : decode cX1_rowAt 1 = .ok (.iload_n 1, 1) := by decide +kernel
theorem dX1_rowAt_2 : decode cX1_rowAt 2 = .ok (.invokevirtual 28, 3) := by decide +kernel
theorem dX1_rowAt_5 : decode cX1_rowAt 5 = .ok (.astore_n 3, 1) := by decide +kernel
theorem dX1_rowAt_6 : decode cX1_rowAt 6 = .ok (.iload_n 2, 1) := by decide +kernel
theorem dX1_rowAt_7 : decode cX1_rowAt 7 = .ok (.aload_n 3, 1) := by decide +kernel
theorem dX1_rowAt_8 : decode cX1_rowAt 8 = .ok (.arraylength, 1) := by decide +kernel
theorem dX1_rowAt_9 : decode cX1_rowAt 9 = .ok (.invokestatic 36, 3) := by decide +kernel
theorem dX1_rowAt_12 : decode cX1_rowAt 12 = .ok (.aload_n 3, 1) := by decide +kernel
theorem dX1_rowAt_13 : decode cX1_rowAt 13 = .ok (.iload_n 2, 1) := by decide +kernel
theorem dX1_rowAt_14 : decode cX1_rowAt 14 = .ok (.laload, 1) := by decide +kernel
theorem dX1_rowAt_15 : decode cX1_rowAt 15 = .ok (.l2i, 1) := by decide +kernel
theorem dX1_rowAt_16 : decode cX1_rowAt 16 = .ok (.ireturn, 1) := by decide +kernel
set_option maxRecDepth 20000 in
theorem ggX1_rowPut_X1_rowOf : GoodIn wsX1_rowPut wsX1_rowOf := goodIn_ca (goodIn_r _ [5, 6, 7, 8, 4, 9, 10, 11, 12, 13, 14, 15] (by decide +kernel) (by decide +kernel)) (goodIn_sub (fun _ h => List.mem_cons_of_mem _ (List.mem_append_right _ h)) (by decide +kernel))
set_option maxRecDepth 20000 in
theorem gX1_rowPut_X1_rowOf : GoodIn wsX1_rowPut (wsV RX1 28 RX1 yX1_rowOf wsX1_rowOf) := goodIn_app (goodIn_of _ (by decide +kernel)) ggX1_rowPut_X1_rowOf
set_option maxRecDepth 20000 in
theorem ggX1_rowPut_X1_checkIndex : GoodIn wsX1_rowPut wsX1_checkIndex := goodIn_ca (goodIn_r _ [9, 10, 11] (by decide +kernel) (by decide +kernel)) (goodIn_sub (fun _ h => List.mem_cons_of_mem _ (List.mem_append_right _ h)) (by decide +kernel))
set_option maxRecDepth 20000 in
theorem gX1_rowPut_X1_checkIndex : GoodIn wsX1_rowPut (va_wsS RX1 36 yX1_checkIndex wsX1_checkIndex) := goodIn_app (goodIn_of _ (by decide +kernel)) ggX1_rowPut_X1_checkIndex
theorem dX1_rowPut_0 : decode cX1_rowPut 0 = .ok (.aload_n 0, 1) := by decide +kernel
theorem dX1_rowPut_1 : decode cX1_rowPut 1 = .ok (.iload_n 1, 1) := by decide +kernel
theorem dX1_rowPut_2 : decode cX1_rowPut 2 = .ok (.invokevirtual 28, 3) := by decide +kernel
theorem dX1_rowPut_5 : decode cX1_rowPut 5 = .ok (.astore 4, 2) := by decide +kernel
theorem dX1_rowPut_7 : decode cX1_rowPut 7 = .ok (.iload_n 2, 1) := by decide +kernel
theorem dX1_rowPut_8 : decode cX1_rowPut 8 = .ok (.aload 4, 2) := by decide +kernel
theorem dX1_rowPut_10 : decode cX1_rowPut 10 = .ok (.arraylength, 1) := by decide +kernel
theorem dX1_rowPut_11 : decode cX1_rowPut 11 = .ok (.invokestatic 36, 3) := by decide +kernel
theorem dX1_rowPut_14 : decode cX1_rowPut 14 = .ok (.aload 4, 2) := by decide +kernel
theorem dX1_rowPut_16 : decode cX1_rowPut 16 = .ok (.iload_n 2, 1) := by decide +kernel
theorem dX1_rowPut_17 : decode cX1_rowPut 17 = .ok (.laload, 1) := by decide +kernel
theorem dX1_rowPut_18 : decode cX1_rowPut 18 = .ok (.l2i, 1) := by decide +kernel
theorem dX1_rowPut_19 : decode cX1_rowPut 19 = .ok (.istore 5, 2) := by decide +kernel
theorem dX1_rowPut_21 : decode cX1_rowPut 21 = .ok (.aload 4, 2) := by decide +kernel
theorem dX1_rowPut_23 : decode cX1_rowPut 23 = .ok (.iload_n 2, 1) := by decide +kernel
theorem dX1_rowPut_24 : decode cX1_rowPut 24 = .ok (.iload_n 3, 1) := by decide +kernel
theorem dX1_rowPut_25 : decode cX1_rowPut 25 = .ok (.i2l, 1) := by decide +kernel
theorem dX1_rowPut_26 : decode cX1_rowPut 26 = .ok (.lastore, 1) := by decide +kernel
theorem dX1_rowPut_27 : decode cX1_rowPut 27 = .ok (.iload 5, 2) := by decide +kernel
theorem dX1_rowPut_29 : decode cX1_rowPut 29 = .ok (.ireturn, 1) := by decide +kernel
set_option maxRecDepth 20000 in
theorem ggX1_allocate_X1_slotOf : GoodIn wsX1_allocate wsX1_slotOf := goodIn_ca (goodIn_r _ [6, 7, 8, 9, 5, 10, 11, 12, 42, 43, 44, 45] (by decide +kernel) (by decide +kernel)) (goodIn_sub (fun _ h => List.mem_cons_of_mem _ (List.mem_append_left _ (List.mem_append_right _ h))) (by decide +kernel))
set_option maxRecDepth 20000 in
theorem gX1_allocate_X1_slotOf : GoodIn wsX1_allocate (wsV RX1 40 RX1 yX1_slotOf wsX1_slotOf) := goodIn_app (goodIn_of _ (by decide +kernel)) ggX1_allocate_X1_slotOf
set_option maxRecDepth 20000 in
theorem ggX1_allocate_X1_checkKind : GoodIn wsX1_allocate wsX1_checkKind := goodIn_ca (goodIn_r _ [15, 16, 17] (by decide +kernel) (by decide +kernel)) (goodIn_sub (fun _ h => List.mem_cons_of_mem _ (List.mem_append_right _ h)) (by decide +kernel))
set_option maxRecDepth 20000 in
theorem gX1_allocate_X1_checkKind : GoodIn wsX1_allocate (va_wsS RX1 44 yX1_checkKind wsX1_checkKind) := goodIn_app (goodIn_of _ (by decide +kernel)) ggX1_allocate_X1_checkKind
set_option maxRecDepth 20000 in
theorem ggX1_allocate_X1_checkLength : GoodIn wsX1_allocate wsX1_checkLength := goodIn_ca (goodIn_r _ [20, 16, 17] (by decide +kernel) (by decide +kernel)) (goodIn_sub (fun _ h => List.mem_cons_of_mem _ (List.mem_append_right _ h)) (by decide +kernel))
set_option maxRecDepth 20000 in
theorem gX1_allocate_X1_checkLength : GoodIn wsX1_allocate (va_wsS RX1 32 yX1_checkLength wsX1_checkLength) := goodIn_app (goodIn_of _ (by decide +kernel)) ggX1_allocate_X1_checkLength
set_option maxRecDepth 20000 in
theorem ggX1_allocate_X0_isThere : GoodIn wsX1_allocate wsX0_isThere := goodIn_r _ [25, 26, 46, 47, 48, 49, 50, 51, 52, 53] (by decide +kernel) (by decide +kernel)
set_option maxRecDepth 20000 in
theorem gX1_allocate_X0_isThere : GoodIn wsX1_allocate (wsV RX1 48 RX0 yX0_isThere wsX0_isThere) := goodIn_app (goodIn_of _ (by decide +kernel)) ggX1_allocate_X0_isThere
set_option maxRecDepth 20000 in
theorem ggX1_allocate_X0_layOver : GoodIn wsX1_allocate wsX0_layOver := goodIn_r _ [30, 26, 31, 32, 33, 34, 35, 36, 37, 24, 38, 39, 40, 41, 46, 47, 48, 49, 50, 51, 52, 53] (by decide +kernel) (by decide +kernel)
set_option maxRecDepth 20000 in
theorem gX1_allocate_X0_layOver : GoodIn wsX1_allocate (wsV RX1 52 RX0 yX0_layOver wsX0_layOver) := goodIn_app (goodIn_of _ (by decide +kernel)) ggX1_allocate_X0_layOver
theorem dX1_allocate_0 : decode cX1_allocate 0 = .ok (.aload_n 0, 1) := by decide +kernel
theorem dX1_allocate_1 : decode cX1_allocate 1 = .ok (.iload_n 1, 1) := by decide +kernel
theorem dX1_allocate_2 : decode cX1_allocate 2 = .ok (.invokevirtual 40, 3) := by decide +kernel
theorem dX1_allocate_5 : decode cX1_allocate 5 = .ok (.astore 4, 2) := by decide +kernel
theorem dX1_allocate_7 : decode cX1_allocate 7 = .ok (.iload_n 2, 1) := by decide +kernel
theorem dX1_allocate_8 : decode cX1_allocate 8 = .ok (.invokestatic 44, 3) := by decide +kernel
theorem dX1_allocate_11 : decode cX1_allocate 11 = .ok (.iload_n 3, 1) := by decide +kernel
theorem dX1_allocate_12 : decode cX1_allocate 12 = .ok (.invokestatic 32, 3) := by decide +kernel
theorem dX1_allocate_15 : decode cX1_allocate 15 = .ok (.aload 4, 2) := by decide +kernel
theorem dX1_allocate_17 : decode cX1_allocate 17 = .ok (.invokevirtual 48, 3) := by decide +kernel
theorem dX1_allocate_20 : decode cX1_allocate 20 = .ok (.istore 5, 2) := by decide +kernel
theorem dX1_allocate_22 : decode cX1_allocate 22 = .ok (.aload 4, 2) := by decide +kernel
theorem dX1_allocate_24 : decode cX1_allocate 24 = .ok (.iload_n 2, 1) := by decide +kernel
theorem dX1_allocate_25 : decode cX1_allocate 25 = .ok (.iload_n 3, 1) := by decide +kernel
theorem dX1_allocate_26 : decode cX1_allocate 26 = .ok (.newarray .long, 2) := by decide +kernel
theorem dX1_allocate_28 : decode cX1_allocate 28 = .ok (.invokevirtual 52, 3) := by decide +kernel
theorem dX1_allocate_31 : decode cX1_allocate 31 = .ok (.iload 5, 2) := by decide +kernel
theorem dX1_allocate_33 : decode cX1_allocate 33 = .ok (.ireturn, 1) := by decide +kernel
set_option maxRecDepth 20000 in
theorem ggX1_wrap_X1_slotOf : GoodIn wsX1_wrap wsX1_slotOf := goodIn_ca (goodIn_r _ [6, 7, 8, 9, 5, 10, 11, 12, 43, 44, 45, 46] (by decide +kernel) (by decide +kernel)) (goodIn_sub (fun _ h => List.mem_cons_of_mem _ (List.mem_append_right _ h)) (by decide +kernel))
set_option maxRecDepth 20000 in
theorem gX1_wrap_X1_slotOf : GoodIn wsX1_wrap (wsV RX1 40 RX1 yX1_slotOf wsX1_slotOf) := goodIn_app (goodIn_of _ (by decide +kernel)) ggX1_wrap_X1_slotOf
set_option maxRecDepth 20000 in
theorem ggX1_wrap_X1_rowOf : GoodIn wsX1_wrap wsX1_rowOf := goodIn_ca (goodIn_r _ [16, 17, 8, 9, 5, 10, 11, 12, 43, 44, 45, 46] (by decide +kernel) (by decide +kernel)) (goodIn_sub (fun _ h => List.mem_cons_of_mem _ (List.mem_append_right _ h)) (by decide +kernel))
set_option maxRecDepth 20000 in
theorem gX1_wrap_X1_rowOf : GoodIn wsX1_wrap (wsV RX1 28 RX1 yX1_rowOf wsX1_rowOf) := goodIn_app (goodIn_of _ (by decide +kernel)) ggX1_wrap_X1_rowOf
set_option maxRecDepth 20000 in
theorem ggX1_wrap_X0_layOver : GoodIn wsX1_wrap wsX0_layOver := goodIn_r _ [22, 23, 24, 25, 26, 27, 28, 29, 30, 21, 31, 32, 33, 34, 35, 36, 37, 38, 39, 40, 41, 42] (by decide +kernel) (by decide +kernel)
set_option maxRecDepth 20000 in
theorem gX1_wrap_X0_layOver : GoodIn wsX1_wrap (wsV RX1 52 RX0 yX0_layOver wsX0_layOver) := goodIn_app (goodIn_of _ (by decide +kernel)) ggX1_wrap_X0_layOver
theorem dX1_wrap_0 : decode cX1_wrap 0 = .ok (.aload_n 0, 1) := by decide +kernel
theorem dX1_wrap_1 : decode cX1_wrap 1 = .ok (.iload_n 1, 1) := by decide +kernel
theorem dX1_wrap_2 : decode cX1_wrap 2 = .ok (.invokevirtual 40, 3) := by decide +kernel
theorem dX1_wrap_5 : decode cX1_wrap 5 = .ok (.astore_n 3, 1) := by decide +kernel
theorem dX1_wrap_6 : decode cX1_wrap 6 = .ok (.aload_n 0, 1) := by decide +kernel
theorem dX1_wrap_7 : decode cX1_wrap 7 = .ok (.iload_n 2, 1) := by decide +kernel
theorem dX1_wrap_8 : decode cX1_wrap 8 = .ok (.invokevirtual 28, 3) := by decide +kernel
theorem dX1_wrap_11 : decode cX1_wrap 11 = .ok (.astore 4, 2) := by decide +kernel
theorem dX1_wrap_13 : decode cX1_wrap 13 = .ok (.aload_n 3, 1) := by decide +kernel
theorem dX1_wrap_14 : decode cX1_wrap 14 = .ok (.bipush 105, 2) := by decide +kernel
theorem dX1_wrap_16 : decode cX1_wrap 16 = .ok (.aload 4, 2) := by decide +kernel
theorem dX1_wrap_18 : decode cX1_wrap 18 = .ok (.invokevirtual 52, 3) := by decide +kernel
theorem dX1_wrap_21 : decode cX1_wrap 21 = .ok (.aload_n 3, 1) := by decide +kernel
theorem dX1_wrap_22 : decode cX1_wrap 22 = .ok (.getfield 56, 3) := by decide +kernel
theorem dX1_wrap_25 : decode cX1_wrap 25 = .ok (.ireturn, 1) := by decide +kernel
set_option maxRecDepth 20000 in
theorem ggX1_slice_X1_windowOf : GoodIn wsX1_slice wsX1_windowOf := goodIn_ca (goodIn_r _ [7, 8, 9, 10, 11, 12, 6, 13, 14, 15, 16, 17, 18, 19, 20, 21, 22, 23, 51, 52, 53, 54, 43, 44, 45, 46, 47, 48, 49, 50] (by decide +kernel) (by decide +kernel)) (goodIn_sub (fun _ h => List.mem_cons_of_mem _ (List.mem_append_right _ h)) (by decide +kernel))
set_option maxRecDepth 20000 in
theorem gX1_slice_X1_windowOf : GoodIn wsX1_slice (wsV RX1 60 RX1 yX1_windowOf wsX1_windowOf) := goodIn_app (goodIn_of _ (by decide +kernel)) ggX1_slice_X1_windowOf
set_option maxRecDepth 20000 in
theorem ggX1_slice_X1_slotOf : GoodIn wsX1_slice wsX1_slotOf := goodIn_ca (goodIn_r _ [13, 14, 15, 16, 6, 17, 8, 9, 51, 52, 53, 54] (by decide +kernel) (by decide +kernel)) (goodIn_sub (fun _ h => List.mem_cons_of_mem _ (List.mem_append_right _ h)) (by decide +kernel))
set_option maxRecDepth 20000 in
theorem gX1_slice_X1_slotOf : GoodIn wsX1_slice (wsV RX1 40 RX1 yX1_slotOf wsX1_slotOf) := goodIn_app (goodIn_of _ (by decide +kernel)) ggX1_slice_X1_slotOf
set_option maxRecDepth 20000 in
theorem ggX1_slice_X0_rest : GoodIn wsX1_slice wsX0_rest := goodIn_r _ [27, 28, 29, 43, 44, 45, 46, 47, 48, 49, 50] (by decide +kernel) (by decide +kernel)
set_option maxRecDepth 20000 in
theorem gX1_slice_X0_rest : GoodIn wsX1_slice (wsV RX1 66 RX0 yX0_rest wsX0_rest) := goodIn_app (goodIn_of _ (by decide +kernel)) ggX1_slice_X0_rest
set_option maxRecDepth 20000 in
theorem ggX1_slice_X0_becomeSlice : GoodIn wsX1_slice wsX0_becomeSlice := goodIn_r _ [33, 23, 34, 35, 36, 37, 38, 39, 40, 21, 41, 29, 28, 42, 43, 44, 45, 46, 47, 48, 49, 50] (by decide +kernel) (by decide +kernel)
set_option maxRecDepth 20000 in
theorem gX1_slice_X0_becomeSlice : GoodIn wsX1_slice (wsV RX1 70 RX0 yX0_becomeSlice wsX0_becomeSlice) := goodIn_app (goodIn_of _ (by decide +kernel)) ggX1_slice_X0_becomeSlice
theorem dX1_slice_0 : decode cX1_slice 0 = .ok (.aload_n 0, 1) := by decide +kernel
theorem dX1_slice_1 : decode cX1_slice 1 = .ok (.iload_n 1, 1) := by decide +kernel
theorem dX1_slice_2 : decode cX1_slice 2 = .ok (.invokevirtual 60, 3) := by decide +kernel
theorem dX1_slice_5 : decode cX1_slice 5 = .ok (.astore_n 3, 1) := by decide +kernel
theorem dX1_slice_6 : decode cX1_slice 6 = .ok (.aload_n 0, 1) := by decide +kernel
theorem dX1_slice_7 : decode cX1_slice 7 = .ok (.iload_n 2, 1) := by decide +kernel
theorem dX1_slice_8 : decode cX1_slice 8 = .ok (.invokevirtual 40, 3) := by decide +kernel
theorem dX1_slice_11 : decode cX1_slice 11 = .ok (.astore 4, 2) := by decide +kernel
theorem dX1_slice_13 : decode cX1_slice 13 = .ok (.aload 4, 2) := by decide +kernel
theorem dX1_slice_15 : decode cX1_slice 15 = .ok (.aload_n 3, 1) := by decide +kernel
theorem dX1_slice_16 : decode cX1_slice 16 = .ok (.aload_n 3, 1) := by decide +kernel
theorem dX1_slice_17 : decode cX1_slice 17 = .ok (.getfield 63, 3) := by decide +kernel
theorem dX1_slice_20 : decode cX1_slice 20 = .ok (.aload_n 3, 1) := by decide +kernel
theorem dX1_slice_21 : decode cX1_slice 21 = .ok (.invokevirtual 66, 3) := by decide +kernel
theorem dX1_slice_24 : decode cX1_slice 24 = .ok (.invokevirtual 70, 3) := by decide +kernel
theorem dX1_slice_27 : decode cX1_slice 27 = .ok (.aload 4, 2) := by decide +kernel
theorem dX1_slice_29 : decode cX1_slice 29 = .ok (.getfield 56, 3) := by decide +kernel
theorem dX1_slice_32 : decode cX1_slice 32 = .ok (.ireturn, 1) := by decide +kernel
set_option maxRecDepth 20000 in
theorem ggX1_sliceAt_X1_windowOf : GoodIn wsX1_sliceAt wsX1_windowOf := goodIn_ca (goodIn_r _ [7, 8, 9, 10, 11, 12, 6, 13, 14, 15, 16, 17, 18, 19, 20, 21, 22, 23, 50, 51, 52, 53, 42, 43, 44, 45, 46, 47, 48, 49] (by decide +kernel) (by decide +kernel)) (goodIn_sub (fun _ h => List.mem_cons_of_mem _ (List.mem_append_right _ h)) (by decide +kernel))
set_option maxRecDepth 20000 in
theorem gX1_sliceAt_X1_windowOf : GoodIn wsX1_sliceAt (wsV RX1 60 RX1 yX1_windowOf wsX1_windowOf) := goodIn_app (goodIn_of _ (by decide +kernel)) ggX1_sliceAt_X1_windowOf
set_option maxRecDepth 20000 in
theorem ggX1_sliceAt_X1_checkPart : GoodIn wsX1_sliceAt wsX1_checkPart := goodIn_ca (goodIn_r _ [26, 8, 9] (by decide +kernel) (by decide +kernel)) (goodIn_sub (fun _ h => List.mem_cons_of_mem _ (List.mem_append_right _ h)) (by decide +kernel))
set_option maxRecDepth 20000 in
theorem gX1_sliceAt_X1_checkPart : GoodIn wsX1_sliceAt (va_wsS RX1 77 yX1_checkPart wsX1_checkPart) := goodIn_app (goodIn_of _ (by decide +kernel)) ggX1_sliceAt_X1_checkPart
set_option maxRecDepth 20000 in
theorem ggX1_sliceAt_X1_slotOf : GoodIn wsX1_sliceAt wsX1_slotOf := goodIn_ca (goodIn_r _ [13, 14, 15, 16, 6, 17, 8, 9, 50, 51, 52, 53] (by decide +kernel) (by decide +kernel)) (goodIn_sub (fun _ h => List.mem_cons_of_mem _ (List.mem_append_right _ h)) (by decide +kernel))
set_option maxRecDepth 20000 in
theorem gX1_sliceAt_X1_slotOf : GoodIn wsX1_sliceAt (wsV RX1 40 RX1 yX1_slotOf wsX1_slotOf) := goodIn_app (goodIn_of _ (by decide +kernel)) ggX1_sliceAt_X1_slotOf
set_option maxRecDepth 20000 in
theorem ggX1_sliceAt_X0_becomeSlice : GoodIn wsX1_sliceAt wsX0_becomeSlice := goodIn_r _ [30, 23, 31, 32, 33, 34, 35, 36, 37, 21, 38, 39, 40, 41, 42, 43, 44, 45, 46, 47, 48, 49] (by decide +kernel) (by decide +kernel)
set_option maxRecDepth 20000 in
theorem gX1_sliceAt_X0_becomeSlice : GoodIn wsX1_sliceAt (wsV RX1 70 RX0 yX0_becomeSlice wsX0_becomeSlice) := goodIn_app (goodIn_of _ (by decide +kernel)) ggX1_sliceAt_X0_becomeSlice
theorem dX1_sliceAt_0 : decode cX1_sliceAt 0 = .ok (.aload_n 0, 1) := by decide +kernel
theorem dX1_sliceAt_1 : decode cX1_sliceAt 1 = .ok (.iload_n 1, 1) := by decide +kernel
theorem dX1_sliceAt_2 : decode cX1_sliceAt 2 = .ok (.invokevirtual 60, 3) := by decide +kernel
theorem dX1_sliceAt_5 : decode cX1_sliceAt 5 = .ok (.astore 5, 2) := by decide +kernel
theorem dX1_sliceAt_7 : decode cX1_sliceAt 7 = .ok (.iload_n 2, 1) := by decide +kernel
theorem dX1_sliceAt_8 : decode cX1_sliceAt 8 = .ok (.iload_n 3, 1) := by decide +kernel
theorem dX1_sliceAt_9 : decode cX1_sliceAt 9 = .ok (.aload 5, 2) := by decide +kernel
theorem dX1_sliceAt_11 : decode cX1_sliceAt 11 = .ok (.getfield 74, 3) := by decide +kernel
theorem dX1_sliceAt_14 : decode cX1_sliceAt 14 = .ok (.invokestatic 77, 3) := by decide +kernel
theorem dX1_sliceAt_17 : decode cX1_sliceAt 17 = .ok (.aload_n 0, 1) := by decide +kernel
theorem dX1_sliceAt_18 : decode cX1_sliceAt 18 = .ok (.iload 4, 2) := by decide +kernel
theorem dX1_sliceAt_20 : decode cX1_sliceAt 20 = .ok (.invokevirtual 40, 3) := by decide +kernel
theorem dX1_sliceAt_23 : decode cX1_sliceAt 23 = .ok (.astore 6, 2) := by decide +kernel
theorem dX1_sliceAt_25 : decode cX1_sliceAt 25 = .ok (.aload 6, 2) := by decide +kernel
theorem dX1_sliceAt_27 : decode cX1_sliceAt 27 = .ok (.aload 5, 2) := by decide +kernel
theorem dX1_sliceAt_29 : decode cX1_sliceAt 29 = .ok (.iload_n 2, 1) := by decide +kernel
theorem dX1_sliceAt_30 : decode cX1_sliceAt 30 = .ok (.iload_n 3, 1) := by decide +kernel
theorem dX1_sliceAt_31 : decode cX1_sliceAt 31 = .ok (.invokevirtual 70, 3) := by decide +kernel
theorem dX1_sliceAt_34 : decode cX1_sliceAt 34 = .ok (.aload 6, 2) := by decide +kernel
theorem dX1_sliceAt_36 : decode cX1_sliceAt 36 = .ok (.getfield 56, 3) := by decide +kernel
theorem dX1_sliceAt_39 : decode cX1_sliceAt 39 = .ok (.ireturn, 1) := by decide +kernel
set_option maxRecDepth 20000 in
theorem ggX1_duplicate_X1_windowOf : GoodIn wsX1_duplicate wsX1_windowOf := goodIn_ca (goodIn_r _ [5, 6, 7, 8, 9, 10, 4, 11, 12, 13, 14, 15, 16, 17, 18, 19, 20, 21, 37, 38, 39, 40, 41, 42, 43, 44, 45, 46, 47, 48] (by decide +kernel) (by decide +kernel)) (goodIn_sub (fun _ h => List.mem_cons_of_mem _ (List.mem_append_right _ h)) (by decide +kernel))
set_option maxRecDepth 20000 in
theorem gX1_duplicate_X1_windowOf : GoodIn wsX1_duplicate (wsV RX1 60 RX1 yX1_windowOf wsX1_windowOf) := goodIn_app (goodIn_of _ (by decide +kernel)) ggX1_duplicate_X1_windowOf
set_option maxRecDepth 20000 in
theorem ggX1_duplicate_X1_slotOf : GoodIn wsX1_duplicate wsX1_slotOf := goodIn_ca (goodIn_r _ [11, 12, 13, 14, 4, 15, 6, 7, 37, 38, 39, 40] (by decide +kernel) (by decide +kernel)) (goodIn_sub (fun _ h => List.mem_cons_of_mem _ (List.mem_append_right _ h)) (by decide +kernel))
set_option maxRecDepth 20000 in
theorem gX1_duplicate_X1_slotOf : GoodIn wsX1_duplicate (wsV RX1 40 RX1 yX1_slotOf wsX1_slotOf) := goodIn_app (goodIn_of _ (by decide +kernel)) ggX1_duplicate_X1_slotOf
set_option maxRecDepth 20000 in
theorem ggX1_duplicate_X0_becomeDuplicate : GoodIn wsX1_duplicate wsX0_becomeDuplicate := goodIn_r _ [25, 21, 26, 27, 28, 29, 30, 31, 32, 41, 42, 43, 44, 45, 46, 47, 48] (by decide +kernel) (by decide +kernel)
set_option maxRecDepth 20000 in
theorem gX1_duplicate_X0_becomeDuplicate : GoodIn wsX1_duplicate (wsV RX1 81 RX0 yX0_becomeDuplicate wsX0_becomeDuplicate) := goodIn_app (goodIn_of _ (by decide +kernel)) ggX1_duplicate_X0_becomeDuplicate
set_option maxRecDepth 20000 in
theorem ggX1_duplicate_X0_rest : GoodIn wsX1_duplicate wsX0_rest := goodIn_r _ [36, 31, 30, 41, 42, 43, 44, 45, 46, 47, 48] (by decide +kernel) (by decide +kernel)
set_option maxRecDepth 20000 in
theorem gX1_duplicate_X0_rest : GoodIn wsX1_duplicate (wsV RX1 66 RX0 yX0_rest wsX0_rest) := goodIn_app (goodIn_of _ (by decide +kernel)) ggX1_duplicate_X0_rest
theorem dX1_duplicate_0 : decode cX1_duplicate 0 = .ok (.aload_n 0, 1) := by decide +kernel
theorem dX1_duplicate_1 : decode cX1_duplicate 1 = .ok (.iload_n 1, 1) := by decide +kernel
theorem dX1_duplicate_2 : decode cX1_duplicate 2 = .ok (.invokevirtual 60, 3) := by decide +kernel
theorem dX1_duplicate_5 : decode cX1_duplicate 5 = .ok (.astore_n 3, 1) := by decide +kernel
theorem dX1_duplicate_6 : decode cX1_duplicate 6 = .ok (.aload_n 0, 1) := by decide +kernel
theorem dX1_duplicate_7 : decode cX1_duplicate 7 = .ok (.iload_n 2, 1) := by decide +kernel
theorem dX1_duplicate_8 : decode cX1_duplicate 8 = .ok (.invokevirtual 40, 3) := by decide +kernel
theorem dX1_duplicate_11 : decode cX1_duplicate 11 = .ok (.astore 4, 2) := by decide +kernel
theorem dX1_duplicate_13 : decode cX1_duplicate 13 = .ok (.aload 4, 2) := by decide +kernel
theorem dX1_duplicate_15 : decode cX1_duplicate 15 = .ok (.aload_n 3, 1) := by decide +kernel
theorem dX1_duplicate_16 : decode cX1_duplicate 16 = .ok (.invokevirtual 81, 3) := by decide +kernel
theorem dX1_duplicate_19 : decode cX1_duplicate 19 = .ok (.aload 4, 2) := by decide +kernel
theorem dX1_duplicate_21 : decode cX1_duplicate 21 = .ok (.invokevirtual 66, 3) := by decide +kernel
theorem dX1_duplicate_24 : decode cX1_duplicate 24 = .ok (.ireturn, 1) := by decide +kernel
set_option maxRecDepth 20000 in
theorem ggX1_readOnly_X1_windowOf : GoodIn wsX1_readOnly wsX1_windowOf := goodIn_ca (goodIn_r _ [6, 7, 8, 9, 10, 11, 5, 12, 13, 14, 15, 16, 17, 18, 19, 20, 21, 22, 46, 47, 48, 49, 38, 39, 40, 41, 42, 43, 44, 45] (by decide +kernel) (by decide +kernel)) (goodIn_sub (fun _ h => List.mem_cons_of_mem _ (List.mem_append_right _ h)) (by decide +kernel))
set_option maxRecDepth 20000 in
theorem gX1_readOnly_X1_windowOf : GoodIn wsX1_readOnly (wsV RX1 60 RX1 yX1_windowOf wsX1_windowOf) := goodIn_app (goodIn_of _ (by decide +kernel)) ggX1_readOnly_X1_windowOf
set_option maxRecDepth 20000 in
theorem ggX1_readOnly_X1_slotOf : GoodIn wsX1_readOnly wsX1_slotOf := goodIn_ca (goodIn_r _ [12, 13, 14, 15, 5, 16, 7, 8, 46, 47, 48, 49] (by decide +kernel) (by decide +kernel)) (goodIn_sub (fun _ h => List.mem_cons_of_mem _ (List.mem_append_right _ h)) (by decide +kernel))
set_option maxRecDepth 20000 in
theorem gX1_readOnly_X1_slotOf : GoodIn wsX1_readOnly (wsV RX1 40 RX1 yX1_slotOf wsX1_slotOf) := goodIn_app (goodIn_of _ (by decide +kernel)) ggX1_readOnly_X1_slotOf
set_option maxRecDepth 20000 in
theorem ggX1_readOnly_X0_becomeDuplicate : GoodIn wsX1_readOnly wsX0_becomeDuplicate := goodIn_r _ [26, 22, 27, 28, 29, 30, 31, 32, 33, 38, 39, 40, 41, 42, 43, 44, 45] (by decide +kernel) (by decide +kernel)
set_option maxRecDepth 20000 in
theorem gX1_readOnly_X0_becomeDuplicate : GoodIn wsX1_readOnly (wsV RX1 81 RX0 yX0_becomeDuplicate wsX0_becomeDuplicate) := goodIn_app (goodIn_of _ (by decide +kernel)) ggX1_readOnly_X0_becomeDuplicate
set_option maxRecDepth 20000 in
theorem ggX1_readOnly_X0_rest : GoodIn wsX1_readOnly wsX0_rest := goodIn_r _ [37, 32, 31, 38, 39, 40, 41, 42, 43, 44, 45] (by decide +kernel) (by decide +kernel)
set_option maxRecDepth 20000 in
theorem gX1_readOnly_X0_rest : GoodIn wsX1_readOnly (wsV RX1 66 RX0 yX0_rest wsX0_rest) := goodIn_app (goodIn_of _ (by decide +kernel)) ggX1_readOnly_X0_rest
theorem dX1_readOnly_0 : decode cX1_readOnly 0 = .ok (.aload_n 0, 1) := by decide +kernel
theorem dX1_readOnly_1 : decode cX1_readOnly 1 = .ok (.iload_n 1, 1) := by decide +kernel
theorem dX1_readOnly_2 : decode cX1_readOnly 2 = .ok (.invokevirtual 60, 3) := by decide +kernel
theorem dX1_readOnly_5 : decode cX1_readOnly 5 = .ok (.astore_n 3, 1) := by decide +kernel
theorem dX1_readOnly_6 : decode cX1_readOnly 6 = .ok (.aload_n 0, 1) := by decide +kernel
theorem dX1_readOnly_7 : decode cX1_readOnly 7 = .ok (.iload_n 2, 1) := by decide +kernel
theorem dX1_readOnly_8 : decode cX1_readOnly 8 = .ok (.invokevirtual 40, 3) := by decide +kernel
theorem dX1_readOnly_11 : decode cX1_readOnly 11 = .ok (.astore 4, 2) := by decide +kernel
theorem dX1_readOnly_13 : decode cX1_readOnly 13 = .ok (.aload 4, 2) := by decide +kernel
theorem dX1_readOnly_15 : decode cX1_readOnly 15 = .ok (.aload_n 3, 1) := by decide +kernel
theorem dX1_readOnly_16 : decode cX1_readOnly 16 = .ok (.invokevirtual 81, 3) := by decide +kernel
theorem dX1_readOnly_19 : decode cX1_readOnly 19 = .ok (.aload 4, 2) := by decide +kernel
theorem dX1_readOnly_21 : decode cX1_readOnly 21 = .ok (.iconst 1, 1) := by decide +kernel
theorem dX1_readOnly_22 : decode cX1_readOnly 22 = .ok (.putfield 85, 3) := by decide +kernel
theorem dX1_readOnly_25 : decode cX1_readOnly 25 = .ok (.aload 4, 2) := by decide +kernel
theorem dX1_readOnly_27 : decode cX1_readOnly 27 = .ok (.invokevirtual 66, 3) := by decide +kernel
theorem dX1_readOnly_30 : decode cX1_readOnly 30 = .ok (.ireturn, 1) := by decide +kernel
set_option maxRecDepth 20000 in
theorem ggX1_capacity_X1_windowOf : GoodIn wsX1_capacity wsX1_windowOf := goodIn_ca (goodIn_r _ [6, 7, 8, 9, 10, 11, 5, 12, 13, 14, 15, 16, 17, 18, 19, 20, 21, 22, 31, 32, 33, 34, 23, 24, 25, 26, 27, 28, 29, 30] (by decide +kernel) (by decide +kernel)) (goodIn_sub (fun _ h => List.mem_cons_of_mem _ (List.mem_append_right _ h)) (by decide +kernel))
set_option maxRecDepth 20000 in
theorem gX1_capacity_X1_windowOf : GoodIn wsX1_capacity (wsV RX1 60 RX1 yX1_windowOf wsX1_windowOf) := goodIn_app (goodIn_of _ (by decide +kernel)) ggX1_capacity_X1_windowOf
theorem dX1_capacity_0 : decode cX1_capacity 0 = .ok (.aload_n 0, 1) := by decide +kernel
theorem dX1_capacity_1 : decode cX1_capacity 1 = .ok (.iload_n 1, 1) := by decide +kernel
theorem dX1_capacity_2 : decode cX1_capacity 2 = .ok (.invokevirtual 60, 3) := by decide +kernel
theorem dX1_capacity_5 : decode cX1_capacity 5 = .ok (.getfield 56, 3) := by decide +kernel
theorem dX1_capacity_8 : decode cX1_capacity 8 = .ok (.ireturn, 1) := by decide +kernel
set_option maxRecDepth 20000 in
theorem ggX1_place_X1_windowOf : GoodIn wsX1_place wsX1_windowOf := goodIn_ca (goodIn_r _ [6, 7, 8, 9, 10, 11, 5, 12, 13, 14, 15, 16, 17, 18, 19, 20, 21, 22, 31, 32, 33, 34, 23, 24, 25, 26, 27, 28, 29, 30] (by decide +kernel) (by decide +kernel)) (goodIn_sub (fun _ h => List.mem_cons_of_mem _ (List.mem_append_right _ h)) (by decide +kernel))
set_option maxRecDepth 20000 in
theorem gX1_place_X1_windowOf : GoodIn wsX1_place (wsV RX1 60 RX1 yX1_windowOf wsX1_windowOf) := goodIn_app (goodIn_of _ (by decide +kernel)) ggX1_place_X1_windowOf
theorem dX1_place_0 : decode cX1_place 0 = .ok (.aload_n 0, 1) := by decide +kernel
theorem dX1_place_1 : decode cX1_place 1 = .ok (.iload_n 1, 1) := by decide +kernel
theorem dX1_place_2 : decode cX1_place 2 = .ok (.invokevirtual 60, 3) := by decide +kernel
theorem dX1_place_5 : decode cX1_place 5 = .ok (.getfield 63, 3) := by decide +kernel
theorem dX1_place_8 : decode cX1_place 8 = .ok (.ireturn, 1) := by decide +kernel
set_option maxRecDepth 20000 in
theorem ggX1_end_X1_windowOf : GoodIn wsX1_end wsX1_windowOf := goodIn_ca (goodIn_r _ [6, 7, 8, 9, 10, 11, 5, 12, 13, 14, 15, 16, 17, 18, 19, 20, 21, 22, 31, 32, 33, 34, 23, 24, 25, 26, 27, 28, 29, 30] (by decide +kernel) (by decide +kernel)) (goodIn_sub (fun _ h => List.mem_cons_of_mem _ (List.mem_append_right _ h)) (by decide +kernel))
set_option maxRecDepth 20000 in
theorem gX1_end_X1_windowOf : GoodIn wsX1_end (wsV RX1 60 RX1 yX1_windowOf wsX1_windowOf) := goodIn_app (goodIn_of _ (by decide +kernel)) ggX1_end_X1_windowOf
theorem dX1_end_0 : decode cX1_end 0 = .ok (.aload_n 0, 1) := by decide +kernel
theorem dX1_end_1 : decode cX1_end 1 = .ok (.iload_n 1, 1) := by decide +kernel
theorem dX1_end_2 : decode cX1_end 2 = .ok (.invokevirtual 60, 3) := by decide +kernel
theorem dX1_end_5 : decode cX1_end 5 = .ok (.getfield 74, 3) := by decide +kernel
theorem dX1_end_8 : decode cX1_end 8 = .ok (.ireturn, 1) := by decide +kernel
set_option maxRecDepth 20000 in
theorem ggX1_left_X1_windowOf : GoodIn wsX1_left wsX1_windowOf := goodIn_ca (goodIn_r _ [5, 6, 7, 8, 9, 10, 4, 11, 12, 13, 14, 15, 16, 17, 18, 19, 20, 21, 28, 29, 30, 31, 32, 33, 34, 35, 36, 37, 38, 39] (by decide +kernel) (by decide +kernel)) (goodIn_sub (fun _ h => List.mem_cons_of_mem _ (List.mem_append_right _ h)) (by decide +kernel))
set_option maxRecDepth 20000 in
theorem gX1_left_X1_windowOf : GoodIn wsX1_left (wsV RX1 60 RX1 yX1_windowOf wsX1_windowOf) := goodIn_app (goodIn_of _ (by decide +kernel)) ggX1_left_X1_windowOf
set_option maxRecDepth 20000 in
theorem ggX1_left_X0_rest : GoodIn wsX1_left wsX0_rest := goodIn_r _ [25, 26, 27, 32, 33, 34, 35, 36, 37, 38, 39] (by decide +kernel) (by decide +kernel)
set_option maxRecDepth 20000 in
theorem gX1_left_X0_rest : GoodIn wsX1_left (wsV RX1 66 RX0 yX0_rest wsX0_rest) := goodIn_app (goodIn_of _ (by decide +kernel)) ggX1_left_X0_rest
theorem dX1_left_0 : decode cX1_left 0 = .ok (.aload_n 0, 1) := by decide +kernel
theorem dX1_left_1 : decode cX1_left 1 = .ok (.iload_n 1, 1) := by decide +kernel
theorem dX1_left_2 : decode cX1_left 2 = .ok (.invokevirtual 60, 3) := by decide +kernel
theorem dX1_left_5 : decode cX1_left 5 = .ok (.invokevirtual 66, 3) := by decide +kernel
theorem dX1_left_8 : decode cX1_left 8 = .ok (.ireturn, 1) := by decide +kernel
set_option maxRecDepth 20000 in
theorem ggX1_hasLeft_X1_windowOf : GoodIn wsX1_hasLeft wsX1_windowOf := goodIn_ca (goodIn_r _ [5, 6, 7, 8, 9, 10, 4, 11, 12, 13, 14, 15, 16, 17, 18, 19, 20, 21, 28, 29, 30, 31, 32, 33, 34, 35, 36, 37, 38, 39] (by decide +kernel) (by decide +kernel)) (goodIn_sub (fun _ h => List.mem_cons_of_mem _ (List.mem_append_right _ h)) (by decide +kernel))
set_option maxRecDepth 20000 in
theorem gX1_hasLeft_X1_windowOf : GoodIn wsX1_hasLeft (wsV RX1 60 RX1 yX1_windowOf wsX1_windowOf) := goodIn_app (goodIn_of _ (by decide +kernel)) ggX1_hasLeft_X1_windowOf
set_option maxRecDepth 20000 in
theorem ggX1_hasLeft_X0_rest : GoodIn wsX1_hasLeft wsX0_rest := goodIn_r _ [25, 26, 27, 32, 33, 34, 35, 36, 37, 38, 39] (by decide +kernel) (by decide +kernel)
set_option maxRecDepth 20000 in
theorem gX1_hasLeft_X0_rest : GoodIn wsX1_hasLeft (wsV RX1 66 RX0 yX0_rest wsX0_rest) := goodIn_app (goodIn_of _ (by decide +kernel)) ggX1_hasLeft_X0_rest
theorem dX1_hasLeft_0 : decode cX1_hasLeft 0 = .ok (.aload_n 0, 1) := by decide +kernel
theorem dX1_hasLeft_1 : decode cX1_hasLeft 1 = .ok (.iload_n 1, 1) := by decide +kernel
theorem dX1_hasLeft_2 : decode cX1_hasLeft 2 = .ok (.invokevirtual 60, 3) := by decide +kernel
theorem dX1_hasLeft_5 : decode cX1_hasLeft 5 = .ok (.invokevirtual 66, 3) := by decide +kernel
theorem dX1_hasLeft_8 : decode cX1_hasLeft 8 = .ok (.ifCond .le 7, 3) := by decide +kernel
theorem dX1_hasLeft_11 : decode cX1_hasLeft 11 = .ok (.iconst 1, 1) := by decide +kernel
theorem dX1_hasLeft_12 : decode cX1_hasLeft 12 = .ok (.goto 4, 3) := by decide +kernel
theorem dX1_hasLeft_15 : decode cX1_hasLeft 15 = .ok (.iconst 0, 1) := by decide +kernel
theorem dX1_hasLeft_16 : decode cX1_hasLeft 16 = .ok (.ireturn, 1) := by decide +kernel
set_option maxRecDepth 20000 in
theorem ggX1_isReadOnly_X1_windowOf : GoodIn wsX1_isReadOnly wsX1_windowOf := goodIn_ca (goodIn_r _ [6, 7, 8, 9, 10, 11, 5, 12, 13, 14, 15, 16, 17, 18, 19, 20, 21, 22, 31, 32, 33, 34, 23, 24, 25, 26, 27, 28, 29, 30] (by decide +kernel) (by decide +kernel)) (goodIn_sub (fun _ h => List.mem_cons_of_mem _ (List.mem_append_right _ h)) (by decide +kernel))
set_option maxRecDepth 20000 in
theorem gX1_isReadOnly_X1_windowOf : GoodIn wsX1_isReadOnly (wsV RX1 60 RX1 yX1_windowOf wsX1_windowOf) := goodIn_app (goodIn_of _ (by decide +kernel)) ggX1_isReadOnly_X1_windowOf
theorem dX1_isReadOnly_0 : decode cX1_isReadOnly 0 = .ok (.aload_n 0, 1) := by decide +kernel
theorem dX1_isReadOnly_1 : decode cX1_isReadOnly 1 = .ok (.iload_n 1, 1) := by decide +kernel
theorem dX1_isReadOnly_2 : decode cX1_isReadOnly 2 = .ok (.invokevirtual 60, 3) := by decide +kernel
theorem dX1_isReadOnly_5 : decode cX1_isReadOnly 5 = .ok (.getfield 85, 3) := by decide +kernel
theorem dX1_isReadOnly_8 : decode cX1_isReadOnly 8 = .ok (.ireturn, 1) := by decide +kernel
set_option maxRecDepth 20000 in
theorem ggX1_placeAt_X1_windowOf : GoodIn wsX1_placeAt wsX1_windowOf := goodIn_ca (goodIn_r _ [7, 8, 9, 10, 11, 12, 6, 13, 14, 15, 16, 17, 18, 19, 20, 21, 22, 23, 42, 43, 44, 45, 34, 35, 36, 37, 38, 39, 40, 41] (by decide +kernel) (by decide +kernel)) (goodIn_sub (fun _ h => List.mem_cons_of_mem _ (List.mem_append_left _ (List.mem_append_right _ h))) (by decide +kernel))
set_option maxRecDepth 20000 in
theorem gX1_placeAt_X1_windowOf : GoodIn wsX1_placeAt (wsV RX1 60 RX1 yX1_windowOf wsX1_windowOf) := goodIn_app (goodIn_of _ (by decide +kernel)) ggX1_placeAt_X1_windowOf
set_option maxRecDepth 20000 in
theorem ggX1_placeAt_X1_checkBound : GoodIn wsX1_placeAt wsX1_checkBound := goodIn_ca (goodIn_r _ [26, 27, 28] (by decide +kernel) (by decide +kernel)) (goodIn_sub (fun _ h => List.mem_cons_of_mem _ (List.mem_append_right _ h)) (by decide +kernel))
set_option maxRecDepth 20000 in
theorem gX1_placeAt_X1_checkBound : GoodIn wsX1_placeAt (va_wsS RX1 93 yX1_checkBound wsX1_checkBound) := goodIn_app (goodIn_of _ (by decide +kernel)) ggX1_placeAt_X1_checkBound
set_option maxRecDepth 20000 in
theorem ggX1_placeAt_X0_dropMarkBeyond : GoodIn wsX1_placeAt wsX0_dropMarkBeyond := goodIn_r _ [32, 33, 34, 35, 36, 37, 38, 39, 40, 41] (by decide +kernel) (by decide +kernel)
set_option maxRecDepth 20000 in
theorem gX1_placeAt_X0_dropMarkBeyond : GoodIn wsX1_placeAt (wsV RX1 96 RX0 yX0_dropMarkBeyond wsX0_dropMarkBeyond) := goodIn_app (goodIn_of _ (by decide +kernel)) ggX1_placeAt_X0_dropMarkBeyond
theorem dX1_placeAt_0 : decode cX1_placeAt 0 = .ok (.aload_n 0, 1) := by decide +kernel
theorem dX1_placeAt_1 : decode cX1_placeAt 1 = .ok (.iload_n 1, 1) := by decide +kernel
theorem dX1_placeAt_2 : decode cX1_placeAt 2 = .ok (.invokevirtual 60, 3) := by decide +kernel
theorem dX1_placeAt_5 : decode cX1_placeAt 5 = .ok (.astore_n 3, 1) := by decide +kernel
theorem dX1_placeAt_6 : decode cX1_placeAt 6 = .ok (.iload_n 2, 1) := by decide +kernel
theorem dX1_placeAt_7 : decode cX1_placeAt 7 = .ok (.aload_n 3, 1) := by decide +kernel
theorem dX1_placeAt_8 : decode cX1_placeAt 8 = .ok (.getfield 74, 3) := by decide +kernel
theorem dX1_placeAt_11 : decode cX1_placeAt 11 = .ok (.invokestatic 93, 3) := by decide +kernel
theorem dX1_placeAt_14 : decode cX1_placeAt 14 = .ok (.aload_n 3, 1) := by decide +kernel
theorem dX1_placeAt_15 : decode cX1_placeAt 15 = .ok (.getfield 63, 3) := by decide +kernel
theorem dX1_placeAt_18 : decode cX1_placeAt 18 = .ok (.istore 4, 2) := by decide +kernel
theorem dX1_placeAt_20 : decode cX1_placeAt 20 = .ok (.aload_n 3, 1) := by decide +kernel
theorem dX1_placeAt_21 : decode cX1_placeAt 21 = .ok (.iload_n 2, 1) := by decide +kernel
theorem dX1_placeAt_22 : decode cX1_placeAt 22 = .ok (.putfield 63, 3) := by decide +kernel
theorem dX1_placeAt_25 : decode cX1_placeAt 25 = .ok (.aload_n 3, 1) := by decide +kernel
theorem dX1_placeAt_26 : decode cX1_placeAt 26 = .ok (.iload_n 2, 1) := by decide +kernel
theorem dX1_placeAt_27 : decode cX1_placeAt 27 = .ok (.invokevirtual 96, 3) := by decide +kernel
theorem dX1_placeAt_30 : decode cX1_placeAt 30 = .ok (.iload 4, 2) := by decide +kernel
theorem dX1_placeAt_32 : decode cX1_placeAt 32 = .ok (.ireturn, 1) := by decide +kernel
set_option maxRecDepth 20000 in
theorem ggX1_endAt_X1_windowOf : GoodIn wsX1_endAt wsX1_windowOf := goodIn_ca (goodIn_r _ [12, 13, 14, 15, 16, 17, 11, 18, 19, 20, 21, 22, 23, 24, 25, 26, 27, 28, 47, 48, 49, 50, 39, 40, 41, 42, 43, 44, 45, 46] (by decide +kernel) (by decide +kernel)) (goodIn_sub (fun _ h => List.mem_cons_of_mem _ (List.mem_append_left _ (List.mem_append_right _ h))) (by decide +kernel))
set_option maxRecDepth 20000 in
theorem gX1_endAt_X1_windowOf : GoodIn wsX1_endAt (wsV RX1 60 RX1 yX1_windowOf wsX1_windowOf) := goodIn_app (goodIn_of _ (by decide +kernel)) ggX1_endAt_X1_windowOf
set_option maxRecDepth 20000 in
theorem ggX1_endAt_X1_checkBound : GoodIn wsX1_endAt wsX1_checkBound := goodIn_ca (goodIn_r _ [31, 32, 33] (by decide +kernel) (by decide +kernel)) (goodIn_sub (fun _ h => List.mem_cons_of_mem _ (List.mem_append_right _ h)) (by decide +kernel))
set_option maxRecDepth 20000 in
theorem gX1_endAt_X1_checkBound : GoodIn wsX1_endAt (va_wsS RX1 93 yX1_checkBound wsX1_checkBound) := goodIn_app (goodIn_of _ (by decide +kernel)) ggX1_endAt_X1_checkBound
set_option maxRecDepth 20000 in
theorem ggX1_endAt_X0_dropMarkBeyond : GoodIn wsX1_endAt wsX0_dropMarkBeyond := goodIn_r _ [37, 38, 39, 40, 41, 42, 43, 44, 45, 46] (by decide +kernel) (by decide +kernel)
set_option maxRecDepth 20000 in
theorem gX1_endAt_X0_dropMarkBeyond : GoodIn wsX1_endAt (wsV RX1 96 RX0 yX0_dropMarkBeyond wsX0_dropMarkBeyond) := goodIn_app (goodIn_of _ (by decide +kernel)) ggX1_endAt_X0_dropMarkBeyond
theorem dX1_endAt_0 : decode cX1_endAt 0 = .ok (.aload_n 0, 1) := by decide +kernel
theorem dX1_endAt_1 : decode cX1_endAt 1 = .ok (.iload_n 1, 1) := by decide +kernel
theorem dX1_endAt_2 : decode cX1_endAt 2 = .ok (.invokevirtual 60, 3) := by decide +kernel
theorem dX1_endAt_5 : decode cX1_endAt 5 = .ok (.astore_n 3, 1) := by decide +kernel
theorem dX1_endAt_6 : decode cX1_endAt 6 = .ok (.iload_n 2, 1) := by decide +kernel
theorem dX1_endAt_7 : decode cX1_endAt 7 = .ok (.aload_n 3, 1) := by decide +kernel
theorem dX1_endAt_8 : decode cX1_endAt 8 = .ok (.getfield 56, 3) := by decide +kernel
theorem dX1_endAt_11 : decode cX1_endAt 11 = .ok (.invokestatic 93, 3) := by decide +kernel
theorem dX1_endAt_14 : decode cX1_endAt 14 = .ok (.aload_n 3, 1) := by decide +kernel
theorem dX1_endAt_15 : decode cX1_endAt 15 = .ok (.getfield 74, 3) := by decide +kernel
theorem dX1_endAt_18 : decode cX1_endAt 18 = .ok (.istore 4, 2) := by decide +kernel
theorem dX1_endAt_20 : decode cX1_endAt 20 = .ok (.aload_n 3, 1) := by decide +kernel
theorem dX1_endAt_21 : decode cX1_endAt 21 = .ok (.iload_n 2, 1) := by decide +kernel
theorem dX1_endAt_22 : decode cX1_endAt 22 = .ok (.putfield 74, 3) := by decide +kernel
theorem dX1_endAt_25 : decode cX1_endAt 25 = .ok (.aload_n 3, 1) := by decide +kernel
theorem dX1_endAt_26 : decode cX1_endAt 26 = .ok (.aload_n 3, 1) := by decide +kernel
theorem dX1_endAt_27 : decode cX1_endAt 27 = .ok (.getfield 63, 3) := by decide +kernel
theorem dX1_endAt_30 : decode cX1_endAt 30 = .ok (.iload_n 2, 1) := by decide +kernel
theorem dX1_endAt_31 : decode cX1_endAt 31 = .ok (.invokestatic 99, 3) := by decide +kernel
theorem dX1_endAt_34 : decode cX1_endAt 34 = .ok (.putfield 63, 3) := by decide +kernel
theorem dX1_endAt_37 : decode cX1_endAt 37 = .ok (.aload_n 3, 1) := by decide +kernel
theorem dX1_endAt_38 : decode cX1_endAt 38 = .ok (.iload_n 2, 1) := by decide +kernel
theorem dX1_endAt_39 : decode cX1_endAt 39 = .ok (.invokevirtual 96, 3) := by decide +kernel
theorem dX1_endAt_42 : decode cX1_endAt 42 = .ok (.iload 4, 2) := by decide +kernel
theorem dX1_endAt_44 : decode cX1_endAt 44 = .ok (.ireturn, 1) := by decide +kernel
set_option maxRecDepth 20000 in
theorem ggX1_mark_X1_windowOf : GoodIn wsX1_mark wsX1_windowOf := goodIn_ca (goodIn_r _ [7, 8, 9, 10, 11, 12, 6, 13, 14, 15, 16, 17, 18, 19, 20, 21, 22, 23, 32, 33, 34, 35, 24, 25, 26, 27, 28, 29, 30, 31] (by decide +kernel) (by decide +kernel)) (goodIn_sub (fun _ h => List.mem_cons_of_mem _ (List.mem_append_right _ h)) (by decide +kernel))
set_option maxRecDepth 20000 in
theorem gX1_mark_X1_windowOf : GoodIn wsX1_mark (wsV RX1 60 RX1 yX1_windowOf wsX1_windowOf) := goodIn_app (goodIn_of _ (by decide +kernel)) ggX1_mark_X1_windowOf
theorem dX1_mark_0 : decode cX1_mark 0 = .ok (.aload_n 0, 1) := by decide +kernel
theorem dX1_mark_1 : decode cX1_mark 1 = .ok (.iload_n 1, 1) := by decide +kernel
theorem dX1_mark_2 : decode cX1_mark 2 = .ok (.invokevirtual 60, 3) := by decide +kernel
theorem dX1_mark_5 : decode cX1_mark 5 = .ok (.astore_n 2, 1) := by decide +kernel
theorem dX1_mark_6 : decode cX1_mark 6 = .ok (.aload_n 2, 1) := by decide +kernel
theorem dX1_mark_7 : decode cX1_mark 7 = .ok (.aload_n 2, 1) := by decide +kernel
theorem dX1_mark_8 : decode cX1_mark 8 = .ok (.getfield 63, 3) := by decide +kernel
theorem dX1_mark_11 : decode cX1_mark 11 = .ok (.putfield 105, 3) := by decide +kernel
theorem dX1_mark_14 : decode cX1_mark 14 = .ok (.aload_n 2, 1) := by decide +kernel
theorem dX1_mark_15 : decode cX1_mark 15 = .ok (.getfield 63, 3) := by decide +kernel
theorem dX1_mark_18 : decode cX1_mark 18 = .ok (.ireturn, 1) := by decide +kernel
set_option maxRecDepth 20000 in
theorem ggX1_back_X1_windowOf : GoodIn wsX1_back wsX1_windowOf := goodIn_ca (goodIn_r _ [9, 10, 11, 12, 13, 14, 8, 15, 16, 17, 18, 19, 20, 21, 22, 23, 24, 25, 34, 35, 36, 37, 26, 27, 28, 29, 30, 31, 32, 33] (by decide +kernel) (by decide +kernel)) (goodIn_sub (fun _ h => List.mem_cons_of_mem _ (List.mem_append_right _ h)) (by decide +kernel))
set_option maxRecDepth 20000 in
theorem gX1_back_X1_windowOf : GoodIn wsX1_back (wsV RX1 60 RX1 yX1_windowOf wsX1_windowOf) := goodIn_app (goodIn_of _ (by decide +kernel)) ggX1_back_X1_windowOf
theorem dX1_back_0 : decode cX1_back 0 = .ok (.aload_n 0, 1) := by decide +kernel
theorem dX1_back_1 : decode cX1_back 1 = .ok (.iload_n 1, 1) := by decide +kernel
theorem dX1_back_2 : decode cX1_back 2 = .ok (.invokevirtual 60, 3) := by decide +kernel
theorem dX1_back_5 : decode cX1_back 5 = .ok (.astore_n 2, 1) := by decide +kernel
theorem dX1_back_6 : decode cX1_back 6 = .ok (.aload_n 2, 1) := by decide +kernel
theorem dX1_back_7 : decode cX1_back 7 = .ok (.getfield 105, 3) := by decide +kernel
theorem dX1_back_10 : decode cX1_back 10 = .ok (.iconst (-1), 1) := by decide +kernel
theorem dX1_back_11 : decode cX1_back 11 = .ok (.if_icmp .ne 13, 3) := by decide +kernel
theorem dX1_back_14 : decode cX1_back 14 = .ok (.new 108, 3) := by decide +kernel
theorem dX1_back_17 : decode cX1_back 17 = .ok (.dup, 1) := by decide +kernel
theorem dX1_back_18 : decode cX1_back 18 = .ok (.ldc 110, 2) := by decide +kernel
theorem dX1_back_20 : decode cX1_back 20 = .ok (.invokespecial 112, 3) := by decide +kernel
theorem dX1_back_23 : decode cX1_back 23 = .ok (.athrow, 1) := by decide +kernel
theorem dX1_back_24 : decode cX1_back 24 = .ok (.aload_n 2, 1) := by decide +kernel
theorem dX1_back_25 : decode cX1_back 25 = .ok (.getfield 63, 3) := by decide +kernel
theorem dX1_back_28 : decode cX1_back 28 = .ok (.istore_n 3, 1) := by decide +kernel
theorem dX1_back_29 : decode cX1_back 29 = .ok (.aload_n 2, 1) := by decide +kernel
theorem dX1_back_30 : decode cX1_back 30 = .ok (.aload_n 2, 1) := by decide +kernel
theorem dX1_back_31 : decode cX1_back 31 = .ok (.getfield 105, 3) := by decide +kernel
theorem dX1_back_34 : decode cX1_back 34 = .ok (.putfield 63, 3) := by decide +kernel
theorem dX1_back_37 : decode cX1_back 37 = .ok (.iload_n 3, 1) := by decide +kernel
theorem dX1_back_38 : decode cX1_back 38 = .ok (.aload_n 2, 1) := by decide +kernel
theorem dX1_back_39 : decode cX1_back 39 = .ok (.getfield 63, 3) := by decide +kernel
theorem dX1_back_42 : decode cX1_back 42 = .ok (.isub, 1) := by decide +kernel
theorem dX1_back_43 : decode cX1_back 43 = .ok (.ireturn, 1) := by decide +kernel
set_option maxRecDepth 20000 in
theorem ggX1_clear_X1_windowOf : GoodIn wsX1_clear wsX1_windowOf := goodIn_ca (goodIn_r _ [7, 8, 9, 10, 11, 12, 6, 13, 14, 15, 16, 17, 18, 19, 20, 21, 22, 23, 39, 40, 41, 42, 31, 32, 33, 34, 35, 36, 37, 38] (by decide +kernel) (by decide +kernel)) (goodIn_sub (fun _ h => List.mem_cons_of_mem _ (List.mem_append_right _ h)) (by decide +kernel))
set_option maxRecDepth 20000 in
theorem gX1_clear_X1_windowOf : GoodIn wsX1_clear (wsV RX1 60 RX1 yX1_windowOf wsX1_windowOf) := goodIn_app (goodIn_of _ (by decide +kernel)) ggX1_clear_X1_windowOf
set_option maxRecDepth 20000 in
theorem ggX1_clear_X0_moveTo : GoodIn wsX1_clear wsX0_moveTo := goodIn_r _ [27, 28, 29, 30, 31, 32, 33, 34, 35, 36, 37, 38] (by decide +kernel) (by decide +kernel)
set_option maxRecDepth 20000 in
theorem gX1_clear_X0_moveTo : GoodIn wsX1_clear (wsV RX1 115 RX0 yX0_moveTo wsX0_moveTo) := goodIn_app (goodIn_of _ (by decide +kernel)) ggX1_clear_X0_moveTo
theorem dX1_clear_0 : decode cX1_clear 0 = .ok (.aload_n 0, 1) := by decide +kernel
theorem dX1_clear_1 : decode cX1_clear 1 = .ok (.iload_n 1, 1) := by decide +kernel
theorem dX1_clear_2 : decode cX1_clear 2 = .ok (.invokevirtual 60, 3) := by decide +kernel
theorem dX1_clear_5 : decode cX1_clear 5 = .ok (.astore_n 2, 1) := by decide +kernel
theorem dX1_clear_6 : decode cX1_clear 6 = .ok (.aload_n 2, 1) := by decide +kernel
theorem dX1_clear_7 : decode cX1_clear 7 = .ok (.iconst 0, 1) := by decide +kernel
theorem dX1_clear_8 : decode cX1_clear 8 = .ok (.aload_n 2, 1) := by decide +kernel
theorem dX1_clear_9 : decode cX1_clear 9 = .ok (.getfield 56, 3) := by decide +kernel
theorem dX1_clear_12 : decode cX1_clear 12 = .ok (.invokevirtual 115, 3) := by decide +kernel
theorem dX1_clear_15 : decode cX1_clear 15 = .ok (.aload_n 2, 1) := by decide +kernel
theorem dX1_clear_16 : decode cX1_clear 16 = .ok (.getfield 74, 3) := by decide +kernel
theorem dX1_clear_19 : decode cX1_clear 19 = .ok (.ireturn, 1) := by decide +kernel
set_option maxRecDepth 20000 in
theorem ggX1_flip_X1_windowOf : GoodIn wsX1_flip wsX1_windowOf := goodIn_ca (goodIn_r _ [7, 8, 9, 10, 11, 12, 6, 13, 14, 15, 16, 17, 18, 19, 20, 21, 22, 23, 39, 40, 41, 42, 31, 32, 33, 34, 35, 36, 37, 38] (by decide +kernel) (by decide +kernel)) (goodIn_sub (fun _ h => List.mem_cons_of_mem _ (List.mem_append_right _ h)) (by decide +kernel))
set_option maxRecDepth 20000 in
theorem gX1_flip_X1_windowOf : GoodIn wsX1_flip (wsV RX1 60 RX1 yX1_windowOf wsX1_windowOf) := goodIn_app (goodIn_of _ (by decide +kernel)) ggX1_flip_X1_windowOf
set_option maxRecDepth 20000 in
theorem ggX1_flip_X0_moveTo : GoodIn wsX1_flip wsX0_moveTo := goodIn_r _ [27, 28, 29, 30, 31, 32, 33, 34, 35, 36, 37, 38] (by decide +kernel) (by decide +kernel)
set_option maxRecDepth 20000 in
theorem gX1_flip_X0_moveTo : GoodIn wsX1_flip (wsV RX1 115 RX0 yX0_moveTo wsX0_moveTo) := goodIn_app (goodIn_of _ (by decide +kernel)) ggX1_flip_X0_moveTo
theorem dX1_flip_0 : decode cX1_flip 0 = .ok (.aload_n 0, 1) := by decide +kernel
theorem dX1_flip_1 : decode cX1_flip 1 = .ok (.iload_n 1, 1) := by decide +kernel
theorem dX1_flip_2 : decode cX1_flip 2 = .ok (.invokevirtual 60, 3) := by decide +kernel
theorem dX1_flip_5 : decode cX1_flip 5 = .ok (.astore_n 2, 1) := by decide +kernel
theorem dX1_flip_6 : decode cX1_flip 6 = .ok (.aload_n 2, 1) := by decide +kernel
theorem dX1_flip_7 : decode cX1_flip 7 = .ok (.iconst 0, 1) := by decide +kernel
theorem dX1_flip_8 : decode cX1_flip 8 = .ok (.aload_n 2, 1) := by decide +kernel
theorem dX1_flip_9 : decode cX1_flip 9 = .ok (.getfield 63, 3) := by decide +kernel
theorem dX1_flip_12 : decode cX1_flip 12 = .ok (.invokevirtual 115, 3) := by decide +kernel
theorem dX1_flip_15 : decode cX1_flip 15 = .ok (.aload_n 2, 1) := by decide +kernel
theorem dX1_flip_16 : decode cX1_flip 16 = .ok (.getfield 74, 3) := by decide +kernel
theorem dX1_flip_19 : decode cX1_flip 19 = .ok (.ireturn, 1) := by decide +kernel
set_option maxRecDepth 20000 in
theorem ggX1_rewind_X1_windowOf : GoodIn wsX1_rewind wsX1_windowOf := goodIn_ca (goodIn_r _ [6, 7, 8, 9, 10, 11, 5, 12, 13, 14, 15, 16, 17, 18, 19, 20, 21, 22, 42, 43, 44, 45, 34, 35, 36, 37, 38, 39, 40, 41] (by decide +kernel) (by decide +kernel)) (goodIn_sub (fun _ h => List.mem_cons_of_mem _ (List.mem_append_right _ h)) (by decide +kernel))
set_option maxRecDepth 20000 in
theorem gX1_rewind_X1_windowOf : GoodIn wsX1_rewind (wsV RX1 60 RX1 yX1_windowOf wsX1_windowOf) := goodIn_app (goodIn_of _ (by decide +kernel)) ggX1_rewind_X1_windowOf
set_option maxRecDepth 20000 in
theorem ggX1_rewind_X0_moveTo : GoodIn wsX1_rewind wsX0_moveTo := goodIn_r _ [26, 27, 28, 29, 34, 35, 36, 37, 38, 39, 40, 41] (by decide +kernel) (by decide +kernel)
set_option maxRecDepth 20000 in
theorem gX1_rewind_X0_moveTo : GoodIn wsX1_rewind (wsV RX1 115 RX0 yX0_moveTo wsX0_moveTo) := goodIn_app (goodIn_of _ (by decide +kernel)) ggX1_rewind_X0_moveTo
set_option maxRecDepth 20000 in
theorem ggX1_rewind_X0_rest : GoodIn wsX1_rewind wsX0_rest := goodIn_r _ [33, 28, 27, 34, 35, 36, 37, 38, 39, 40, 41] (by decide +kernel) (by decide +kernel)
set_option maxRecDepth 20000 in
theorem gX1_rewind_X0_rest : GoodIn wsX1_rewind (wsV RX1 66 RX0 yX0_rest wsX0_rest) := goodIn_app (goodIn_of _ (by decide +kernel)) ggX1_rewind_X0_rest
theorem dX1_rewind_0 : decode cX1_rewind 0 = .ok (.aload_n 0, 1) := by decide +kernel
theorem dX1_rewind_1 : decode cX1_rewind 1 = .ok (.iload_n 1, 1) := by decide +kernel
theorem dX1_rewind_2 : decode cX1_rewind 2 = .ok (.invokevirtual 60, 3) := by decide +kernel
theorem dX1_rewind_5 : decode cX1_rewind 5 = .ok (.astore_n 2, 1) := by decide +kernel
theorem dX1_rewind_6 : decode cX1_rewind 6 = .ok (.aload_n 2, 1) := by decide +kernel
theorem dX1_rewind_7 : decode cX1_rewind 7 = .ok (.iconst 0, 1) := by decide +kernel
theorem dX1_rewind_8 : decode cX1_rewind 8 = .ok (.aload_n 2, 1) := by decide +kernel
theorem dX1_rewind_9 : decode cX1_rewind 9 = .ok (.getfield 74, 3) := by decide +kernel
theorem dX1_rewind_12 : decode cX1_rewind 12 = .ok (.invokevirtual 115, 3) := by decide +kernel
theorem dX1_rewind_15 : decode cX1_rewind 15 = .ok (.aload_n 2, 1) := by decide +kernel
theorem dX1_rewind_16 : decode cX1_rewind 16 = .ok (.invokevirtual 66, 3) := by decide +kernel
theorem dX1_rewind_19 : decode cX1_rewind 19 = .ok (.ireturn, 1) := by decide +kernel
set_option maxRecDepth 20000 in
theorem ggX1_compact_X1_windowOf : GoodIn wsX1_compact wsX1_windowOf := goodIn_ca (goodIn_r _ [13, 14, 15, 16, 17, 18, 12, 19, 20, 21, 22, 23, 24, 25, 26, 27, 28, 29, 55, 56, 57, 58, 47, 48, 49, 50, 51, 52, 53, 54] (by decide +kernel) (by decide +kernel)) (goodIn_sub (fun _ h => List.mem_cons_of_mem _ (List.mem_append_left _ (List.mem_append_right _ h))) (by decide +kernel))
set_option maxRecDepth 20000 in
theorem gX1_compact_X1_windowOf : GoodIn wsX1_compact (wsV RX1 60 RX1 yX1_windowOf wsX1_windowOf) := goodIn_app (goodIn_of _ (by decide +kernel)) ggX1_compact_X1_windowOf
set_option maxRecDepth 20000 in
theorem ggX1_compact_X1_checkWritable : GoodIn wsX1_compact wsX1_checkWritable := goodIn_ca (goodIn_r _ [32, 33, 34, 35, 47, 48, 49, 50, 51, 52, 53, 54] (by decide +kernel) (by decide +kernel)) (goodIn_sub (fun _ h => List.mem_cons_of_mem _ (List.mem_append_right _ h)) (by decide +kernel))
set_option maxRecDepth 20000 in
theorem gX1_compact_X1_checkWritable : GoodIn wsX1_compact (va_wsS RX1 118 yX1_checkWritable wsX1_checkWritable) := goodIn_app (goodIn_of _ (by decide +kernel)) ggX1_compact_X1_checkWritable
set_option maxRecDepth 20000 in
theorem ggX1_compact_X0_rest : GoodIn wsX1_compact wsX0_rest := goodIn_r _ [39, 40, 41, 47, 48, 49, 50, 51, 52, 53, 54] (by decide +kernel) (by decide +kernel)
set_option maxRecDepth 20000 in
theorem gX1_compact_X0_rest : GoodIn wsX1_compact (wsV RX1 66 RX0 yX0_rest wsX0_rest) := goodIn_app (goodIn_of _ (by decide +kernel)) ggX1_compact_X0_rest
set_option maxRecDepth 20000 in
theorem ggX1_compact_X0_moveTo : GoodIn wsX1_compact wsX0_moveTo := goodIn_r _ [45, 41, 40, 46, 47, 48, 49, 50, 51, 52, 53, 54] (by decide +kernel) (by decide +kernel)
set_option maxRecDepth 20000 in
theorem gX1_compact_X0_moveTo : GoodIn wsX1_compact (wsV RX1 115 RX0 yX0_moveTo wsX0_moveTo) := goodIn_app (goodIn_of _ (by decide +kernel)) ggX1_compact_X0_moveTo
theorem dX1_compact_0 : decode cX1_compact 0 = .ok (.aload_n 0, 1) := by decide +kernel
theorem dX1_compact_1 : decode cX1_compact 1 = .ok (.iload_n 1, 1) := by decide +kernel
theorem dX1_compact_2 : decode cX1_compact 2 = .ok (.invokevirtual 60, 3) := by decide +kernel
theorem dX1_compact_5 : decode cX1_compact 5 = .ok (.astore_n 2, 1) := by decide +kernel
theorem dX1_compact_6 : decode cX1_compact 6 = .ok (.aload_n 2, 1) := by decide +kernel
theorem dX1_compact_7 : decode cX1_compact 7 = .ok (.invokestatic 118, 3) := by decide +kernel
theorem dX1_compact_10 : decode cX1_compact 10 = .ok (.aload_n 2, 1) := by decide +kernel
theorem dX1_compact_11 : decode cX1_compact 11 = .ok (.invokevirtual 66, 3) := by decide +kernel
theorem dX1_compact_14 : decode cX1_compact 14 = .ok (.istore_n 3, 1) := by decide +kernel
theorem dX1_compact_15 : decode cX1_compact 15 = .ok (.aload_n 2, 1) := by decide +kernel
theorem dX1_compact_16 : decode cX1_compact 16 = .ok (.getfield 121, 3) := by decide +kernel
theorem dX1_compact_19 : decode cX1_compact 19 = .ok (.aload_n 2, 1) := by decide +kernel
theorem dX1_compact_20 : decode cX1_compact 20 = .ok (.getfield 125, 3) := by decide +kernel
theorem dX1_compact_23 : decode cX1_compact 23 = .ok (.aload_n 2, 1) := by decide +kernel
theorem dX1_compact_24 : decode cX1_compact 24 = .ok (.getfield 63, 3) := by decide +kernel
theorem dX1_compact_27 : decode cX1_compact 27 = .ok (.iadd, 1) := by decide +kernel
theorem dX1_compact_28 : decode cX1_compact 28 = .ok (.aload_n 2, 1) := by decide +kernel
theorem dX1_compact_29 : decode cX1_compact 29 = .ok (.getfield 121, 3) := by decide +kernel
theorem dX1_compact_32 : decode cX1_compact 32 = .ok (.aload_n 2, 1) := by decide +kernel
theorem dX1_compact_33 : decode cX1_compact 33 = .ok (.getfield 125, 3) := by decide +kernel
theorem dX1_compact_36 : decode cX1_compact 36 = .ok (.iload_n 3, 1) := by decide +kernel
theorem dX1_compact_37 : decode cX1_compact 37 = .ok (.invokestatic 128, 3) := by decide +kernel
theorem dX1_compact_40 : decode cX1_compact 40 = .ok (.aload_n 2, 1) := by decide +kernel
theorem dX1_compact_41 : decode cX1_compact 41 = .ok (.iload_n 3, 1) := by decide +kernel
theorem dX1_compact_42 : decode cX1_compact 42 = .ok (.aload_n 2, 1) := by decide +kernel
theorem dX1_compact_43 : decode cX1_compact 43 = .ok (.getfield 56, 3) := by decide +kernel
theorem dX1_compact_46 : decode cX1_compact 46 = .ok (.invokevirtual 115, 3) := by decide +kernel
theorem dX1_compact_49 : decode cX1_compact 49 = .ok (.aload_n 2, 1) := by decide +kernel
theorem dX1_compact_50 : decode cX1_compact 50 = .ok (.getfield 63, 3) := by decide +kernel
theorem dX1_compact_53 : decode cX1_compact 53 = .ok (.ireturn, 1) := by decide +kernel
set_option maxRecDepth 20000 in
theorem ggX1_get_X1_windowOf : GoodIn wsX1_get wsX1_windowOf := goodIn_ca (goodIn_r _ [5, 6, 7, 8, 9, 10, 4, 11, 12, 13, 14, 15, 16, 17, 18, 19, 20, 21, 43, 44, 45, 46, 47, 48, 49, 50, 51, 52, 53, 54] (by decide +kernel) (by decide +kernel)) (goodIn_sub (fun _ h => List.mem_cons_of_mem _ (List.mem_append_left _ (List.mem_append_right _ h))) (by decide +kernel))
set_option maxRecDepth 20000 in
theorem gX1_get_X1_windowOf : GoodIn wsX1_get (wsV RX1 60 RX1 yX1_windowOf wsX1_windowOf) := goodIn_app (goodIn_of _ (by decide +kernel)) ggX1_get_X1_windowOf
set_option maxRecDepth 20000 in
theorem ggX1_get_X1_checkEnoughToGet : GoodIn wsX1_get wsX1_checkEnoughToGet := goodIn_ca (goodIn_r _ [24, 25, 26, 27, 28, 29, 19, 30, 31, 32, 47, 48, 49, 50, 51, 52, 53, 54] (by decide +kernel) (by decide +kernel)) (goodIn_sub (fun _ h => List.mem_cons_of_mem _ (List.mem_append_right _ h)) (by decide +kernel))
set_option maxRecDepth 20000 in
theorem gX1_get_X1_checkEnoughToGet : GoodIn wsX1_get (va_wsS RX1 134 yX1_checkEnoughToGet wsX1_checkEnoughToGet) := goodIn_app (goodIn_of _ (by decide +kernel)) ggX1_get_X1_checkEnoughToGet
set_option maxRecDepth 20000 in
theorem ggX1_get_X0_takeNext : GoodIn wsX1_get wsX0_takeNext := goodIn_r _ [36, 32, 37, 38, 39, 19, 40, 41, 42, 47, 48, 49, 50, 51, 52, 53, 54] (by decide +kernel) (by decide +kernel)
set_option maxRecDepth 20000 in
theorem gX1_get_X0_takeNext : GoodIn wsX1_get (wsV RX1 138 RX0 yX0_takeNext wsX0_takeNext) := goodIn_app (goodIn_of _ (by decide +kernel)) ggX1_get_X0_takeNext
theorem dX1_get_0 : decode cX1_get 0 = .ok (.aload_n 0, 1) := by decide +kernel
theorem dX1_get_1 : decode cX1_get 1 = .ok (.iload_n 1, 1) := by decide +kernel
theorem dX1_get_2 : decode cX1_get 2 = .ok (.invokevirtual 60, 3) := by decide +kernel
theorem dX1_get_5 : decode cX1_get 5 = .ok (.astore_n 2, 1) := by decide +kernel
theorem dX1_get_6 : decode cX1_get 6 = .ok (.aload_n 2, 1) := by decide +kernel
theorem dX1_get_7 : decode cX1_get 7 = .ok (.iconst 1, 1) := by decide +kernel
theorem dX1_get_8 : decode cX1_get 8 = .ok (.invokestatic 134, 3) := by decide +kernel
theorem dX1_get_11 : decode cX1_get 11 = .ok (.aload_n 2, 1) := by decide +kernel
theorem dX1_get_12 : decode cX1_get 12 = .ok (.invokevirtual 138, 3) := by decide +kernel
theorem dX1_get_15 : decode cX1_get 15 = .ok (.lreturn, 1) := by decide +kernel
set_option maxRecDepth 20000 in
theorem ggX1_put_X1_windowOf : GoodIn wsX1_put wsX1_windowOf := goodIn_ca (goodIn_r _ [6, 7, 8, 9, 10, 11, 5, 12, 13, 14, 15, 16, 17, 18, 19, 20, 21, 22, 63, 64, 65, 66, 55, 56, 57, 58, 59, 60, 61, 62] (by decide +kernel) (by decide +kernel)) (goodIn_sub (fun _ h => List.mem_cons_of_mem _ (List.mem_append_left _ (List.mem_append_left _ (List.mem_append_right _ h)))) (by decide +kernel))
set_option maxRecDepth 20000 in
theorem gX1_put_X1_windowOf : GoodIn wsX1_put (wsV RX1 60 RX1 yX1_windowOf wsX1_windowOf) := goodIn_app (goodIn_of _ (by decide +kernel)) ggX1_put_X1_windowOf
set_option maxRecDepth 20000 in
theorem ggX1_put_X1_checkWritable : GoodIn wsX1_put wsX1_checkWritable := goodIn_ca (goodIn_r _ [25, 26, 27, 28, 55, 56, 57, 58, 59, 60, 61, 62] (by decide +kernel) (by decide +kernel)) (goodIn_sub (fun _ h => List.mem_cons_of_mem _ (List.mem_append_left _ (List.mem_append_right _ h))) (by decide +kernel))
set_option maxRecDepth 20000 in
theorem gX1_put_X1_checkWritable : GoodIn wsX1_put (va_wsS RX1 118 yX1_checkWritable wsX1_checkWritable) := goodIn_app (goodIn_of _ (by decide +kernel)) ggX1_put_X1_checkWritable
set_option maxRecDepth 20000 in
theorem ggX1_put_X1_checkEnoughToPut : GoodIn wsX1_put wsX1_checkEnoughToPut := goodIn_ca (goodIn_r _ [31, 32, 33, 34, 35, 36, 20, 37, 38, 39, 55, 56, 57, 58, 59, 60, 61, 62] (by decide +kernel) (by decide +kernel)) (goodIn_sub (fun _ h => List.mem_cons_of_mem _ (List.mem_append_right _ h)) (by decide +kernel))
set_option maxRecDepth 20000 in
theorem gX1_put_X1_checkEnoughToPut : GoodIn wsX1_put (va_wsS RX1 142 yX1_checkEnoughToPut wsX1_checkEnoughToPut) := goodIn_app (goodIn_of _ (by decide +kernel)) ggX1_put_X1_checkEnoughToPut
set_option maxRecDepth 20000 in
theorem ggX1_put_X0_putNext : GoodIn wsX1_put wsX0_putNext := goodIn_r _ [43, 39, 44, 45, 46, 20, 47, 48, 49, 50, 51, 52, 53, 22, 54, 55, 56, 57, 58, 59, 60, 61, 62] (by decide +kernel) (by decide +kernel)
set_option maxRecDepth 20000 in
theorem gX1_put_X0_putNext : GoodIn wsX1_put (wsV RX1 145 RX0 yX0_putNext wsX0_putNext) := goodIn_app (goodIn_of _ (by decide +kernel)) ggX1_put_X0_putNext
theorem dX1_put_0 : decode cX1_put 0 = .ok (.aload_n 0, 1) := by decide +kernel
theorem dX1_put_1 : decode cX1_put 1 = .ok (.iload_n 1, 1) := by decide +kernel
theorem dX1_put_2 : decode cX1_put 2 = .ok (.invokevirtual 60, 3) := by decide +kernel
theorem dX1_put_5 : decode cX1_put 5 = .ok (.astore 4, 2) := by decide +kernel
theorem dX1_put_7 : decode cX1_put 7 = .ok (.aload 4, 2) := by decide +kernel
theorem dX1_put_9 : decode cX1_put 9 = .ok (.invokestatic 118, 3) := by decide +kernel
theorem dX1_put_12 : decode cX1_put 12 = .ok (.aload 4, 2) := by decide +kernel
theorem dX1_put_14 : decode cX1_put 14 = .ok (.iconst 1, 1) := by decide +kernel
theorem dX1_put_15 : decode cX1_put 15 = .ok (.invokestatic 142, 3) := by decide +kernel
theorem dX1_put_18 : decode cX1_put 18 = .ok (.aload 4, 2) := by decide +kernel
theorem dX1_put_20 : decode cX1_put 20 = .ok (.lload_n 2, 1) := by decide +kernel
theorem dX1_put_21 : decode cX1_put 21 = .ok (.invokevirtual 145, 3) := by decide +kernel
theorem dX1_put_24 : decode cX1_put 24 = .ok (.aload 4, 2) := by decide +kernel
theorem dX1_put_26 : decode cX1_put 26 = .ok (.getfield 63, 3) := by decide +kernel
theorem dX1_put_29 : decode cX1_put 29 = .ok (.ireturn, 1) := by decide +kernel
set_option maxRecDepth 20000 in
theorem ggX1_getAt_X1_windowOf : GoodIn wsX1_getAt wsX1_windowOf := goodIn_ca (goodIn_r _ [6, 7, 8, 9, 10, 11, 5, 12, 13, 14, 15, 16, 17, 18, 19, 20, 21, 22, 37, 38, 39, 40, 29, 30, 31, 32, 33, 34, 35, 36] (by decide +kernel) (by decide +kernel)) (goodIn_sub (fun _ h => List.mem_cons_of_mem _ (List.mem_append_right _ h)) (by decide +kernel))
set_option maxRecDepth 20000 in
theorem gX1_getAt_X1_windowOf : GoodIn wsX1_getAt (wsV RX1 60 RX1 yX1_windowOf wsX1_windowOf) := goodIn_app (goodIn_of _ (by decide +kernel)) ggX1_getAt_X1_windowOf
set_option maxRecDepth 20000 in
theorem ggX1_getAt_X1_checkIndex : GoodIn wsX1_getAt wsX1_checkIndex := goodIn_ca (goodIn_r _ [16, 7, 8] (by decide +kernel) (by decide +kernel)) (goodIn_sub (fun _ h => List.mem_cons_of_mem _ (List.mem_append_right _ h)) (by decide +kernel))
set_option maxRecDepth 20000 in
theorem gX1_getAt_X1_checkIndex : GoodIn wsX1_getAt (va_wsS RX1 36 yX1_checkIndex wsX1_checkIndex) := goodIn_app (goodIn_of _ (by decide +kernel)) ggX1_getAt_X1_checkIndex
set_option maxRecDepth 20000 in
theorem ggX1_getAt_X0_valueAt : GoodIn wsX1_getAt wsX0_valueAt := goodIn_r _ [26, 27, 28, 29, 30, 31, 32, 33, 34, 35, 36] (by decide +kernel) (by decide +kernel)
set_option maxRecDepth 20000 in
theorem gX1_getAt_X0_valueAt : GoodIn wsX1_getAt (wsV RX1 149 RX0 yX0_valueAt wsX0_valueAt) := goodIn_app (goodIn_of _ (by decide +kernel)) ggX1_getAt_X0_valueAt
theorem dX1_getAt_0 : decode cX1_getAt 0 = .ok (.aload_n 0, 1) := by decide +kernel
theorem dX1_getAt_1 : decode cX1_getAt 1 = .ok (.iload_n 1, 1) := by decide +kernel
theorem dX1_getAt_2 : decode cX1_getAt 2 = .ok (.invokevirtual 60, 3) := by decide +kernel
theorem dX1_getAt_5 : decode cX1_getAt 5 = .ok (.astore_n 3, 1) := by decide +kernel
theorem dX1_getAt_6 : decode cX1_getAt 6 = .ok (.iload_n 2, 1) := by decide +kernel
theorem dX1_getAt_7 : decode cX1_getAt 7 = .ok (.aload_n 3, 1) := by decide +kernel
theorem dX1_getAt_8 : decode cX1_getAt 8 = .ok (.getfield 74, 3) := by decide +kernel
theorem dX1_getAt_11 : decode cX1_getAt 11 = .ok (.invokestatic 36, 3) := by decide +kernel
theorem dX1_getAt_14 : decode cX1_getAt 14 = .ok (.aload_n 3, 1) := by decide +kernel
theorem dX1_getAt_15 : decode cX1_getAt 15 = .ok (.iload_n 2, 1) := by decide +kernel
theorem dX1_getAt_16 : decode cX1_getAt 16 = .ok (.invokevirtual 149, 3) := by decide +kernel
theorem dX1_getAt_19 : decode cX1_getAt 19 = .ok (.lreturn, 1) := by decide +kernel
set_option maxRecDepth 20000 in
theorem ggX1_putAt_X1_windowOf : GoodIn wsX1_putAt wsX1_windowOf := goodIn_ca (goodIn_r _ [6, 7, 8, 9, 10, 11, 5, 12, 13, 14, 15, 16, 17, 18, 19, 20, 21, 22, 52, 53, 54, 55, 44, 45, 46, 47, 48, 49, 50, 51] (by decide +kernel) (by decide +kernel)) (goodIn_sub (fun _ h => List.mem_cons_of_mem _ (List.mem_append_left _ (List.mem_append_right _ h))) (by decide +kernel))
set_option maxRecDepth 20000 in
theorem gX1_putAt_X1_windowOf : GoodIn wsX1_putAt (wsV RX1 60 RX1 yX1_windowOf wsX1_windowOf) := goodIn_app (goodIn_of _ (by decide +kernel)) ggX1_putAt_X1_windowOf
set_option maxRecDepth 20000 in
theorem ggX1_putAt_X1_checkIndex : GoodIn wsX1_putAt wsX1_checkIndex := goodIn_ca (goodIn_r _ [16, 7, 8] (by decide +kernel) (by decide +kernel)) (goodIn_sub (fun _ h => List.mem_cons_of_mem _ (List.mem_append_left _ (List.mem_append_right _ h))) (by decide +kernel))
set_option maxRecDepth 20000 in
theorem gX1_putAt_X1_checkIndex : GoodIn wsX1_putAt (va_wsS RX1 36 yX1_checkIndex wsX1_checkIndex) := goodIn_app (goodIn_of _ (by decide +kernel)) ggX1_putAt_X1_checkIndex
set_option maxRecDepth 20000 in
theorem ggX1_putAt_X1_checkWritable : GoodIn wsX1_putAt wsX1_checkWritable := goodIn_ca (goodIn_r _ [25, 26, 27, 28, 44, 45, 46, 47, 48, 49, 50, 51] (by decide +kernel) (by decide +kernel)) (goodIn_sub (fun _ h => List.mem_cons_of_mem _ (List.mem_append_right _ h)) (by decide +kernel))
set_option maxRecDepth 20000 in
theorem gX1_putAt_X1_checkWritable : GoodIn wsX1_putAt (va_wsS RX1 118 yX1_checkWritable wsX1_checkWritable) := goodIn_app (goodIn_of _ (by decide +kernel)) ggX1_putAt_X1_checkWritable
set_option maxRecDepth 20000 in
theorem ggX1_putAt_X0_valueAt : GoodIn wsX1_putAt wsX0_valueAt := goodIn_r _ [32, 33, 34, 44, 45, 46, 47, 48, 49, 50, 51] (by decide +kernel) (by decide +kernel)
set_option maxRecDepth 20000 in
theorem gX1_putAt_X0_valueAt : GoodIn wsX1_putAt (wsV RX1 149 RX0 yX0_valueAt wsX0_valueAt) := goodIn_app (goodIn_of _ (by decide +kernel)) ggX1_putAt_X0_valueAt
set_option maxRecDepth 20000 in
theorem ggX1_putAt_X0_changeAt : GoodIn wsX1_putAt wsX0_changeAt := goodIn_r _ [38, 33, 34, 39, 40, 41, 20, 42, 22, 43, 44, 45, 46, 47, 48, 49, 50, 51] (by decide +kernel) (by decide +kernel)
set_option maxRecDepth 20000 in
theorem gX1_putAt_X0_changeAt : GoodIn wsX1_putAt (wsV RX1 153 RX0 yX0_changeAt wsX0_changeAt) := goodIn_app (goodIn_of _ (by decide +kernel)) ggX1_putAt_X0_changeAt
theorem dX1_putAt_0 : decode cX1_putAt 0 = .ok (.aload_n 0, 1) := by decide +kernel
theorem dX1_putAt_1 : decode cX1_putAt 1 = .ok (.iload_n 1, 1) := by decide +kernel
theorem dX1_putAt_2 : decode cX1_putAt 2 = .ok (.invokevirtual 60, 3) := by decide +kernel
theorem dX1_putAt_5 : decode cX1_putAt 5 = .ok (.astore 5, 2) := by decide +kernel
theorem dX1_putAt_7 : decode cX1_putAt 7 = .ok (.iload_n 2, 1) := by decide +kernel
theorem dX1_putAt_8 : decode cX1_putAt 8 = .ok (.aload 5, 2) := by decide +kernel
theorem dX1_putAt_10 : decode cX1_putAt 10 = .ok (.getfield 74, 3) := by decide +kernel
theorem dX1_putAt_13 : decode cX1_putAt 13 = .ok (.invokestatic 36, 3) := by decide +kernel
theorem dX1_putAt_16 : decode cX1_putAt 16 = .ok (.aload 5, 2) := by decide +kernel
theorem dX1_putAt_18 : decode cX1_putAt 18 = .ok (.invokestatic 118, 3) := by decide +kernel
theorem dX1_putAt_21 : decode cX1_putAt 21 = .ok (.aload 5, 2) := by decide +kernel
theorem dX1_putAt_23 : decode cX1_putAt 23 = .ok (.iload_n 2, 1) := by decide +kernel
theorem dX1_putAt_24 : decode cX1_putAt 24 = .ok (.invokevirtual 149, 3) := by decide +kernel
theorem dX1_putAt_27 : decode cX1_putAt 27 = .ok (.lstore 6, 2) := by decide +kernel
theorem dX1_putAt_29 : decode cX1_putAt 29 = .ok (.aload 5, 2) := by decide +kernel
theorem dX1_putAt_31 : decode cX1_putAt 31 = .ok (.iload_n 2, 1) := by decide +kernel
theorem dX1_putAt_32 : decode cX1_putAt 32 = .ok (.lload_n 3, 1) := by decide +kernel
theorem dX1_putAt_33 : decode cX1_putAt 33 = .ok (.invokevirtual 153, 3) := by decide +kernel
theorem dX1_putAt_36 : decode cX1_putAt 36 = .ok (.lload 6, 2) := by decide +kernel
theorem dX1_putAt_38 : decode cX1_putAt 38 = .ok (.lreturn, 1) := by decide +kernel
set_option maxRecDepth 20000 in
theorem ggX1_fill_X1_windowOf : GoodIn wsX1_fill wsX1_windowOf := goodIn_ca (goodIn_r _ [6, 7, 8, 9, 10, 11, 5, 12, 13, 14, 15, 16, 17, 18, 19, 20, 21, 22, 68, 69, 70, 71, 60, 61, 62, 63, 64, 65, 66, 67] (by decide +kernel) (by decide +kernel)) (goodIn_sub (fun _ h => List.mem_cons_of_mem _ (List.mem_append_left _ (List.mem_append_left _ (List.mem_append_left _ (List.mem_append_right _ h))))) (by decide +kernel))
set_option maxRecDepth 20000 in
theorem gX1_fill_X1_windowOf : GoodIn wsX1_fill (wsV RX1 60 RX1 yX1_windowOf wsX1_windowOf) := goodIn_app (goodIn_of _ (by decide +kernel)) ggX1_fill_X1_windowOf
set_option maxRecDepth 20000 in
theorem ggX1_fill_X1_checkMany : GoodIn wsX1_fill wsX1_checkMany := goodIn_ca (goodIn_r _ [25, 26, 27] (by decide +kernel) (by decide +kernel)) (goodIn_sub (fun _ h => List.mem_cons_of_mem _ (List.mem_append_left _ (List.mem_append_left _ (List.mem_append_right _ h)))) (by decide +kernel))
set_option maxRecDepth 20000 in
theorem gX1_fill_X1_checkMany : GoodIn wsX1_fill (va_wsS RX1 157 yX1_checkMany wsX1_checkMany) := goodIn_app (goodIn_of _ (by decide +kernel)) ggX1_fill_X1_checkMany
set_option maxRecDepth 20000 in
theorem ggX1_fill_X1_checkWritable : GoodIn wsX1_fill wsX1_checkWritable := goodIn_ca (goodIn_r _ [30, 31, 32, 33, 60, 61, 62, 63, 64, 65, 66, 67] (by decide +kernel) (by decide +kernel)) (goodIn_sub (fun _ h => List.mem_cons_of_mem _ (List.mem_append_left _ (List.mem_append_right _ h))) (by decide +kernel))
set_option maxRecDepth 20000 in
theorem gX1_fill_X1_checkWritable : GoodIn wsX1_fill (va_wsS RX1 118 yX1_checkWritable wsX1_checkWritable) := goodIn_app (goodIn_of _ (by decide +kernel)) ggX1_fill_X1_checkWritable
set_option maxRecDepth 20000 in
theorem ggX1_fill_X1_checkEnoughToPut : GoodIn wsX1_fill wsX1_checkEnoughToPut := goodIn_ca (goodIn_r _ [36, 37, 38, 39, 40, 41, 20, 42, 43, 44, 60, 61, 62, 63, 64, 65, 66, 67] (by decide +kernel) (by decide +kernel)) (goodIn_sub (fun _ h => List.mem_cons_of_mem _ (List.mem_append_right _ h)) (by decide +kernel))
set_option maxRecDepth 20000 in
theorem gX1_fill_X1_checkEnoughToPut : GoodIn wsX1_fill (va_wsS RX1 142 yX1_checkEnoughToPut wsX1_checkEnoughToPut) := goodIn_app (goodIn_of _ (by decide +kernel)) ggX1_fill_X1_checkEnoughToPut
set_option maxRecDepth 20000 in
theorem ggX1_fill_X0_putNext : GoodIn wsX1_fill wsX0_putNext := goodIn_r _ [48, 44, 49, 50, 51, 20, 52, 53, 54, 55, 56, 57, 58, 22, 59, 60, 61, 62, 63, 64, 65, 66, 67] (by decide +kernel) (by decide +kernel)
set_option maxRecDepth 20000 in
theorem gX1_fill_X0_putNext : GoodIn wsX1_fill (wsV RX1 145 RX0 yX0_putNext wsX0_putNext) := goodIn_app (goodIn_of _ (by decide +kernel)) ggX1_fill_X0_putNext
theorem dX1_fill_0 : decode cX1_fill 0 = .ok (.aload_n 0, 1) := by decide +kernel
theorem dX1_fill_1 : decode cX1_fill 1 = .ok (.iload_n 1, 1) := by decide +kernel
theorem dX1_fill_2 : decode cX1_fill 2 = .ok (.invokevirtual 60, 3) := by decide +kernel
theorem dX1_fill_5 : decode cX1_fill 5 = .ok (.astore 7, 2) := by decide +kernel
theorem dX1_fill_7 : decode cX1_fill 7 = .ok (.iload_n 2, 1) := by decide +kernel
theorem dX1_fill_8 : decode cX1_fill 8 = .ok (.invokestatic 157, 3) := by decide +kernel
theorem dX1_fill_11 : decode cX1_fill 11 = .ok (.aload 7, 2) := by decide +kernel
theorem dX1_fill_13 : decode cX1_fill 13 = .ok (.invokestatic 118, 3) := by decide +kernel
theorem dX1_fill_16 : decode cX1_fill 16 = .ok (.aload 7, 2) := by decide +kernel
theorem dX1_fill_18 : decode cX1_fill 18 = .ok (.iload_n 2, 1) := by decide +kernel
theorem dX1_fill_19 : decode cX1_fill 19 = .ok (.invokestatic 142, 3) := by decide +kernel
theorem dX1_fill_22 : decode cX1_fill 22 = .ok (.lload_n 3, 1) := by decide +kernel
theorem dX1_fill_23 : decode cX1_fill 23 = .ok (.lstore 8, 2) := by decide +kernel
theorem dX1_fill_25 : decode cX1_fill 25 = .ok (.iconst 0, 1) := by decide +kernel
theorem dX1_fill_26 : decode cX1_fill 26 = .ok (.istore 10, 2) := by decide +kernel
theorem dX1_fill_28 : decode cX1_fill 28 = .ok (.iload 10, 2) := by decide +kernel
theorem dX1_fill_30 : decode cX1_fill 30 = .ok (.iload_n 2, 1) := by decide +kernel
theorem dX1_fill_31 : decode cX1_fill 31 = .ok (.if_icmp .ge 23, 3) := by decide +kernel
theorem dX1_fill_34 : decode cX1_fill 34 = .ok (.aload 7, 2) := by decide +kernel
theorem dX1_fill_36 : decode cX1_fill 36 = .ok (.lload 8, 2) := by decide +kernel
theorem dX1_fill_38 : decode cX1_fill 38 = .ok (.invokevirtual 145, 3) := by decide +kernel
theorem dX1_fill_41 : decode cX1_fill 41 = .ok (.lload 8, 2) := by decide +kernel
theorem dX1_fill_43 : decode cX1_fill 43 = .ok (.lload 5, 2) := by decide +kernel
theorem dX1_fill_45 : decode cX1_fill 45 = .ok (.ladd, 1) := by decide +kernel
theorem dX1_fill_46 : decode cX1_fill 46 = .ok (.lstore 8, 2) := by decide +kernel
theorem dX1_fill_48 : decode cX1_fill 48 = .ok (.iinc 10 1, 3) := by decide +kernel
theorem dX1_fill_51 : decode cX1_fill 51 = .ok (.goto (-23), 3) := by decide +kernel
theorem dX1_fill_54 : decode cX1_fill 54 = .ok (.aload 7, 2) := by decide +kernel
theorem dX1_fill_56 : decode cX1_fill 56 = .ok (.getfield 63, 3) := by decide +kernel
theorem dX1_fill_59 : decode cX1_fill 59 = .ok (.ireturn, 1) := by decide +kernel
set_option maxRecDepth 20000 in
theorem ggX1_isAlike_X1_windowOf : GoodIn wsX1_isAlike wsX1_windowOf := goodIn_ca (goodIn_r _ [6, 7, 8, 9, 10, 11, 5, 12, 13, 14, 15, 16, 17, 18, 19, 20, 21, 22, 43, 44, 45, 46, 35, 36, 37, 38, 39, 40, 41, 42] (by decide +kernel) (by decide +kernel)) (goodIn_sub (fun _ h => List.mem_cons_of_mem _ (List.mem_append_right _ h)) (by decide +kernel))
set_option maxRecDepth 20000 in
theorem gX1_isAlike_X1_windowOf : GoodIn wsX1_isAlike (wsV RX1 60 RX1 yX1_windowOf wsX1_windowOf) := goodIn_app (goodIn_of _ (by decide +kernel)) ggX1_isAlike_X1_windowOf
set_option maxRecDepth 20000 in
theorem ggX1_isAlike_X0_rest : GoodIn wsX1_isAlike wsX0_rest := goodIn_r _ [26, 27, 28, 35, 36, 37, 38, 39, 40, 41, 42] (by decide +kernel) (by decide +kernel)
set_option maxRecDepth 20000 in
theorem gX1_isAlike_X0_rest : GoodIn wsX1_isAlike (wsV RX1 66 RX0 yX0_rest wsX0_rest) := goodIn_app (goodIn_of _ (by decide +kernel)) ggX1_isAlike_X0_rest
set_option maxRecDepth 20000 in
theorem ggX1_isAlike_X0_valueAt : GoodIn wsX1_isAlike wsX0_valueAt := goodIn_r _ [32, 33, 34, 35, 36, 37, 38, 39, 40, 41, 42] (by decide +kernel) (by decide +kernel)
set_option maxRecDepth 20000 in
theorem gX1_isAlike_X0_valueAt : GoodIn wsX1_isAlike (wsV RX1 149 RX0 yX0_valueAt wsX0_valueAt) := goodIn_app (goodIn_of _ (by decide +kernel)) ggX1_isAlike_X0_valueAt
theorem dX1_isAlike_0 : decode cX1_isAlike 0 = .ok (.aload_n 0, 1) := by decide +kernel
theorem dX1_isAlike_1 : decode cX1_isAlike 1 = .ok (.iload_n 1, 1) := by decide +kernel
theorem dX1_isAlike_2 : decode cX1_isAlike 2 = .ok (.invokevirtual 60, 3) := by decide +kernel
theorem dX1_isAlike_5 : decode cX1_isAlike 5 = .ok (.astore_n 3, 1) := by decide +kernel
theorem dX1_isAlike_6 : decode cX1_isAlike 6 = .ok (.aload_n 0, 1) := by decide +kernel
theorem dX1_isAlike_7 : decode cX1_isAlike 7 = .ok (.iload_n 2, 1) := by decide +kernel
theorem dX1_isAlike_8 : decode cX1_isAlike 8 = .ok (.invokevirtual 60, 3) := by decide +kernel
theorem dX1_isAlike_11 : decode cX1_isAlike 11 = .ok (.astore 4, 2) := by decide +kernel
theorem dX1_isAlike_13 : decode cX1_isAlike 13 = .ok (.aload_n 3, 1) := by decide +kernel
theorem dX1_isAlike_14 : decode cX1_isAlike 14 = .ok (.invokevirtual 66, 3) := by decide +kernel
theorem dX1_isAlike_17 : decode cX1_isAlike 17 = .ok (.istore 5, 2) := by decide +kernel
theorem dX1_isAlike_19 : decode cX1_isAlike 19 = .ok (.iload 5, 2) := by decide +kernel
theorem dX1_isAlike_21 : decode cX1_isAlike 21 = .ok (.aload 4, 2) := by decide +kernel
theorem dX1_isAlike_23 : decode cX1_isAlike 23 = .ok (.invokevirtual 66, 3) := by decide +kernel
theorem dX1_isAlike_26 : decode cX1_isAlike 26 = .ok (.if_icmp .eq 5, 3) := by decide +kernel
theorem dX1_isAlike_29 : decode cX1_isAlike 29 = .ok (.iconst 0, 1) := by decide +kernel
theorem dX1_isAlike_30 : decode cX1_isAlike 30 = .ok (.ireturn, 1) := by decide +kernel
theorem dX1_isAlike_31 : decode cX1_isAlike 31 = .ok (.iconst 0, 1) := by decide +kernel
theorem dX1_isAlike_32 : decode cX1_isAlike 32 = .ok (.istore 6, 2) := by decide +kernel
theorem dX1_isAlike_34 : decode cX1_isAlike 34 = .ok (.iload 6, 2) := by decide +kernel
theorem dX1_isAlike_36 : decode cX1_isAlike 36 = .ok (.iload 5, 2) := by decide +kernel
theorem dX1_isAlike_38 : decode cX1_isAlike 38 = .ok (.if_icmp .ge 39, 3) := by decide +kernel
theorem dX1_isAlike_41 : decode cX1_isAlike 41 = .ok (.aload_n 3, 1) := by decide +kernel
theorem dX1_isAlike_42 : decode cX1_isAlike 42 = .ok (.aload_n 3, 1) := by decide +kernel
theorem dX1_isAlike_43 : decode cX1_isAlike 43 = .ok (.getfield 63, 3) := by decide +kernel
theorem dX1_isAlike_46 : decode cX1_isAlike 46 = .ok (.iload 6, 2) := by decide +kernel
theorem dX1_isAlike_48 : decode cX1_isAlike 48 = .ok (.iadd, 1) := by decide +kernel
theorem dX1_isAlike_49 : decode cX1_isAlike 49 = .ok (.invokevirtual 149, 3) := by decide +kernel
theorem dX1_isAlike_52 : decode cX1_isAlike 52 = .ok (.aload 4, 2) := by decide +kernel
theorem dX1_isAlike_54 : decode cX1_isAlike 54 = .ok (.aload 4, 2) := by decide +kernel
theorem dX1_isAlike_56 : decode cX1_isAlike 56 = .ok (.getfield 63, 3) := by decide +kernel
theorem dX1_isAlike_59 : decode cX1_isAlike 59 = .ok (.iload 6, 2) := by decide +kernel
theorem dX1_isAlike_61 : decode cX1_isAlike 61 = .ok (.iadd, 1) := by decide +kernel
theorem dX1_isAlike_62 : decode cX1_isAlike 62 = .ok (.invokevirtual 149, 3) := by decide +kernel
theorem dX1_isAlike_65 : decode cX1_isAlike 65 = .ok (.lcmp, 1) := by decide +kernel
theorem dX1_isAlike_66 : decode cX1_isAlike 66 = .ok (.ifCond .eq 5, 3) := by decide +kernel
theorem dX1_isAlike_69 : decode cX1_isAlike 69 = .ok (.iconst 0, 1) := by decide +kernel
theorem dX1_isAlike_70 : decode cX1_isAlike 70 = .ok (.ireturn, 1) := by decide +kernel
theorem dX1_isAlike_71 : decode cX1_isAlike 71 = .ok (.iinc 6 1, 3) := by decide +kernel
theorem dX1_isAlike_74 : decode cX1_isAlike 74 = .ok (.goto (-40), 3) := by decide +kernel
theorem dX1_isAlike_77 : decode cX1_isAlike 77 = .ok (.iconst 1, 1) := by decide +kernel
theorem dX1_isAlike_78 : decode cX1_isAlike 78 = .ok (.ireturn, 1) := by decide +kernel
set_option maxRecDepth 20000 in
theorem ggX1_checksum_X0_sumOfAll : GoodIn wsX1_checksum wsX0_sumOfAll := goodIn_r _ [8, 9, 10, 11, 12, 13, 14, 15, 16, 17, 18, 19, 7, 20, 21, 22, 23, 24, 25, 26, 27, 28, 29, 30, 39, 40, 41, 42, 43, 44, 45, 46] (by decide +kernel) (by decide +kernel)
set_option maxRecDepth 20000 in
theorem gX1_checksum_X0_sumOfAll : GoodIn wsX1_checksum (wsV RX1 186 RX0 yX0_sumOfAll wsX0_sumOfAll) := goodIn_app (goodIn_of _ (by decide +kernel)) ggX1_checksum_X0_sumOfAll
set_option maxRecDepth 20000 in
theorem ggX1_checksum_X1_sumOfRow : GoodIn wsX1_checksum wsX1_sumOfRow := goodIn_r _ [33, 34, 13, 14, 15, 16] (by decide +kernel) (by decide +kernel)
set_option maxRecDepth 20000 in
theorem gX1_checksum_X1_sumOfRow : GoodIn wsX1_checksum (va_wsS RX1 190 yX1_sumOfRow wsX1_sumOfRow) := goodIn_app (goodIn_of _ (by decide +kernel)) ggX1_checksum_X1_sumOfRow
theorem dX1_checksum_0 : decode cX1_checksum 0 = .ok (.ldc2_w 173, 3) := by decide +kernel
theorem dX1_checksum_3 : decode cX1_checksum 3 = .ok (.lstore_n 1, 1) := by decide +kernel
theorem dX1_checksum_4 : decode cX1_checksum 4 = .ok (.iconst 0, 1) := by decide +kernel
theorem dX1_checksum_5 : decode cX1_checksum 5 = .ok (.istore_n 3, 1) := by decide +kernel
theorem dX1_checksum_6 : decode cX1_checksum 6 = .ok (.iload_n 3, 1) := by decide +kernel
theorem dX1_checksum_7 : decode cX1_checksum 7 = .ok (.bipush 8, 2) := by decide +kernel
theorem dX1_checksum_9 : decode cX1_checksum 9 = .ok (.if_icmp .ge 20, 3) := by decide +kernel
theorem dX1_checksum_12 : decode cX1_checksum 12 = .ok (.aload_n 0, 1) := by decide +kernel
theorem dX1_checksum_13 : decode cX1_checksum 13 = .ok (.getfield 16, 3) := by decide +kernel
theorem dX1_checksum_16 : decode cX1_checksum 16 = .ok (.iload_n 3, 1) := by decide +kernel
theorem dX1_checksum_17 : decode cX1_checksum 17 = .ok (.aaload, 1) := by decide +kernel
theorem dX1_checksum_18 : decode cX1_checksum 18 = .ok (.lload_n 1, 1) := by decide +kernel
theorem dX1_checksum_19 : decode cX1_checksum 19 = .ok (.invokevirtual 186, 3) := by decide +kernel
theorem dX1_checksum_22 : decode cX1_checksum 22 = .ok (.lstore_n 1, 1) := by decide +kernel
theorem dX1_checksum_23 : decode cX1_checksum 23 = .ok (.iinc 3 1, 3) := by decide +kernel
theorem dX1_checksum_26 : decode cX1_checksum 26 = .ok (.goto (-20), 3) := by decide +kernel
theorem dX1_checksum_29 : decode cX1_checksum 29 = .ok (.iconst 0, 1) := by decide +kernel
theorem dX1_checksum_30 : decode cX1_checksum 30 = .ok (.istore_n 3, 1) := by decide +kernel
theorem dX1_checksum_31 : decode cX1_checksum 31 = .ok (.iload_n 3, 1) := by decide +kernel
theorem dX1_checksum_32 : decode cX1_checksum 32 = .ok (.iconst 2, 1) := by decide +kernel
theorem dX1_checksum_33 : decode cX1_checksum 33 = .ok (.if_icmp .ge 20, 3) := by decide +kernel
theorem dX1_checksum_36 : decode cX1_checksum 36 = .ok (.lload_n 1, 1) := by decide +kernel
theorem dX1_checksum_37 : decode cX1_checksum 37 = .ok (.aload_n 0, 1) := by decide +kernel
theorem dX1_checksum_38 : decode cX1_checksum 38 = .ok (.getfield 11, 3) := by decide +kernel
theorem dX1_checksum_41 : decode cX1_checksum 41 = .ok (.iload_n 3, 1) := by decide +kernel
theorem dX1_checksum_42 : decode cX1_checksum 42 = .ok (.aaload, 1) := by decide +kernel
theorem dX1_checksum_43 : decode cX1_checksum 43 = .ok (.invokestatic 190, 3) := by decide +kernel
theorem dX1_checksum_46 : decode cX1_checksum 46 = .ok (.lstore_n 1, 1) := by decide +kernel
theorem dX1_checksum_47 : decode cX1_checksum 47 = .ok (.iinc 3 1, 3) := by decide +kernel
theorem dX1_checksum_50 : decode cX1_checksum 50 = .ok (.goto (-19), 3) := by decide +kernel
theorem dX1_checksum_53 : decode cX1_checksum 53 = .ok (.lload_n 1, 1) := by decide +kernel
theorem dX1_checksum_54 : decode cX1_checksum 54 = .ok (.lreturn, 1) := by decide +kernel
set_option maxRecDepth 20000 in
theorem ggX1_isTrue_X0_isThere : GoodIn wsX1_isTrue wsX0_isThere := goodIn_r _ [6, 7, 67, 68, 69, 70, 71, 72, 73, 74] (by decide +kernel) (by decide +kernel)
set_option maxRecDepth 20000 in
theorem gX1_isTrue_X0_isThere : GoodIn wsX1_isTrue (wsV RX1 48 RX0 yX0_isThere wsX0_isThere) := goodIn_app (goodIn_of _ (by decide +kernel)) ggX1_isTrue_X0_isThere
set_option maxRecDepth 20000 in
theorem ggX1_isTrue_X1_keepsTheorem : GoodIn wsX1_isTrue wsX1_keepsTheorem := goodIn_r _ [12, 13, 14, 15, 16, 17, 18, 19, 5, 20, 21, 22, 23, 24, 25, 26, 27, 28, 29, 30, 31, 32, 33, 7, 34, 35, 36, 37, 38, 39, 40, 41, 42, 43, 44, 45, 46, 11, 47, 48, 49, 50, 51, 52, 53, 54, 55, 56, 57, 58, 59, 60, 61, 62, 67, 68, 69, 70, 71, 72, 73, 74, 63, 64, 65, 66] (by decide +kernel) (by decide +kernel)
set_option maxRecDepth 20000 in
theorem gX1_isTrue_X1_keepsTheorem : GoodIn wsX1_isTrue (wsV RX1 194 RX1 yX1_keepsTheorem wsX1_keepsTheorem) := goodIn_app (goodIn_of _ (by decide +kernel)) ggX1_isTrue_X1_keepsTheorem
theorem dX1_isTrue_0 : decode cX1_isTrue 0 = .ok (.iconst 0, 1) := by decide +kernel
theorem dX1_isTrue_1 : decode cX1_isTrue 1 = .ok (.istore_n 1, 1) := by decide +kernel
theorem dX1_isTrue_2 : decode cX1_isTrue 2 = .ok (.iload_n 1, 1) := by decide +kernel
theorem dX1_isTrue_3 : decode cX1_isTrue 3 = .ok (.bipush 8, 2) := by decide +kernel
theorem dX1_isTrue_5 : decode cX1_isTrue 5 = .ok (.if_icmp .ge 36, 3) := by decide +kernel
theorem dX1_isTrue_8 : decode cX1_isTrue 8 = .ok (.aload_n 0, 1) := by decide +kernel
theorem dX1_isTrue_9 : decode cX1_isTrue 9 = .ok (.getfield 16, 3) := by decide +kernel
theorem dX1_isTrue_12 : decode cX1_isTrue 12 = .ok (.iload_n 1, 1) := by decide +kernel
theorem dX1_isTrue_13 : decode cX1_isTrue 13 = .ok (.aaload, 1) := by decide +kernel
theorem dX1_isTrue_14 : decode cX1_isTrue 14 = .ok (.invokevirtual 48, 3) := by decide +kernel
theorem dX1_isTrue_17 : decode cX1_isTrue 17 = .ok (.ifCond .eq 18, 3) := by decide +kernel
theorem dX1_isTrue_20 : decode cX1_isTrue 20 = .ok (.aload_n 0, 1) := by decide +kernel
theorem dX1_isTrue_21 : decode cX1_isTrue 21 = .ok (.aload_n 0, 1) := by decide +kernel
theorem dX1_isTrue_22 : decode cX1_isTrue 22 = .ok (.getfield 16, 3) := by decide +kernel
theorem dX1_isTrue_25 : decode cX1_isTrue 25 = .ok (.iload_n 1, 1) := by decide +kernel
theorem dX1_isTrue_26 : decode cX1_isTrue 26 = .ok (.aaload, 1) := by decide +kernel
theorem dX1_isTrue_27 : decode cX1_isTrue 27 = .ok (.invokevirtual 194, 3) := by decide +kernel
theorem dX1_isTrue_30 : decode cX1_isTrue 30 = .ok (.ifCond .ne 5, 3) := by decide +kernel
theorem dX1_isTrue_33 : decode cX1_isTrue 33 = .ok (.iconst 0, 1) := by decide +kernel
theorem dX1_isTrue_34 : decode cX1_isTrue 34 = .ok (.ireturn, 1) := by decide +kernel
theorem dX1_isTrue_35 : decode cX1_isTrue 35 = .ok (.iinc 1 1, 3) := by decide +kernel
theorem dX1_isTrue_38 : decode cX1_isTrue 38 = .ok (.goto (-36), 3) := by decide +kernel
theorem dX1_isTrue_41 : decode cX1_isTrue 41 = .ok (.iconst 1, 1) := by decide +kernel
theorem dX1_isTrue_42 : decode cX1_isTrue 42 = .ok (.ireturn, 1) := by decide +kernel
set_option maxRecDepth 20000 in
theorem ggX1_keepsTheorem_X0_isInBounds : GoodIn wsX1_keepsTheorem wsX0_isInBounds := goodIn_r _ [9, 10, 11, 12, 13, 14, 54, 55, 56, 57, 58, 59, 60, 61] (by decide +kernel) (by decide +kernel)
set_option maxRecDepth 20000 in
theorem gX1_keepsTheorem_X0_isInBounds : GoodIn wsX1_keepsTheorem (wsV RX1 198 RX0 yX0_isInBounds wsX0_isInBounds) := goodIn_app (goodIn_of _ (by decide +kernel)) ggX1_keepsTheorem_X0_isInBounds
set_option maxRecDepth 20000 in
theorem ggX1_keepsTheorem_X0_rest : GoodIn wsX1_keepsTheorem wsX0_rest := goodIn_r _ [18, 11, 10, 54, 55, 56, 57, 58, 59, 60, 61] (by decide +kernel) (by decide +kernel)
set_option maxRecDepth 20000 in
theorem gX1_keepsTheorem_X0_rest : GoodIn wsX1_keepsTheorem (wsV RX1 66 RX0 yX0_rest wsX0_rest) := goodIn_app (goodIn_of _ (by decide +kernel)) ggX1_keepsTheorem_X0_rest
set_option maxRecDepth 20000 in
theorem ggX1_keepsTheorem_X0_becomeSlice : GoodIn wsX1_keepsTheorem wsX0_becomeSlice := goodIn_r _ [22, 23, 24, 14, 13, 12, 25, 26, 27, 8, 28, 10, 11, 29, 54, 55, 56, 57, 58, 59, 60, 61] (by decide +kernel) (by decide +kernel)
set_option maxRecDepth 20000 in
theorem gX1_keepsTheorem_X0_becomeSlice : GoodIn wsX1_keepsTheorem (wsV RX1 70 RX0 yX0_becomeSlice wsX0_becomeSlice) := goodIn_app (goodIn_of _ (by decide +kernel)) ggX1_keepsTheorem_X0_becomeSlice
set_option maxRecDepth 20000 in
theorem ggX1_keepsTheorem_X0_becomeDuplicate : GoodIn wsX1_keepsTheorem wsX0_becomeDuplicate := goodIn_r _ [33, 23, 24, 14, 13, 12, 10, 11, 29, 54, 55, 56, 57, 58, 59, 60, 61] (by decide +kernel) (by decide +kernel)
set_option maxRecDepth 20000 in
theorem gX1_keepsTheorem_X0_becomeDuplicate : GoodIn wsX1_keepsTheorem (wsV RX1 81 RX0 yX0_becomeDuplicate wsX0_becomeDuplicate) := goodIn_app (goodIn_of _ (by decide +kernel)) ggX1_keepsTheorem_X0_becomeDuplicate
set_option maxRecDepth 20000 in
theorem ggX1_keepsTheorem_X1_showsChange : GoodIn wsX1_keepsTheorem wsX1_showsChange := goodIn_r _ [38, 2, 39, 3, 4, 40, 41, 42, 8, 43, 14, 13, 44, 45, 46, 47, 23, 48, 49, 50, 51, 52, 53, 62, 63, 64, 65, 54, 55, 56, 57, 58, 59, 60, 61] (by decide +kernel) (by decide +kernel)
set_option maxRecDepth 20000 in
theorem gX1_keepsTheorem_X1_showsChange : GoodIn wsX1_keepsTheorem (wsV RX1 201 RX1 yX1_showsChange wsX1_showsChange) := goodIn_app (goodIn_of _ (by decide +kernel)) ggX1_keepsTheorem_X1_showsChange
theorem dX1_keepsTheorem_0 : decode cX1_keepsTheorem 0 = .ok (.aload_n 1, 1) := by decide +kernel
theorem dX1_keepsTheorem_1 : decode cX1_keepsTheorem 1 = .ok (.invokevirtual 198, 3) := by decide +kernel
theorem dX1_keepsTheorem_4 : decode cX1_keepsTheorem 4 = .ok (.ifCond .ne 5, 3) := by decide +kernel
theorem dX1_keepsTheorem_7 : decode cX1_keepsTheorem 7 = .ok (.iconst 0, 1) := by decide +kernel
theorem dX1_keepsTheorem_8 : decode cX1_keepsTheorem 8 = .ok (.ireturn, 1) := by decide +kernel
theorem dX1_keepsTheorem_9 : decode cX1_keepsTheorem 9 = .ok (.aload_n 1, 1) := by decide +kernel
theorem dX1_keepsTheorem_10 : decode cX1_keepsTheorem 10 = .ok (.getfield 85, 3) := by decide +kernel
theorem dX1_keepsTheorem_13 : decode cX1_keepsTheorem 13 = .ok (.ifCond .eq 5, 3) := by decide +kernel
theorem dX1_keepsTheorem_16 : decode cX1_keepsTheorem 16 = .ok (.iconst 1, 1) := by decide +kernel
theorem dX1_keepsTheorem_17 : decode cX1_keepsTheorem 17 = .ok (.ireturn, 1) := by decide +kernel
theorem dX1_keepsTheorem_18 : decode cX1_keepsTheorem 18 = .ok (.aload_n 1, 1) := by decide +kernel
theorem dX1_keepsTheorem_19 : decode cX1_keepsTheorem 19 = .ok (.invokevirtual 66, 3) := by decide +kernel
theorem dX1_keepsTheorem_22 : decode cX1_keepsTheorem 22 = .ok (.istore_n 2, 1) := by decide +kernel
theorem dX1_keepsTheorem_23 : decode cX1_keepsTheorem 23 = .ok (.aload_n 0, 1) := by decide +kernel
theorem dX1_keepsTheorem_24 : decode cX1_keepsTheorem 24 = .ok (.getfield 21, 3) := by decide +kernel
theorem dX1_keepsTheorem_27 : decode cX1_keepsTheorem 27 = .ok (.aload_n 1, 1) := by decide +kernel
theorem dX1_keepsTheorem_28 : decode cX1_keepsTheorem 28 = .ok (.aload_n 1, 1) := by decide +kernel
theorem dX1_keepsTheorem_29 : decode cX1_keepsTheorem 29 = .ok (.getfield 63, 3) := by decide +kernel
theorem dX1_keepsTheorem_32 : decode cX1_keepsTheorem 32 = .ok (.iload_n 2, 1) := by decide +kernel
theorem dX1_keepsTheorem_33 : decode cX1_keepsTheorem 33 = .ok (.invokevirtual 70, 3) := by decide +kernel
theorem dX1_keepsTheorem_36 : decode cX1_keepsTheorem 36 = .ok (.aload_n 0, 1) := by decide +kernel
theorem dX1_keepsTheorem_37 : decode cX1_keepsTheorem 37 = .ok (.getfield 25, 3) := by decide +kernel
theorem dX1_keepsTheorem_40 : decode cX1_keepsTheorem 40 = .ok (.aload_n 1, 1) := by decide +kernel
theorem dX1_keepsTheorem_41 : decode cX1_keepsTheorem 41 = .ok (.invokevirtual 81, 3) := by decide +kernel
theorem dX1_keepsTheorem_44 : decode cX1_keepsTheorem 44 = .ok (.iconst 0, 1) := by decide +kernel
theorem dX1_keepsTheorem_45 : decode cX1_keepsTheorem 45 = .ok (.istore_n 3, 1) := by decide +kernel
theorem dX1_keepsTheorem_46 : decode cX1_keepsTheorem 46 = .ok (.iload_n 3, 1) := by decide +kernel
theorem dX1_keepsTheorem_47 : decode cX1_keepsTheorem 47 = .ok (.iload_n 2, 1) := by decide +kernel
theorem dX1_keepsTheorem_48 : decode cX1_keepsTheorem 48 = .ok (.if_icmp .ge 20, 3) := by decide +kernel
theorem dX1_keepsTheorem_51 : decode cX1_keepsTheorem 51 = .ok (.aload_n 0, 1) := by decide +kernel
theorem dX1_keepsTheorem_52 : decode cX1_keepsTheorem 52 = .ok (.aload_n 1, 1) := by decide +kernel
theorem dX1_keepsTheorem_53 : decode cX1_keepsTheorem 53 = .ok (.iload_n 3, 1) := by decide +kernel
theorem dX1_keepsTheorem_54 : decode cX1_keepsTheorem 54 = .ok (.invokevirtual 201, 3) := by decide +kernel
theorem dX1_keepsTheorem_57 : decode cX1_keepsTheorem 57 = .ok (.ifCond .ne 5, 3) := by decide +kernel
theorem dX1_keepsTheorem_60 : decode cX1_keepsTheorem 60 = .ok (.iconst 0, 1) := by decide +kernel
theorem dX1_keepsTheorem_61 : decode cX1_keepsTheorem 61 = .ok (.ireturn, 1) := by decide +kernel
theorem dX1_keepsTheorem_62 : decode cX1_keepsTheorem 62 = .ok (.iinc 3 1, 3) := by decide +kernel
theorem dX1_keepsTheorem_65 : decode cX1_keepsTheorem 65 = .ok (.goto (-19), 3) := by decide +kernel
theorem dX1_keepsTheorem_68 : decode cX1_keepsTheorem 68 = .ok (.iconst 1, 1) := by decide +kernel
theorem dX1_keepsTheorem_69 : decode cX1_keepsTheorem 69 = .ok (.ireturn, 1) := by decide +kernel
set_option maxRecDepth 20000 in
theorem ggX1_showsChange_X0_valueAt : GoodIn wsX1_showsChange wsX0_valueAt := goodIn_r _ [9, 10, 11, 27, 28, 29, 30, 31, 32, 33, 34] (by decide +kernel) (by decide +kernel)
set_option maxRecDepth 20000 in
theorem gX1_showsChange_X0_valueAt : GoodIn wsX1_showsChange (wsV RX1 149 RX0 yX0_valueAt wsX0_valueAt) := goodIn_app (goodIn_of _ (by decide +kernel)) ggX1_showsChange_X0_valueAt
set_option maxRecDepth 20000 in
theorem ggX1_showsChange_X0_cut : GoodIn wsX1_showsChange wsX0_cut := goodIn_r _ [15, 16, 17, 27, 28, 29, 30, 31, 32, 33, 34] (by decide +kernel) (by decide +kernel)
set_option maxRecDepth 20000 in
theorem gX1_showsChange_X0_cut : GoodIn wsX1_showsChange (wsV RX1 207 RX0 yX0_cut wsX0_cut) := goodIn_app (goodIn_of _ (by decide +kernel)) ggX1_showsChange_X0_cut
set_option maxRecDepth 20000 in
theorem ggX1_showsChange_X0_changeAt : GoodIn wsX1_showsChange wsX0_changeAt := goodIn_r _ [21, 10, 11, 22, 13, 14, 8, 15, 16, 17, 27, 28, 29, 30, 31, 32, 33, 34] (by decide +kernel) (by decide +kernel)
set_option maxRecDepth 20000 in
theorem gX1_showsChange_X0_changeAt : GoodIn wsX1_showsChange (wsV RX1 153 RX0 yX0_changeAt wsX0_changeAt) := goodIn_app (goodIn_of _ (by decide +kernel)) ggX1_showsChange_X0_changeAt
theorem dX1_showsChange_0 : decode cX1_showsChange 0 = .ok (.aload_n 0, 1) := by decide +kernel
theorem dX1_showsChange_1 : decode cX1_showsChange 1 = .ok (.getfield 21, 3) := by decide +kernel
theorem dX1_showsChange_4 : decode cX1_showsChange 4 = .ok (.iload_n 2, 1) := by decide +kernel
theorem dX1_showsChange_5 : decode cX1_showsChange 5 = .ok (.invokevirtual 149, 3) := by decide +kernel
theorem dX1_showsChange_8 : decode cX1_showsChange 8 = .ok (.lstore_n 3, 1) := by decide +kernel
theorem dX1_showsChange_9 : decode cX1_showsChange 9 = .ok (.aload_n 0, 1) := by decide +kernel
theorem dX1_showsChange_10 : decode cX1_showsChange 10 = .ok (.getfield 21, 3) := by decide +kernel
theorem dX1_showsChange_13 : decode cX1_showsChange 13 = .ok (.lload_n 3, 1) := by decide +kernel
theorem dX1_showsChange_14 : decode cX1_showsChange 14 = .ok (.ldc2_w 205, 3) := by decide +kernel
theorem dX1_showsChange_17 : decode cX1_showsChange 17 = .ok (.lxor, 1) := by decide +kernel
theorem dX1_showsChange_18 : decode cX1_showsChange 18 = .ok (.invokevirtual 207, 3) := by decide +kernel
theorem dX1_showsChange_21 : decode cX1_showsChange 21 = .ok (.lstore 5, 2) := by decide +kernel
theorem dX1_showsChange_23 : decode cX1_showsChange 23 = .ok (.aload_n 0, 1) := by decide +kernel
theorem dX1_showsChange_24 : decode cX1_showsChange 24 = .ok (.getfield 21, 3) := by decide +kernel
theorem dX1_showsChange_27 : decode cX1_showsChange 27 = .ok (.iload_n 2, 1) := by decide +kernel
theorem dX1_showsChange_28 : decode cX1_showsChange 28 = .ok (.lload 5, 2) := by decide +kernel
theorem dX1_showsChange_30 : decode cX1_showsChange 30 = .ok (.invokevirtual 153, 3) := by decide +kernel
theorem dX1_showsChange_33 : decode cX1_showsChange 33 = .ok (.aload_n 1, 1) := by decide +kernel
theorem dX1_showsChange_34 : decode cX1_showsChange 34 = .ok (.aload_n 1, 1) := by decide +kernel
theorem dX1_showsChange_35 : decode cX1_showsChange 35 = .ok (.getfield 63, 3) := by decide +kernel
theorem dX1_showsChange_38 : decode cX1_showsChange 38 = .ok (.iload_n 2, 1) := by decide +kernel
theorem dX1_showsChange_39 : decode cX1_showsChange 39 = .ok (.iadd, 1) := by decide +kernel
theorem dX1_showsChange_40 : decode cX1_showsChange 40 = .ok (.invokevirtual 149, 3) := by decide +kernel
theorem dX1_showsChange_43 : decode cX1_showsChange 43 = .ok (.lload 5, 2) := by decide +kernel
theorem dX1_showsChange_45 : decode cX1_showsChange 45 = .ok (.lcmp, 1) := by decide +kernel
theorem dX1_showsChange_46 : decode cX1_showsChange 46 = .ok (.ifCond .ne 29, 3) := by decide +kernel
theorem dX1_showsChange_49 : decode cX1_showsChange 49 = .ok (.aload_n 0, 1) := by decide +kernel
theorem dX1_showsChange_50 : decode cX1_showsChange 50 = .ok (.getfield 25, 3) := by decide +kernel
theorem dX1_showsChange_53 : decode cX1_showsChange 53 = .ok (.aload_n 0, 1) := by decide +kernel
theorem dX1_showsChange_54 : decode cX1_showsChange 54 = .ok (.getfield 25, 3) := by decide +kernel
theorem dX1_showsChange_57 : decode cX1_showsChange 57 = .ok (.getfield 63, 3) := by decide +kernel
theorem dX1_showsChange_60 : decode cX1_showsChange 60 = .ok (.iload_n 2, 1) := by decide +kernel
theorem dX1_showsChange_61 : decode cX1_showsChange 61 = .ok (.iadd, 1) := by decide +kernel
theorem dX1_showsChange_62 : decode cX1_showsChange 62 = .ok (.invokevirtual 149, 3) := by decide +kernel
theorem dX1_showsChange_65 : decode cX1_showsChange 65 = .ok (.lload 5, 2) := by decide +kernel
theorem dX1_showsChange_67 : decode cX1_showsChange 67 = .ok (.lcmp, 1) := by decide +kernel
theorem dX1_showsChange_68 : decode cX1_showsChange 68 = .ok (.ifCond .ne 7, 3) := by decide +kernel
theorem dX1_showsChange_71 : decode cX1_showsChange 71 = .ok (.iconst 1, 1) := by decide +kernel
theorem dX1_showsChange_72 : decode cX1_showsChange 72 = .ok (.goto 4, 3) := by decide +kernel
theorem dX1_showsChange_75 : decode cX1_showsChange 75 = .ok (.iconst 0, 1) := by decide +kernel
theorem dX1_showsChange_76 : decode cX1_showsChange 76 = .ok (.istore 7, 2) := by decide +kernel
theorem dX1_showsChange_78 : decode cX1_showsChange 78 = .ok (.aload_n 0, 1) := by decide +kernel
theorem dX1_showsChange_79 : decode cX1_showsChange 79 = .ok (.getfield 21, 3) := by decide +kernel
theorem dX1_showsChange_82 : decode cX1_showsChange 82 = .ok (.iload_n 2, 1) := by decide +kernel
theorem dX1_showsChange_83 : decode cX1_showsChange 83 = .ok (.lload_n 3, 1) := by decide +kernel
theorem dX1_showsChange_84 : decode cX1_showsChange 84 = .ok (.invokevirtual 153, 3) := by decide +kernel
theorem dX1_showsChange_87 : decode cX1_showsChange 87 = .ok (.iload 7, 2) := by decide +kernel
theorem dX1_showsChange_89 : decode cX1_showsChange 89 = .ok (.ireturn, 1) := by decide +kernel
set_option maxRecDepth 20000 in
theorem ggX1_sumOfRow_X1_summed : GoodIn wsX1_sumOfRow wsX1_summed := goodIn_r _ [4, 5] (by decide +kernel) (by decide +kernel)
set_option maxRecDepth 20000 in
theorem gX1_sumOfRow_X1_summed : GoodIn wsX1_sumOfRow (va_wsS RX1 210 yX1_summed wsX1_summed) := goodIn_app (goodIn_of _ (by decide +kernel)) ggX1_sumOfRow_X1_summed
theorem dX1_sumOfRow_0 : decode cX1_sumOfRow 0 = .ok (.lload_n 0, 1) := by decide +kernel
theorem dX1_sumOfRow_1 : decode cX1_sumOfRow 1 = .ok (.lstore_n 3, 1) := by decide +kernel
theorem dX1_sumOfRow_2 : decode cX1_sumOfRow 2 = .ok (.iconst 0, 1) := by decide +kernel
theorem dX1_sumOfRow_3 : decode cX1_sumOfRow 3 = .ok (.istore 5, 2) := by decide +kernel
theorem dX1_sumOfRow_5 : decode cX1_sumOfRow 5 = .ok (.iload 5, 2) := by decide +kernel
theorem dX1_sumOfRow_7 : decode cX1_sumOfRow 7 = .ok (.aload_n 2, 1) := by decide +kernel
theorem dX1_sumOfRow_8 : decode cX1_sumOfRow 8 = .ok (.arraylength, 1) := by decide +kernel
theorem dX1_sumOfRow_9 : decode cX1_sumOfRow 9 = .ok (.if_icmp .ge 18, 3) := by decide +kernel
theorem dX1_sumOfRow_12 : decode cX1_sumOfRow 12 = .ok (.lload_n 3, 1) := by decide +kernel
theorem dX1_sumOfRow_13 : decode cX1_sumOfRow 13 = .ok (.aload_n 2, 1) := by decide +kernel
theorem dX1_sumOfRow_14 : decode cX1_sumOfRow 14 = .ok (.iload 5, 2) := by decide +kernel
theorem dX1_sumOfRow_16 : decode cX1_sumOfRow 16 = .ok (.laload, 1) := by decide +kernel
theorem dX1_sumOfRow_17 : decode cX1_sumOfRow 17 = .ok (.invokestatic 210, 3) := by decide +kernel
theorem dX1_sumOfRow_20 : decode cX1_sumOfRow 20 = .ok (.lstore_n 3, 1) := by decide +kernel
theorem dX1_sumOfRow_21 : decode cX1_sumOfRow 21 = .ok (.iinc 5 1, 3) := by decide +kernel
theorem dX1_sumOfRow_24 : decode cX1_sumOfRow 24 = .ok (.goto (-19), 3) := by decide +kernel
theorem dX1_sumOfRow_27 : decode cX1_sumOfRow 27 = .ok (.lload_n 3, 1) := by decide +kernel
theorem dX1_sumOfRow_28 : decode cX1_sumOfRow 28 = .ok (.lreturn, 1) := by decide +kernel
theorem dX1_summed_0 : decode cX1_summed 0 = .ok (.ldc2_w 214, 3) := by decide +kernel
theorem dX1_summed_3 : decode cX1_summed 3 = .ok (.lload_n 0, 1) := by decide +kernel
theorem dX1_summed_4 : decode cX1_summed 4 = .ok (.lmul, 1) := by decide +kernel
theorem dX1_summed_5 : decode cX1_summed 5 = .ok (.lload_n 2, 1) := by decide +kernel
theorem dX1_summed_6 : decode cX1_summed 6 = .ok (.ladd, 1) := by decide +kernel
theorem dX1_summed_7 : decode cX1_summed 7 = .ok (.lreturn, 1) := by decide +kernel
set_option maxRecDepth 20000 in
theorem ggX1_slotOf_X1_checkIndex : GoodIn wsX1_slotOf wsX1_checkIndex := goodIn_ca (goodIn_r _ [5, 6, 7] (by decide +kernel) (by decide +kernel)) (goodIn_sub (fun _ h => List.mem_cons_of_mem _ (List.mem_append_right _ h)) (by decide +kernel))
set_option maxRecDepth 20000 in
theorem gX1_slotOf_X1_checkIndex : GoodIn wsX1_slotOf (va_wsS RX1 36 yX1_checkIndex wsX1_checkIndex) := goodIn_app (goodIn_of _ (by decide +kernel)) ggX1_slotOf_X1_checkIndex
theorem dX1_slotOf_0 : decode cX1_slotOf 0 = .ok (.iload_n 1, 1) := by decide +kernel
theorem dX1_slotOf_1 : decode cX1_slotOf 1 = .ok (.bipush 8, 2) := by decide +kernel
theorem dX1_slotOf_3 : decode cX1_slotOf 3 = .ok (.invokestatic 36, 3) := by decide +kernel
theorem dX1_slotOf_6 : decode cX1_slotOf 6 = .ok (.aload_n 0, 1) := by decide +kernel
theorem dX1_slotOf_7 : decode cX1_slotOf 7 = .ok (.getfield 16, 3) := by decide +kernel
theorem dX1_slotOf_10 : decode cX1_slotOf 10 = .ok (.iload_n 1, 1) := by decide +kernel
theorem dX1_slotOf_11 : decode cX1_slotOf 11 = .ok (.aaload, 1) := by decide +kernel
theorem dX1_slotOf_12 : decode cX1_slotOf 12 = .ok (.areturn, 1) := by decide +kernel
set_option maxRecDepth 20000 in
theorem ggX1_windowOf_X1_slotOf : GoodIn wsX1_windowOf wsX1_slotOf := goodIn_ca (goodIn_r _ [7, 8, 9, 10, 6, 11, 1, 2, 18, 19, 20, 21] (by decide +kernel) (by decide +kernel)) (goodIn_sub (fun _ h => List.mem_cons_of_mem _ (List.mem_append_right _ h)) (by decide +kernel))
set_option maxRecDepth 20000 in
theorem gX1_windowOf_X1_slotOf : GoodIn wsX1_windowOf (wsV RX1 40 RX1 yX1_slotOf wsX1_slotOf) := goodIn_app (goodIn_of _ (by decide +kernel)) ggX1_windowOf_X1_slotOf
set_option maxRecDepth 20000 in
theorem ggX1_windowOf_X0_isThere : GoodIn wsX1_windowOf wsX0_isThere := goodIn_r _ [16, 17, 22, 23, 24, 25, 26, 27, 28, 29] (by decide +kernel) (by decide +kernel)
set_option maxRecDepth 20000 in
theorem gX1_windowOf_X0_isThere : GoodIn wsX1_windowOf (wsV RX1 48 RX0 yX0_isThere wsX0_isThere) := goodIn_app (goodIn_of _ (by decide +kernel)) ggX1_windowOf_X0_isThere
theorem dX1_windowOf_0 : decode cX1_windowOf 0 = .ok (.aload_n 0, 1) := by decide +kernel
theorem dX1_windowOf_1 : decode cX1_windowOf 1 = .ok (.iload_n 1, 1) := by decide +kernel
theorem dX1_windowOf_2 : decode cX1_windowOf 2 = .ok (.invokevirtual 40, 3) := by decide +kernel
theorem dX1_windowOf_5 : decode cX1_windowOf 5 = .ok (.astore_n 2, 1) := by decide +kernel
theorem dX1_windowOf_6 : decode cX1_windowOf 6 = .ok (.aload_n 2, 1) := by decide +kernel
theorem dX1_windowOf_7 : decode cX1_windowOf 7 = .ok (.invokevirtual 48, 3) := by decide +kernel
theorem dX1_windowOf_10 : decode cX1_windowOf 10 = .ok (.ifCond .ne 13, 3) := by decide +kernel
theorem dX1_windowOf_13 : decode cX1_windowOf 13 = .ok (.new 216, 3) := by decide +kernel
theorem dX1_windowOf_16 : decode cX1_windowOf 16 = .ok (.dup, 1) := by decide +kernel
theorem dX1_windowOf_17 : decode cX1_windowOf 17 = .ok (.ldc 218, 2) := by decide +kernel
theorem dX1_windowOf_19 : decode cX1_windowOf 19 = .ok (.invokespecial 220, 3) := by decide +kernel
theorem dX1_windowOf_22 : decode cX1_windowOf 22 = .ok (.athrow, 1) := by decide +kernel
theorem dX1_windowOf_23 : decode cX1_windowOf 23 = .ok (.aload_n 2, 1) := by decide +kernel
theorem dX1_windowOf_24 : decode cX1_windowOf 24 = .ok (.areturn, 1) := by decide +kernel
set_option maxRecDepth 20000 in
theorem ggX1_rowOf_X1_checkIndex : GoodIn wsX1_rowOf wsX1_checkIndex := goodIn_ca (goodIn_r _ [5, 6, 7] (by decide +kernel) (by decide +kernel)) (goodIn_sub (fun _ h => List.mem_cons_of_mem _ (List.mem_append_right _ h)) (by decide +kernel))
set_option maxRecDepth 20000 in
theorem gX1_rowOf_X1_checkIndex : GoodIn wsX1_rowOf (va_wsS RX1 36 yX1_checkIndex wsX1_checkIndex) := goodIn_app (goodIn_of _ (by decide +kernel)) ggX1_rowOf_X1_checkIndex
theorem dX1_rowOf_0 : decode cX1_rowOf 0 = .ok (.iload_n 1, 1) := by decide +kernel
theorem dX1_rowOf_1 : decode cX1_rowOf 1 = .ok (.iconst 2, 1) := by decide +kernel
theorem dX1_rowOf_2 : decode cX1_rowOf 2 = .ok (.invokestatic 36, 3) := by decide +kernel
theorem dX1_rowOf_5 : decode cX1_rowOf 5 = .ok (.aload_n 0, 1) := by decide +kernel
theorem dX1_rowOf_6 : decode cX1_rowOf 6 = .ok (.getfield 11, 3) := by decide +kernel
theorem dX1_rowOf_9 : decode cX1_rowOf 9 = .ok (.iload_n 1, 1) := by decide +kernel
theorem dX1_rowOf_10 : decode cX1_rowOf 10 = .ok (.aaload, 1) := by decide +kernel
theorem dX1_rowOf_11 : decode cX1_rowOf 11 = .ok (.areturn, 1) := by decide +kernel
theorem dX1_checkIndex_0 : decode cX1_checkIndex 0 = .ok (.iload_n 0, 1) := by decide +kernel
theorem dX1_checkIndex_1 : decode cX1_checkIndex 1 = .ok (.ifCond .lt 8, 3) := by decide +kernel
theorem dX1_checkIndex_4 : decode cX1_checkIndex 4 = .ok (.iload_n 0, 1) := by decide +kernel
theorem dX1_checkIndex_5 : decode cX1_checkIndex 5 = .ok (.iload_n 1, 1) := by decide +kernel
theorem dX1_checkIndex_6 : decode cX1_checkIndex 6 = .ok (.if_icmp .lt 13, 3) := by decide +kernel
theorem dX1_checkIndex_9 : decode cX1_checkIndex 9 = .ok (.new 216, 3) := by decide +kernel
theorem dX1_checkIndex_12 : decode cX1_checkIndex 12 = .ok (.dup, 1) := by decide +kernel
theorem dX1_checkIndex_13 : decode cX1_checkIndex 13 = .ok (.ldc 221, 2) := by decide +kernel
theorem dX1_checkIndex_15 : decode cX1_checkIndex 15 = .ok (.invokespecial 220, 3) := by decide +kernel
theorem dX1_checkIndex_18 : decode cX1_checkIndex 18 = .ok (.athrow, 1) := by decide +kernel
theorem dX1_checkIndex_19 : decode cX1_checkIndex 19 = .ok (.return_, 1) := by decide +kernel
theorem dX1_checkPart_0 : decode cX1_checkPart 0 = .ok (.iload_n 0, 1) := by decide +kernel
theorem dX1_checkPart_1 : decode cX1_checkPart 1 = .ok (.ifCond .lt 19, 3) := by decide +kernel
theorem dX1_checkPart_4 : decode cX1_checkPart 4 = .ok (.iload_n 0, 1) := by decide +kernel
theorem dX1_checkPart_5 : decode cX1_checkPart 5 = .ok (.iload_n 2, 1) := by decide +kernel
theorem dX1_checkPart_6 : decode cX1_checkPart 6 = .ok (.if_icmp .gt 14, 3) := by decide +kernel
theorem dX1_checkPart_9 : decode cX1_checkPart 9 = .ok (.iload_n 1, 1) := by decide +kernel
theorem dX1_checkPart_10 : decode cX1_checkPart 10 = .ok (.ifCond .lt 10, 3) := by decide +kernel
theorem dX1_checkPart_13 : decode cX1_checkPart 13 = .ok (.iload_n 1, 1) := by decide +kernel
theorem dX1_checkPart_14 : decode cX1_checkPart 14 = .ok (.iload_n 2, 1) := by decide +kernel
theorem dX1_checkPart_15 : decode cX1_checkPart 15 = .ok (.iload_n 0, 1) := by decide +kernel
theorem dX1_checkPart_16 : decode cX1_checkPart 16 = .ok (.isub, 1) := by decide +kernel
theorem dX1_checkPart_17 : decode cX1_checkPart 17 = .ok (.if_icmp .le 13, 3) := by decide +kernel
theorem dX1_checkPart_20 : decode cX1_checkPart 20 = .ok (.new 216, 3) := by decide +kernel
theorem dX1_checkPart_23 : decode cX1_checkPart 23 = .ok (.dup, 1) := by decide +kernel
theorem dX1_checkPart_24 : decode cX1_checkPart 24 = .ok (.ldc 223, 2) := by decide +kernel
theorem dX1_checkPart_26 : decode cX1_checkPart 26 = .ok (.invokespecial 220, 3) := by decide +kernel
theorem dX1_checkPart_29 : decode cX1_checkPart 29 = .ok (.athrow, 1) := by decide +kernel
theorem dX1_checkPart_30 : decode cX1_checkPart 30 = .ok (.return_, 1) := by decide +kernel
theorem dX1_checkBound_0 : decode cX1_checkBound 0 = .ok (.iload_n 0, 1) := by decide +kernel
theorem dX1_checkBound_1 : decode cX1_checkBound 1 = .ok (.ifCond .lt 8, 3) := by decide +kernel
theorem dX1_checkBound_4 : decode cX1_checkBound 4 = .ok (.iload_n 0, 1) := by decide +kernel
theorem dX1_checkBound_5 : decode cX1_checkBound 5 = .ok (.iload_n 1, 1) := by decide +kernel
theorem dX1_checkBound_6 : decode cX1_checkBound 6 = .ok (.if_icmp .le 13, 3) := by decide +kernel
theorem dX1_checkBound_9 : decode cX1_checkBound 9 = .ok (.new 160, 3) := by decide +kernel
theorem dX1_checkBound_12 : decode cX1_checkBound 12 = .ok (.dup, 1) := by decide +kernel
theorem dX1_checkBound_13 : decode cX1_checkBound 13 = .ok (.ldc 225, 2) := by decide +kernel
theorem dX1_checkBound_15 : decode cX1_checkBound 15 = .ok (.invokespecial 164, 3) := by decide +kernel
theorem dX1_checkBound_18 : decode cX1_checkBound 18 = .ok (.athrow, 1) := by decide +kernel
theorem dX1_checkBound_19 : decode cX1_checkBound 19 = .ok (.return_, 1) := by decide +kernel
theorem dX1_checkLength_0 : decode cX1_checkLength 0 = .ok (.iload_n 0, 1) := by decide +kernel
theorem dX1_checkLength_1 : decode cX1_checkLength 1 = .ok (.ifCond .lt 9, 3) := by decide +kernel
theorem dX1_checkLength_4 : decode cX1_checkLength 4 = .ok (.iload_n 0, 1) := by decide +kernel
theorem dX1_checkLength_5 : decode cX1_checkLength 5 = .ok (.bipush 64, 2) := by decide +kernel
theorem dX1_checkLength_7 : decode cX1_checkLength 7 = .ok (.if_icmp .le 13, 3) := by decide +kernel
theorem dX1_checkLength_10 : decode cX1_checkLength 10 = .ok (.new 160, 3) := by decide +kernel
theorem dX1_checkLength_13 : decode cX1_checkLength 13 = .ok (.dup, 1) := by decide +kernel
theorem dX1_checkLength_14 : decode cX1_checkLength 14 = .ok (.ldc 227, 2) := by decide +kernel
theorem dX1_checkLength_16 : decode cX1_checkLength 16 = .ok (.invokespecial 164, 3) := by decide +kernel
theorem dX1_checkLength_19 : decode cX1_checkLength 19 = .ok (.athrow, 1) := by decide +kernel
theorem dX1_checkLength_20 : decode cX1_checkLength 20 = .ok (.return_, 1) := by decide +kernel
theorem dX1_checkKind_0 : decode cX1_checkKind 0 = .ok (.iload_n 0, 1) := by decide +kernel
theorem dX1_checkKind_1 : decode cX1_checkKind 1 = .ok (.bipush 105, 2) := by decide +kernel
theorem dX1_checkKind_3 : decode cX1_checkKind 3 = .ok (.if_icmp .eq 31, 3) := by decide +kernel
theorem dX1_checkKind_6 : decode cX1_checkKind 6 = .ok (.iload_n 0, 1) := by decide +kernel
theorem dX1_checkKind_7 : decode cX1_checkKind 7 = .ok (.bipush 108, 2) := by decide +kernel
theorem dX1_checkKind_9 : decode cX1_checkKind 9 = .ok (.if_icmp .eq 25, 3) := by decide +kernel
theorem dX1_checkKind_12 : decode cX1_checkKind 12 = .ok (.iload_n 0, 1) := by decide +kernel
theorem dX1_checkKind_13 : decode cX1_checkKind 13 = .ok (.bipush 99, 2) := by decide +kernel
theorem dX1_checkKind_15 : decode cX1_checkKind 15 = .ok (.if_icmp .eq 19, 3) := by decide +kernel
theorem dX1_checkKind_18 : decode cX1_checkKind 18 = .ok (.iload_n 0, 1) := by decide +kernel
theorem dX1_checkKind_19 : decode cX1_checkKind 19 = .ok (.bipush 115, 2) := by decide +kernel
theorem dX1_checkKind_21 : decode cX1_checkKind 21 = .ok (.if_icmp .eq 13, 3) := by decide +kernel
theorem dX1_checkKind_24 : decode cX1_checkKind 24 = .ok (.new 160, 3) := by decide +kernel
theorem dX1_checkKind_27 : decode cX1_checkKind 27 = .ok (.dup, 1) := by decide +kernel
theorem dX1_checkKind_28 : decode cX1_checkKind 28 = .ok (.ldc 229, 2) := by decide +kernel
theorem dX1_checkKind_30 : decode cX1_checkKind 30 = .ok (.invokespecial 164, 3) := by decide +kernel
theorem dX1_checkKind_33 : decode cX1_checkKind 33 = .ok (.athrow, 1) := by decide +kernel
theorem dX1_checkKind_34 : decode cX1_checkKind 34 = .ok (.return_, 1) := by decide +kernel
theorem dX1_checkMany_0 : decode cX1_checkMany 0 = .ok (.iload_n 0, 1) := by decide +kernel
theorem dX1_checkMany_1 : decode cX1_checkMany 1 = .ok (.ifCond .ge 13, 3) := by decide +kernel
theorem dX1_checkMany_4 : decode cX1_checkMany 4 = .ok (.new 160, 3) := by decide +kernel
theorem dX1_checkMany_7 : decode cX1_checkMany 7 = .ok (.dup, 1) := by decide +kernel
theorem dX1_checkMany_8 : decode cX1_checkMany 8 = .ok (.ldc 231, 2) := by decide +kernel
theorem dX1_checkMany_10 : decode cX1_checkMany 10 = .ok (.invokespecial 164, 3) := by decide +kernel
theorem dX1_checkMany_13 : decode cX1_checkMany 13 = .ok (.athrow, 1) := by decide +kernel
theorem dX1_checkMany_14 : decode cX1_checkMany 14 = .ok (.return_, 1) := by decide +kernel
theorem dX1_checkWritable_0 : decode cX1_checkWritable 0 = .ok (.aload_n 0, 1) := by decide +kernel
theorem dX1_checkWritable_1 : decode cX1_checkWritable 1 = .ok (.getfield 85, 3) := by decide +kernel
theorem dX1_checkWritable_4 : decode cX1_checkWritable 4 = .ok (.ifCond .eq 13, 3) := by decide +kernel
theorem dX1_checkWritable_7 : decode cX1_checkWritable 7 = .ok (.new 233, 3) := by decide +kernel
theorem dX1_checkWritable_10 : decode cX1_checkWritable 10 = .ok (.dup, 1) := by decide +kernel
theorem dX1_checkWritable_11 : decode cX1_checkWritable 11 = .ok (.ldc 235, 2) := by decide +kernel
theorem dX1_checkWritable_13 : decode cX1_checkWritable 13 = .ok (.invokespecial 237, 3) := by decide +kernel
theorem dX1_checkWritable_16 : decode cX1_checkWritable 16 = .ok (.athrow, 1) := by decide +kernel
theorem dX1_checkWritable_17 : decode cX1_checkWritable 17 = .ok (.return_, 1) := by decide +kernel
set_option maxRecDepth 20000 in
theorem ggX1_checkEnoughToGet_X0_rest : GoodIn wsX1_checkEnoughToGet wsX0_rest := goodIn_r _ [7, 8, 9, 10, 11, 12, 13, 14, 15, 16, 17] (by decide +kernel) (by decide +kernel)
set_option maxRecDepth 20000 in
theorem gX1_checkEnoughToGet_X0_rest : GoodIn wsX1_checkEnoughToGet (wsV RX1 66 RX0 yX0_rest wsX0_rest) := goodIn_app (goodIn_of _ (by decide +kernel)) ggX1_checkEnoughToGet_X0_rest
theorem dX1_checkEnoughToGet_0 : decode cX1_checkEnoughToGet 0 = .ok (.iload_n 1, 1) := by decide +kernel
theorem dX1_checkEnoughToGet_1 : decode cX1_checkEnoughToGet 1 = .ok (.aload_n 0, 1) := by decide +kernel
theorem dX1_checkEnoughToGet_2 : decode cX1_checkEnoughToGet 2 = .ok (.invokevirtual 66, 3) := by decide +kernel
theorem dX1_checkEnoughToGet_5 : decode cX1_checkEnoughToGet 5 = .ok (.if_icmp .le 13, 3) := by decide +kernel
theorem dX1_checkEnoughToGet_8 : decode cX1_checkEnoughToGet 8 = .ok (.new 168, 3) := by decide +kernel
theorem dX1_checkEnoughToGet_11 : decode cX1_checkEnoughToGet 11 = .ok (.dup, 1) := by decide +kernel
theorem dX1_checkEnoughToGet_12 : decode cX1_checkEnoughToGet 12 = .ok (.ldc 240, 2) := by decide +kernel
theorem dX1_checkEnoughToGet_14 : decode cX1_checkEnoughToGet 14 = .ok (.invokespecial 172, 3) := by decide +kernel
theorem dX1_checkEnoughToGet_17 : decode cX1_checkEnoughToGet 17 = .ok (.athrow, 1) := by decide +kernel
theorem dX1_checkEnoughToGet_18 : decode cX1_checkEnoughToGet 18 = .ok (.return_, 1) := by decide +kernel
set_option maxRecDepth 20000 in
theorem ggX1_checkEnoughToPut_X0_rest : GoodIn wsX1_checkEnoughToPut wsX0_rest := goodIn_r _ [7, 8, 9, 10, 11, 12, 13, 14, 15, 16, 17] (by decide +kernel) (by decide +kernel)
set_option maxRecDepth 20000 in
theorem gX1_checkEnoughToPut_X0_rest : GoodIn wsX1_checkEnoughToPut (wsV RX1 66 RX0 yX0_rest wsX0_rest) := goodIn_app (goodIn_of _ (by decide +kernel)) ggX1_checkEnoughToPut_X0_rest
theorem dX1_checkEnoughToPut_0 : decode cX1_checkEnoughToPut 0 = .ok (.iload_n 1, 1) := by decide +kernel
theorem dX1_checkEnoughToPut_1 : decode cX1_checkEnoughToPut 1 = .ok (.aload_n 0, 1) := by decide +kernel
theorem dX1_checkEnoughToPut_2 : decode cX1_checkEnoughToPut 2 = .ok (.invokevirtual 66, 3) := by decide +kernel
theorem dX1_checkEnoughToPut_5 : decode cX1_checkEnoughToPut 5 = .ok (.if_icmp .le 13, 3) := by decide +kernel
theorem dX1_checkEnoughToPut_8 : decode cX1_checkEnoughToPut 8 = .ok (.new 108, 3) := by decide +kernel
theorem dX1_checkEnoughToPut_11 : decode cX1_checkEnoughToPut 11 = .ok (.dup, 1) := by decide +kernel
theorem dX1_checkEnoughToPut_12 : decode cX1_checkEnoughToPut 12 = .ok (.ldc 240, 2) := by decide +kernel
theorem dX1_checkEnoughToPut_14 : decode cX1_checkEnoughToPut 14 = .ok (.invokespecial 112, 3) := by decide +kernel
theorem dX1_checkEnoughToPut_17 : decode cX1_checkEnoughToPut 17 = .ok (.athrow, 1) := by decide +kernel
theorem dX1_checkEnoughToPut_18 : decode cX1_checkEnoughToPut 18 = .ok (.return_, 1) := by decide +kernel
theorem dJ9_min_7cf53_0 : decode cJ9_min_7cf53 0 = .ok (.iload_n 0, 1) := by decide +kernel
theorem dJ9_min_7cf53_1 : decode cJ9_min_7cf53 1 = .ok (.iload_n 1, 1) := by decide +kernel
theorem dJ9_min_7cf53_2 : decode cJ9_min_7cf53 2 = .ok (.if_icmp .gt 7, 3) := by decide +kernel
theorem dJ9_min_7cf53_5 : decode cJ9_min_7cf53 5 = .ok (.iload_n 0, 1) := by decide +kernel
theorem dJ9_min_7cf53_6 : decode cJ9_min_7cf53 6 = .ok (.goto 4, 3) := by decide +kernel
theorem dJ9_min_7cf53_9 : decode cJ9_min_7cf53 9 = .ok (.iload_n 1, 1) := by decide +kernel
theorem dJ9_min_7cf53_10 : decode cJ9_min_7cf53 10 = .ok (.ireturn, 1) := by decide +kernel
