def RL : String := "WindowhouseLaw"
abbrev cL_make : ByteArray := method_3_code
def yL_make : MethodName := ⟨RL, "make", "(LWindowhouse;II[J)I"⟩
abbrev cL_rowAt : ByteArray := method_4_code
def yL_rowAt : MethodName := ⟨RL, "rowAt", "(LWindowhouse;II[J)I"⟩
abbrev cL_rowPut : ByteArray := method_5_code
def yL_rowPut : MethodName := ⟨RL, "rowPut", "(LWindowhouse;III[J)I"⟩
abbrev cL_allocate : ByteArray := method_6_code
def yL_allocate : MethodName := ⟨RL, "allocate", "(LWindowhouse;ICI[J)I"⟩
abbrev cL_wrap : ByteArray := method_7_code
def yL_wrap : MethodName := ⟨RL, "wrap", "(LWindowhouse;II[J)I"⟩
abbrev cL_kind : ByteArray := method_8_code
def yL_kind : MethodName := ⟨RL, "kind", "(LWindowhouse;I[J)I"⟩
abbrev cL_capacity : ByteArray := method_9_code
def yL_capacity : MethodName := ⟨RL, "capacity", "(LWindowhouse;I[J)I"⟩
abbrev cL_place : ByteArray := method_10_code
def yL_place : MethodName := ⟨RL, "place", "(LWindowhouse;I[J)I"⟩
abbrev cL_end : ByteArray := method_11_code
def yL_end : MethodName := ⟨RL, "end", "(LWindowhouse;I[J)I"⟩
abbrev cL_left : ByteArray := method_12_code
def yL_left : MethodName := ⟨RL, "left", "(LWindowhouse;I[J)I"⟩
abbrev cL_hasLeft : ByteArray := method_13_code
def yL_hasLeft : MethodName := ⟨RL, "hasLeft", "(LWindowhouse;I[J)I"⟩
abbrev cL_isReadOnly : ByteArray := method_14_code
def yL_isReadOnly : MethodName := ⟨RL, "isReadOnly", "(LWindowhouse;I[J)I"⟩
abbrev cL_placeAt : ByteArray := method_15_code
def yL_placeAt : MethodName := ⟨RL, "placeAt", "(LWindowhouse;II[J)I"⟩
abbrev cL_endAt : ByteArray := method_16_code
def yL_endAt : MethodName := ⟨RL, "endAt", "(LWindowhouse;II[J)I"⟩
abbrev cL_mark : ByteArray := method_17_code
def yL_mark : MethodName := ⟨RL, "mark", "(LWindowhouse;I[J)I"⟩
abbrev cL_back : ByteArray := method_18_code
def yL_back : MethodName := ⟨RL, "back", "(LWindowhouse;I[J)I"⟩
abbrev cL_clear : ByteArray := method_19_code
def yL_clear : MethodName := ⟨RL, "clear", "(LWindowhouse;I[J)I"⟩
abbrev cL_flip : ByteArray := method_20_code
def yL_flip : MethodName := ⟨RL, "flip", "(LWindowhouse;I[J)I"⟩
abbrev cL_rewind : ByteArray := method_21_code
def yL_rewind : MethodName := ⟨RL, "rewind", "(LWindowhouse;I[J)I"⟩
abbrev cL_compact : ByteArray := method_22_code
def yL_compact : MethodName := ⟨RL, "compact", "(LWindowhouse;I[J)I"⟩
abbrev cL_get : ByteArray := method_23_code
def yL_get : MethodName := ⟨RL, "get", "(LWindowhouse;I[J)I"⟩
abbrev cL_put : ByteArray := method_24_code
def yL_put : MethodName := ⟨RL, "put", "(LWindowhouse;IJ[J)I"⟩
abbrev cL_getAt : ByteArray := method_25_code
def yL_getAt : MethodName := ⟨RL, "getAt", "(LWindowhouse;II[J)I"⟩
abbrev cL_putAt : ByteArray := method_26_code
def yL_putAt : MethodName := ⟨RL, "putAt", "(LWindowhouse;IIJ[J)I"⟩
abbrev cL_fill : ByteArray := method_27_code
def yL_fill : MethodName := ⟨RL, "fill", "(LWindowhouse;IIJJ[J)I"⟩
abbrev cL_pour : ByteArray := method_28_code
def yL_pour : MethodName := ⟨RL, "pour", "(LWindowhouse;III[J)I"⟩
abbrev cL_slice : ByteArray := method_29_code
def yL_slice : MethodName := ⟨RL, "slice", "(LWindowhouse;II[J)I"⟩
abbrev cL_sliceAt : ByteArray := method_30_code
def yL_sliceAt : MethodName := ⟨RL, "sliceAt", "(LWindowhouse;IIII[J)I"⟩
abbrev cL_duplicate : ByteArray := method_31_code
def yL_duplicate : MethodName := ⟨RL, "duplicate", "(LWindowhouse;II[J)I"⟩
abbrev cL_readOnly : ByteArray := method_32_code
def yL_readOnly : MethodName := ⟨RL, "readOnly", "(LWindowhouse;II[J)I"⟩
abbrev cL_signAt : ByteArray := method_33_code
def yL_signAt : MethodName := ⟨RL, "signAt", "(LWindowhouse;II[J)I"⟩
abbrev cL_signsLeft : ByteArray := method_34_code
def yL_signsLeft : MethodName := ⟨RL, "signsLeft", "(LWindowhouse;I[J)I"⟩
abbrev cL_append : ByteArray := method_35_code
def yL_append : MethodName := ⟨RL, "append", "(LWindowhouse;IC[J)I"⟩
abbrev cL_text : ByteArray := method_36_code
def yL_text : MethodName := ⟨RL, "text", "(LWindowhouse;I[J)I"⟩
abbrev cL_isAlike : ByteArray := method_37_code
def yL_isAlike : MethodName := ⟨RL, "isAlike", "(LWindowhouse;II[J)I"⟩
abbrev cL_fullShare : ByteArray := method_38_code
def yL_fullShare : MethodName := ⟨RL, "fullShare", "(LWindowhouse;I[D)I"⟩
abbrev cL_meanLeft : ByteArray := method_39_code
def yL_meanLeft : MethodName := ⟨RL, "meanLeft", "(LWindowhouse;[D)I"⟩
abbrev cL_law : ByteArray := code
def yL_law : MethodName := ⟨RL, "law", "([I)Z"⟩
def wsL_make : List Cond := .codeWith yL_make cL_make 5 (some .int) [(0, 10, 13, 13), (0, 10, 17, 15)] :: ([.classLink RL 13 "java/lang/IndexOutOfBoundsException", .classLink RL 15 "java/lang/IllegalArgumentException", .methodLink RL 7 yX1_make, .instanceMethod yX1_make, .selects RX1 yX1_make yX1_make, .initialized RX1, .code yX1_make cX1_make 4 (some .int), .fieldLink RX1 11 "Windowhouse" "rows" "[[J", .arrayClass .long, .methodLink RX1 28 yX1_rowOf, .instanceMethod yX1_rowOf, .selects RX1 yX1_rowOf yX1_rowOf, .code yX1_rowOf cX1_rowOf 2 (some (.array .long)), .methodLink RX1 36 yX1_checkIndex, .static yX1_checkIndex, .code yX1_checkIndex cX1_checkIndex 2 none, .classLink RX1 216 "java/lang/IndexOutOfBoundsException", .initialized "java/lang/IndexOutOfBoundsException", .methodLink RX1 32 yX1_checkLength, .static yX1_checkLength, .code yX1_checkLength cX1_checkLength 1 none, .classLink RX1 160 "java/lang/IllegalArgumentException", .initialized "java/lang/IllegalArgumentException"] ++ wsX10 ++ (vx_atM "java/lang/ArrayIndexOutOfBoundsException" ["java/lang/IndexOutOfBoundsException", "java/lang/RuntimeException", "java/lang/Exception"]).filter goodWord ++ (vx_atS RX1 220 "java/lang/IndexOutOfBoundsException" ["java/lang/RuntimeException", "java/lang/Exception"]).filter goodWord ++ (vx_atS RX1 164 "java/lang/IllegalArgumentException" ["java/lang/RuntimeException", "java/lang/Exception"]).filter goodWord)
def wsL_rowAt : List Cond := .codeWith yL_rowAt cL_rowAt 5 (some .int) [(0, 10, 13, 13)] :: ([.classLink RL 13 "java/lang/IndexOutOfBoundsException", .methodLink RL 17 yX1_rowAt, .instanceMethod yX1_rowAt, .selects RX1 yX1_rowAt yX1_rowAt, .initialized RX1, .code yX1_rowAt cX1_rowAt 4 (some .int), .methodLink RX1 28 yX1_rowOf, .instanceMethod yX1_rowOf, .selects RX1 yX1_rowOf yX1_rowOf, .code yX1_rowOf cX1_rowOf 2 (some (.array .long)), .fieldLink RX1 11 "Windowhouse" "rows" "[[J", .methodLink RX1 36 yX1_checkIndex, .static yX1_checkIndex, .code yX1_checkIndex cX1_checkIndex 2 none, .classLink RX1 216 "java/lang/IndexOutOfBoundsException", .initialized "java/lang/IndexOutOfBoundsException"] ++ wsX10 ++ (vx_atM "java/lang/ArrayIndexOutOfBoundsException" ["java/lang/IndexOutOfBoundsException", "java/lang/RuntimeException", "java/lang/Exception"]).filter goodWord ++ (vx_atS RX1 220 "java/lang/IndexOutOfBoundsException" ["java/lang/RuntimeException", "java/lang/Exception"]).filter goodWord)
def wsL_rowPut : List Cond := .codeWith yL_rowPut cL_rowPut 6 (some .int) [(0, 12, 15, 13)] :: ([.classLink RL 13 "java/lang/IndexOutOfBoundsException", .methodLink RL 20 yX1_rowPut, .instanceMethod yX1_rowPut, .selects RX1 yX1_rowPut yX1_rowPut, .initialized RX1, .code yX1_rowPut cX1_rowPut 6 (some .int), .methodLink RX1 28 yX1_rowOf, .instanceMethod yX1_rowOf, .selects RX1 yX1_rowOf yX1_rowOf, .code yX1_rowOf cX1_rowOf 2 (some (.array .long)), .fieldLink RX1 11 "Windowhouse" "rows" "[[J", .methodLink RX1 36 yX1_checkIndex, .static yX1_checkIndex, .code yX1_checkIndex cX1_checkIndex 2 none, .classLink RX1 216 "java/lang/IndexOutOfBoundsException", .initialized "java/lang/IndexOutOfBoundsException"] ++ wsX10 ++ (vx_atM "java/lang/ArrayIndexOutOfBoundsException" ["java/lang/IndexOutOfBoundsException", "java/lang/RuntimeException", "java/lang/Exception"]).filter goodWord ++ (vx_atS RX1 220 "java/lang/IndexOutOfBoundsException" ["java/lang/RuntimeException", "java/lang/Exception"]).filter goodWord)
def wsL_allocate_r1 : List Cond := [Cond.classLink RL 13 "java/lang/IndexOutOfBoundsException", Cond.classLink RL 15 "java/lang/IllegalArgumentException", Cond.methodLink RL 24 yX1_allocate, Cond.instanceMethod yX1_allocate, Cond.selects RX1 yX1_allocate yX1_allocate, Cond.initialized RX1, Cond.code yX1_allocate cX1_allocate 6 (some .boolean), Cond.arrayClass .long, Cond.methodLink RX1 40 yX1_slotOf, Cond.instanceMethod yX1_slotOf, Cond.selects RX1 yX1_slotOf yX1_slotOf, Cond.code yX1_slotOf cX1_slotOf 2 (some (.object "Windowhouse$Window")), Cond.fieldLink RX1 16 "Windowhouse" "windows" "[LWindowhouse$Window;", Cond.methodLink RX1 36 yX1_checkIndex, Cond.static yX1_checkIndex, Cond.code yX1_checkIndex cX1_checkIndex 2 none, Cond.classLink RX1 216 "java/lang/IndexOutOfBoundsException", Cond.initialized "java/lang/IndexOutOfBoundsException", Cond.methodLink RX1 44 yX1_checkKind, Cond.static yX1_checkKind, Cond.code yX1_checkKind cX1_checkKind 1 none, Cond.classLink RX1 160 "java/lang/IllegalArgumentException", Cond.initialized "java/lang/IllegalArgumentException", Cond.methodLink RX1 32 yX1_checkLength]
def wsL_allocate_r2 : List Cond := [Cond.static yX1_checkLength, Cond.code yX1_checkLength cX1_checkLength 1 none, Cond.methodLink RX1 48 yX0_isThere, Cond.instanceMethod yX0_isThere, Cond.selects RX0 yX0_isThere yX0_isThere, Cond.initialized RX0, Cond.code yX0_isThere cX0_isThere 1 (some .boolean), Cond.fieldLink RX0 9 "Windowhouse$Window" "kind" "C", Cond.methodLink RX1 52 yX0_layOver, Cond.instanceMethod yX0_layOver, Cond.selects RX0 yX0_layOver yX0_layOver, Cond.code yX0_layOver cX0_layOver 3 none, Cond.fieldLink RX0 35 "Windowhouse$Window" "onlyReads" "Z", Cond.fieldLink RX0 15 "Windowhouse$Window" "store" "[J", Cond.fieldLink RX0 32 "Windowhouse$Window" "start" "I", Cond.fieldLink RX0 29 "Windowhouse$Window" "capacity" "I", Cond.methodLink RX0 39 yX0_moveTo, Cond.instanceMethod yX0_moveTo, Cond.selects RX0 yX0_moveTo yX0_moveTo, Cond.code yX0_moveTo cX0_moveTo 3 none, Cond.fieldLink RX0 26 "Windowhouse$Window" "place" "I", Cond.fieldLink RX0 23 "Windowhouse$Window" "end" "I", Cond.fieldLink RX0 19 "Windowhouse$Window" "mark" "I"]
def wsL_allocate : List Cond := .codeWith yL_allocate cL_allocate 6 (some .int) [(0, 19, 22, 13), (0, 19, 26, 15)] :: ((wsL_allocate_r1 ++ wsL_allocate_r2) ++ wsX10 ++ wsX00 ++ (vx_atM "java/lang/ArrayIndexOutOfBoundsException" ["java/lang/IndexOutOfBoundsException", "java/lang/RuntimeException", "java/lang/Exception"]).filter goodWord ++ (vx_atS RX1 220 "java/lang/IndexOutOfBoundsException" ["java/lang/RuntimeException", "java/lang/Exception"]).filter goodWord ++ (vx_atS RX1 164 "java/lang/IllegalArgumentException" ["java/lang/RuntimeException", "java/lang/Exception"]).filter goodWord)
def wsL_wrap_r1 : List Cond := [Cond.classLink RL 13 "java/lang/IndexOutOfBoundsException", Cond.methodLink RL 28 yX1_wrap, Cond.instanceMethod yX1_wrap, Cond.selects RX1 yX1_wrap yX1_wrap, Cond.initialized RX1, Cond.code yX1_wrap cX1_wrap 5 (some .int), Cond.fieldLink RX1 56 "Windowhouse$Window" "capacity" "I", Cond.methodLink RX1 40 yX1_slotOf, Cond.instanceMethod yX1_slotOf, Cond.selects RX1 yX1_slotOf yX1_slotOf, Cond.code yX1_slotOf cX1_slotOf 2 (some (.object "Windowhouse$Window")), Cond.fieldLink RX1 16 "Windowhouse" "windows" "[LWindowhouse$Window;", Cond.methodLink RX1 36 yX1_checkIndex, Cond.static yX1_checkIndex, Cond.code yX1_checkIndex cX1_checkIndex 2 none, Cond.classLink RX1 216 "java/lang/IndexOutOfBoundsException", Cond.initialized "java/lang/IndexOutOfBoundsException", Cond.methodLink RX1 28 yX1_rowOf, Cond.instanceMethod yX1_rowOf, Cond.selects RX1 yX1_rowOf yX1_rowOf, Cond.code yX1_rowOf cX1_rowOf 2 (some (.array .long)), Cond.fieldLink RX1 11 "Windowhouse" "rows" "[[J", Cond.methodLink RX1 52 yX0_layOver, Cond.instanceMethod yX0_layOver]
def wsL_wrap_r2 : List Cond := [Cond.selects RX0 yX0_layOver yX0_layOver, Cond.initialized RX0, Cond.code yX0_layOver cX0_layOver 3 none, Cond.fieldLink RX0 9 "Windowhouse$Window" "kind" "C", Cond.fieldLink RX0 35 "Windowhouse$Window" "onlyReads" "Z", Cond.fieldLink RX0 15 "Windowhouse$Window" "store" "[J", Cond.fieldLink RX0 32 "Windowhouse$Window" "start" "I", Cond.fieldLink RX0 29 "Windowhouse$Window" "capacity" "I", Cond.methodLink RX0 39 yX0_moveTo, Cond.instanceMethod yX0_moveTo, Cond.selects RX0 yX0_moveTo yX0_moveTo, Cond.code yX0_moveTo cX0_moveTo 3 none, Cond.fieldLink RX0 26 "Windowhouse$Window" "place" "I", Cond.fieldLink RX0 23 "Windowhouse$Window" "end" "I", Cond.fieldLink RX0 19 "Windowhouse$Window" "mark" "I"]
def wsL_wrap : List Cond := .codeWith yL_wrap cL_wrap 5 (some .int) [(0, 10, 13, 13)] :: ((wsL_wrap_r1 ++ wsL_wrap_r2) ++ wsX00 ++ wsX10 ++ (vx_atM "java/lang/ArrayIndexOutOfBoundsException" ["java/lang/IndexOutOfBoundsException", "java/lang/RuntimeException", "java/lang/Exception"]).filter goodWord ++ (vx_atS RX1 220 "java/lang/IndexOutOfBoundsException" ["java/lang/RuntimeException", "java/lang/Exception"]).filter goodWord)
def wsL_kind : List Cond := .codeWith yL_kind cL_kind 4 (some .int) [(0, 9, 12, 13)] :: ([.classLink RL 13 "java/lang/IndexOutOfBoundsException", .methodLink RL 31 yX1_kind, .instanceMethod yX1_kind, .selects RX1 yX1_kind yX1_kind, .initialized RX1, .code yX1_kind cX1_kind 2 (some .char), .fieldLink RX1 89 "Windowhouse$Window" "kind" "C", .methodLink RX1 40 yX1_slotOf, .instanceMethod yX1_slotOf, .selects RX1 yX1_slotOf yX1_slotOf, .code yX1_slotOf cX1_slotOf 2 (some (.object "Windowhouse$Window")), .fieldLink RX1 16 "Windowhouse" "windows" "[LWindowhouse$Window;", .methodLink RX1 36 yX1_checkIndex, .static yX1_checkIndex, .code yX1_checkIndex cX1_checkIndex 2 none, .classLink RX1 216 "java/lang/IndexOutOfBoundsException", .initialized "java/lang/IndexOutOfBoundsException"] ++ wsX00 ++ wsX10 ++ (vx_atM "java/lang/ArrayIndexOutOfBoundsException" ["java/lang/IndexOutOfBoundsException", "java/lang/RuntimeException", "java/lang/Exception"]).filter goodWord ++ (vx_atS RX1 220 "java/lang/IndexOutOfBoundsException" ["java/lang/RuntimeException", "java/lang/Exception"]).filter goodWord)
def wsL_capacity_r1 : List Cond := [Cond.classLink RL 13 "java/lang/IndexOutOfBoundsException", Cond.methodLink RL 35 yX1_capacity, Cond.instanceMethod yX1_capacity, Cond.selects RX1 yX1_capacity yX1_capacity, Cond.initialized RX1, Cond.code yX1_capacity cX1_capacity 2 (some .int), Cond.fieldLink RX1 56 "Windowhouse$Window" "capacity" "I", Cond.methodLink RX1 60 yX1_windowOf, Cond.instanceMethod yX1_windowOf, Cond.selects RX1 yX1_windowOf yX1_windowOf, Cond.code yX1_windowOf cX1_windowOf 3 (some (.object "Windowhouse$Window")), Cond.classLink RX1 216 "java/lang/IndexOutOfBoundsException", Cond.initialized "java/lang/IndexOutOfBoundsException", Cond.methodLink RX1 40 yX1_slotOf, Cond.instanceMethod yX1_slotOf, Cond.selects RX1 yX1_slotOf yX1_slotOf, Cond.code yX1_slotOf cX1_slotOf 2 (some (.object "Windowhouse$Window")), Cond.fieldLink RX1 16 "Windowhouse" "windows" "[LWindowhouse$Window;", Cond.methodLink RX1 36 yX1_checkIndex, Cond.static yX1_checkIndex, Cond.code yX1_checkIndex cX1_checkIndex 2 none, Cond.methodLink RX1 48 yX0_isThere, Cond.instanceMethod yX0_isThere, Cond.selects RX0 yX0_isThere yX0_isThere]
def wsL_capacity_r2 : List Cond := [Cond.initialized RX0, Cond.code yX0_isThere cX0_isThere 1 (some .boolean), Cond.fieldLink RX0 9 "Windowhouse$Window" "kind" "C"]
def wsL_capacity : List Cond := .codeWith yL_capacity cL_capacity 4 (some .int) [(0, 9, 12, 13)] :: ((wsL_capacity_r1 ++ wsL_capacity_r2) ++ wsX00 ++ wsX10 ++ (vx_atM "java/lang/ArrayIndexOutOfBoundsException" ["java/lang/IndexOutOfBoundsException", "java/lang/RuntimeException", "java/lang/Exception"]).filter goodWord ++ (vx_atS RX1 220 "java/lang/IndexOutOfBoundsException" ["java/lang/RuntimeException", "java/lang/Exception"]).filter goodWord)
def wsL_place_r1 : List Cond := [Cond.classLink RL 13 "java/lang/IndexOutOfBoundsException", Cond.methodLink RL 39 yX1_place, Cond.instanceMethod yX1_place, Cond.selects RX1 yX1_place yX1_place, Cond.initialized RX1, Cond.code yX1_place cX1_place 2 (some .int), Cond.fieldLink RX1 63 "Windowhouse$Window" "place" "I", Cond.methodLink RX1 60 yX1_windowOf, Cond.instanceMethod yX1_windowOf, Cond.selects RX1 yX1_windowOf yX1_windowOf, Cond.code yX1_windowOf cX1_windowOf 3 (some (.object "Windowhouse$Window")), Cond.classLink RX1 216 "java/lang/IndexOutOfBoundsException", Cond.initialized "java/lang/IndexOutOfBoundsException", Cond.methodLink RX1 40 yX1_slotOf, Cond.instanceMethod yX1_slotOf, Cond.selects RX1 yX1_slotOf yX1_slotOf, Cond.code yX1_slotOf cX1_slotOf 2 (some (.object "Windowhouse$Window")), Cond.fieldLink RX1 16 "Windowhouse" "windows" "[LWindowhouse$Window;", Cond.methodLink RX1 36 yX1_checkIndex, Cond.static yX1_checkIndex, Cond.code yX1_checkIndex cX1_checkIndex 2 none, Cond.methodLink RX1 48 yX0_isThere, Cond.instanceMethod yX0_isThere, Cond.selects RX0 yX0_isThere yX0_isThere]
def wsL_place_r2 : List Cond := [Cond.initialized RX0, Cond.code yX0_isThere cX0_isThere 1 (some .boolean), Cond.fieldLink RX0 9 "Windowhouse$Window" "kind" "C"]
def wsL_place : List Cond := .codeWith yL_place cL_place 4 (some .int) [(0, 9, 12, 13)] :: ((wsL_place_r1 ++ wsL_place_r2) ++ wsX00 ++ wsX10 ++ (vx_atM "java/lang/ArrayIndexOutOfBoundsException" ["java/lang/IndexOutOfBoundsException", "java/lang/RuntimeException", "java/lang/Exception"]).filter goodWord ++ (vx_atS RX1 220 "java/lang/IndexOutOfBoundsException" ["java/lang/RuntimeException", "java/lang/Exception"]).filter goodWord)
def wsL_end_r1 : List Cond := [Cond.classLink RL 13 "java/lang/IndexOutOfBoundsException", Cond.methodLink RL 42 yX1_end, Cond.instanceMethod yX1_end, Cond.selects RX1 yX1_end yX1_end, Cond.initialized RX1, Cond.code yX1_end cX1_end 2 (some .int), Cond.fieldLink RX1 74 "Windowhouse$Window" "end" "I", Cond.methodLink RX1 60 yX1_windowOf, Cond.instanceMethod yX1_windowOf, Cond.selects RX1 yX1_windowOf yX1_windowOf, Cond.code yX1_windowOf cX1_windowOf 3 (some (.object "Windowhouse$Window")), Cond.classLink RX1 216 "java/lang/IndexOutOfBoundsException", Cond.initialized "java/lang/IndexOutOfBoundsException", Cond.methodLink RX1 40 yX1_slotOf, Cond.instanceMethod yX1_slotOf, Cond.selects RX1 yX1_slotOf yX1_slotOf, Cond.code yX1_slotOf cX1_slotOf 2 (some (.object "Windowhouse$Window")), Cond.fieldLink RX1 16 "Windowhouse" "windows" "[LWindowhouse$Window;", Cond.methodLink RX1 36 yX1_checkIndex, Cond.static yX1_checkIndex, Cond.code yX1_checkIndex cX1_checkIndex 2 none, Cond.methodLink RX1 48 yX0_isThere, Cond.instanceMethod yX0_isThere, Cond.selects RX0 yX0_isThere yX0_isThere]
def wsL_end_r2 : List Cond := [Cond.initialized RX0, Cond.code yX0_isThere cX0_isThere 1 (some .boolean), Cond.fieldLink RX0 9 "Windowhouse$Window" "kind" "C"]
def wsL_end : List Cond := .codeWith yL_end cL_end 4 (some .int) [(0, 9, 12, 13)] :: ((wsL_end_r1 ++ wsL_end_r2) ++ wsX00 ++ wsX10 ++ (vx_atM "java/lang/ArrayIndexOutOfBoundsException" ["java/lang/IndexOutOfBoundsException", "java/lang/RuntimeException", "java/lang/Exception"]).filter goodWord ++ (vx_atS RX1 220 "java/lang/IndexOutOfBoundsException" ["java/lang/RuntimeException", "java/lang/Exception"]).filter goodWord)
def wsL_left_r1 : List Cond := [Cond.classLink RL 13 "java/lang/IndexOutOfBoundsException", Cond.methodLink RL 45 yX1_left, Cond.instanceMethod yX1_left, Cond.selects RX1 yX1_left yX1_left, Cond.initialized RX1, Cond.code yX1_left cX1_left 2 (some .int), Cond.methodLink RX1 60 yX1_windowOf, Cond.instanceMethod yX1_windowOf, Cond.selects RX1 yX1_windowOf yX1_windowOf, Cond.code yX1_windowOf cX1_windowOf 3 (some (.object "Windowhouse$Window")), Cond.classLink RX1 216 "java/lang/IndexOutOfBoundsException", Cond.initialized "java/lang/IndexOutOfBoundsException", Cond.methodLink RX1 40 yX1_slotOf, Cond.instanceMethod yX1_slotOf, Cond.selects RX1 yX1_slotOf yX1_slotOf, Cond.code yX1_slotOf cX1_slotOf 2 (some (.object "Windowhouse$Window")), Cond.fieldLink RX1 16 "Windowhouse" "windows" "[LWindowhouse$Window;", Cond.methodLink RX1 36 yX1_checkIndex, Cond.static yX1_checkIndex, Cond.code yX1_checkIndex cX1_checkIndex 2 none, Cond.methodLink RX1 48 yX0_isThere, Cond.instanceMethod yX0_isThere, Cond.selects RX0 yX0_isThere yX0_isThere, Cond.initialized RX0]
def wsL_left_r2 : List Cond := [Cond.code yX0_isThere cX0_isThere 1 (some .boolean), Cond.fieldLink RX0 9 "Windowhouse$Window" "kind" "C", Cond.methodLink RX1 66 yX0_rest, Cond.instanceMethod yX0_rest, Cond.selects RX0 yX0_rest yX0_rest, Cond.code yX0_rest cX0_rest 1 (some .int), Cond.fieldLink RX0 23 "Windowhouse$Window" "end" "I", Cond.fieldLink RX0 26 "Windowhouse$Window" "place" "I"]
def wsL_left : List Cond := .codeWith yL_left cL_left 4 (some .int) [(0, 9, 12, 13)] :: ((wsL_left_r1 ++ wsL_left_r2) ++ wsX10 ++ wsX00 ++ (vx_atM "java/lang/ArrayIndexOutOfBoundsException" ["java/lang/IndexOutOfBoundsException", "java/lang/RuntimeException", "java/lang/Exception"]).filter goodWord ++ (vx_atS RX1 220 "java/lang/IndexOutOfBoundsException" ["java/lang/RuntimeException", "java/lang/Exception"]).filter goodWord)
def wsL_hasLeft_r1 : List Cond := [Cond.classLink RL 13 "java/lang/IndexOutOfBoundsException", Cond.methodLink RL 48 yX1_hasLeft, Cond.instanceMethod yX1_hasLeft, Cond.selects RX1 yX1_hasLeft yX1_hasLeft, Cond.initialized RX1, Cond.code yX1_hasLeft cX1_hasLeft 2 (some .boolean), Cond.methodLink RX1 60 yX1_windowOf, Cond.instanceMethod yX1_windowOf, Cond.selects RX1 yX1_windowOf yX1_windowOf, Cond.code yX1_windowOf cX1_windowOf 3 (some (.object "Windowhouse$Window")), Cond.classLink RX1 216 "java/lang/IndexOutOfBoundsException", Cond.initialized "java/lang/IndexOutOfBoundsException", Cond.methodLink RX1 40 yX1_slotOf, Cond.instanceMethod yX1_slotOf, Cond.selects RX1 yX1_slotOf yX1_slotOf, Cond.code yX1_slotOf cX1_slotOf 2 (some (.object "Windowhouse$Window")), Cond.fieldLink RX1 16 "Windowhouse" "windows" "[LWindowhouse$Window;", Cond.methodLink RX1 36 yX1_checkIndex, Cond.static yX1_checkIndex, Cond.code yX1_checkIndex cX1_checkIndex 2 none, Cond.methodLink RX1 48 yX0_isThere, Cond.instanceMethod yX0_isThere, Cond.selects RX0 yX0_isThere yX0_isThere, Cond.initialized RX0]
def wsL_hasLeft_r2 : List Cond := [Cond.code yX0_isThere cX0_isThere 1 (some .boolean), Cond.fieldLink RX0 9 "Windowhouse$Window" "kind" "C", Cond.methodLink RX1 66 yX0_rest, Cond.instanceMethod yX0_rest, Cond.selects RX0 yX0_rest yX0_rest, Cond.code yX0_rest cX0_rest 1 (some .int), Cond.fieldLink RX0 23 "Windowhouse$Window" "end" "I", Cond.fieldLink RX0 26 "Windowhouse$Window" "place" "I"]
def wsL_hasLeft : List Cond := .codeWith yL_hasLeft cL_hasLeft 4 (some .int) [(0, 16, 19, 13)] :: ((wsL_hasLeft_r1 ++ wsL_hasLeft_r2) ++ wsX10 ++ wsX00 ++ (vx_atM "java/lang/ArrayIndexOutOfBoundsException" ["java/lang/IndexOutOfBoundsException", "java/lang/RuntimeException", "java/lang/Exception"]).filter goodWord ++ (vx_atS RX1 220 "java/lang/IndexOutOfBoundsException" ["java/lang/RuntimeException", "java/lang/Exception"]).filter goodWord)
def wsL_isReadOnly_r1 : List Cond := [Cond.classLink RL 13 "java/lang/IndexOutOfBoundsException", Cond.methodLink RL 52 yX1_isReadOnly, Cond.instanceMethod yX1_isReadOnly, Cond.selects RX1 yX1_isReadOnly yX1_isReadOnly, Cond.initialized RX1, Cond.code yX1_isReadOnly cX1_isReadOnly 2 (some .boolean), Cond.fieldLink RX1 85 "Windowhouse$Window" "onlyReads" "Z", Cond.methodLink RX1 60 yX1_windowOf, Cond.instanceMethod yX1_windowOf, Cond.selects RX1 yX1_windowOf yX1_windowOf, Cond.code yX1_windowOf cX1_windowOf 3 (some (.object "Windowhouse$Window")), Cond.classLink RX1 216 "java/lang/IndexOutOfBoundsException", Cond.initialized "java/lang/IndexOutOfBoundsException", Cond.methodLink RX1 40 yX1_slotOf, Cond.instanceMethod yX1_slotOf, Cond.selects RX1 yX1_slotOf yX1_slotOf, Cond.code yX1_slotOf cX1_slotOf 2 (some (.object "Windowhouse$Window")), Cond.fieldLink RX1 16 "Windowhouse" "windows" "[LWindowhouse$Window;", Cond.methodLink RX1 36 yX1_checkIndex, Cond.static yX1_checkIndex, Cond.code yX1_checkIndex cX1_checkIndex 2 none, Cond.methodLink RX1 48 yX0_isThere, Cond.instanceMethod yX0_isThere, Cond.selects RX0 yX0_isThere yX0_isThere]
def wsL_isReadOnly_r2 : List Cond := [Cond.initialized RX0, Cond.code yX0_isThere cX0_isThere 1 (some .boolean), Cond.fieldLink RX0 9 "Windowhouse$Window" "kind" "C"]
def wsL_isReadOnly : List Cond := .codeWith yL_isReadOnly cL_isReadOnly 4 (some .int) [(0, 16, 19, 13)] :: ((wsL_isReadOnly_r1 ++ wsL_isReadOnly_r2) ++ wsX00 ++ wsX10 ++ (vx_atM "java/lang/ArrayIndexOutOfBoundsException" ["java/lang/IndexOutOfBoundsException", "java/lang/RuntimeException", "java/lang/Exception"]).filter goodWord ++ (vx_atS RX1 220 "java/lang/IndexOutOfBoundsException" ["java/lang/RuntimeException", "java/lang/Exception"]).filter goodWord)
def wsL_placeAt_r1 : List Cond := [Cond.classLink RL 13 "java/lang/IndexOutOfBoundsException", Cond.classLink RL 15 "java/lang/IllegalArgumentException", Cond.methodLink RL 55 yX1_placeAt, Cond.instanceMethod yX1_placeAt, Cond.selects RX1 yX1_placeAt yX1_placeAt, Cond.initialized RX1, Cond.code yX1_placeAt cX1_placeAt 5 (some .int), Cond.fieldLink RX1 74 "Windowhouse$Window" "end" "I", Cond.fieldLink RX1 63 "Windowhouse$Window" "place" "I", Cond.methodLink RX1 60 yX1_windowOf, Cond.instanceMethod yX1_windowOf, Cond.selects RX1 yX1_windowOf yX1_windowOf, Cond.code yX1_windowOf cX1_windowOf 3 (some (.object "Windowhouse$Window")), Cond.classLink RX1 216 "java/lang/IndexOutOfBoundsException", Cond.initialized "java/lang/IndexOutOfBoundsException", Cond.methodLink RX1 40 yX1_slotOf, Cond.instanceMethod yX1_slotOf, Cond.selects RX1 yX1_slotOf yX1_slotOf, Cond.code yX1_slotOf cX1_slotOf 2 (some (.object "Windowhouse$Window")), Cond.fieldLink RX1 16 "Windowhouse" "windows" "[LWindowhouse$Window;", Cond.methodLink RX1 36 yX1_checkIndex, Cond.static yX1_checkIndex, Cond.code yX1_checkIndex cX1_checkIndex 2 none, Cond.methodLink RX1 48 yX0_isThere]
def wsL_placeAt_r2 : List Cond := [Cond.instanceMethod yX0_isThere, Cond.selects RX0 yX0_isThere yX0_isThere, Cond.initialized RX0, Cond.code yX0_isThere cX0_isThere 1 (some .boolean), Cond.fieldLink RX0 9 "Windowhouse$Window" "kind" "C", Cond.methodLink RX1 93 yX1_checkBound, Cond.static yX1_checkBound, Cond.code yX1_checkBound cX1_checkBound 2 none, Cond.classLink RX1 160 "java/lang/IllegalArgumentException", Cond.initialized "java/lang/IllegalArgumentException", Cond.methodLink RX1 96 yX0_dropMarkBeyond, Cond.instanceMethod yX0_dropMarkBeyond, Cond.selects RX0 yX0_dropMarkBeyond yX0_dropMarkBeyond, Cond.code yX0_dropMarkBeyond cX0_dropMarkBeyond 2 none, Cond.fieldLink RX0 19 "Windowhouse$Window" "mark" "I"]
def wsL_placeAt : List Cond := .codeWith yL_placeAt cL_placeAt 5 (some .int) [(0, 10, 13, 13), (0, 10, 17, 15)] :: ((wsL_placeAt_r1 ++ wsL_placeAt_r2) ++ wsX00 ++ wsX10 ++ (vx_atM "java/lang/ArrayIndexOutOfBoundsException" ["java/lang/IndexOutOfBoundsException", "java/lang/RuntimeException", "java/lang/Exception"]).filter goodWord ++ (vx_atS RX1 220 "java/lang/IndexOutOfBoundsException" ["java/lang/RuntimeException", "java/lang/Exception"]).filter goodWord ++ (vx_atS RX1 164 "java/lang/IllegalArgumentException" ["java/lang/RuntimeException", "java/lang/Exception"]).filter goodWord)
def wsL_endAt_r1 : List Cond := [Cond.classLink RL 13 "java/lang/IndexOutOfBoundsException", Cond.classLink RL 15 "java/lang/IllegalArgumentException", Cond.methodLink RL 58 yX1_endAt, Cond.instanceMethod yX1_endAt, Cond.selects RX1 yX1_endAt yX1_endAt, Cond.initialized RX1, Cond.code yX1_endAt cX1_endAt 5 (some .int), Cond.fieldLink RX1 56 "Windowhouse$Window" "capacity" "I", Cond.fieldLink RX1 74 "Windowhouse$Window" "end" "I", Cond.fieldLink RX1 63 "Windowhouse$Window" "place" "I", Cond.methodLink RX1 99 Lib.Math.min.name, Cond.static Lib.Math.min.name, Cond.initialized "java/lang/Math", Cond.code Lib.Math.min.name Lib.Math.min.code 2 (some .int), Cond.methodLink RX1 60 yX1_windowOf, Cond.instanceMethod yX1_windowOf, Cond.selects RX1 yX1_windowOf yX1_windowOf, Cond.code yX1_windowOf cX1_windowOf 3 (some (.object "Windowhouse$Window")), Cond.classLink RX1 216 "java/lang/IndexOutOfBoundsException", Cond.initialized "java/lang/IndexOutOfBoundsException", Cond.methodLink RX1 40 yX1_slotOf, Cond.instanceMethod yX1_slotOf, Cond.selects RX1 yX1_slotOf yX1_slotOf, Cond.code yX1_slotOf cX1_slotOf 2 (some (.object "Windowhouse$Window"))]
def wsL_endAt_r2 : List Cond := [Cond.fieldLink RX1 16 "Windowhouse" "windows" "[LWindowhouse$Window;", Cond.methodLink RX1 36 yX1_checkIndex, Cond.static yX1_checkIndex, Cond.code yX1_checkIndex cX1_checkIndex 2 none, Cond.methodLink RX1 48 yX0_isThere, Cond.instanceMethod yX0_isThere, Cond.selects RX0 yX0_isThere yX0_isThere, Cond.initialized RX0, Cond.code yX0_isThere cX0_isThere 1 (some .boolean), Cond.fieldLink RX0 9 "Windowhouse$Window" "kind" "C", Cond.methodLink RX1 93 yX1_checkBound, Cond.static yX1_checkBound, Cond.code yX1_checkBound cX1_checkBound 2 none, Cond.classLink RX1 160 "java/lang/IllegalArgumentException", Cond.initialized "java/lang/IllegalArgumentException", Cond.methodLink RX1 96 yX0_dropMarkBeyond, Cond.instanceMethod yX0_dropMarkBeyond, Cond.selects RX0 yX0_dropMarkBeyond yX0_dropMarkBeyond, Cond.code yX0_dropMarkBeyond cX0_dropMarkBeyond 2 none, Cond.fieldLink RX0 19 "Windowhouse$Window" "mark" "I"]
def wsL_endAt : List Cond := .codeWith yL_endAt cL_endAt 5 (some .int) [(0, 10, 13, 13), (0, 10, 17, 15)] :: ((wsL_endAt_r1 ++ wsL_endAt_r2) ++ wsX00 ++ wsX10 ++ (vx_atM "java/lang/ArrayIndexOutOfBoundsException" ["java/lang/IndexOutOfBoundsException", "java/lang/RuntimeException", "java/lang/Exception"]).filter goodWord ++ (vx_atS RX1 220 "java/lang/IndexOutOfBoundsException" ["java/lang/RuntimeException", "java/lang/Exception"]).filter goodWord ++ (vx_atS RX1 164 "java/lang/IllegalArgumentException" ["java/lang/RuntimeException", "java/lang/Exception"]).filter goodWord)
def wsL_mark_r1 : List Cond := [Cond.classLink RL 13 "java/lang/IndexOutOfBoundsException", Cond.methodLink RL 61 yX1_mark, Cond.instanceMethod yX1_mark, Cond.selects RX1 yX1_mark yX1_mark, Cond.initialized RX1, Cond.code yX1_mark cX1_mark 3 (some .int), Cond.fieldLink RX1 63 "Windowhouse$Window" "place" "I", Cond.fieldLink RX1 105 "Windowhouse$Window" "mark" "I", Cond.methodLink RX1 60 yX1_windowOf, Cond.instanceMethod yX1_windowOf, Cond.selects RX1 yX1_windowOf yX1_windowOf, Cond.code yX1_windowOf cX1_windowOf 3 (some (.object "Windowhouse$Window")), Cond.classLink RX1 216 "java/lang/IndexOutOfBoundsException", Cond.initialized "java/lang/IndexOutOfBoundsException", Cond.methodLink RX1 40 yX1_slotOf, Cond.instanceMethod yX1_slotOf, Cond.selects RX1 yX1_slotOf yX1_slotOf, Cond.code yX1_slotOf cX1_slotOf 2 (some (.object "Windowhouse$Window")), Cond.fieldLink RX1 16 "Windowhouse" "windows" "[LWindowhouse$Window;", Cond.methodLink RX1 36 yX1_checkIndex, Cond.static yX1_checkIndex, Cond.code yX1_checkIndex cX1_checkIndex 2 none, Cond.methodLink RX1 48 yX0_isThere, Cond.instanceMethod yX0_isThere]
def wsL_mark_r2 : List Cond := [Cond.selects RX0 yX0_isThere yX0_isThere, Cond.initialized RX0, Cond.code yX0_isThere cX0_isThere 1 (some .boolean), Cond.fieldLink RX0 9 "Windowhouse$Window" "kind" "C"]
def wsL_mark : List Cond := .codeWith yL_mark cL_mark 4 (some .int) [(0, 9, 12, 13)] :: ((wsL_mark_r1 ++ wsL_mark_r2) ++ wsX00 ++ wsX10 ++ (vx_atM "java/lang/ArrayIndexOutOfBoundsException" ["java/lang/IndexOutOfBoundsException", "java/lang/RuntimeException", "java/lang/Exception"]).filter goodWord ++ (vx_atS RX1 220 "java/lang/IndexOutOfBoundsException" ["java/lang/RuntimeException", "java/lang/Exception"]).filter goodWord)
def wsL_back_r1 : List Cond := [Cond.classLink RL 13 "java/lang/IndexOutOfBoundsException", Cond.classLink RL 67 "java/lang/IllegalStateException", Cond.methodLink RL 64 yX1_back, Cond.instanceMethod yX1_back, Cond.selects RX1 yX1_back yX1_back, Cond.initialized RX1, Cond.code yX1_back cX1_back 4 (some .int), Cond.classLink RX1 108 "java/lang/IllegalStateException", Cond.initialized "java/lang/IllegalStateException", Cond.fieldLink RX1 105 "Windowhouse$Window" "mark" "I", Cond.fieldLink RX1 63 "Windowhouse$Window" "place" "I", Cond.methodLink RX1 60 yX1_windowOf, Cond.instanceMethod yX1_windowOf, Cond.selects RX1 yX1_windowOf yX1_windowOf, Cond.code yX1_windowOf cX1_windowOf 3 (some (.object "Windowhouse$Window")), Cond.classLink RX1 216 "java/lang/IndexOutOfBoundsException", Cond.initialized "java/lang/IndexOutOfBoundsException", Cond.methodLink RX1 40 yX1_slotOf, Cond.instanceMethod yX1_slotOf, Cond.selects RX1 yX1_slotOf yX1_slotOf, Cond.code yX1_slotOf cX1_slotOf 2 (some (.object "Windowhouse$Window")), Cond.fieldLink RX1 16 "Windowhouse" "windows" "[LWindowhouse$Window;", Cond.methodLink RX1 36 yX1_checkIndex, Cond.static yX1_checkIndex]
def wsL_back_r2 : List Cond := [Cond.code yX1_checkIndex cX1_checkIndex 2 none, Cond.methodLink RX1 48 yX0_isThere, Cond.instanceMethod yX0_isThere, Cond.selects RX0 yX0_isThere yX0_isThere, Cond.initialized RX0, Cond.code yX0_isThere cX0_isThere 1 (some .boolean), Cond.fieldLink RX0 9 "Windowhouse$Window" "kind" "C"]
def wsL_back : List Cond := .codeWith yL_back cL_back 4 (some .int) [(0, 9, 12, 13), (0, 9, 15, 67)] :: ((wsL_back_r1 ++ wsL_back_r2) ++ wsX00 ++ wsX10 ++ (vx_atM "java/lang/ArrayIndexOutOfBoundsException" ["java/lang/IndexOutOfBoundsException", "java/lang/RuntimeException", "java/lang/Exception"]).filter goodWord ++ (vx_atS RX1 112 "java/lang/IllegalStateException" ["java/lang/RuntimeException", "java/lang/Exception"]).filter goodWord ++ (vx_atS RX1 220 "java/lang/IndexOutOfBoundsException" ["java/lang/RuntimeException", "java/lang/Exception"]).filter goodWord)
def wsL_clear_r1 : List Cond := [Cond.classLink RL 13 "java/lang/IndexOutOfBoundsException", Cond.methodLink RL 69 yX1_clear, Cond.instanceMethod yX1_clear, Cond.selects RX1 yX1_clear yX1_clear, Cond.initialized RX1, Cond.code yX1_clear cX1_clear 3 (some .int), Cond.fieldLink RX1 56 "Windowhouse$Window" "capacity" "I", Cond.fieldLink RX1 74 "Windowhouse$Window" "end" "I", Cond.methodLink RX1 60 yX1_windowOf, Cond.instanceMethod yX1_windowOf, Cond.selects RX1 yX1_windowOf yX1_windowOf, Cond.code yX1_windowOf cX1_windowOf 3 (some (.object "Windowhouse$Window")), Cond.classLink RX1 216 "java/lang/IndexOutOfBoundsException", Cond.initialized "java/lang/IndexOutOfBoundsException", Cond.methodLink RX1 40 yX1_slotOf, Cond.instanceMethod yX1_slotOf, Cond.selects RX1 yX1_slotOf yX1_slotOf, Cond.code yX1_slotOf cX1_slotOf 2 (some (.object "Windowhouse$Window")), Cond.fieldLink RX1 16 "Windowhouse" "windows" "[LWindowhouse$Window;", Cond.methodLink RX1 36 yX1_checkIndex, Cond.static yX1_checkIndex, Cond.code yX1_checkIndex cX1_checkIndex 2 none, Cond.methodLink RX1 48 yX0_isThere, Cond.instanceMethod yX0_isThere]
def wsL_clear_r2 : List Cond := [Cond.selects RX0 yX0_isThere yX0_isThere, Cond.initialized RX0, Cond.code yX0_isThere cX0_isThere 1 (some .boolean), Cond.fieldLink RX0 9 "Windowhouse$Window" "kind" "C", Cond.methodLink RX1 115 yX0_moveTo, Cond.instanceMethod yX0_moveTo, Cond.selects RX0 yX0_moveTo yX0_moveTo, Cond.code yX0_moveTo cX0_moveTo 3 none, Cond.fieldLink RX0 26 "Windowhouse$Window" "place" "I", Cond.fieldLink RX0 23 "Windowhouse$Window" "end" "I", Cond.fieldLink RX0 19 "Windowhouse$Window" "mark" "I"]
def wsL_clear : List Cond := .codeWith yL_clear cL_clear 4 (some .int) [(0, 9, 12, 13)] :: ((wsL_clear_r1 ++ wsL_clear_r2) ++ wsX00 ++ wsX10 ++ (vx_atM "java/lang/ArrayIndexOutOfBoundsException" ["java/lang/IndexOutOfBoundsException", "java/lang/RuntimeException", "java/lang/Exception"]).filter goodWord ++ (vx_atS RX1 220 "java/lang/IndexOutOfBoundsException" ["java/lang/RuntimeException", "java/lang/Exception"]).filter goodWord)
def wsL_flip_r1 : List Cond := [Cond.classLink RL 13 "java/lang/IndexOutOfBoundsException", Cond.methodLink RL 72 yX1_flip, Cond.instanceMethod yX1_flip, Cond.selects RX1 yX1_flip yX1_flip, Cond.initialized RX1, Cond.code yX1_flip cX1_flip 3 (some .int), Cond.fieldLink RX1 63 "Windowhouse$Window" "place" "I", Cond.fieldLink RX1 74 "Windowhouse$Window" "end" "I", Cond.methodLink RX1 60 yX1_windowOf, Cond.instanceMethod yX1_windowOf, Cond.selects RX1 yX1_windowOf yX1_windowOf, Cond.code yX1_windowOf cX1_windowOf 3 (some (.object "Windowhouse$Window")), Cond.classLink RX1 216 "java/lang/IndexOutOfBoundsException", Cond.initialized "java/lang/IndexOutOfBoundsException", Cond.methodLink RX1 40 yX1_slotOf, Cond.instanceMethod yX1_slotOf, Cond.selects RX1 yX1_slotOf yX1_slotOf, Cond.code yX1_slotOf cX1_slotOf 2 (some (.object "Windowhouse$Window")), Cond.fieldLink RX1 16 "Windowhouse" "windows" "[LWindowhouse$Window;", Cond.methodLink RX1 36 yX1_checkIndex, Cond.static yX1_checkIndex, Cond.code yX1_checkIndex cX1_checkIndex 2 none, Cond.methodLink RX1 48 yX0_isThere, Cond.instanceMethod yX0_isThere]
def wsL_flip_r2 : List Cond := [Cond.selects RX0 yX0_isThere yX0_isThere, Cond.initialized RX0, Cond.code yX0_isThere cX0_isThere 1 (some .boolean), Cond.fieldLink RX0 9 "Windowhouse$Window" "kind" "C", Cond.methodLink RX1 115 yX0_moveTo, Cond.instanceMethod yX0_moveTo, Cond.selects RX0 yX0_moveTo yX0_moveTo, Cond.code yX0_moveTo cX0_moveTo 3 none, Cond.fieldLink RX0 26 "Windowhouse$Window" "place" "I", Cond.fieldLink RX0 23 "Windowhouse$Window" "end" "I", Cond.fieldLink RX0 19 "Windowhouse$Window" "mark" "I"]
def wsL_flip : List Cond := .codeWith yL_flip cL_flip 4 (some .int) [(0, 9, 12, 13)] :: ((wsL_flip_r1 ++ wsL_flip_r2) ++ wsX00 ++ wsX10 ++ (vx_atM "java/lang/ArrayIndexOutOfBoundsException" ["java/lang/IndexOutOfBoundsException", "java/lang/RuntimeException", "java/lang/Exception"]).filter goodWord ++ (vx_atS RX1 220 "java/lang/IndexOutOfBoundsException" ["java/lang/RuntimeException", "java/lang/Exception"]).filter goodWord)
def wsL_rewind_r1 : List Cond := [Cond.classLink RL 13 "java/lang/IndexOutOfBoundsException", Cond.methodLink RL 75 yX1_rewind, Cond.instanceMethod yX1_rewind, Cond.selects RX1 yX1_rewind yX1_rewind, Cond.initialized RX1, Cond.code yX1_rewind cX1_rewind 3 (some .int), Cond.fieldLink RX1 74 "Windowhouse$Window" "end" "I", Cond.methodLink RX1 60 yX1_windowOf, Cond.instanceMethod yX1_windowOf, Cond.selects RX1 yX1_windowOf yX1_windowOf, Cond.code yX1_windowOf cX1_windowOf 3 (some (.object "Windowhouse$Window")), Cond.classLink RX1 216 "java/lang/IndexOutOfBoundsException", Cond.initialized "java/lang/IndexOutOfBoundsException", Cond.methodLink RX1 40 yX1_slotOf, Cond.instanceMethod yX1_slotOf, Cond.selects RX1 yX1_slotOf yX1_slotOf, Cond.code yX1_slotOf cX1_slotOf 2 (some (.object "Windowhouse$Window")), Cond.fieldLink RX1 16 "Windowhouse" "windows" "[LWindowhouse$Window;", Cond.methodLink RX1 36 yX1_checkIndex, Cond.static yX1_checkIndex, Cond.code yX1_checkIndex cX1_checkIndex 2 none, Cond.methodLink RX1 48 yX0_isThere, Cond.instanceMethod yX0_isThere, Cond.selects RX0 yX0_isThere yX0_isThere]
def wsL_rewind_r2 : List Cond := [Cond.initialized RX0, Cond.code yX0_isThere cX0_isThere 1 (some .boolean), Cond.fieldLink RX0 9 "Windowhouse$Window" "kind" "C", Cond.methodLink RX1 115 yX0_moveTo, Cond.instanceMethod yX0_moveTo, Cond.selects RX0 yX0_moveTo yX0_moveTo, Cond.code yX0_moveTo cX0_moveTo 3 none, Cond.fieldLink RX0 26 "Windowhouse$Window" "place" "I", Cond.fieldLink RX0 23 "Windowhouse$Window" "end" "I", Cond.fieldLink RX0 19 "Windowhouse$Window" "mark" "I", Cond.methodLink RX1 66 yX0_rest, Cond.instanceMethod yX0_rest, Cond.selects RX0 yX0_rest yX0_rest, Cond.code yX0_rest cX0_rest 1 (some .int)]
def wsL_rewind : List Cond := .codeWith yL_rewind cL_rewind 4 (some .int) [(0, 9, 12, 13)] :: ((wsL_rewind_r1 ++ wsL_rewind_r2) ++ wsX00 ++ wsX10 ++ (vx_atM "java/lang/ArrayIndexOutOfBoundsException" ["java/lang/IndexOutOfBoundsException", "java/lang/RuntimeException", "java/lang/Exception"]).filter goodWord ++ (vx_atS RX1 220 "java/lang/IndexOutOfBoundsException" ["java/lang/RuntimeException", "java/lang/Exception"]).filter goodWord)
def wsL_compact_r1 : List Cond := [Cond.classLink RL 13 "java/lang/IndexOutOfBoundsException", Cond.classLink RL 81 "java/lang/UnsupportedOperationException", Cond.methodLink RL 78 yX1_compact, Cond.instanceMethod yX1_compact, Cond.selects RX1 yX1_compact yX1_compact, Cond.initialized RX1, Cond.code yX1_compact cX1_compact 4 (some .int), Cond.fieldLink RX1 121 "Windowhouse$Window" "store" "[J", Cond.fieldLink RX1 125 "Windowhouse$Window" "start" "I", Cond.fieldLink RX1 63 "Windowhouse$Window" "place" "I", Cond.methodLink RX1 128 arraycopyName, Cond.native arraycopyName, Cond.static arraycopyName, Cond.initialized "java/lang/System", Cond.fieldLink RX1 56 "Windowhouse$Window" "capacity" "I", Cond.methodLink RX1 60 yX1_windowOf, Cond.instanceMethod yX1_windowOf, Cond.selects RX1 yX1_windowOf yX1_windowOf, Cond.code yX1_windowOf cX1_windowOf 3 (some (.object "Windowhouse$Window")), Cond.classLink RX1 216 "java/lang/IndexOutOfBoundsException", Cond.initialized "java/lang/IndexOutOfBoundsException", Cond.methodLink RX1 40 yX1_slotOf, Cond.instanceMethod yX1_slotOf, Cond.selects RX1 yX1_slotOf yX1_slotOf]
def wsL_compact_r2 : List Cond := [Cond.code yX1_slotOf cX1_slotOf 2 (some (.object "Windowhouse$Window")), Cond.fieldLink RX1 16 "Windowhouse" "windows" "[LWindowhouse$Window;", Cond.methodLink RX1 36 yX1_checkIndex, Cond.static yX1_checkIndex, Cond.code yX1_checkIndex cX1_checkIndex 2 none, Cond.methodLink RX1 48 yX0_isThere, Cond.instanceMethod yX0_isThere, Cond.selects RX0 yX0_isThere yX0_isThere, Cond.initialized RX0, Cond.code yX0_isThere cX0_isThere 1 (some .boolean), Cond.fieldLink RX0 9 "Windowhouse$Window" "kind" "C", Cond.methodLink RX1 118 yX1_checkWritable, Cond.static yX1_checkWritable, Cond.code yX1_checkWritable cX1_checkWritable 1 none, Cond.classLink RX1 233 "java/lang/UnsupportedOperationException", Cond.initialized "java/lang/UnsupportedOperationException", Cond.fieldLink RX1 85 "Windowhouse$Window" "onlyReads" "Z", Cond.methodLink RX1 66 yX0_rest, Cond.instanceMethod yX0_rest, Cond.selects RX0 yX0_rest yX0_rest, Cond.code yX0_rest cX0_rest 1 (some .int), Cond.fieldLink RX0 23 "Windowhouse$Window" "end" "I", Cond.fieldLink RX0 26 "Windowhouse$Window" "place" "I", Cond.methodLink RX1 115 yX0_moveTo]
def wsL_compact_r3 : List Cond := [Cond.instanceMethod yX0_moveTo, Cond.selects RX0 yX0_moveTo yX0_moveTo, Cond.code yX0_moveTo cX0_moveTo 3 none, Cond.fieldLink RX0 19 "Windowhouse$Window" "mark" "I"]
def wsL_compact : List Cond := .codeWith yL_compact cL_compact 4 (some .int) [(0, 9, 12, 13), (0, 9, 15, 81)] :: ((wsL_compact_r1 ++ (wsL_compact_r2 ++ wsL_compact_r3)) ++ wsX00 ++ wsX10 ++ (vx_atM "java/lang/ArrayIndexOutOfBoundsException" ["java/lang/IndexOutOfBoundsException", "java/lang/RuntimeException", "java/lang/Exception"]).filter goodWord ++ (vx_atS RX1 220 "java/lang/IndexOutOfBoundsException" ["java/lang/RuntimeException", "java/lang/Exception"]).filter goodWord ++ (vx_atS RX1 237 "java/lang/UnsupportedOperationException" ["java/lang/RuntimeException", "java/lang/Exception"]).filter goodWord)
def wsL_get_r1 : List Cond := [Cond.classLink RL 13 "java/lang/IndexOutOfBoundsException", Cond.classLink RL 87 "java/util/NoSuchElementException", Cond.methodLink RL 83 yX1_get, Cond.instanceMethod yX1_get, Cond.selects RX1 yX1_get yX1_get, Cond.initialized RX1, Cond.code yX1_get cX1_get 3 (some .long), Cond.methodLink RX1 60 yX1_windowOf, Cond.instanceMethod yX1_windowOf, Cond.selects RX1 yX1_windowOf yX1_windowOf, Cond.code yX1_windowOf cX1_windowOf 3 (some (.object "Windowhouse$Window")), Cond.classLink RX1 216 "java/lang/IndexOutOfBoundsException", Cond.initialized "java/lang/IndexOutOfBoundsException", Cond.methodLink RX1 40 yX1_slotOf, Cond.instanceMethod yX1_slotOf, Cond.selects RX1 yX1_slotOf yX1_slotOf, Cond.code yX1_slotOf cX1_slotOf 2 (some (.object "Windowhouse$Window")), Cond.fieldLink RX1 16 "Windowhouse" "windows" "[LWindowhouse$Window;", Cond.methodLink RX1 36 yX1_checkIndex, Cond.static yX1_checkIndex, Cond.code yX1_checkIndex cX1_checkIndex 2 none, Cond.methodLink RX1 48 yX0_isThere, Cond.instanceMethod yX0_isThere, Cond.selects RX0 yX0_isThere yX0_isThere]
def wsL_get_r2 : List Cond := [Cond.initialized RX0, Cond.code yX0_isThere cX0_isThere 1 (some .boolean), Cond.fieldLink RX0 9 "Windowhouse$Window" "kind" "C", Cond.methodLink RX1 134 yX1_checkEnoughToGet, Cond.static yX1_checkEnoughToGet, Cond.code yX1_checkEnoughToGet cX1_checkEnoughToGet 2 none, Cond.classLink RX1 168 "java/util/NoSuchElementException", Cond.initialized "java/util/NoSuchElementException", Cond.methodLink RX1 66 yX0_rest, Cond.instanceMethod yX0_rest, Cond.selects RX0 yX0_rest yX0_rest, Cond.code yX0_rest cX0_rest 1 (some .int), Cond.fieldLink RX0 23 "Windowhouse$Window" "end" "I", Cond.fieldLink RX0 26 "Windowhouse$Window" "place" "I", Cond.methodLink RX1 138 yX0_takeNext, Cond.instanceMethod yX0_takeNext, Cond.selects RX0 yX0_takeNext yX0_takeNext, Cond.code yX0_takeNext cX0_takeNext 3 (some .long), Cond.methodLink RX0 47 yX0_valueAt, Cond.instanceMethod yX0_valueAt, Cond.selects RX0 yX0_valueAt yX0_valueAt, Cond.code yX0_valueAt cX0_valueAt 2 (some .long), Cond.fieldLink RX0 15 "Windowhouse$Window" "store" "[J", Cond.fieldLink RX0 32 "Windowhouse$Window" "start" "I"]
def wsL_get : List Cond := .codeWith yL_get cL_get 4 (some .int) [(0, 8, 11, 13), (0, 8, 14, 87)] :: ((wsL_get_r1 ++ wsL_get_r2) ++ wsX10 ++ wsX00 ++ (vx_atM "java/lang/ArrayIndexOutOfBoundsException" ["java/lang/IndexOutOfBoundsException", "java/lang/RuntimeException", "java/lang/Exception"]).filter goodWord ++ (vx_atS RX1 220 "java/lang/IndexOutOfBoundsException" ["java/lang/RuntimeException", "java/lang/Exception"]).filter goodWord ++ (vx_atS RX1 172 "java/util/NoSuchElementException" ["java/lang/RuntimeException", "java/lang/Exception"]).filter goodWord)
def wsL_put_r1 : List Cond := [Cond.classLink RL 13 "java/lang/IndexOutOfBoundsException", Cond.classLink RL 81 "java/lang/UnsupportedOperationException", Cond.classLink RL 67 "java/lang/IllegalStateException", Cond.methodLink RL 89 yX1_put, Cond.instanceMethod yX1_put, Cond.selects RX1 yX1_put yX1_put, Cond.initialized RX1, Cond.code yX1_put cX1_put 5 (some .int), Cond.fieldLink RX1 63 "Windowhouse$Window" "place" "I", Cond.methodLink RX1 60 yX1_windowOf, Cond.instanceMethod yX1_windowOf, Cond.selects RX1 yX1_windowOf yX1_windowOf, Cond.code yX1_windowOf cX1_windowOf 3 (some (.object "Windowhouse$Window")), Cond.classLink RX1 216 "java/lang/IndexOutOfBoundsException", Cond.initialized "java/lang/IndexOutOfBoundsException", Cond.methodLink RX1 40 yX1_slotOf, Cond.instanceMethod yX1_slotOf, Cond.selects RX1 yX1_slotOf yX1_slotOf, Cond.code yX1_slotOf cX1_slotOf 2 (some (.object "Windowhouse$Window")), Cond.fieldLink RX1 16 "Windowhouse" "windows" "[LWindowhouse$Window;", Cond.methodLink RX1 36 yX1_checkIndex, Cond.static yX1_checkIndex, Cond.code yX1_checkIndex cX1_checkIndex 2 none, Cond.methodLink RX1 48 yX0_isThere]
def wsL_put_r2 : List Cond := [Cond.instanceMethod yX0_isThere, Cond.selects RX0 yX0_isThere yX0_isThere, Cond.initialized RX0, Cond.code yX0_isThere cX0_isThere 1 (some .boolean), Cond.fieldLink RX0 9 "Windowhouse$Window" "kind" "C", Cond.methodLink RX1 118 yX1_checkWritable, Cond.static yX1_checkWritable, Cond.code yX1_checkWritable cX1_checkWritable 1 none, Cond.classLink RX1 233 "java/lang/UnsupportedOperationException", Cond.initialized "java/lang/UnsupportedOperationException", Cond.fieldLink RX1 85 "Windowhouse$Window" "onlyReads" "Z", Cond.methodLink RX1 142 yX1_checkEnoughToPut, Cond.static yX1_checkEnoughToPut, Cond.code yX1_checkEnoughToPut cX1_checkEnoughToPut 2 none, Cond.classLink RX1 108 "java/lang/IllegalStateException", Cond.initialized "java/lang/IllegalStateException", Cond.methodLink RX1 66 yX0_rest, Cond.instanceMethod yX0_rest, Cond.selects RX0 yX0_rest yX0_rest, Cond.code yX0_rest cX0_rest 1 (some .int), Cond.fieldLink RX0 23 "Windowhouse$Window" "end" "I", Cond.fieldLink RX0 26 "Windowhouse$Window" "place" "I", Cond.methodLink RX1 145 yX0_putNext, Cond.instanceMethod yX0_putNext]
def wsL_put_r3 : List Cond := [Cond.selects RX0 yX0_putNext yX0_putNext, Cond.code yX0_putNext cX0_putNext 3 none, Cond.methodLink RX0 51 yX0_changeAt, Cond.instanceMethod yX0_changeAt, Cond.selects RX0 yX0_changeAt yX0_changeAt, Cond.code yX0_changeAt cX0_changeAt 4 none, Cond.fieldLink RX0 15 "Windowhouse$Window" "store" "[J", Cond.fieldLink RX0 32 "Windowhouse$Window" "start" "I", Cond.methodLink RX0 43 yX0_cut, Cond.instanceMethod yX0_cut, Cond.selects RX0 yX0_cut yX0_cut, Cond.code yX0_cut cX0_cut 3 (some .long), Cond.constantLong RX0 55 (255)]
def wsL_put : List Cond := .codeWith yL_put cL_put 6 (some .int) [(0, 11, 14, 13), (0, 11, 18, 81), (0, 11, 22, 67)] :: ((wsL_put_r1 ++ (wsL_put_r2 ++ wsL_put_r3)) ++ wsX00 ++ wsX10 ++ (vx_atM "java/lang/ArrayIndexOutOfBoundsException" ["java/lang/IndexOutOfBoundsException", "java/lang/RuntimeException", "java/lang/Exception"]).filter goodWord ++ (vx_atS RX1 220 "java/lang/IndexOutOfBoundsException" ["java/lang/RuntimeException", "java/lang/Exception"]).filter goodWord ++ (vx_atS RX1 237 "java/lang/UnsupportedOperationException" ["java/lang/RuntimeException", "java/lang/Exception"]).filter goodWord ++ (vx_atS RX1 112 "java/lang/IllegalStateException" ["java/lang/RuntimeException", "java/lang/Exception"]).filter goodWord)
def wsL_getAt_r1 : List Cond := [Cond.classLink RL 13 "java/lang/IndexOutOfBoundsException", Cond.methodLink RL 93 yX1_getAt, Cond.instanceMethod yX1_getAt, Cond.selects RX1 yX1_getAt yX1_getAt, Cond.initialized RX1, Cond.code yX1_getAt cX1_getAt 4 (some .long), Cond.fieldLink RX1 74 "Windowhouse$Window" "end" "I", Cond.methodLink RX1 60 yX1_windowOf, Cond.instanceMethod yX1_windowOf, Cond.selects RX1 yX1_windowOf yX1_windowOf, Cond.code yX1_windowOf cX1_windowOf 3 (some (.object "Windowhouse$Window")), Cond.classLink RX1 216 "java/lang/IndexOutOfBoundsException", Cond.initialized "java/lang/IndexOutOfBoundsException", Cond.methodLink RX1 40 yX1_slotOf, Cond.instanceMethod yX1_slotOf, Cond.selects RX1 yX1_slotOf yX1_slotOf, Cond.code yX1_slotOf cX1_slotOf 2 (some (.object "Windowhouse$Window")), Cond.fieldLink RX1 16 "Windowhouse" "windows" "[LWindowhouse$Window;", Cond.methodLink RX1 36 yX1_checkIndex, Cond.static yX1_checkIndex, Cond.code yX1_checkIndex cX1_checkIndex 2 none, Cond.methodLink RX1 48 yX0_isThere, Cond.instanceMethod yX0_isThere, Cond.selects RX0 yX0_isThere yX0_isThere]
def wsL_getAt_r2 : List Cond := [Cond.initialized RX0, Cond.code yX0_isThere cX0_isThere 1 (some .boolean), Cond.fieldLink RX0 9 "Windowhouse$Window" "kind" "C", Cond.methodLink RX1 149 yX0_valueAt, Cond.instanceMethod yX0_valueAt, Cond.selects RX0 yX0_valueAt yX0_valueAt, Cond.code yX0_valueAt cX0_valueAt 2 (some .long), Cond.fieldLink RX0 15 "Windowhouse$Window" "store" "[J", Cond.fieldLink RX0 32 "Windowhouse$Window" "start" "I"]
def wsL_getAt : List Cond := .codeWith yL_getAt cL_getAt 5 (some .int) [(0, 9, 12, 13)] :: ((wsL_getAt_r1 ++ wsL_getAt_r2) ++ wsX00 ++ wsX10 ++ (vx_atM "java/lang/ArrayIndexOutOfBoundsException" ["java/lang/IndexOutOfBoundsException", "java/lang/RuntimeException", "java/lang/Exception"]).filter goodWord ++ (vx_atS RX1 220 "java/lang/IndexOutOfBoundsException" ["java/lang/RuntimeException", "java/lang/Exception"]).filter goodWord)
def wsL_putAt_r1 : List Cond := [Cond.classLink RL 13 "java/lang/IndexOutOfBoundsException", Cond.classLink RL 81 "java/lang/UnsupportedOperationException", Cond.methodLink RL 97 yX1_putAt, Cond.instanceMethod yX1_putAt, Cond.selects RX1 yX1_putAt yX1_putAt, Cond.initialized RX1, Cond.code yX1_putAt cX1_putAt 8 (some .long), Cond.fieldLink RX1 74 "Windowhouse$Window" "end" "I", Cond.methodLink RX1 60 yX1_windowOf, Cond.instanceMethod yX1_windowOf, Cond.selects RX1 yX1_windowOf yX1_windowOf, Cond.code yX1_windowOf cX1_windowOf 3 (some (.object "Windowhouse$Window")), Cond.classLink RX1 216 "java/lang/IndexOutOfBoundsException", Cond.initialized "java/lang/IndexOutOfBoundsException", Cond.methodLink RX1 40 yX1_slotOf, Cond.instanceMethod yX1_slotOf, Cond.selects RX1 yX1_slotOf yX1_slotOf, Cond.code yX1_slotOf cX1_slotOf 2 (some (.object "Windowhouse$Window")), Cond.fieldLink RX1 16 "Windowhouse" "windows" "[LWindowhouse$Window;", Cond.methodLink RX1 36 yX1_checkIndex, Cond.static yX1_checkIndex, Cond.code yX1_checkIndex cX1_checkIndex 2 none, Cond.methodLink RX1 48 yX0_isThere, Cond.instanceMethod yX0_isThere]
def wsL_putAt_r2 : List Cond := [Cond.selects RX0 yX0_isThere yX0_isThere, Cond.initialized RX0, Cond.code yX0_isThere cX0_isThere 1 (some .boolean), Cond.fieldLink RX0 9 "Windowhouse$Window" "kind" "C", Cond.methodLink RX1 118 yX1_checkWritable, Cond.static yX1_checkWritable, Cond.code yX1_checkWritable cX1_checkWritable 1 none, Cond.classLink RX1 233 "java/lang/UnsupportedOperationException", Cond.initialized "java/lang/UnsupportedOperationException", Cond.fieldLink RX1 85 "Windowhouse$Window" "onlyReads" "Z", Cond.methodLink RX1 149 yX0_valueAt, Cond.instanceMethod yX0_valueAt, Cond.selects RX0 yX0_valueAt yX0_valueAt, Cond.code yX0_valueAt cX0_valueAt 2 (some .long), Cond.fieldLink RX0 15 "Windowhouse$Window" "store" "[J", Cond.fieldLink RX0 32 "Windowhouse$Window" "start" "I", Cond.methodLink RX1 153 yX0_changeAt, Cond.instanceMethod yX0_changeAt, Cond.selects RX0 yX0_changeAt yX0_changeAt, Cond.code yX0_changeAt cX0_changeAt 4 none, Cond.methodLink RX0 43 yX0_cut, Cond.instanceMethod yX0_cut, Cond.selects RX0 yX0_cut yX0_cut, Cond.code yX0_cut cX0_cut 3 (some .long)]
def wsL_putAt_r3 : List Cond := [Cond.constantLong RX0 55 (255)]
def wsL_putAt : List Cond := .codeWith yL_putAt cL_putAt 7 (some .int) [(0, 11, 14, 13), (0, 11, 18, 81)] :: ((wsL_putAt_r1 ++ (wsL_putAt_r2 ++ wsL_putAt_r3)) ++ wsX00 ++ wsX10 ++ (vx_atM "java/lang/ArrayIndexOutOfBoundsException" ["java/lang/IndexOutOfBoundsException", "java/lang/RuntimeException", "java/lang/Exception"]).filter goodWord ++ (vx_atS RX1 220 "java/lang/IndexOutOfBoundsException" ["java/lang/RuntimeException", "java/lang/Exception"]).filter goodWord ++ (vx_atS RX1 237 "java/lang/UnsupportedOperationException" ["java/lang/RuntimeException", "java/lang/Exception"]).filter goodWord)
def wsL_fill_r1 : List Cond := [Cond.classLink RL 13 "java/lang/IndexOutOfBoundsException", Cond.classLink RL 15 "java/lang/IllegalArgumentException", Cond.classLink RL 81 "java/lang/UnsupportedOperationException", Cond.classLink RL 67 "java/lang/IllegalStateException", Cond.methodLink RL 101 yX1_fill, Cond.instanceMethod yX1_fill, Cond.selects RX1 yX1_fill yX1_fill, Cond.initialized RX1, Cond.code yX1_fill cX1_fill 11 (some .int), Cond.fieldLink RX1 63 "Windowhouse$Window" "place" "I", Cond.methodLink RX1 60 yX1_windowOf, Cond.instanceMethod yX1_windowOf, Cond.selects RX1 yX1_windowOf yX1_windowOf, Cond.code yX1_windowOf cX1_windowOf 3 (some (.object "Windowhouse$Window")), Cond.classLink RX1 216 "java/lang/IndexOutOfBoundsException", Cond.initialized "java/lang/IndexOutOfBoundsException", Cond.methodLink RX1 40 yX1_slotOf, Cond.instanceMethod yX1_slotOf, Cond.selects RX1 yX1_slotOf yX1_slotOf, Cond.code yX1_slotOf cX1_slotOf 2 (some (.object "Windowhouse$Window")), Cond.fieldLink RX1 16 "Windowhouse" "windows" "[LWindowhouse$Window;", Cond.methodLink RX1 36 yX1_checkIndex, Cond.static yX1_checkIndex, Cond.code yX1_checkIndex cX1_checkIndex 2 none]
def wsL_fill_r2 : List Cond := [Cond.methodLink RX1 48 yX0_isThere, Cond.instanceMethod yX0_isThere, Cond.selects RX0 yX0_isThere yX0_isThere, Cond.initialized RX0, Cond.code yX0_isThere cX0_isThere 1 (some .boolean), Cond.fieldLink RX0 9 "Windowhouse$Window" "kind" "C", Cond.methodLink RX1 157 yX1_checkMany, Cond.static yX1_checkMany, Cond.code yX1_checkMany cX1_checkMany 1 none, Cond.classLink RX1 160 "java/lang/IllegalArgumentException", Cond.initialized "java/lang/IllegalArgumentException", Cond.methodLink RX1 118 yX1_checkWritable, Cond.static yX1_checkWritable, Cond.code yX1_checkWritable cX1_checkWritable 1 none, Cond.classLink RX1 233 "java/lang/UnsupportedOperationException", Cond.initialized "java/lang/UnsupportedOperationException", Cond.fieldLink RX1 85 "Windowhouse$Window" "onlyReads" "Z", Cond.methodLink RX1 142 yX1_checkEnoughToPut, Cond.static yX1_checkEnoughToPut, Cond.code yX1_checkEnoughToPut cX1_checkEnoughToPut 2 none, Cond.classLink RX1 108 "java/lang/IllegalStateException", Cond.initialized "java/lang/IllegalStateException", Cond.methodLink RX1 66 yX0_rest, Cond.instanceMethod yX0_rest]
def wsL_fill_r3 : List Cond := [Cond.selects RX0 yX0_rest yX0_rest, Cond.code yX0_rest cX0_rest 1 (some .int), Cond.fieldLink RX0 23 "Windowhouse$Window" "end" "I", Cond.fieldLink RX0 26 "Windowhouse$Window" "place" "I", Cond.methodLink RX1 145 yX0_putNext, Cond.instanceMethod yX0_putNext, Cond.selects RX0 yX0_putNext yX0_putNext, Cond.code yX0_putNext cX0_putNext 3 none, Cond.methodLink RX0 51 yX0_changeAt, Cond.instanceMethod yX0_changeAt, Cond.selects RX0 yX0_changeAt yX0_changeAt, Cond.code yX0_changeAt cX0_changeAt 4 none, Cond.fieldLink RX0 15 "Windowhouse$Window" "store" "[J", Cond.fieldLink RX0 32 "Windowhouse$Window" "start" "I", Cond.methodLink RX0 43 yX0_cut, Cond.instanceMethod yX0_cut, Cond.selects RX0 yX0_cut yX0_cut, Cond.code yX0_cut cX0_cut 3 (some .long), Cond.constantLong RX0 55 (255)]
def wsL_fill : List Cond := .codeWith yL_fill cL_fill 9 (some .int) [(0, 14, 17, 13), (0, 14, 21, 15), (0, 14, 25, 81), (0, 14, 29, 67)] :: ((wsL_fill_r1 ++ (wsL_fill_r2 ++ wsL_fill_r3)) ++ wsX00 ++ wsX10 ++ (vx_atM "java/lang/ArrayIndexOutOfBoundsException" ["java/lang/IndexOutOfBoundsException", "java/lang/RuntimeException", "java/lang/Exception"]).filter goodWord ++ (vx_atS RX1 220 "java/lang/IndexOutOfBoundsException" ["java/lang/RuntimeException", "java/lang/Exception"]).filter goodWord ++ (vx_atS RX1 164 "java/lang/IllegalArgumentException" ["java/lang/RuntimeException", "java/lang/Exception"]).filter goodWord ++ (vx_atS RX1 237 "java/lang/UnsupportedOperationException" ["java/lang/RuntimeException", "java/lang/Exception"]).filter goodWord ++ (vx_atS RX1 112 "java/lang/IllegalStateException" ["java/lang/RuntimeException", "java/lang/Exception"]).filter goodWord)
def wsL_pour_r1 : List Cond := [Cond.classLink RL 13 "java/lang/IndexOutOfBoundsException", Cond.classLink RL 15 "java/lang/IllegalArgumentException", Cond.classLink RL 81 "java/lang/UnsupportedOperationException", Cond.classLink RL 87 "java/util/NoSuchElementException", Cond.classLink RL 67 "java/lang/IllegalStateException", Cond.methodLink RL 105 yX1_pour, Cond.instanceMethod yX1_pour, Cond.selects RX1 yX1_pour yX1_pour, Cond.initialized RX1, Cond.code yX1_pour cX1_pour 7 (some .int), Cond.classLink RX1 160 "java/lang/IllegalArgumentException", Cond.initialized "java/lang/IllegalArgumentException", Cond.fieldLink RX1 63 "Windowhouse$Window" "place" "I", Cond.methodLink RX1 60 yX1_windowOf, Cond.instanceMethod yX1_windowOf, Cond.selects RX1 yX1_windowOf yX1_windowOf, Cond.code yX1_windowOf cX1_windowOf 3 (some (.object "Windowhouse$Window")), Cond.classLink RX1 216 "java/lang/IndexOutOfBoundsException", Cond.initialized "java/lang/IndexOutOfBoundsException", Cond.methodLink RX1 40 yX1_slotOf, Cond.instanceMethod yX1_slotOf, Cond.selects RX1 yX1_slotOf yX1_slotOf, Cond.code yX1_slotOf cX1_slotOf 2 (some (.object "Windowhouse$Window")), Cond.fieldLink RX1 16 "Windowhouse" "windows" "[LWindowhouse$Window;"]
def wsL_pour_r2 : List Cond := [Cond.methodLink RX1 36 yX1_checkIndex, Cond.static yX1_checkIndex, Cond.code yX1_checkIndex cX1_checkIndex 2 none, Cond.methodLink RX1 48 yX0_isThere, Cond.instanceMethod yX0_isThere, Cond.selects RX0 yX0_isThere yX0_isThere, Cond.initialized RX0, Cond.code yX0_isThere cX0_isThere 1 (some .boolean), Cond.fieldLink RX0 9 "Windowhouse$Window" "kind" "C", Cond.methodLink RX1 157 yX1_checkMany, Cond.static yX1_checkMany, Cond.code yX1_checkMany cX1_checkMany 1 none, Cond.methodLink RX1 118 yX1_checkWritable, Cond.static yX1_checkWritable, Cond.code yX1_checkWritable cX1_checkWritable 1 none, Cond.classLink RX1 233 "java/lang/UnsupportedOperationException", Cond.initialized "java/lang/UnsupportedOperationException", Cond.fieldLink RX1 85 "Windowhouse$Window" "onlyReads" "Z", Cond.methodLink RX1 134 yX1_checkEnoughToGet, Cond.static yX1_checkEnoughToGet, Cond.code yX1_checkEnoughToGet cX1_checkEnoughToGet 2 none, Cond.classLink RX1 168 "java/util/NoSuchElementException", Cond.initialized "java/util/NoSuchElementException", Cond.methodLink RX1 66 yX0_rest]
def wsL_pour_r3 : List Cond := [Cond.instanceMethod yX0_rest, Cond.selects RX0 yX0_rest yX0_rest, Cond.code yX0_rest cX0_rest 1 (some .int), Cond.fieldLink RX0 23 "Windowhouse$Window" "end" "I", Cond.fieldLink RX0 26 "Windowhouse$Window" "place" "I", Cond.methodLink RX1 142 yX1_checkEnoughToPut, Cond.static yX1_checkEnoughToPut, Cond.code yX1_checkEnoughToPut cX1_checkEnoughToPut 2 none, Cond.classLink RX1 108 "java/lang/IllegalStateException", Cond.initialized "java/lang/IllegalStateException", Cond.methodLink RX1 138 yX0_takeNext, Cond.instanceMethod yX0_takeNext, Cond.selects RX0 yX0_takeNext yX0_takeNext, Cond.code yX0_takeNext cX0_takeNext 3 (some .long), Cond.methodLink RX0 47 yX0_valueAt, Cond.instanceMethod yX0_valueAt, Cond.selects RX0 yX0_valueAt yX0_valueAt, Cond.code yX0_valueAt cX0_valueAt 2 (some .long), Cond.fieldLink RX0 15 "Windowhouse$Window" "store" "[J", Cond.fieldLink RX0 32 "Windowhouse$Window" "start" "I", Cond.methodLink RX1 145 yX0_putNext, Cond.instanceMethod yX0_putNext, Cond.selects RX0 yX0_putNext yX0_putNext, Cond.code yX0_putNext cX0_putNext 3 none]
def wsL_pour_r4 : List Cond := [Cond.methodLink RX0 51 yX0_changeAt, Cond.instanceMethod yX0_changeAt, Cond.selects RX0 yX0_changeAt yX0_changeAt, Cond.code yX0_changeAt cX0_changeAt 4 none, Cond.methodLink RX0 43 yX0_cut, Cond.instanceMethod yX0_cut, Cond.selects RX0 yX0_cut yX0_cut, Cond.code yX0_cut cX0_cut 3 (some .long), Cond.constantLong RX0 55 (255)]
def wsL_pour : List Cond := .codeWith yL_pour cL_pour 6 (some .int) [(0, 12, 15, 13), (0, 12, 19, 15), (0, 12, 23, 81), (0, 12, 27, 87), (0, 12, 31, 67)] :: ((wsL_pour_r1 ++ (wsL_pour_r2 ++ (wsL_pour_r3 ++ wsL_pour_r4))) ++ wsX00 ++ wsX10 ++ (vx_atM "java/lang/ArrayIndexOutOfBoundsException" ["java/lang/IndexOutOfBoundsException", "java/lang/RuntimeException", "java/lang/Exception"]).filter goodWord ++ (vx_atS RX1 164 "java/lang/IllegalArgumentException" ["java/lang/RuntimeException", "java/lang/Exception"]).filter goodWord ++ (vx_atS RX1 220 "java/lang/IndexOutOfBoundsException" ["java/lang/RuntimeException", "java/lang/Exception"]).filter goodWord ++ (vx_atS RX1 237 "java/lang/UnsupportedOperationException" ["java/lang/RuntimeException", "java/lang/Exception"]).filter goodWord ++ (vx_atS RX1 172 "java/util/NoSuchElementException" ["java/lang/RuntimeException", "java/lang/Exception"]).filter goodWord ++ (vx_atS RX1 112 "java/lang/IllegalStateException" ["java/lang/RuntimeException", "java/lang/Exception"]).filter goodWord)
def wsL_slice_r1 : List Cond := [Cond.classLink RL 13 "java/lang/IndexOutOfBoundsException", Cond.methodLink RL 108 yX1_slice, Cond.instanceMethod yX1_slice, Cond.selects RX1 yX1_slice yX1_slice, Cond.initialized RX1, Cond.code yX1_slice cX1_slice 5 (some .int), Cond.fieldLink RX1 63 "Windowhouse$Window" "place" "I", Cond.fieldLink RX1 56 "Windowhouse$Window" "capacity" "I", Cond.methodLink RX1 60 yX1_windowOf, Cond.instanceMethod yX1_windowOf, Cond.selects RX1 yX1_windowOf yX1_windowOf, Cond.code yX1_windowOf cX1_windowOf 3 (some (.object "Windowhouse$Window")), Cond.classLink RX1 216 "java/lang/IndexOutOfBoundsException", Cond.initialized "java/lang/IndexOutOfBoundsException", Cond.methodLink RX1 40 yX1_slotOf, Cond.instanceMethod yX1_slotOf, Cond.selects RX1 yX1_slotOf yX1_slotOf, Cond.code yX1_slotOf cX1_slotOf 2 (some (.object "Windowhouse$Window")), Cond.fieldLink RX1 16 "Windowhouse" "windows" "[LWindowhouse$Window;", Cond.methodLink RX1 36 yX1_checkIndex, Cond.static yX1_checkIndex, Cond.code yX1_checkIndex cX1_checkIndex 2 none, Cond.methodLink RX1 48 yX0_isThere, Cond.instanceMethod yX0_isThere]
def wsL_slice_r2 : List Cond := [Cond.selects RX0 yX0_isThere yX0_isThere, Cond.initialized RX0, Cond.code yX0_isThere cX0_isThere 1 (some .boolean), Cond.fieldLink RX0 9 "Windowhouse$Window" "kind" "C", Cond.methodLink RX1 66 yX0_rest, Cond.instanceMethod yX0_rest, Cond.selects RX0 yX0_rest yX0_rest, Cond.code yX0_rest cX0_rest 1 (some .int), Cond.fieldLink RX0 23 "Windowhouse$Window" "end" "I", Cond.fieldLink RX0 26 "Windowhouse$Window" "place" "I", Cond.methodLink RX1 70 yX0_becomeSlice, Cond.instanceMethod yX0_becomeSlice, Cond.selects RX0 yX0_becomeSlice yX0_becomeSlice, Cond.code yX0_becomeSlice cX0_becomeSlice 4 none, Cond.fieldLink RX0 35 "Windowhouse$Window" "onlyReads" "Z", Cond.fieldLink RX0 15 "Windowhouse$Window" "store" "[J", Cond.fieldLink RX0 32 "Windowhouse$Window" "start" "I", Cond.fieldLink RX0 29 "Windowhouse$Window" "capacity" "I", Cond.methodLink RX0 39 yX0_moveTo, Cond.instanceMethod yX0_moveTo, Cond.selects RX0 yX0_moveTo yX0_moveTo, Cond.code yX0_moveTo cX0_moveTo 3 none, Cond.fieldLink RX0 19 "Windowhouse$Window" "mark" "I"]
def wsL_slice : List Cond := .codeWith yL_slice cL_slice 5 (some .int) [(0, 10, 13, 13)] :: ((wsL_slice_r1 ++ wsL_slice_r2) ++ wsX00 ++ wsX10 ++ (vx_atM "java/lang/ArrayIndexOutOfBoundsException" ["java/lang/IndexOutOfBoundsException", "java/lang/RuntimeException", "java/lang/Exception"]).filter goodWord ++ (vx_atS RX1 220 "java/lang/IndexOutOfBoundsException" ["java/lang/RuntimeException", "java/lang/Exception"]).filter goodWord)
def wsL_sliceAt_r1 : List Cond := [Cond.classLink RL 13 "java/lang/IndexOutOfBoundsException", Cond.methodLink RL 111 yX1_sliceAt, Cond.instanceMethod yX1_sliceAt, Cond.selects RX1 yX1_sliceAt yX1_sliceAt, Cond.initialized RX1, Cond.code yX1_sliceAt cX1_sliceAt 7 (some .int), Cond.fieldLink RX1 74 "Windowhouse$Window" "end" "I", Cond.fieldLink RX1 56 "Windowhouse$Window" "capacity" "I", Cond.methodLink RX1 60 yX1_windowOf, Cond.instanceMethod yX1_windowOf, Cond.selects RX1 yX1_windowOf yX1_windowOf, Cond.code yX1_windowOf cX1_windowOf 3 (some (.object "Windowhouse$Window")), Cond.classLink RX1 216 "java/lang/IndexOutOfBoundsException", Cond.initialized "java/lang/IndexOutOfBoundsException", Cond.methodLink RX1 40 yX1_slotOf, Cond.instanceMethod yX1_slotOf, Cond.selects RX1 yX1_slotOf yX1_slotOf, Cond.code yX1_slotOf cX1_slotOf 2 (some (.object "Windowhouse$Window")), Cond.fieldLink RX1 16 "Windowhouse" "windows" "[LWindowhouse$Window;", Cond.methodLink RX1 36 yX1_checkIndex, Cond.static yX1_checkIndex, Cond.code yX1_checkIndex cX1_checkIndex 2 none, Cond.methodLink RX1 48 yX0_isThere, Cond.instanceMethod yX0_isThere]
def wsL_sliceAt_r2 : List Cond := [Cond.selects RX0 yX0_isThere yX0_isThere, Cond.initialized RX0, Cond.code yX0_isThere cX0_isThere 1 (some .boolean), Cond.fieldLink RX0 9 "Windowhouse$Window" "kind" "C", Cond.methodLink RX1 77 yX1_checkPart, Cond.static yX1_checkPart, Cond.code yX1_checkPart cX1_checkPart 3 none, Cond.methodLink RX1 70 yX0_becomeSlice, Cond.instanceMethod yX0_becomeSlice, Cond.selects RX0 yX0_becomeSlice yX0_becomeSlice, Cond.code yX0_becomeSlice cX0_becomeSlice 4 none, Cond.fieldLink RX0 35 "Windowhouse$Window" "onlyReads" "Z", Cond.fieldLink RX0 15 "Windowhouse$Window" "store" "[J", Cond.fieldLink RX0 32 "Windowhouse$Window" "start" "I", Cond.fieldLink RX0 29 "Windowhouse$Window" "capacity" "I", Cond.methodLink RX0 39 yX0_moveTo, Cond.instanceMethod yX0_moveTo, Cond.selects RX0 yX0_moveTo yX0_moveTo, Cond.code yX0_moveTo cX0_moveTo 3 none, Cond.fieldLink RX0 26 "Windowhouse$Window" "place" "I", Cond.fieldLink RX0 23 "Windowhouse$Window" "end" "I", Cond.fieldLink RX0 19 "Windowhouse$Window" "mark" "I"]
def wsL_sliceAt : List Cond := .codeWith yL_sliceAt cL_sliceAt 7 (some .int) [(0, 14, 17, 13)] :: ((wsL_sliceAt_r1 ++ wsL_sliceAt_r2) ++ wsX00 ++ wsX10 ++ (vx_atM "java/lang/ArrayIndexOutOfBoundsException" ["java/lang/IndexOutOfBoundsException", "java/lang/RuntimeException", "java/lang/Exception"]).filter goodWord ++ (vx_atS RX1 220 "java/lang/IndexOutOfBoundsException" ["java/lang/RuntimeException", "java/lang/Exception"]).filter goodWord)
def wsL_duplicate_r1 : List Cond := [Cond.classLink RL 13 "java/lang/IndexOutOfBoundsException", Cond.methodLink RL 115 yX1_duplicate, Cond.instanceMethod yX1_duplicate, Cond.selects RX1 yX1_duplicate yX1_duplicate, Cond.initialized RX1, Cond.code yX1_duplicate cX1_duplicate 5 (some .int), Cond.methodLink RX1 60 yX1_windowOf, Cond.instanceMethod yX1_windowOf, Cond.selects RX1 yX1_windowOf yX1_windowOf, Cond.code yX1_windowOf cX1_windowOf 3 (some (.object "Windowhouse$Window")), Cond.classLink RX1 216 "java/lang/IndexOutOfBoundsException", Cond.initialized "java/lang/IndexOutOfBoundsException", Cond.methodLink RX1 40 yX1_slotOf, Cond.instanceMethod yX1_slotOf, Cond.selects RX1 yX1_slotOf yX1_slotOf, Cond.code yX1_slotOf cX1_slotOf 2 (some (.object "Windowhouse$Window")), Cond.fieldLink RX1 16 "Windowhouse" "windows" "[LWindowhouse$Window;", Cond.methodLink RX1 36 yX1_checkIndex, Cond.static yX1_checkIndex, Cond.code yX1_checkIndex cX1_checkIndex 2 none, Cond.methodLink RX1 48 yX0_isThere, Cond.instanceMethod yX0_isThere, Cond.selects RX0 yX0_isThere yX0_isThere, Cond.initialized RX0]
def wsL_duplicate_r2 : List Cond := [Cond.code yX0_isThere cX0_isThere 1 (some .boolean), Cond.fieldLink RX0 9 "Windowhouse$Window" "kind" "C", Cond.methodLink RX1 81 yX0_becomeDuplicate, Cond.instanceMethod yX0_becomeDuplicate, Cond.selects RX0 yX0_becomeDuplicate yX0_becomeDuplicate, Cond.code yX0_becomeDuplicate cX0_becomeDuplicate 2 none, Cond.fieldLink RX0 35 "Windowhouse$Window" "onlyReads" "Z", Cond.fieldLink RX0 15 "Windowhouse$Window" "store" "[J", Cond.fieldLink RX0 32 "Windowhouse$Window" "start" "I", Cond.fieldLink RX0 29 "Windowhouse$Window" "capacity" "I", Cond.fieldLink RX0 26 "Windowhouse$Window" "place" "I", Cond.fieldLink RX0 23 "Windowhouse$Window" "end" "I", Cond.fieldLink RX0 19 "Windowhouse$Window" "mark" "I", Cond.methodLink RX1 66 yX0_rest, Cond.instanceMethod yX0_rest, Cond.selects RX0 yX0_rest yX0_rest, Cond.code yX0_rest cX0_rest 1 (some .int)]
def wsL_duplicate : List Cond := .codeWith yL_duplicate cL_duplicate 5 (some .int) [(0, 10, 13, 13)] :: ((wsL_duplicate_r1 ++ wsL_duplicate_r2) ++ wsX10 ++ wsX00 ++ (vx_atM "java/lang/ArrayIndexOutOfBoundsException" ["java/lang/IndexOutOfBoundsException", "java/lang/RuntimeException", "java/lang/Exception"]).filter goodWord ++ (vx_atS RX1 220 "java/lang/IndexOutOfBoundsException" ["java/lang/RuntimeException", "java/lang/Exception"]).filter goodWord)
def wsL_readOnly_r1 : List Cond := [Cond.classLink RL 13 "java/lang/IndexOutOfBoundsException", Cond.methodLink RL 118 yX1_readOnly, Cond.instanceMethod yX1_readOnly, Cond.selects RX1 yX1_readOnly yX1_readOnly, Cond.initialized RX1, Cond.code yX1_readOnly cX1_readOnly 5 (some .int), Cond.fieldLink RX1 85 "Windowhouse$Window" "onlyReads" "Z", Cond.methodLink RX1 60 yX1_windowOf, Cond.instanceMethod yX1_windowOf, Cond.selects RX1 yX1_windowOf yX1_windowOf, Cond.code yX1_windowOf cX1_windowOf 3 (some (.object "Windowhouse$Window")), Cond.classLink RX1 216 "java/lang/IndexOutOfBoundsException", Cond.initialized "java/lang/IndexOutOfBoundsException", Cond.methodLink RX1 40 yX1_slotOf, Cond.instanceMethod yX1_slotOf, Cond.selects RX1 yX1_slotOf yX1_slotOf, Cond.code yX1_slotOf cX1_slotOf 2 (some (.object "Windowhouse$Window")), Cond.fieldLink RX1 16 "Windowhouse" "windows" "[LWindowhouse$Window;", Cond.methodLink RX1 36 yX1_checkIndex, Cond.static yX1_checkIndex, Cond.code yX1_checkIndex cX1_checkIndex 2 none, Cond.methodLink RX1 48 yX0_isThere, Cond.instanceMethod yX0_isThere, Cond.selects RX0 yX0_isThere yX0_isThere]
def wsL_readOnly_r2 : List Cond := [Cond.initialized RX0, Cond.code yX0_isThere cX0_isThere 1 (some .boolean), Cond.fieldLink RX0 9 "Windowhouse$Window" "kind" "C", Cond.methodLink RX1 81 yX0_becomeDuplicate, Cond.instanceMethod yX0_becomeDuplicate, Cond.selects RX0 yX0_becomeDuplicate yX0_becomeDuplicate, Cond.code yX0_becomeDuplicate cX0_becomeDuplicate 2 none, Cond.fieldLink RX0 35 "Windowhouse$Window" "onlyReads" "Z", Cond.fieldLink RX0 15 "Windowhouse$Window" "store" "[J", Cond.fieldLink RX0 32 "Windowhouse$Window" "start" "I", Cond.fieldLink RX0 29 "Windowhouse$Window" "capacity" "I", Cond.fieldLink RX0 26 "Windowhouse$Window" "place" "I", Cond.fieldLink RX0 23 "Windowhouse$Window" "end" "I", Cond.fieldLink RX0 19 "Windowhouse$Window" "mark" "I", Cond.methodLink RX1 66 yX0_rest, Cond.instanceMethod yX0_rest, Cond.selects RX0 yX0_rest yX0_rest, Cond.code yX0_rest cX0_rest 1 (some .int)]
def wsL_readOnly : List Cond := .codeWith yL_readOnly cL_readOnly 5 (some .int) [(0, 10, 13, 13)] :: ((wsL_readOnly_r1 ++ wsL_readOnly_r2) ++ wsX00 ++ wsX10 ++ (vx_atM "java/lang/ArrayIndexOutOfBoundsException" ["java/lang/IndexOutOfBoundsException", "java/lang/RuntimeException", "java/lang/Exception"]).filter goodWord ++ (vx_atS RX1 220 "java/lang/IndexOutOfBoundsException" ["java/lang/RuntimeException", "java/lang/Exception"]).filter goodWord)
def wsL_signAt_r1 : List Cond := [Cond.classLink RL 13 "java/lang/IndexOutOfBoundsException", Cond.classLink RL 81 "java/lang/UnsupportedOperationException", Cond.classLink RL 87 "java/util/NoSuchElementException", Cond.methodLink RL 121 yX1_signAt, Cond.instanceMethod yX1_signAt, Cond.selects RX1 yX1_signAt yX1_signAt, Cond.initialized RX1, Cond.code yX1_signAt cX1_signAt 4 (some .char), Cond.classLink RX1 168 "java/util/NoSuchElementException", Cond.initialized "java/util/NoSuchElementException", Cond.fieldLink RX1 63 "Windowhouse$Window" "place" "I", Cond.methodLink RX1 60 yX1_windowOf, Cond.instanceMethod yX1_windowOf, Cond.selects RX1 yX1_windowOf yX1_windowOf, Cond.code yX1_windowOf cX1_windowOf 3 (some (.object "Windowhouse$Window")), Cond.classLink RX1 216 "java/lang/IndexOutOfBoundsException", Cond.initialized "java/lang/IndexOutOfBoundsException", Cond.methodLink RX1 40 yX1_slotOf, Cond.instanceMethod yX1_slotOf, Cond.selects RX1 yX1_slotOf yX1_slotOf, Cond.code yX1_slotOf cX1_slotOf 2 (some (.object "Windowhouse$Window")), Cond.fieldLink RX1 16 "Windowhouse" "windows" "[LWindowhouse$Window;", Cond.methodLink RX1 36 yX1_checkIndex, Cond.static yX1_checkIndex]
def wsL_signAt_r2 : List Cond := [Cond.code yX1_checkIndex cX1_checkIndex 2 none, Cond.methodLink RX1 48 yX0_isThere, Cond.instanceMethod yX0_isThere, Cond.selects RX0 yX0_isThere yX0_isThere, Cond.initialized RX0, Cond.code yX0_isThere cX0_isThere 1 (some .boolean), Cond.fieldLink RX0 9 "Windowhouse$Window" "kind" "C", Cond.methodLink RX1 165 yX1_checkOfChars, Cond.static yX1_checkOfChars, Cond.code yX1_checkOfChars cX1_checkOfChars 1 none, Cond.classLink RX1 233 "java/lang/UnsupportedOperationException", Cond.initialized "java/lang/UnsupportedOperationException", Cond.fieldLink RX1 89 "Windowhouse$Window" "kind" "C", Cond.methodLink RX1 66 yX0_rest, Cond.instanceMethod yX0_rest, Cond.selects RX0 yX0_rest yX0_rest, Cond.code yX0_rest cX0_rest 1 (some .int), Cond.fieldLink RX0 23 "Windowhouse$Window" "end" "I", Cond.fieldLink RX0 26 "Windowhouse$Window" "place" "I", Cond.methodLink RX1 149 yX0_valueAt, Cond.instanceMethod yX0_valueAt, Cond.selects RX0 yX0_valueAt yX0_valueAt, Cond.code yX0_valueAt cX0_valueAt 2 (some .long), Cond.fieldLink RX0 15 "Windowhouse$Window" "store" "[J"]
def wsL_signAt_r3 : List Cond := [Cond.fieldLink RX0 32 "Windowhouse$Window" "start" "I"]
def wsL_signAt : List Cond := .codeWith yL_signAt cL_signAt 5 (some .int) [(0, 10, 13, 13), (0, 10, 17, 81), (0, 10, 21, 87)] :: ((wsL_signAt_r1 ++ (wsL_signAt_r2 ++ wsL_signAt_r3)) ++ wsX00 ++ wsX10 ++ (vx_atM "java/lang/ArrayIndexOutOfBoundsException" ["java/lang/IndexOutOfBoundsException", "java/lang/RuntimeException", "java/lang/Exception"]).filter goodWord ++ (vx_atS RX1 172 "java/util/NoSuchElementException" ["java/lang/RuntimeException", "java/lang/Exception"]).filter goodWord ++ (vx_atS RX1 220 "java/lang/IndexOutOfBoundsException" ["java/lang/RuntimeException", "java/lang/Exception"]).filter goodWord ++ (vx_atS RX1 237 "java/lang/UnsupportedOperationException" ["java/lang/RuntimeException", "java/lang/Exception"]).filter goodWord)
def wsL_signsLeft_r1 : List Cond := [Cond.classLink RL 13 "java/lang/IndexOutOfBoundsException", Cond.classLink RL 81 "java/lang/UnsupportedOperationException", Cond.methodLink RL 125 yX1_signsLeft, Cond.instanceMethod yX1_signsLeft, Cond.selects RX1 yX1_signsLeft yX1_signsLeft, Cond.initialized RX1, Cond.code yX1_signsLeft cX1_signsLeft 3 (some .int), Cond.methodLink RX1 60 yX1_windowOf, Cond.instanceMethod yX1_windowOf, Cond.selects RX1 yX1_windowOf yX1_windowOf, Cond.code yX1_windowOf cX1_windowOf 3 (some (.object "Windowhouse$Window")), Cond.classLink RX1 216 "java/lang/IndexOutOfBoundsException", Cond.initialized "java/lang/IndexOutOfBoundsException", Cond.methodLink RX1 40 yX1_slotOf, Cond.instanceMethod yX1_slotOf, Cond.selects RX1 yX1_slotOf yX1_slotOf, Cond.code yX1_slotOf cX1_slotOf 2 (some (.object "Windowhouse$Window")), Cond.fieldLink RX1 16 "Windowhouse" "windows" "[LWindowhouse$Window;", Cond.methodLink RX1 36 yX1_checkIndex, Cond.static yX1_checkIndex, Cond.code yX1_checkIndex cX1_checkIndex 2 none, Cond.methodLink RX1 48 yX0_isThere, Cond.instanceMethod yX0_isThere, Cond.selects RX0 yX0_isThere yX0_isThere]
def wsL_signsLeft_r2 : List Cond := [Cond.initialized RX0, Cond.code yX0_isThere cX0_isThere 1 (some .boolean), Cond.fieldLink RX0 9 "Windowhouse$Window" "kind" "C", Cond.methodLink RX1 165 yX1_checkOfChars, Cond.static yX1_checkOfChars, Cond.code yX1_checkOfChars cX1_checkOfChars 1 none, Cond.classLink RX1 233 "java/lang/UnsupportedOperationException", Cond.initialized "java/lang/UnsupportedOperationException", Cond.fieldLink RX1 89 "Windowhouse$Window" "kind" "C", Cond.methodLink RX1 66 yX0_rest, Cond.instanceMethod yX0_rest, Cond.selects RX0 yX0_rest yX0_rest, Cond.code yX0_rest cX0_rest 1 (some .int), Cond.fieldLink RX0 23 "Windowhouse$Window" "end" "I", Cond.fieldLink RX0 26 "Windowhouse$Window" "place" "I"]
def wsL_signsLeft : List Cond := .codeWith yL_signsLeft cL_signsLeft 4 (some .int) [(0, 9, 12, 13), (0, 9, 15, 81)] :: ((wsL_signsLeft_r1 ++ wsL_signsLeft_r2) ++ wsX10 ++ wsX00 ++ (vx_atM "java/lang/ArrayIndexOutOfBoundsException" ["java/lang/IndexOutOfBoundsException", "java/lang/RuntimeException", "java/lang/Exception"]).filter goodWord ++ (vx_atS RX1 220 "java/lang/IndexOutOfBoundsException" ["java/lang/RuntimeException", "java/lang/Exception"]).filter goodWord ++ (vx_atS RX1 237 "java/lang/UnsupportedOperationException" ["java/lang/RuntimeException", "java/lang/Exception"]).filter goodWord)
def wsL_append_r1 : List Cond := [Cond.classLink RL 13 "java/lang/IndexOutOfBoundsException", Cond.classLink RL 81 "java/lang/UnsupportedOperationException", Cond.classLink RL 67 "java/lang/IllegalStateException", Cond.methodLink RL 128 yX1_append, Cond.instanceMethod yX1_append, Cond.selects RX1 yX1_append yX1_append, Cond.initialized RX1, Cond.code yX1_append cX1_append 4 (some .int), Cond.fieldLink RX1 63 "Windowhouse$Window" "place" "I", Cond.methodLink RX1 60 yX1_windowOf, Cond.instanceMethod yX1_windowOf, Cond.selects RX1 yX1_windowOf yX1_windowOf, Cond.code yX1_windowOf cX1_windowOf 3 (some (.object "Windowhouse$Window")), Cond.classLink RX1 216 "java/lang/IndexOutOfBoundsException", Cond.initialized "java/lang/IndexOutOfBoundsException", Cond.methodLink RX1 40 yX1_slotOf, Cond.instanceMethod yX1_slotOf, Cond.selects RX1 yX1_slotOf yX1_slotOf, Cond.code yX1_slotOf cX1_slotOf 2 (some (.object "Windowhouse$Window")), Cond.fieldLink RX1 16 "Windowhouse" "windows" "[LWindowhouse$Window;", Cond.methodLink RX1 36 yX1_checkIndex, Cond.static yX1_checkIndex, Cond.code yX1_checkIndex cX1_checkIndex 2 none, Cond.methodLink RX1 48 yX0_isThere]
def wsL_append_r2 : List Cond := [Cond.instanceMethod yX0_isThere, Cond.selects RX0 yX0_isThere yX0_isThere, Cond.initialized RX0, Cond.code yX0_isThere cX0_isThere 1 (some .boolean), Cond.fieldLink RX0 9 "Windowhouse$Window" "kind" "C", Cond.methodLink RX1 165 yX1_checkOfChars, Cond.static yX1_checkOfChars, Cond.code yX1_checkOfChars cX1_checkOfChars 1 none, Cond.classLink RX1 233 "java/lang/UnsupportedOperationException", Cond.initialized "java/lang/UnsupportedOperationException", Cond.fieldLink RX1 89 "Windowhouse$Window" "kind" "C", Cond.methodLink RX1 118 yX1_checkWritable, Cond.static yX1_checkWritable, Cond.code yX1_checkWritable cX1_checkWritable 1 none, Cond.fieldLink RX1 85 "Windowhouse$Window" "onlyReads" "Z", Cond.methodLink RX1 142 yX1_checkEnoughToPut, Cond.static yX1_checkEnoughToPut, Cond.code yX1_checkEnoughToPut cX1_checkEnoughToPut 2 none, Cond.classLink RX1 108 "java/lang/IllegalStateException", Cond.initialized "java/lang/IllegalStateException", Cond.methodLink RX1 66 yX0_rest, Cond.instanceMethod yX0_rest, Cond.selects RX0 yX0_rest yX0_rest, Cond.code yX0_rest cX0_rest 1 (some .int)]
def wsL_append_r3 : List Cond := [Cond.fieldLink RX0 23 "Windowhouse$Window" "end" "I", Cond.fieldLink RX0 26 "Windowhouse$Window" "place" "I", Cond.methodLink RX1 145 yX0_putNext, Cond.instanceMethod yX0_putNext, Cond.selects RX0 yX0_putNext yX0_putNext, Cond.code yX0_putNext cX0_putNext 3 none, Cond.methodLink RX0 51 yX0_changeAt, Cond.instanceMethod yX0_changeAt, Cond.selects RX0 yX0_changeAt yX0_changeAt, Cond.code yX0_changeAt cX0_changeAt 4 none, Cond.fieldLink RX0 15 "Windowhouse$Window" "store" "[J", Cond.fieldLink RX0 32 "Windowhouse$Window" "start" "I", Cond.methodLink RX0 43 yX0_cut, Cond.instanceMethod yX0_cut, Cond.selects RX0 yX0_cut yX0_cut, Cond.code yX0_cut cX0_cut 3 (some .long), Cond.constantLong RX0 55 (255)]
def wsL_append : List Cond := .codeWith yL_append cL_append 5 (some .int) [(0, 10, 13, 13), (0, 10, 17, 81), (0, 10, 21, 67)] :: ((wsL_append_r1 ++ (wsL_append_r2 ++ wsL_append_r3)) ++ wsX00 ++ wsX10 ++ (vx_atM "java/lang/ArrayIndexOutOfBoundsException" ["java/lang/IndexOutOfBoundsException", "java/lang/RuntimeException", "java/lang/Exception"]).filter goodWord ++ (vx_atS RX1 220 "java/lang/IndexOutOfBoundsException" ["java/lang/RuntimeException", "java/lang/Exception"]).filter goodWord ++ (vx_atS RX1 237 "java/lang/UnsupportedOperationException" ["java/lang/RuntimeException", "java/lang/Exception"]).filter goodWord ++ (vx_atS RX1 112 "java/lang/IllegalStateException" ["java/lang/RuntimeException", "java/lang/Exception"]).filter goodWord)
def wsL_text_r1 : List Cond := [Cond.classLink RL 13 "java/lang/IndexOutOfBoundsException", Cond.classLink RL 81 "java/lang/UnsupportedOperationException", Cond.methodLink RL 132 yX1_text, Cond.instanceMethod yX1_text, Cond.selects RX1 yX1_text yX1_text, Cond.initialized RX1, Cond.code yX1_text cX1_text 3 (some .long), Cond.constantLong RX1 173 (7), Cond.fieldLink RX1 63 "Windowhouse$Window" "place" "I", Cond.methodLink RX1 60 yX1_windowOf, Cond.instanceMethod yX1_windowOf, Cond.selects RX1 yX1_windowOf yX1_windowOf, Cond.code yX1_windowOf cX1_windowOf 3 (some (.object "Windowhouse$Window")), Cond.classLink RX1 216 "java/lang/IndexOutOfBoundsException", Cond.initialized "java/lang/IndexOutOfBoundsException", Cond.methodLink RX1 40 yX1_slotOf, Cond.instanceMethod yX1_slotOf, Cond.selects RX1 yX1_slotOf yX1_slotOf, Cond.code yX1_slotOf cX1_slotOf 2 (some (.object "Windowhouse$Window")), Cond.fieldLink RX1 16 "Windowhouse" "windows" "[LWindowhouse$Window;", Cond.methodLink RX1 36 yX1_checkIndex, Cond.static yX1_checkIndex, Cond.code yX1_checkIndex cX1_checkIndex 2 none, Cond.methodLink RX1 48 yX0_isThere]
def wsL_text_r2 : List Cond := [Cond.instanceMethod yX0_isThere, Cond.selects RX0 yX0_isThere yX0_isThere, Cond.initialized RX0, Cond.code yX0_isThere cX0_isThere 1 (some .boolean), Cond.fieldLink RX0 9 "Windowhouse$Window" "kind" "C", Cond.methodLink RX1 165 yX1_checkOfChars, Cond.static yX1_checkOfChars, Cond.code yX1_checkOfChars cX1_checkOfChars 1 none, Cond.classLink RX1 233 "java/lang/UnsupportedOperationException", Cond.initialized "java/lang/UnsupportedOperationException", Cond.fieldLink RX1 89 "Windowhouse$Window" "kind" "C", Cond.methodLink RX1 175 yX0_sumOver, Cond.instanceMethod yX0_sumOver, Cond.selects RX0 yX0_sumOver yX0_sumOver, Cond.code yX0_sumOver cX0_sumOver 7 (some .long), Cond.fieldLink RX0 23 "Windowhouse$Window" "end" "I", Cond.methodLink RX0 47 yX0_valueAt, Cond.instanceMethod yX0_valueAt, Cond.selects RX0 yX0_valueAt yX0_valueAt, Cond.code yX0_valueAt cX0_valueAt 2 (some .long), Cond.fieldLink RX0 15 "Windowhouse$Window" "store" "[J", Cond.fieldLink RX0 32 "Windowhouse$Window" "start" "I", Cond.static yX1_summed, Cond.code yX1_summed cX1_summed 4 (some .long)]
def wsL_text_r3 : List Cond := [Cond.constantLong RX1 214 (31)]
def wsL_text : List Cond := .codeWith yL_text cL_text 4 (some .int) [(0, 8, 11, 13), (0, 8, 14, 81)] :: ((wsL_text_r1 ++ (wsL_text_r2 ++ wsL_text_r3)) ++ wsX00 ++ wsX10 ++ (vx_atM "java/lang/ArrayIndexOutOfBoundsException" ["java/lang/IndexOutOfBoundsException", "java/lang/RuntimeException", "java/lang/Exception"]).filter goodWord ++ (vx_atS RX1 220 "java/lang/IndexOutOfBoundsException" ["java/lang/RuntimeException", "java/lang/Exception"]).filter goodWord ++ (vx_atS RX1 237 "java/lang/UnsupportedOperationException" ["java/lang/RuntimeException", "java/lang/Exception"]).filter goodWord)
def wsL_isAlike_r1 : List Cond := [Cond.classLink RL 13 "java/lang/IndexOutOfBoundsException", Cond.methodLink RL 135 yX1_isAlike, Cond.instanceMethod yX1_isAlike, Cond.selects RX1 yX1_isAlike yX1_isAlike, Cond.initialized RX1, Cond.code yX1_isAlike cX1_isAlike 7 (some .boolean), Cond.fieldLink RX1 63 "Windowhouse$Window" "place" "I", Cond.methodLink RX1 60 yX1_windowOf, Cond.instanceMethod yX1_windowOf, Cond.selects RX1 yX1_windowOf yX1_windowOf, Cond.code yX1_windowOf cX1_windowOf 3 (some (.object "Windowhouse$Window")), Cond.classLink RX1 216 "java/lang/IndexOutOfBoundsException", Cond.initialized "java/lang/IndexOutOfBoundsException", Cond.methodLink RX1 40 yX1_slotOf, Cond.instanceMethod yX1_slotOf, Cond.selects RX1 yX1_slotOf yX1_slotOf, Cond.code yX1_slotOf cX1_slotOf 2 (some (.object "Windowhouse$Window")), Cond.fieldLink RX1 16 "Windowhouse" "windows" "[LWindowhouse$Window;", Cond.methodLink RX1 36 yX1_checkIndex, Cond.static yX1_checkIndex, Cond.code yX1_checkIndex cX1_checkIndex 2 none, Cond.methodLink RX1 48 yX0_isThere, Cond.instanceMethod yX0_isThere, Cond.selects RX0 yX0_isThere yX0_isThere]
def wsL_isAlike_r2 : List Cond := [Cond.initialized RX0, Cond.code yX0_isThere cX0_isThere 1 (some .boolean), Cond.fieldLink RX0 9 "Windowhouse$Window" "kind" "C", Cond.methodLink RX1 66 yX0_rest, Cond.instanceMethod yX0_rest, Cond.selects RX0 yX0_rest yX0_rest, Cond.code yX0_rest cX0_rest 1 (some .int), Cond.fieldLink RX0 23 "Windowhouse$Window" "end" "I", Cond.fieldLink RX0 26 "Windowhouse$Window" "place" "I", Cond.methodLink RX1 149 yX0_valueAt, Cond.instanceMethod yX0_valueAt, Cond.selects RX0 yX0_valueAt yX0_valueAt, Cond.code yX0_valueAt cX0_valueAt 2 (some .long), Cond.fieldLink RX0 15 "Windowhouse$Window" "store" "[J", Cond.fieldLink RX0 32 "Windowhouse$Window" "start" "I"]
def wsL_isAlike : List Cond := .codeWith yL_isAlike cL_isAlike 5 (some .int) [(0, 17, 20, 13)] :: ((wsL_isAlike_r1 ++ wsL_isAlike_r2) ++ wsX00 ++ wsX10 ++ (vx_atM "java/lang/ArrayIndexOutOfBoundsException" ["java/lang/IndexOutOfBoundsException", "java/lang/RuntimeException", "java/lang/Exception"]).filter goodWord ++ (vx_atS RX1 220 "java/lang/IndexOutOfBoundsException" ["java/lang/RuntimeException", "java/lang/Exception"]).filter goodWord)
def wsL_fullShare_r1 : List Cond := [Cond.classLink RL 13 "java/lang/IndexOutOfBoundsException", Cond.classLink RL 143 "java/lang/ArithmeticException", Cond.methodLink RL 139 yX1_fullShare, Cond.instanceMethod yX1_fullShare, Cond.selects RX1 yX1_fullShare yX1_fullShare, Cond.initialized RX1, Cond.code yX1_fullShare cX1_fullShare 3 (some .float), Cond.classLink RX1 179 "java/lang/ArithmeticException", Cond.initialized "java/lang/ArithmeticException", Cond.fieldLink RX1 56 "Windowhouse$Window" "capacity" "I", Cond.fieldLink RX1 63 "Windowhouse$Window" "place" "I", Cond.methodLink RX1 60 yX1_windowOf, Cond.instanceMethod yX1_windowOf, Cond.selects RX1 yX1_windowOf yX1_windowOf, Cond.code yX1_windowOf cX1_windowOf 3 (some (.object "Windowhouse$Window")), Cond.classLink RX1 216 "java/lang/IndexOutOfBoundsException", Cond.initialized "java/lang/IndexOutOfBoundsException", Cond.methodLink RX1 40 yX1_slotOf, Cond.instanceMethod yX1_slotOf, Cond.selects RX1 yX1_slotOf yX1_slotOf, Cond.code yX1_slotOf cX1_slotOf 2 (some (.object "Windowhouse$Window")), Cond.fieldLink RX1 16 "Windowhouse" "windows" "[LWindowhouse$Window;", Cond.methodLink RX1 36 yX1_checkIndex, Cond.static yX1_checkIndex]
def wsL_fullShare_r2 : List Cond := [Cond.code yX1_checkIndex cX1_checkIndex 2 none, Cond.methodLink RX1 48 yX0_isThere, Cond.instanceMethod yX0_isThere, Cond.selects RX0 yX0_isThere yX0_isThere, Cond.initialized RX0, Cond.code yX0_isThere cX0_isThere 1 (some .boolean), Cond.fieldLink RX0 9 "Windowhouse$Window" "kind" "C"]
def wsL_fullShare : List Cond := .codeWith yL_fullShare cL_fullShare 4 (some .int) [(0, 9, 12, 13), (0, 9, 15, 143)] :: ((wsL_fullShare_r1 ++ wsL_fullShare_r2) ++ wsX00 ++ wsX10 ++ (vx_atM "java/lang/ArrayIndexOutOfBoundsException" ["java/lang/IndexOutOfBoundsException", "java/lang/RuntimeException", "java/lang/Exception"]).filter goodWord ++ (vx_atS RX1 183 "java/lang/ArithmeticException" ["java/lang/RuntimeException", "java/lang/Exception"]).filter goodWord ++ (vx_atS RX1 220 "java/lang/IndexOutOfBoundsException" ["java/lang/RuntimeException", "java/lang/Exception"]).filter goodWord)
def wsL_meanLeft : List Cond := .codeWith yL_meanLeft cL_meanLeft 3 (some .int) [(0, 7, 10, 143)] :: ([.classLink RL 143 "java/lang/ArithmeticException", .methodLink RL 145 yX1_meanLeft, .instanceMethod yX1_meanLeft, .selects RX1 yX1_meanLeft yX1_meanLeft, .initialized RX1, .code yX1_meanLeft cX1_meanLeft 4 (some .double), .classLink RX1 179 "java/lang/ArithmeticException", .initialized "java/lang/ArithmeticException", .fieldLink RX1 16 "Windowhouse" "windows" "[LWindowhouse$Window;", .methodLink RX1 48 yX0_isThere, .instanceMethod yX0_isThere, .selects RX0 yX0_isThere yX0_isThere, .initialized RX0, .code yX0_isThere cX0_isThere 1 (some .boolean), .fieldLink RX0 9 "Windowhouse$Window" "kind" "C", .methodLink RX1 66 yX0_rest, .instanceMethod yX0_rest, .selects RX0 yX0_rest yX0_rest, .code yX0_rest cX0_rest 1 (some .int), .fieldLink RX0 23 "Windowhouse$Window" "end" "I", .fieldLink RX0 26 "Windowhouse$Window" "place" "I"] ++ wsX10 ++ wsX00 ++ (vx_atM "java/lang/ArrayIndexOutOfBoundsException" ["java/lang/IndexOutOfBoundsException", "java/lang/RuntimeException", "java/lang/Exception"]).filter goodWord ++ (vx_atS RX1 183 "java/lang/ArithmeticException" ["java/lang/RuntimeException", "java/lang/Exception"]).filter goodWord)
def wsL_law0_r1 : List Cond := [Cond.classLink RL 8 RX1, Cond.instantiable RX1 4, Cond.initialized RX1, Cond.classLink RL 150 RX2, Cond.instantiable RX2 13, Cond.initialized RX2, Cond.arrayClass .long, Cond.arrayClass .double, Cond.constantLong RL 226 (4294967295), Cond.methodLink RL 149 yX1_init, Cond.instanceMethod yX1_init, Cond.code yX1_init cX1_init 2 none, Cond.methodLink RX1 1 objectInit, Cond.instanceMethod objectInit, Cond.code objectInit ⟨#[0xb1]⟩ 1 none, Cond.classLink RX1 9 "[[J", Cond.fieldLink RX1 11 "Windowhouse" "rows" "[[J", Cond.classLink RX1 14 RX0, Cond.fieldLink RX1 16 "Windowhouse" "windows" "[LWindowhouse$Window;", Cond.instantiable RX0 8, Cond.initialized RX0, Cond.fieldLink RX1 21 "Windowhouse" "probe" "LWindowhouse$Window;", Cond.fieldLink RX1 25 "Windowhouse" "twin" "LWindowhouse$Window;", Cond.methodLink RX1 20 yX0_init]
def wsL_law0_r2 : List Cond := [Cond.instanceMethod yX0_init, Cond.code yX0_init cX0_init 1 none, Cond.methodLink RX0 3 objectInit, Cond.fieldLink RX0 9 "Windowhouse$Window" "kind" "C", Cond.fieldLink RX0 15 "Windowhouse$Window" "store" "[J", Cond.fieldLink RX0 19 "Windowhouse$Window" "mark" "I", Cond.methodLink RL 152 yX2_init, Cond.instanceMethod yX2_init, Cond.code yX2_init cX2_init 1 none, Cond.methodLink RX2 1 objectInit, Cond.fieldLink RX2 7 "WindowhouseModel" "stores" "[J", Cond.arrayClass .int, Cond.fieldLink RX2 13 "WindowhouseModel" "kinds" "[I", Cond.fieldLink RX2 17 "WindowhouseModel" "store" "[I", Cond.fieldLink RX2 20 "WindowhouseModel" "from" "[I", Cond.fieldLink RX2 23 "WindowhouseModel" "size" "[I", Cond.fieldLink RX2 26 "WindowhouseModel" "place" "[I", Cond.fieldLink RX2 29 "WindowhouseModel" "end" "[I", Cond.fieldLink RX2 32 "WindowhouseModel" "mark" "[I", Cond.arrayClass .boolean, Cond.fieldLink RX2 35 "WindowhouseModel" "reads" "[Z", Cond.fieldLink RX2 39 "WindowhouseModel" "rowStore" "[I", Cond.fieldLink RX2 42 "WindowhouseModel" "rowSize" "[I", Cond.fieldLink RX2 45 "WindowhouseModel" "beside" "[J"]
def wsL_law0_r3 : List Cond := [Cond.methodLink RL 153 yL_make, Cond.static yL_make, Cond.initialized RL, Cond.codeWith yL_make cL_make 5 (some .int) [(0, 10, 13, 13), (0, 10, 17, 15)], Cond.classLink RL 13 "java/lang/IndexOutOfBoundsException", Cond.classLink RL 15 "java/lang/IllegalArgumentException", Cond.methodLink RL 7 yX1_make, Cond.instanceMethod yX1_make, Cond.selects RX1 yX1_make yX1_make, Cond.code yX1_make cX1_make 4 (some .int), Cond.methodLink RX1 28 yX1_rowOf, Cond.instanceMethod yX1_rowOf, Cond.selects RX1 yX1_rowOf yX1_rowOf, Cond.code yX1_rowOf cX1_rowOf 2 (some (.array .long)), Cond.methodLink RX1 36 yX1_checkIndex, Cond.static yX1_checkIndex, Cond.code yX1_checkIndex cX1_checkIndex 2 none, Cond.classLink RX1 216 "java/lang/IndexOutOfBoundsException", Cond.initialized "java/lang/IndexOutOfBoundsException", Cond.methodLink RX1 32 yX1_checkLength, Cond.static yX1_checkLength, Cond.code yX1_checkLength cX1_checkLength 1 none, Cond.classLink RX1 160 "java/lang/IllegalArgumentException", Cond.initialized "java/lang/IllegalArgumentException"]
def wsL_law0_r4 : List Cond := [Cond.methodLink RL 158 yX2_make, Cond.instanceMethod yX2_make, Cond.selects RX2 yX2_make yX2_make, Cond.code yX2_make cX2_make 4 (some .int), Cond.fieldLink RX2 48 "WindowhouseModel" "thrown" "I", Cond.methodLink RX2 52 yX2_in, Cond.static yX2_in, Cond.code yX2_in cX2_in 3 (some .boolean), Cond.methodLink RX2 60 yX2_free, Cond.instanceMethod yX2_free, Cond.selects RX2 yX2_free yX2_free, Cond.code yX2_free cX2_free 5 (some .int), Cond.methodLink RL 159 yX2_thrown, Cond.instanceMethod yX2_thrown, Cond.selects RX2 yX2_thrown yX2_thrown, Cond.code yX2_thrown cX2_thrown 1 (some .int), Cond.methodLink RL 163 yL_rowAt, Cond.static yL_rowAt, Cond.codeWith yL_rowAt cL_rowAt 5 (some .int) [(0, 10, 13, 13)], Cond.methodLink RL 17 yX1_rowAt, Cond.instanceMethod yX1_rowAt, Cond.selects RX1 yX1_rowAt yX1_rowAt, Cond.code yX1_rowAt cX1_rowAt 4 (some .int), Cond.methodLink RL 165 yX2_rowAt]
def wsL_law0_r5 : List Cond := [Cond.instanceMethod yX2_rowAt, Cond.selects RX2 yX2_rowAt yX2_rowAt, Cond.code yX2_rowAt cX2_rowAt 3 (some .int), Cond.methodLink RX2 64 yX2_isPlace, Cond.instanceMethod yX2_isPlace, Cond.selects RX2 yX2_isPlace yX2_isPlace, Cond.code yX2_isPlace cX2_isPlace 3 (some .boolean), Cond.methodLink RL 166 yL_rowPut, Cond.static yL_rowPut, Cond.codeWith yL_rowPut cL_rowPut 6 (some .int) [(0, 12, 15, 13)], Cond.methodLink RL 20 yX1_rowPut, Cond.instanceMethod yX1_rowPut, Cond.selects RX1 yX1_rowPut yX1_rowPut, Cond.code yX1_rowPut cX1_rowPut 6 (some .int), Cond.methodLink RL 169 yX2_rowPut, Cond.instanceMethod yX2_rowPut, Cond.selects RX2 yX2_rowPut yX2_rowPut, Cond.code yX2_rowPut cX2_rowPut 5 (some .int), Cond.methodLink RL 170 yL_allocate, Cond.static yL_allocate, Cond.codeWith yL_allocate cL_allocate 6 (some .int) [(0, 19, 22, 13), (0, 19, 26, 15)], Cond.methodLink RL 24 yX1_allocate, Cond.instanceMethod yX1_allocate, Cond.selects RX1 yX1_allocate yX1_allocate]
def wsL_law0_r6 : List Cond := [Cond.code yX1_allocate cX1_allocate 6 (some .boolean), Cond.methodLink RX1 40 yX1_slotOf, Cond.instanceMethod yX1_slotOf, Cond.selects RX1 yX1_slotOf yX1_slotOf, Cond.code yX1_slotOf cX1_slotOf 2 (some (.object "Windowhouse$Window")), Cond.methodLink RX1 44 yX1_checkKind, Cond.static yX1_checkKind, Cond.code yX1_checkKind cX1_checkKind 1 none, Cond.methodLink RX1 48 yX0_isThere, Cond.instanceMethod yX0_isThere, Cond.selects RX0 yX0_isThere yX0_isThere, Cond.code yX0_isThere cX0_isThere 1 (some .boolean), Cond.methodLink RX1 52 yX0_layOver, Cond.instanceMethod yX0_layOver, Cond.selects RX0 yX0_layOver yX0_layOver, Cond.code yX0_layOver cX0_layOver 3 none, Cond.fieldLink RX0 35 "Windowhouse$Window" "onlyReads" "Z", Cond.fieldLink RX0 32 "Windowhouse$Window" "start" "I", Cond.fieldLink RX0 29 "Windowhouse$Window" "capacity" "I", Cond.methodLink RX0 39 yX0_moveTo, Cond.instanceMethod yX0_moveTo, Cond.selects RX0 yX0_moveTo yX0_moveTo, Cond.code yX0_moveTo cX0_moveTo 3 none, Cond.fieldLink RX0 26 "Windowhouse$Window" "place" "I"]
def wsL_law0_r7 : List Cond := [Cond.fieldLink RX0 23 "Windowhouse$Window" "end" "I", Cond.methodLink RL 173 yX2_allocate, Cond.instanceMethod yX2_allocate, Cond.selects RX2 yX2_allocate yX2_allocate, Cond.code yX2_allocate cX2_allocate 6 (some .boolean), Cond.methodLink RX2 68 yX2_becomes, Cond.instanceMethod yX2_becomes, Cond.selects RX2 yX2_becomes yX2_becomes, Cond.code yX2_becomes cX2_becomes 7 none, Cond.methodLink RL 174 yL_wrap, Cond.static yL_wrap, Cond.codeWith yL_wrap cL_wrap 5 (some .int) [(0, 10, 13, 13)], Cond.methodLink RL 28 yX1_wrap, Cond.instanceMethod yX1_wrap, Cond.selects RX1 yX1_wrap yX1_wrap, Cond.code yX1_wrap cX1_wrap 5 (some .int), Cond.fieldLink RX1 56 "Windowhouse$Window" "capacity" "I", Cond.methodLink RL 176 yX2_wrap, Cond.instanceMethod yX2_wrap, Cond.selects RX2 yX2_wrap yX2_wrap, Cond.code yX2_wrap cX2_wrap 3 (some .int), Cond.methodLink RL 177 yL_kind, Cond.static yL_kind, Cond.codeWith yL_kind cL_kind 4 (some .int) [(0, 9, 12, 13)]]
def wsL_law0_r8 : List Cond := [Cond.methodLink RL 31 yX1_kind, Cond.instanceMethod yX1_kind, Cond.selects RX1 yX1_kind yX1_kind, Cond.code yX1_kind cX1_kind 2 (some .char), Cond.fieldLink RX1 89 "Windowhouse$Window" "kind" "C", Cond.methodLink RL 180 yX2_kind, Cond.instanceMethod yX2_kind, Cond.selects RX2 yX2_kind yX2_kind, Cond.code yX2_kind cX2_kind 2 (some .char), Cond.methodLink RL 181 yL_capacity, Cond.static yL_capacity, Cond.codeWith yL_capacity cL_capacity 4 (some .int) [(0, 9, 12, 13)], Cond.methodLink RL 35 yX1_capacity, Cond.instanceMethod yX1_capacity, Cond.selects RX1 yX1_capacity yX1_capacity, Cond.code yX1_capacity cX1_capacity 2 (some .int), Cond.methodLink RX1 60 yX1_windowOf, Cond.instanceMethod yX1_windowOf, Cond.selects RX1 yX1_windowOf yX1_windowOf, Cond.code yX1_windowOf cX1_windowOf 3 (some (.object "Windowhouse$Window")), Cond.methodLink RL 183 yX2_capacity, Cond.instanceMethod yX2_capacity, Cond.selects RX2 yX2_capacity yX2_capacity, Cond.code yX2_capacity cX2_capacity 2 (some .int)]
def wsL_law0_r9 : List Cond := [Cond.methodLink RX2 72 yX2_isWindow, Cond.instanceMethod yX2_isWindow, Cond.selects RX2 yX2_isWindow yX2_isWindow, Cond.code yX2_isWindow cX2_isWindow 2 (some .boolean), Cond.methodLink RX2 56 yX2_is, Cond.instanceMethod yX2_is, Cond.selects RX2 yX2_is yX2_is, Cond.code yX2_is cX2_is 2 (some .boolean), Cond.methodLink RL 184 yL_place, Cond.static yL_place, Cond.codeWith yL_place cL_place 4 (some .int) [(0, 9, 12, 13)], Cond.methodLink RL 39 yX1_place, Cond.instanceMethod yX1_place, Cond.selects RX1 yX1_place yX1_place, Cond.code yX1_place cX1_place 2 (some .int), Cond.fieldLink RX1 63 "Windowhouse$Window" "place" "I", Cond.methodLink RL 186 yX2_place, Cond.instanceMethod yX2_place, Cond.selects RX2 yX2_place yX2_place, Cond.code yX2_place cX2_place 2 (some .int), Cond.methodLink RL 187 yL_end, Cond.static yL_end, Cond.codeWith yL_end cL_end 4 (some .int) [(0, 9, 12, 13)], Cond.methodLink RL 42 yX1_end]
def wsL_law0_r10 : List Cond := [Cond.instanceMethod yX1_end, Cond.selects RX1 yX1_end yX1_end, Cond.code yX1_end cX1_end 2 (some .int), Cond.fieldLink RX1 74 "Windowhouse$Window" "end" "I", Cond.methodLink RL 189 yX2_end, Cond.instanceMethod yX2_end, Cond.selects RX2 yX2_end yX2_end, Cond.code yX2_end cX2_end 2 (some .int), Cond.methodLink RL 190 yL_left, Cond.static yL_left, Cond.codeWith yL_left cL_left 4 (some .int) [(0, 9, 12, 13)], Cond.methodLink RL 45 yX1_left, Cond.instanceMethod yX1_left, Cond.selects RX1 yX1_left yX1_left, Cond.code yX1_left cX1_left 2 (some .int), Cond.methodLink RX1 66 yX0_rest, Cond.instanceMethod yX0_rest, Cond.selects RX0 yX0_rest yX0_rest, Cond.code yX0_rest cX0_rest 1 (some .int), Cond.methodLink RL 192 yX2_left, Cond.instanceMethod yX2_left, Cond.selects RX2 yX2_left yX2_left, Cond.code yX2_left cX2_left 2 (some .int), Cond.methodLink RL 193 yL_hasLeft]
def wsL_law0_r11 : List Cond := [Cond.static yL_hasLeft, Cond.codeWith yL_hasLeft cL_hasLeft 4 (some .int) [(0, 16, 19, 13)], Cond.methodLink RL 48 yX1_hasLeft, Cond.instanceMethod yX1_hasLeft, Cond.selects RX1 yX1_hasLeft yX1_hasLeft, Cond.code yX1_hasLeft cX1_hasLeft 2 (some .boolean), Cond.methodLink RL 195 yX2_hasLeft, Cond.instanceMethod yX2_hasLeft, Cond.selects RX2 yX2_hasLeft yX2_hasLeft, Cond.code yX2_hasLeft cX2_hasLeft 2 (some .boolean), Cond.methodLink RL 196 yL_isReadOnly, Cond.static yL_isReadOnly, Cond.codeWith yL_isReadOnly cL_isReadOnly 4 (some .int) [(0, 16, 19, 13)], Cond.methodLink RL 52 yX1_isReadOnly, Cond.instanceMethod yX1_isReadOnly, Cond.selects RX1 yX1_isReadOnly yX1_isReadOnly, Cond.code yX1_isReadOnly cX1_isReadOnly 2 (some .boolean), Cond.fieldLink RX1 85 "Windowhouse$Window" "onlyReads" "Z", Cond.methodLink RL 198 yX2_isReadOnly, Cond.instanceMethod yX2_isReadOnly, Cond.selects RX2 yX2_isReadOnly yX2_isReadOnly, Cond.code yX2_isReadOnly cX2_isReadOnly 2 (some .boolean), Cond.methodLink RL 199 yL_placeAt, Cond.static yL_placeAt]
def wsL_law0_r12 : List Cond := [Cond.codeWith yL_placeAt cL_placeAt 5 (some .int) [(0, 10, 13, 13), (0, 10, 17, 15)], Cond.methodLink RL 55 yX1_placeAt, Cond.instanceMethod yX1_placeAt, Cond.selects RX1 yX1_placeAt yX1_placeAt, Cond.code yX1_placeAt cX1_placeAt 5 (some .int), Cond.methodLink RX1 93 yX1_checkBound, Cond.static yX1_checkBound, Cond.code yX1_checkBound cX1_checkBound 2 none, Cond.methodLink RX1 96 yX0_dropMarkBeyond, Cond.instanceMethod yX0_dropMarkBeyond, Cond.selects RX0 yX0_dropMarkBeyond yX0_dropMarkBeyond, Cond.code yX0_dropMarkBeyond cX0_dropMarkBeyond 2 none, Cond.methodLink RL 201 yX2_placeAt, Cond.instanceMethod yX2_placeAt, Cond.selects RX2 yX2_placeAt yX2_placeAt, Cond.code yX2_placeAt cX2_placeAt 4 (some .int), Cond.methodLink RL 202 yL_endAt, Cond.static yL_endAt, Cond.codeWith yL_endAt cL_endAt 5 (some .int) [(0, 10, 13, 13), (0, 10, 17, 15)], Cond.methodLink RL 58 yX1_endAt, Cond.instanceMethod yX1_endAt, Cond.selects RX1 yX1_endAt yX1_endAt, Cond.code yX1_endAt cX1_endAt 5 (some .int), Cond.methodLink RX1 99 Lib.Math.min.name]
def wsL_law0_r13 : List Cond := [Cond.static Lib.Math.min.name, Cond.initialized "java/lang/Math", Cond.code Lib.Math.min.name Lib.Math.min.code 2 (some .int), Cond.methodLink RL 204 yX2_endAt, Cond.instanceMethod yX2_endAt, Cond.selects RX2 yX2_endAt yX2_endAt, Cond.code yX2_endAt cX2_endAt 4 (some .int), Cond.methodLink RL 205 yL_mark, Cond.static yL_mark, Cond.codeWith yL_mark cL_mark 4 (some .int) [(0, 9, 12, 13)], Cond.methodLink RL 61 yX1_mark, Cond.instanceMethod yX1_mark, Cond.selects RX1 yX1_mark yX1_mark, Cond.code yX1_mark cX1_mark 3 (some .int), Cond.fieldLink RX1 105 "Windowhouse$Window" "mark" "I", Cond.methodLink RL 207 yX2_mark, Cond.instanceMethod yX2_mark, Cond.selects RX2 yX2_mark yX2_mark, Cond.code yX2_mark cX2_mark 2 (some .int), Cond.methodLink RL 208 yL_back, Cond.static yL_back, Cond.codeWith yL_back cL_back 4 (some .int) [(0, 9, 12, 13), (0, 9, 15, 67)], Cond.classLink RL 67 "java/lang/IllegalStateException", Cond.methodLink RL 64 yX1_back]
def wsL_law0_r14 : List Cond := [Cond.instanceMethod yX1_back, Cond.selects RX1 yX1_back yX1_back, Cond.code yX1_back cX1_back 4 (some .int), Cond.classLink RX1 108 "java/lang/IllegalStateException", Cond.initialized "java/lang/IllegalStateException", Cond.methodLink RL 210 yX2_back, Cond.instanceMethod yX2_back, Cond.selects RX2 yX2_back yX2_back, Cond.code yX2_back cX2_back 3 (some .int), Cond.methodLink RL 211 yL_clear, Cond.static yL_clear, Cond.codeWith yL_clear cL_clear 4 (some .int) [(0, 9, 12, 13)], Cond.methodLink RL 69 yX1_clear, Cond.instanceMethod yX1_clear, Cond.selects RX1 yX1_clear yX1_clear, Cond.code yX1_clear cX1_clear 3 (some .int), Cond.methodLink RX1 115 yX0_moveTo, Cond.methodLink RL 213 yX2_clear, Cond.instanceMethod yX2_clear, Cond.selects RX2 yX2_clear yX2_clear, Cond.code yX2_clear cX2_clear 2 (some .int), Cond.methodLink RX2 75 yX2_stands, Cond.instanceMethod yX2_stands, Cond.selects RX2 yX2_stands yX2_stands]
def wsL_law0_r15 : List Cond := [Cond.code yX2_stands cX2_stands 4 none, Cond.methodLink RL 214 yL_flip, Cond.static yL_flip, Cond.codeWith yL_flip cL_flip 4 (some .int) [(0, 9, 12, 13)], Cond.methodLink RL 72 yX1_flip, Cond.instanceMethod yX1_flip, Cond.selects RX1 yX1_flip yX1_flip, Cond.code yX1_flip cX1_flip 3 (some .int), Cond.methodLink RL 216 yX2_flip, Cond.instanceMethod yX2_flip, Cond.selects RX2 yX2_flip yX2_flip, Cond.code yX2_flip cX2_flip 2 (some .int), Cond.methodLink RL 217 yL_rewind, Cond.static yL_rewind, Cond.codeWith yL_rewind cL_rewind 4 (some .int) [(0, 9, 12, 13)], Cond.methodLink RL 75 yX1_rewind, Cond.instanceMethod yX1_rewind, Cond.selects RX1 yX1_rewind yX1_rewind, Cond.code yX1_rewind cX1_rewind 3 (some .int), Cond.methodLink RL 219 yX2_rewind, Cond.instanceMethod yX2_rewind, Cond.selects RX2 yX2_rewind yX2_rewind, Cond.code yX2_rewind cX2_rewind 2 (some .int), Cond.methodLink RL 220 yL_compact]
def wsL_law0_r16 : List Cond := [Cond.static yL_compact, Cond.codeWith yL_compact cL_compact 4 (some .int) [(0, 9, 12, 13), (0, 9, 15, 81)], Cond.classLink RL 81 "java/lang/UnsupportedOperationException", Cond.methodLink RL 78 yX1_compact, Cond.instanceMethod yX1_compact, Cond.selects RX1 yX1_compact yX1_compact, Cond.code yX1_compact cX1_compact 4 (some .int), Cond.fieldLink RX1 121 "Windowhouse$Window" "store" "[J", Cond.fieldLink RX1 125 "Windowhouse$Window" "start" "I", Cond.methodLink RX1 128 arraycopyName, Cond.native arraycopyName, Cond.static arraycopyName, Cond.initialized "java/lang/System", Cond.methodLink RX1 118 yX1_checkWritable, Cond.static yX1_checkWritable, Cond.code yX1_checkWritable cX1_checkWritable 1 none, Cond.classLink RX1 233 "java/lang/UnsupportedOperationException", Cond.initialized "java/lang/UnsupportedOperationException", Cond.methodLink RL 222 yX2_compact, Cond.instanceMethod yX2_compact, Cond.selects RX2 yX2_compact yX2_compact, Cond.code yX2_compact cX2_compact 4 (some .int), Cond.methodLink RX2 81 yX2_value, Cond.instanceMethod yX2_value]
def wsL_law0_r17 : List Cond := [Cond.selects RX2 yX2_value yX2_value, Cond.code yX2_value cX2_value 3 (some .long), Cond.methodLink RX2 85 yX2_lays, Cond.instanceMethod yX2_lays, Cond.selects RX2 yX2_lays yX2_lays, Cond.code yX2_lays cX2_lays 8 none, Cond.constantLong RX2 79 (255), Cond.methodLink RL 223 yL_get, Cond.static yL_get, Cond.codeWith yL_get cL_get 4 (some .int) [(0, 8, 11, 13), (0, 8, 14, 87)], Cond.classLink RL 87 "java/util/NoSuchElementException", Cond.methodLink RL 83 yX1_get, Cond.instanceMethod yX1_get, Cond.selects RX1 yX1_get yX1_get, Cond.code yX1_get cX1_get 3 (some .long), Cond.methodLink RX1 134 yX1_checkEnoughToGet, Cond.static yX1_checkEnoughToGet, Cond.code yX1_checkEnoughToGet cX1_checkEnoughToGet 2 none, Cond.classLink RX1 168 "java/util/NoSuchElementException", Cond.initialized "java/util/NoSuchElementException", Cond.methodLink RX1 138 yX0_takeNext, Cond.instanceMethod yX0_takeNext, Cond.selects RX0 yX0_takeNext yX0_takeNext, Cond.code yX0_takeNext cX0_takeNext 3 (some .long)]
def wsL_law0_r18 : List Cond := [Cond.methodLink RX0 47 yX0_valueAt, Cond.instanceMethod yX0_valueAt, Cond.selects RX0 yX0_valueAt yX0_valueAt, Cond.code yX0_valueAt cX0_valueAt 2 (some .long), Cond.methodLink RL 225 yX2_get, Cond.instanceMethod yX2_get, Cond.selects RX2 yX2_get yX2_get, Cond.code yX2_get cX2_get 2 (some .long), Cond.methodLink RL 228 yL_put, Cond.static yL_put, Cond.codeWith yL_put cL_put 6 (some .int) [(0, 11, 14, 13), (0, 11, 18, 81), (0, 11, 22, 67)], Cond.methodLink RL 89 yX1_put, Cond.instanceMethod yX1_put, Cond.selects RX1 yX1_put yX1_put, Cond.code yX1_put cX1_put 5 (some .int), Cond.methodLink RX1 142 yX1_checkEnoughToPut, Cond.static yX1_checkEnoughToPut, Cond.code yX1_checkEnoughToPut cX1_checkEnoughToPut 2 none, Cond.methodLink RX1 145 yX0_putNext, Cond.instanceMethod yX0_putNext, Cond.selects RX0 yX0_putNext yX0_putNext, Cond.code yX0_putNext cX0_putNext 3 none, Cond.methodLink RX0 51 yX0_changeAt, Cond.instanceMethod yX0_changeAt]
def wsL_law0_r19 : List Cond := [Cond.selects RX0 yX0_changeAt yX0_changeAt, Cond.code yX0_changeAt cX0_changeAt 4 none, Cond.methodLink RX0 43 yX0_cut, Cond.instanceMethod yX0_cut, Cond.selects RX0 yX0_cut yX0_cut, Cond.code yX0_cut cX0_cut 3 (some .long), Cond.constantLong RX0 55 (255), Cond.methodLink RL 231 yX2_put, Cond.instanceMethod yX2_put, Cond.selects RX2 yX2_put yX2_put, Cond.code yX2_put cX2_put 4 (some .int), Cond.methodLink RL 232 yL_getAt, Cond.static yL_getAt, Cond.codeWith yL_getAt cL_getAt 5 (some .int) [(0, 9, 12, 13)], Cond.methodLink RL 93 yX1_getAt, Cond.instanceMethod yX1_getAt, Cond.selects RX1 yX1_getAt yX1_getAt, Cond.code yX1_getAt cX1_getAt 4 (some .long), Cond.methodLink RX1 149 yX0_valueAt, Cond.methodLink RL 234 yX2_getAt, Cond.instanceMethod yX2_getAt, Cond.selects RX2 yX2_getAt yX2_getAt, Cond.code yX2_getAt cX2_getAt 3 (some .long), Cond.methodLink RL 235 yL_putAt]
def wsL_law0_r20 : List Cond := [Cond.static yL_putAt, Cond.codeWith yL_putAt cL_putAt 7 (some .int) [(0, 11, 14, 13), (0, 11, 18, 81)], Cond.methodLink RL 97 yX1_putAt, Cond.instanceMethod yX1_putAt, Cond.selects RX1 yX1_putAt yX1_putAt, Cond.code yX1_putAt cX1_putAt 8 (some .long), Cond.methodLink RX1 153 yX0_changeAt, Cond.methodLink RL 238 yX2_putAt, Cond.instanceMethod yX2_putAt, Cond.selects RX2 yX2_putAt yX2_putAt, Cond.code yX2_putAt cX2_putAt 7 (some .long), Cond.methodLink RL 239 yL_fill, Cond.static yL_fill, Cond.codeWith yL_fill cL_fill 9 (some .int) [(0, 14, 17, 13), (0, 14, 21, 15), (0, 14, 25, 81), (0, 14, 29, 67)], Cond.methodLink RL 101 yX1_fill, Cond.instanceMethod yX1_fill, Cond.selects RX1 yX1_fill yX1_fill, Cond.code yX1_fill cX1_fill 11 (some .int), Cond.methodLink RX1 157 yX1_checkMany, Cond.static yX1_checkMany, Cond.code yX1_checkMany cX1_checkMany 1 none, Cond.methodLink RL 242 yX2_fill, Cond.instanceMethod yX2_fill, Cond.selects RX2 yX2_fill yX2_fill]
def wsL_law0_r21 : List Cond := [Cond.code yX2_fill cX2_fill 8 (some .int), Cond.methodLink RL 243 yL_pour, Cond.static yL_pour, Cond.codeWith yL_pour cL_pour 6 (some .int) [(0, 12, 15, 13), (0, 12, 19, 15), (0, 12, 23, 81), (0, 12, 27, 87), (0, 12, 31, 67)], Cond.methodLink RL 105 yX1_pour, Cond.instanceMethod yX1_pour, Cond.selects RX1 yX1_pour yX1_pour, Cond.code yX1_pour cX1_pour 7 (some .int), Cond.methodLink RL 245 yX2_pour, Cond.instanceMethod yX2_pour, Cond.selects RX2 yX2_pour yX2_pour, Cond.code yX2_pour cX2_pour 6 (some .int), Cond.methodLink RL 246 yL_slice, Cond.static yL_slice, Cond.codeWith yL_slice cL_slice 5 (some .int) [(0, 10, 13, 13)], Cond.methodLink RL 108 yX1_slice, Cond.instanceMethod yX1_slice, Cond.selects RX1 yX1_slice yX1_slice, Cond.code yX1_slice cX1_slice 5 (some .int), Cond.methodLink RX1 70 yX0_becomeSlice, Cond.instanceMethod yX0_becomeSlice, Cond.selects RX0 yX0_becomeSlice yX0_becomeSlice, Cond.code yX0_becomeSlice cX0_becomeSlice 4 none, Cond.methodLink RL 248 yX2_slice]
def wsL_law0_r22 : List Cond := [Cond.instanceMethod yX2_slice, Cond.selects RX2 yX2_slice yX2_slice, Cond.code yX2_slice cX2_slice 3 (some .int), Cond.methodLink RL 249 yL_sliceAt, Cond.static yL_sliceAt, Cond.codeWith yL_sliceAt cL_sliceAt 7 (some .int) [(0, 14, 17, 13)], Cond.methodLink RL 111 yX1_sliceAt, Cond.instanceMethod yX1_sliceAt, Cond.selects RX1 yX1_sliceAt yX1_sliceAt, Cond.code yX1_sliceAt cX1_sliceAt 7 (some .int), Cond.methodLink RX1 77 yX1_checkPart, Cond.static yX1_checkPart, Cond.code yX1_checkPart cX1_checkPart 3 none, Cond.methodLink RL 252 yX2_sliceAt, Cond.instanceMethod yX2_sliceAt, Cond.selects RX2 yX2_sliceAt yX2_sliceAt, Cond.code yX2_sliceAt cX2_sliceAt 6 (some .int), Cond.methodLink RL 253 yL_duplicate, Cond.static yL_duplicate, Cond.codeWith yL_duplicate cL_duplicate 5 (some .int) [(0, 10, 13, 13)], Cond.methodLink RL 115 yX1_duplicate, Cond.instanceMethod yX1_duplicate, Cond.selects RX1 yX1_duplicate yX1_duplicate, Cond.code yX1_duplicate cX1_duplicate 5 (some .int)]
def wsL_law0_r23 : List Cond := [Cond.methodLink RX1 81 yX0_becomeDuplicate, Cond.instanceMethod yX0_becomeDuplicate, Cond.selects RX0 yX0_becomeDuplicate yX0_becomeDuplicate, Cond.code yX0_becomeDuplicate cX0_becomeDuplicate 2 none, Cond.methodLink RL 255 yX2_duplicate, Cond.instanceMethod yX2_duplicate, Cond.selects RX2 yX2_duplicate yX2_duplicate, Cond.code yX2_duplicate cX2_duplicate 3 (some .int), Cond.methodLink RX2 89 yX2_twin, Cond.instanceMethod yX2_twin, Cond.selects RX2 yX2_twin yX2_twin, Cond.code yX2_twin cX2_twin 7 (some .int), Cond.methodLink RL 256 yL_readOnly, Cond.static yL_readOnly, Cond.codeWith yL_readOnly cL_readOnly 5 (some .int) [(0, 10, 13, 13)], Cond.methodLink RL 118 yX1_readOnly, Cond.instanceMethod yX1_readOnly, Cond.selects RX1 yX1_readOnly yX1_readOnly, Cond.code yX1_readOnly cX1_readOnly 5 (some .int), Cond.methodLink RL 258 yX2_readOnly, Cond.instanceMethod yX2_readOnly, Cond.selects RX2 yX2_readOnly yX2_readOnly, Cond.code yX2_readOnly cX2_readOnly 3 (some .int), Cond.methodLink RL 259 yL_signAt]
def wsL_law0_r24 : List Cond := [Cond.static yL_signAt, Cond.codeWith yL_signAt cL_signAt 5 (some .int) [(0, 10, 13, 13), (0, 10, 17, 81), (0, 10, 21, 87)], Cond.methodLink RL 121 yX1_signAt, Cond.instanceMethod yX1_signAt, Cond.selects RX1 yX1_signAt yX1_signAt, Cond.code yX1_signAt cX1_signAt 4 (some .char), Cond.methodLink RX1 165 yX1_checkOfChars, Cond.static yX1_checkOfChars, Cond.code yX1_checkOfChars cX1_checkOfChars 1 none, Cond.methodLink RL 261 yX2_signAt, Cond.instanceMethod yX2_signAt, Cond.selects RX2 yX2_signAt yX2_signAt, Cond.code yX2_signAt cX2_signAt 3 (some .char), Cond.methodLink RL 262 yL_signsLeft, Cond.static yL_signsLeft, Cond.codeWith yL_signsLeft cL_signsLeft 4 (some .int) [(0, 9, 12, 13), (0, 9, 15, 81)], Cond.methodLink RL 125 yX1_signsLeft, Cond.instanceMethod yX1_signsLeft, Cond.selects RX1 yX1_signsLeft yX1_signsLeft, Cond.code yX1_signsLeft cX1_signsLeft 3 (some .int), Cond.methodLink RL 264 yX2_signsLeft, Cond.instanceMethod yX2_signsLeft, Cond.selects RX2 yX2_signsLeft yX2_signsLeft, Cond.code yX2_signsLeft cX2_signsLeft 2 (some .int)]
def wsL_law0_r25 : List Cond := [Cond.methodLink RL 265 yL_append, Cond.static yL_append, Cond.codeWith yL_append cL_append 5 (some .int) [(0, 10, 13, 13), (0, 10, 17, 81), (0, 10, 21, 67)], Cond.methodLink RL 128 yX1_append, Cond.instanceMethod yX1_append, Cond.selects RX1 yX1_append yX1_append, Cond.code yX1_append cX1_append 4 (some .int), Cond.methodLink RL 268 yX2_append, Cond.instanceMethod yX2_append, Cond.selects RX2 yX2_append yX2_append, Cond.code yX2_append cX2_append 3 (some .int), Cond.methodLink RL 269 yL_text, Cond.static yL_text, Cond.codeWith yL_text cL_text 4 (some .int) [(0, 8, 11, 13), (0, 8, 14, 81)], Cond.methodLink RL 132 yX1_text, Cond.instanceMethod yX1_text, Cond.selects RX1 yX1_text yX1_text, Cond.code yX1_text cX1_text 3 (some .long), Cond.constantLong RX1 173 (7), Cond.methodLink RX1 175 yX0_sumOver, Cond.instanceMethod yX0_sumOver, Cond.selects RX0 yX0_sumOver yX0_sumOver, Cond.code yX0_sumOver cX0_sumOver 7 (some .long), Cond.static yX1_summed]
def wsL_law0_r26 : List Cond := [Cond.code yX1_summed cX1_summed 4 (some .long), Cond.constantLong RX1 214 (31), Cond.methodLink RL 271 yX2_text, Cond.instanceMethod yX2_text, Cond.selects RX2 yX2_text yX2_text, Cond.code yX2_text cX2_text 5 (some .long), Cond.constantLong RX2 93 (7), Cond.constantLong RX2 95 (31), Cond.methodLink RL 272 yL_isAlike, Cond.static yL_isAlike, Cond.codeWith yL_isAlike cL_isAlike 5 (some .int) [(0, 17, 20, 13)], Cond.methodLink RL 135 yX1_isAlike, Cond.instanceMethod yX1_isAlike, Cond.selects RX1 yX1_isAlike yX1_isAlike, Cond.code yX1_isAlike cX1_isAlike 7 (some .boolean), Cond.methodLink RL 274 yX2_isAlike, Cond.instanceMethod yX2_isAlike, Cond.selects RX2 yX2_isAlike yX2_isAlike, Cond.code yX2_isAlike cX2_isAlike 6 (some .boolean), Cond.methodLink RL 275 yL_fullShare, Cond.static yL_fullShare, Cond.codeWith yL_fullShare cL_fullShare 4 (some .int) [(0, 9, 12, 13), (0, 9, 15, 143)], Cond.classLink RL 143 "java/lang/ArithmeticException", Cond.methodLink RL 139 yX1_fullShare]
def wsL_law0_r27 : List Cond := [Cond.instanceMethod yX1_fullShare, Cond.selects RX1 yX1_fullShare yX1_fullShare, Cond.code yX1_fullShare cX1_fullShare 3 (some .float), Cond.classLink RX1 179 "java/lang/ArithmeticException", Cond.initialized "java/lang/ArithmeticException", Cond.methodLink RL 278 yX2_fullShare, Cond.instanceMethod yX2_fullShare, Cond.selects RX2 yX2_fullShare yX2_fullShare, Cond.code yX2_fullShare cX2_fullShare 2 (some .float), Cond.methodLink RL 279 yL_meanLeft, Cond.static yL_meanLeft, Cond.codeWith yL_meanLeft cL_meanLeft 3 (some .int) [(0, 7, 10, 143)], Cond.methodLink RL 145 yX1_meanLeft, Cond.instanceMethod yX1_meanLeft, Cond.selects RX1 yX1_meanLeft yX1_meanLeft, Cond.code yX1_meanLeft cX1_meanLeft 4 (some .double), Cond.methodLink RL 282 yX2_meanLeft, Cond.instanceMethod yX2_meanLeft, Cond.selects RX2 yX2_meanLeft yX2_meanLeft, Cond.code yX2_meanLeft cX2_meanLeft 4 (some .double), Cond.methodLink RL 283 yX1_checksum, Cond.instanceMethod yX1_checksum, Cond.selects RX1 yX1_checksum yX1_checksum, Cond.code yX1_checksum cX1_checksum 4 (some .long)]
def wsL_law0_r28 : List Cond := [Cond.methodLink RX1 186 yX0_sumOfAll, Cond.instanceMethod yX0_sumOfAll, Cond.selects RX0 yX0_sumOfAll yX0_sumOfAll, Cond.code yX0_sumOfAll cX0_sumOfAll 5 (some .long), Cond.methodLink RX0 61 yX0_isThere, Cond.methodLink RX0 65 yX0_sumOver, Cond.methodLink RX1 190 yX1_sumOfRow, Cond.static yX1_sumOfRow, Cond.code yX1_sumOfRow cX1_sumOfRow 6 (some .long), Cond.methodLink RX1 210 yX1_summed, Cond.methodLink RL 287 yX2_checksum, Cond.instanceMethod yX2_checksum, Cond.selects RX2 yX2_checksum yX2_checksum, Cond.code yX2_checksum cX2_checksum 5 (some .long), Cond.methodLink RL 288 yX1_isTrue, Cond.instanceMethod yX1_isTrue, Cond.selects RX1 yX1_isTrue yX1_isTrue, Cond.code yX1_isTrue cX1_isTrue 2 (some .boolean), Cond.methodLink RX1 194 yX1_keepsTheorem, Cond.instanceMethod yX1_keepsTheorem, Cond.selects RX1 yX1_keepsTheorem yX1_keepsTheorem, Cond.code yX1_keepsTheorem cX1_keepsTheorem 4 (some .boolean), Cond.methodLink RX1 198 yX0_isInBounds, Cond.instanceMethod yX0_isInBounds]
def wsL_law0_r29 : List Cond := [Cond.selects RX0 yX0_isInBounds yX0_isInBounds, Cond.code yX0_isInBounds cX0_isInBounds 1 (some .boolean), Cond.methodLink RX1 201 yX1_showsChange, Cond.instanceMethod yX1_showsChange, Cond.selects RX1 yX1_showsChange yX1_showsChange, Cond.code yX1_showsChange cX1_showsChange 8 (some .boolean), Cond.constantLong RX1 205 (-1), Cond.methodLink RX1 207 yX0_cut, Cond.methodLink RL 292 yX2_isTrue, Cond.instanceMethod yX2_isTrue, Cond.selects RX2 yX2_isTrue yX2_isTrue, Cond.code yX2_isTrue cX2_isTrue 1 (some .boolean)]
def wsL_law0 : List Cond := (wsL_law0_r1 ++ (wsL_law0_r2 ++ (wsL_law0_r3 ++ (wsL_law0_r4 ++ (wsL_law0_r5 ++ (wsL_law0_r6 ++ (wsL_law0_r7 ++ (wsL_law0_r8 ++ (wsL_law0_r9 ++ (wsL_law0_r10 ++ (wsL_law0_r11 ++ (wsL_law0_r12 ++ (wsL_law0_r13 ++ (wsL_law0_r14 ++ (wsL_law0_r15 ++ (wsL_law0_r16 ++ (wsL_law0_r17 ++ (wsL_law0_r18 ++ (wsL_law0_r19 ++ (wsL_law0_r20 ++ (wsL_law0_r21 ++ (wsL_law0_r22 ++ (wsL_law0_r23 ++ (wsL_law0_r24 ++ (wsL_law0_r25 ++ (wsL_law0_r26 ++ (wsL_law0_r27 ++ (wsL_law0_r28 ++ wsL_law0_r29)))))))))))))))))))))))))))) ++ wsX10 ++ wsX20 ++ wsX00 ++ ([] : List Cond)
def wsL_law : List Cond := wsL_law0 ++ (vx_atM "java/lang/ArrayIndexOutOfBoundsException" ["java/lang/IndexOutOfBoundsException", "java/lang/RuntimeException", "java/lang/Exception"]).filter goodWord ++ (vx_atS RX1 220 "java/lang/IndexOutOfBoundsException" ["java/lang/RuntimeException", "java/lang/Exception"]).filter goodWord ++ (vx_atS RX1 164 "java/lang/IllegalArgumentException" ["java/lang/RuntimeException", "java/lang/Exception"]).filter goodWord ++ (vx_atS RX1 112 "java/lang/IllegalStateException" ["java/lang/RuntimeException", "java/lang/Exception"]).filter goodWord ++ (vx_atS RX1 237 "java/lang/UnsupportedOperationException" ["java/lang/RuntimeException", "java/lang/Exception"]).filter goodWord ++ (vx_atS RX1 172 "java/util/NoSuchElementException" ["java/lang/RuntimeException", "java/lang/Exception"]).filter goodWord ++ (vx_atS RX1 183 "java/lang/ArithmeticException" ["java/lang/RuntimeException", "java/lang/Exception"]).filter goodWord
set_option maxRecDepth 20000 in
theorem wsL_law_in0 : ∀ w ∈ wsL_law0, w ∈ lw_tbl := fun w h => (goodIn_p wsL_law0 [36, 39, 47, 687, 257, 261, 264, 280, 738, 741, 745, 734, 303, 749, 753, 310, 757, 317, 321, 324, 112, 329, 149, 761, 765, 336, 769, 343, 773, 350, 354, 777, 781, 785, 362, 789, 369, 793, 376, 141, 797, 383, 801, 390, 805, 397, 400, 405, 809, 412, 415, 813, 422, 817, 430, 821, 453, 825, 829, 461, 833, 468, 837, 476, 479, 841, 845, 849, 506, 509, 529, 120, 854, 536, 539, 543, 168, 163, 858, 551, 862, 558, 866, 565, 568, 870, 576, 874, 584, 145, 878, 591, 594, 882, 602, 153, 886, 890, 609, 894, 616, 619, 898, 628, 902, 635, 906, 642, 116, 107, 910, 650, 916, 671, 920, 681, 924, 99, 104, 123, 928, 128, 133, 137, 157, 932] (by decide +kernel) (by decide +kernel) w h).1
theorem wsL_law_x0 : ∀ w ∈ (vx_atM "java/lang/ArrayIndexOutOfBoundsException" ["java/lang/IndexOutOfBoundsException", "java/lang/RuntimeException", "java/lang/Exception"]).filter goodWord, w ∈ lw_tbl := by decide +kernel
theorem wsL_law_x1 : ∀ w ∈ (vx_atS RX1 220 "java/lang/IndexOutOfBoundsException" ["java/lang/RuntimeException", "java/lang/Exception"]).filter goodWord, w ∈ lw_tbl := by decide +kernel
theorem wsL_law_x2 : ∀ w ∈ (vx_atS RX1 164 "java/lang/IllegalArgumentException" ["java/lang/RuntimeException", "java/lang/Exception"]).filter goodWord, w ∈ lw_tbl := by decide +kernel
theorem wsL_law_x3 : ∀ w ∈ (vx_atS RX1 112 "java/lang/IllegalStateException" ["java/lang/RuntimeException", "java/lang/Exception"]).filter goodWord, w ∈ lw_tbl := by decide +kernel
theorem wsL_law_x4 : ∀ w ∈ (vx_atS RX1 237 "java/lang/UnsupportedOperationException" ["java/lang/RuntimeException", "java/lang/Exception"]).filter goodWord, w ∈ lw_tbl := by decide +kernel
theorem wsL_law_x5 : ∀ w ∈ (vx_atS RX1 172 "java/util/NoSuchElementException" ["java/lang/RuntimeException", "java/lang/Exception"]).filter goodWord, w ∈ lw_tbl := by decide +kernel
theorem wsL_law_x6 : ∀ w ∈ (vx_atS RX1 183 "java/lang/ArithmeticException" ["java/lang/RuntimeException", "java/lang/Exception"]).filter goodWord, w ∈ lw_tbl := by decide +kernel
theorem wsL_law_in : ∀ w ∈ wsL_law, w ∈ lw_tbl := fun w h => (List.mem_append.mp h).elim (fun h => (List.mem_append.mp h).elim (fun h => (List.mem_append.mp h).elim (fun h => (List.mem_append.mp h).elim (fun h => (List.mem_append.mp h).elim (fun h => (List.mem_append.mp h).elim (fun h => (List.mem_append.mp h).elim (fun h => wsL_law_in0 w h) (fun h => wsL_law_x0 w h)) (fun h => wsL_law_x1 w h)) (fun h => wsL_law_x2 w h)) (fun h => wsL_law_x3 w h)) (fun h => wsL_law_x4 w h)) (fun h => wsL_law_x5 w h)) (fun h => wsL_law_x6 w h)
theorem inlX0 : ∀ w ∈ wsX00, w ∈ wsL_law := fun _ h => List.mem_append_left _ (List.mem_append_left _ (List.mem_append_left _ (List.mem_append_left _ (List.mem_append_left _ (List.mem_append_left _ (List.mem_append_left _ (List.mem_append_left _ (List.mem_append_right _ h))))))))
theorem inX0 : ∀ w ∈ wsX00, w ∈ lw_tbl := fun w h => wsL_law_in w (inlX0 w h)
theorem inlX1 : ∀ w ∈ wsX10, w ∈ wsL_law := fun _ h => List.mem_append_left _ (List.mem_append_left _ (List.mem_append_left _ (List.mem_append_left _ (List.mem_append_left _ (List.mem_append_left _ (List.mem_append_left _ (List.mem_append_left _ (List.mem_append_left _ (List.mem_append_left _ (List.mem_append_right _ h))))))))))
theorem inX1 : ∀ w ∈ wsX10, w ∈ lw_tbl := fun w h => wsL_law_in w (inlX1 w h)
theorem inlX2 : ∀ w ∈ wsX20, w ∈ wsL_law := fun _ h => List.mem_append_left _ (List.mem_append_left _ (List.mem_append_left _ (List.mem_append_left _ (List.mem_append_left _ (List.mem_append_left _ (List.mem_append_left _ (List.mem_append_left _ (List.mem_append_left _ (List.mem_append_right _ h)))))))))
theorem inX2 : ∀ w ∈ wsX20, w ∈ lw_tbl := fun w h => wsL_law_in w (inlX2 w h)
set_option maxRecDepth 20000 in
theorem ggL_make_X1_make : GoodIn wsL_make wsX1_make := goodIn_ca (goodIn_ca (goodIn_r _ [7, 8, 9, 10, 11, 12, 6, 13, 14, 15, 16, 17, 18, 19, 20, 21, 22, 23, 24, 25, 26, 27] (by decide +kernel) (by decide +kernel)) (goodIn_sub (fun _ h => List.mem_cons_of_mem _ (List.mem_append_left _ (List.mem_append_right _ h))) (by decide +kernel))) (goodIn_sub (fun _ h => List.mem_cons_of_mem _ (List.mem_append_right _ h)) (by decide +kernel))
set_option maxRecDepth 20000 in
theorem gL_make_X1_make : GoodIn wsL_make (wsV RL 7 RX1 yX1_make wsX1_make) := goodIn_app (goodIn_of _ (by decide +kernel)) ggL_make_X1_make
theorem dL_make_0 : decode cL_make 0 = .ok (.aload_n 3, 1) := by decide +kernel
theorem dL_make_1 : decode cL_make 1 = .ok (.iconst 0, 1) := by decide +kernel
theorem dL_make_2 : decode cL_make 2 = .ok (.aload_n 0, 1) := by decide +kernel
theorem dL_make_3 : decode cL_make 3 = .ok (.iload_n 1, 1) := by decide +kernel
theorem dL_make_4 : decode cL_make 4 = .ok (.iload_n 2, 1) := by decide +kernel
theorem dL_make_5 : decode cL_make 5 = .ok (.invokevirtual 7, 3) := by decide +kernel
theorem dL_make_8 : decode cL_make 8 = .ok (.i2l, 1) := by decide +kernel
theorem dL_make_9 : decode cL_make 9 = .ok (.lastore, 1) := by decide +kernel
theorem dL_make_10 : decode cL_make 10 = .ok (.goto 11, 3) := by decide +kernel
theorem dL_make_13 : decode cL_make 13 = .ok (.astore 4, 2) := by decide +kernel
theorem dL_make_15 : decode cL_make 15 = .ok (.iconst 1, 1) := by decide +kernel
theorem dL_make_16 : decode cL_make 16 = .ok (.ireturn, 1) := by decide +kernel
theorem dL_make_17 : decode cL_make 17 = .ok (.astore 4, 2) := by decide +kernel
theorem dL_make_19 : decode cL_make 19 = .ok (.iconst 2, 1) := by decide +kernel
theorem dL_make_20 : decode cL_make 20 = .ok (.ireturn, 1) := by decide +kernel
theorem dL_make_21 : decode cL_make 21 = .ok (.iconst 0, 1) := by decide +kernel
theorem dL_make_22 : decode cL_make 22 = .ok (.ireturn, 1) := by decide +kernel
set_option maxRecDepth 20000 in
theorem ggL_rowAt_X1_rowAt : GoodIn wsL_rowAt wsX1_rowAt := goodIn_ca (goodIn_ca (goodIn_r _ [6, 7, 8, 9, 5, 10, 11, 12, 13, 14, 15, 16, 17, 18, 19, 20] (by decide +kernel) (by decide +kernel)) (goodIn_sub (fun _ h => List.mem_cons_of_mem _ (List.mem_append_left _ (List.mem_append_right _ h))) (by decide +kernel))) (goodIn_sub (fun _ h => List.mem_cons_of_mem _ (List.mem_append_right _ h)) (by decide +kernel))
set_option maxRecDepth 20000 in
theorem gL_rowAt_X1_rowAt : GoodIn wsL_rowAt (wsV RL 17 RX1 yX1_rowAt wsX1_rowAt) := goodIn_app (goodIn_of _ (by decide +kernel)) ggL_rowAt_X1_rowAt
theorem dL_rowAt_0 : decode cL_rowAt 0 = .ok (.aload_n 3, 1) := by decide +kernel
theorem dL_rowAt_1 : decode cL_rowAt 1 = .ok (.iconst 0, 1) := by decide +kernel
theorem dL_rowAt_2 : decode cL_rowAt 2 = .ok (.aload_n 0, 1) := by decide +kernel
theorem dL_rowAt_3 : decode cL_rowAt 3 = .ok (.iload_n 1, 1) := by decide +kernel
theorem dL_rowAt_4 : decode cL_rowAt 4 = .ok (.iload_n 2, 1) := by decide +kernel
theorem dL_rowAt_5 : decode cL_rowAt 5 = .ok (.invokevirtual 17, 3) := by decide +kernel
theorem dL_rowAt_8 : decode cL_rowAt 8 = .ok (.i2l, 1) := by decide +kernel
theorem dL_rowAt_9 : decode cL_rowAt 9 = .ok (.lastore, 1) := by decide +kernel
theorem dL_rowAt_10 : decode cL_rowAt 10 = .ok (.goto 7, 3) := by decide +kernel
theorem dL_rowAt_13 : decode cL_rowAt 13 = .ok (.astore 4, 2) := by decide +kernel
theorem dL_rowAt_15 : decode cL_rowAt 15 = .ok (.iconst 1, 1) := by decide +kernel
theorem dL_rowAt_16 : decode cL_rowAt 16 = .ok (.ireturn, 1) := by decide +kernel
theorem dL_rowAt_17 : decode cL_rowAt 17 = .ok (.iconst 0, 1) := by decide +kernel
theorem dL_rowAt_18 : decode cL_rowAt 18 = .ok (.ireturn, 1) := by decide +kernel
set_option maxRecDepth 20000 in
theorem ggL_rowPut_X1_rowPut : GoodIn wsL_rowPut wsX1_rowPut := goodIn_ca (goodIn_ca (goodIn_r _ [6, 7, 8, 9, 5, 10, 11, 12, 13, 14, 15, 16, 17, 18, 19, 20] (by decide +kernel) (by decide +kernel)) (goodIn_sub (fun _ h => List.mem_cons_of_mem _ (List.mem_append_left _ (List.mem_append_right _ h))) (by decide +kernel))) (goodIn_sub (fun _ h => List.mem_cons_of_mem _ (List.mem_append_right _ h)) (by decide +kernel))
set_option maxRecDepth 20000 in
theorem gL_rowPut_X1_rowPut : GoodIn wsL_rowPut (wsV RL 20 RX1 yX1_rowPut wsX1_rowPut) := goodIn_app (goodIn_of _ (by decide +kernel)) ggL_rowPut_X1_rowPut
theorem dL_rowPut_0 : decode cL_rowPut 0 = .ok (.aload 4, 2) := by decide +kernel
theorem dL_rowPut_2 : decode cL_rowPut 2 = .ok (.iconst 0, 1) := by decide +kernel
theorem dL_rowPut_3 : decode cL_rowPut 3 = .ok (.aload_n 0, 1) := by decide +kernel
theorem dL_rowPut_4 : decode cL_rowPut 4 = .ok (.iload_n 1, 1) := by decide +kernel
theorem dL_rowPut_5 : decode cL_rowPut 5 = .ok (.iload_n 2, 1) := by decide +kernel
theorem dL_rowPut_6 : decode cL_rowPut 6 = .ok (.iload_n 3, 1) := by decide +kernel
theorem dL_rowPut_7 : decode cL_rowPut 7 = .ok (.invokevirtual 20, 3) := by decide +kernel
theorem dL_rowPut_10 : decode cL_rowPut 10 = .ok (.i2l, 1) := by decide +kernel
theorem dL_rowPut_11 : decode cL_rowPut 11 = .ok (.lastore, 1) := by decide +kernel
theorem dL_rowPut_12 : decode cL_rowPut 12 = .ok (.goto 7, 3) := by decide +kernel
theorem dL_rowPut_15 : decode cL_rowPut 15 = .ok (.astore 5, 2) := by decide +kernel
theorem dL_rowPut_17 : decode cL_rowPut 17 = .ok (.iconst 1, 1) := by decide +kernel
theorem dL_rowPut_18 : decode cL_rowPut 18 = .ok (.ireturn, 1) := by decide +kernel
theorem dL_rowPut_19 : decode cL_rowPut 19 = .ok (.iconst 0, 1) := by decide +kernel
theorem dL_rowPut_20 : decode cL_rowPut 20 = .ok (.ireturn, 1) := by decide +kernel
set_option maxRecDepth 20000 in
theorem ggL_allocate_X1_allocate : GoodIn wsL_allocate wsX1_allocate := goodIn_ca (goodIn_ca (goodIn_r _ [7, 8, 9, 10, 11, 6, 12, 13, 14, 15, 16, 17, 18, 19, 20, 21, 22, 23, 24, 25, 26, 27, 28, 29, 30, 31, 32, 33, 34, 35, 36, 37, 38, 39, 40, 41, 42, 43, 44, 45, 46, 47, 48, 49, 50, 51, 52, 53, 54, 55, 56, 57, 58, 59] (by decide +kernel) (by decide +kernel)) (goodIn_sub (fun _ h => List.mem_cons_of_mem _ (List.mem_append_left _ (List.mem_append_right _ h))) (by decide +kernel))) (goodIn_sub (fun _ h => List.mem_cons_of_mem _ (List.mem_append_right _ h)) (by decide +kernel))
set_option maxRecDepth 20000 in
theorem gL_allocate_X1_allocate : GoodIn wsL_allocate (wsV RL 24 RX1 yX1_allocate wsX1_allocate) := goodIn_app (goodIn_of _ (by decide +kernel)) ggL_allocate_X1_allocate
theorem dL_allocate_0 : decode cL_allocate 0 = .ok (.aload 4, 2) := by decide +kernel
theorem dL_allocate_2 : decode cL_allocate 2 = .ok (.iconst 0, 1) := by decide +kernel
theorem dL_allocate_3 : decode cL_allocate 3 = .ok (.aload_n 0, 1) := by decide +kernel
theorem dL_allocate_4 : decode cL_allocate 4 = .ok (.iload_n 1, 1) := by decide +kernel
theorem dL_allocate_5 : decode cL_allocate 5 = .ok (.iload_n 2, 1) := by decide +kernel
theorem dL_allocate_6 : decode cL_allocate 6 = .ok (.iload_n 3, 1) := by decide +kernel
theorem dL_allocate_7 : decode cL_allocate 7 = .ok (.invokevirtual 24, 3) := by decide +kernel
theorem dL_allocate_10 : decode cL_allocate 10 = .ok (.ifCond .eq 7, 3) := by decide +kernel
theorem dL_allocate_13 : decode cL_allocate 13 = .ok (.lconst 1, 1) := by decide +kernel
theorem dL_allocate_14 : decode cL_allocate 14 = .ok (.goto 4, 3) := by decide +kernel
theorem dL_allocate_17 : decode cL_allocate 17 = .ok (.lconst 0, 1) := by decide +kernel
theorem dL_allocate_18 : decode cL_allocate 18 = .ok (.lastore, 1) := by decide +kernel
theorem dL_allocate_19 : decode cL_allocate 19 = .ok (.goto 11, 3) := by decide +kernel
theorem dL_allocate_22 : decode cL_allocate 22 = .ok (.astore 5, 2) := by decide +kernel
theorem dL_allocate_24 : decode cL_allocate 24 = .ok (.iconst 1, 1) := by decide +kernel
theorem dL_allocate_25 : decode cL_allocate 25 = .ok (.ireturn, 1) := by decide +kernel
theorem dL_allocate_26 : decode cL_allocate 26 = .ok (.astore 5, 2) := by decide +kernel
theorem dL_allocate_28 : decode cL_allocate 28 = .ok (.iconst 2, 1) := by decide +kernel
theorem dL_allocate_29 : decode cL_allocate 29 = .ok (.ireturn, 1) := by decide +kernel
theorem dL_allocate_30 : decode cL_allocate 30 = .ok (.iconst 0, 1) := by decide +kernel
theorem dL_allocate_31 : decode cL_allocate 31 = .ok (.ireturn, 1) := by decide +kernel
set_option maxRecDepth 20000 in
theorem ggL_wrap_X1_wrap : GoodIn wsL_wrap wsX1_wrap := goodIn_ca (goodIn_r _ [6, 7, 8, 9, 10, 5, 11, 12, 13, 14, 15, 16, 17, 18, 19, 20, 21, 22, 23, 24, 25, 26, 27, 28, 29, 30, 31, 32, 33, 34, 35, 36, 37, 38, 39, 40, 41, 42, 43, 44, 45, 46, 47, 48, 49, 50, 51] (by decide +kernel) (by decide +kernel)) (goodIn_sub (fun _ h => List.mem_cons_of_mem _ (List.mem_append_right _ h)) (by decide +kernel))
set_option maxRecDepth 20000 in
theorem gL_wrap_X1_wrap : GoodIn wsL_wrap (wsV RL 28 RX1 yX1_wrap wsX1_wrap) := goodIn_app (goodIn_of _ (by decide +kernel)) ggL_wrap_X1_wrap
theorem dL_wrap_0 : decode cL_wrap 0 = .ok (.aload_n 3, 1) := by decide +kernel
theorem dL_wrap_1 : decode cL_wrap 1 = .ok (.iconst 0, 1) := by decide +kernel
theorem dL_wrap_2 : decode cL_wrap 2 = .ok (.aload_n 0, 1) := by decide +kernel
theorem dL_wrap_3 : decode cL_wrap 3 = .ok (.iload_n 1, 1) := by decide +kernel
theorem dL_wrap_4 : decode cL_wrap 4 = .ok (.iload_n 2, 1) := by decide +kernel
theorem dL_wrap_5 : decode cL_wrap 5 = .ok (.invokevirtual 28, 3) := by decide +kernel
theorem dL_wrap_8 : decode cL_wrap 8 = .ok (.i2l, 1) := by decide +kernel
theorem dL_wrap_9 : decode cL_wrap 9 = .ok (.lastore, 1) := by decide +kernel
theorem dL_wrap_10 : decode cL_wrap 10 = .ok (.goto 7, 3) := by decide +kernel
theorem dL_wrap_13 : decode cL_wrap 13 = .ok (.astore 4, 2) := by decide +kernel
theorem dL_wrap_15 : decode cL_wrap 15 = .ok (.iconst 1, 1) := by decide +kernel
theorem dL_wrap_16 : decode cL_wrap 16 = .ok (.ireturn, 1) := by decide +kernel
theorem dL_wrap_17 : decode cL_wrap 17 = .ok (.iconst 0, 1) := by decide +kernel
theorem dL_wrap_18 : decode cL_wrap 18 = .ok (.ireturn, 1) := by decide +kernel
set_option maxRecDepth 20000 in
theorem ggL_kind_X1_kind : GoodIn wsL_kind wsX1_kind := goodIn_ca (goodIn_r _ [6, 7, 8, 9, 10, 5, 11, 12, 13, 14, 15, 16, 17, 18, 19, 20, 21, 22, 23, 24, 25, 26, 27, 28, 29] (by decide +kernel) (by decide +kernel)) (goodIn_sub (fun _ h => List.mem_cons_of_mem _ (List.mem_append_right _ h)) (by decide +kernel))
set_option maxRecDepth 20000 in
theorem gL_kind_X1_kind : GoodIn wsL_kind (wsV RL 31 RX1 yX1_kind wsX1_kind) := goodIn_app (goodIn_of _ (by decide +kernel)) ggL_kind_X1_kind
theorem dL_kind_0 : decode cL_kind 0 = .ok (.aload_n 2, 1) := by decide +kernel
theorem dL_kind_1 : decode cL_kind 1 = .ok (.iconst 0, 1) := by decide +kernel
theorem dL_kind_2 : decode cL_kind 2 = .ok (.aload_n 0, 1) := by decide +kernel
theorem dL_kind_3 : decode cL_kind 3 = .ok (.iload_n 1, 1) := by decide +kernel
theorem dL_kind_4 : decode cL_kind 4 = .ok (.invokevirtual 31, 3) := by decide +kernel
theorem dL_kind_7 : decode cL_kind 7 = .ok (.i2l, 1) := by decide +kernel
theorem dL_kind_8 : decode cL_kind 8 = .ok (.lastore, 1) := by decide +kernel
theorem dL_kind_9 : decode cL_kind 9 = .ok (.goto 6, 3) := by decide +kernel
theorem dL_kind_12 : decode cL_kind 12 = .ok (.astore_n 3, 1) := by decide +kernel
theorem dL_kind_13 : decode cL_kind 13 = .ok (.iconst 1, 1) := by decide +kernel
theorem dL_kind_14 : decode cL_kind 14 = .ok (.ireturn, 1) := by decide +kernel
theorem dL_kind_15 : decode cL_kind 15 = .ok (.iconst 0, 1) := by decide +kernel
theorem dL_kind_16 : decode cL_kind 16 = .ok (.ireturn, 1) := by decide +kernel
set_option maxRecDepth 20000 in
theorem ggL_capacity_X1_capacity : GoodIn wsL_capacity wsX1_capacity := goodIn_ca (goodIn_r _ [6, 7, 8, 9, 10, 5, 11, 12, 13, 14, 15, 16, 17, 18, 19, 20, 21, 22, 23, 24, 25, 26, 27, 28, 29, 30, 31, 32, 33, 34, 35, 36, 37, 38, 39] (by decide +kernel) (by decide +kernel)) (goodIn_sub (fun _ h => List.mem_cons_of_mem _ (List.mem_append_right _ h)) (by decide +kernel))
set_option maxRecDepth 20000 in
theorem gL_capacity_X1_capacity : GoodIn wsL_capacity (wsV RL 35 RX1 yX1_capacity wsX1_capacity) := goodIn_app (goodIn_of _ (by decide +kernel)) ggL_capacity_X1_capacity
theorem dL_capacity_0 : decode cL_capacity 0 = .ok (.aload_n 2, 1) := by decide +kernel
theorem dL_capacity_1 : decode cL_capacity 1 = .ok (.iconst 0, 1) := by decide +kernel
theorem dL_capacity_2 : decode cL_capacity 2 = .ok (.aload_n 0, 1) := by decide +kernel
theorem dL_capacity_3 : decode cL_capacity 3 = .ok (.iload_n 1, 1) := by decide +kernel
theorem dL_capacity_4 : decode cL_capacity 4 = .ok (.invokevirtual 35, 3) := by decide +kernel
theorem dL_capacity_7 : decode cL_capacity 7 = .ok (.i2l, 1) := by decide +kernel
theorem dL_capacity_8 : decode cL_capacity 8 = .ok (.lastore, 1) := by decide +kernel
theorem dL_capacity_9 : decode cL_capacity 9 = .ok (.goto 6, 3) := by decide +kernel
theorem dL_capacity_12 : decode cL_capacity 12 = .ok (.astore_n 3, 1) := by decide +kernel
theorem dL_capacity_13 : decode cL_capacity 13 = .ok (.iconst 1, 1) := by decide +kernel
theorem dL_capacity_14 : decode cL_capacity 14 = .ok (.ireturn, 1) := by decide +kernel
theorem dL_capacity_15 : decode cL_capacity 15 = .ok (.iconst 0, 1) := by decide +kernel
theorem dL_capacity_16 : decode cL_capacity 16 = .ok (.ireturn, 1) := by decide +kernel
set_option maxRecDepth 20000 in
theorem ggL_place_X1_place : GoodIn wsL_place wsX1_place := goodIn_ca (goodIn_r _ [6, 7, 8, 9, 10, 5, 11, 12, 13, 14, 15, 16, 17, 18, 19, 20, 21, 22, 23, 24, 25, 26, 27, 28, 29, 30, 31, 32, 33, 34, 35, 36, 37, 38, 39] (by decide +kernel) (by decide +kernel)) (goodIn_sub (fun _ h => List.mem_cons_of_mem _ (List.mem_append_right _ h)) (by decide +kernel))
set_option maxRecDepth 20000 in
theorem gL_place_X1_place : GoodIn wsL_place (wsV RL 39 RX1 yX1_place wsX1_place) := goodIn_app (goodIn_of _ (by decide +kernel)) ggL_place_X1_place
theorem dL_place_0 : decode cL_place 0 = .ok (.aload_n 2, 1) := by decide +kernel
theorem dL_place_1 : decode cL_place 1 = .ok (.iconst 0, 1) := by decide +kernel
theorem dL_place_2 : decode cL_place 2 = .ok (.aload_n 0, 1) := by decide +kernel
theorem dL_place_3 : decode cL_place 3 = .ok (.iload_n 1, 1) := by decide +kernel
theorem dL_place_4 : decode cL_place 4 = .ok (.invokevirtual 39, 3) := by decide +kernel
theorem dL_place_7 : decode cL_place 7 = .ok (.i2l, 1) := by decide +kernel
theorem dL_place_8 : decode cL_place 8 = .ok (.lastore, 1) := by decide +kernel
theorem dL_place_9 : decode cL_place 9 = .ok (.goto 6, 3) := by decide +kernel
theorem dL_place_12 : decode cL_place 12 = .ok (.astore_n 3, 1) := by decide +kernel
theorem dL_place_13 : decode cL_place 13 = .ok (.iconst 1, 1) := by decide +kernel
theorem dL_place_14 : decode cL_place 14 = .ok (.ireturn, 1) := by decide +kernel
theorem dL_place_15 : decode cL_place 15 = .ok (.iconst 0, 1) := by decide +kernel
theorem dL_place_16 : decode cL_place 16 = .ok (.ireturn, 1) := by decide +kernel
set_option maxRecDepth 20000 in
theorem ggL_end_X1_end : GoodIn wsL_end wsX1_end := goodIn_ca (goodIn_r _ [6, 7, 8, 9, 10, 5, 11, 12, 13, 14, 15, 16, 17, 18, 19, 20, 21, 22, 23, 24, 25, 26, 27, 28, 29, 30, 31, 32, 33, 34, 35, 36, 37, 38, 39] (by decide +kernel) (by decide +kernel)) (goodIn_sub (fun _ h => List.mem_cons_of_mem _ (List.mem_append_right _ h)) (by decide +kernel))
set_option maxRecDepth 20000 in
theorem gL_end_X1_end : GoodIn wsL_end (wsV RL 42 RX1 yX1_end wsX1_end) := goodIn_app (goodIn_of _ (by decide +kernel)) ggL_end_X1_end
theorem dL_end_0 : decode cL_end 0 = .ok (.aload_n 2, 1) := by decide +kernel
theorem dL_end_1 : decode cL_end 1 = .ok (.iconst 0, 1) := by decide +kernel
theorem dL_end_2 : decode cL_end 2 = .ok (.aload_n 0, 1) := by decide +kernel
theorem dL_end_3 : decode cL_end 3 = .ok (.iload_n 1, 1) := by decide +kernel
theorem dL_end_4 : decode cL_end 4 = .ok (.invokevirtual 42, 3) := by decide +kernel
theorem dL_end_7 : decode cL_end 7 = .ok (.i2l, 1) := by decide +kernel
theorem dL_end_8 : decode cL_end 8 = .ok (.lastore, 1) := by decide +kernel
theorem dL_end_9 : decode cL_end 9 = .ok (.goto 6, 3) := by decide +kernel
theorem dL_end_12 : decode cL_end 12 = .ok (.astore_n 3, 1) := by decide +kernel
theorem dL_end_13 : decode cL_end 13 = .ok (.iconst 1, 1) := by decide +kernel
theorem dL_end_14 : decode cL_end 14 = .ok (.ireturn, 1) := by decide +kernel
theorem dL_end_15 : decode cL_end 15 = .ok (.iconst 0, 1) := by decide +kernel
theorem dL_end_16 : decode cL_end 16 = .ok (.ireturn, 1) := by decide +kernel
set_option maxRecDepth 20000 in
theorem ggL_left_X1_left : GoodIn wsL_left wsX1_left := goodIn_ca (goodIn_r _ [6, 7, 8, 9, 5, 10, 11, 12, 13, 14, 15, 16, 17, 18, 19, 20, 21, 22, 23, 24, 25, 26, 27, 28, 29, 30, 31, 32, 33, 34, 35, 36, 37, 38, 39, 40, 41, 42, 43, 44] (by decide +kernel) (by decide +kernel)) (goodIn_sub (fun _ h => List.mem_cons_of_mem _ (List.mem_append_right _ h)) (by decide +kernel))
set_option maxRecDepth 20000 in
theorem gL_left_X1_left : GoodIn wsL_left (wsV RL 45 RX1 yX1_left wsX1_left) := goodIn_app (goodIn_of _ (by decide +kernel)) ggL_left_X1_left
theorem dL_left_0 : decode cL_left 0 = .ok (.aload_n 2, 1) := by decide +kernel
theorem dL_left_1 : decode cL_left 1 = .ok (.iconst 0, 1) := by decide +kernel
theorem dL_left_2 : decode cL_left 2 = .ok (.aload_n 0, 1) := by decide +kernel
theorem dL_left_3 : decode cL_left 3 = .ok (.iload_n 1, 1) := by decide +kernel
theorem dL_left_4 : decode cL_left 4 = .ok (.invokevirtual 45, 3) := by decide +kernel
theorem dL_left_7 : decode cL_left 7 = .ok (.i2l, 1) := by decide +kernel
theorem dL_left_8 : decode cL_left 8 = .ok (.lastore, 1) := by decide +kernel
theorem dL_left_9 : decode cL_left 9 = .ok (.goto 6, 3) := by decide +kernel
theorem dL_left_12 : decode cL_left 12 = .ok (.astore_n 3, 1) := by decide +kernel
theorem dL_left_13 : decode cL_left 13 = .ok (.iconst 1, 1) := by decide +kernel
theorem dL_left_14 : decode cL_left 14 = .ok (.ireturn, 1) := by decide +kernel
theorem dL_left_15 : decode cL_left 15 = .ok (.iconst 0, 1) := by decide +kernel
theorem dL_left_16 : decode cL_left 16 = .ok (.ireturn, 1) := by decide +kernel
set_option maxRecDepth 20000 in
theorem ggL_hasLeft_X1_hasLeft : GoodIn wsL_hasLeft wsX1_hasLeft := goodIn_ca (goodIn_r _ [6, 7, 8, 9, 5, 10, 11, 12, 13, 14, 15, 16, 17, 18, 19, 20, 21, 22, 23, 24, 25, 26, 27, 28, 29, 30, 31, 32, 33, 34, 35, 36, 37, 38, 39, 40, 41, 42, 43, 44] (by decide +kernel) (by decide +kernel)) (goodIn_sub (fun _ h => List.mem_cons_of_mem _ (List.mem_append_right _ h)) (by decide +kernel))
set_option maxRecDepth 20000 in
theorem gL_hasLeft_X1_hasLeft : GoodIn wsL_hasLeft (wsV RL 48 RX1 yX1_hasLeft wsX1_hasLeft) := goodIn_app (goodIn_of _ (by decide +kernel)) ggL_hasLeft_X1_hasLeft
theorem dL_hasLeft_0 : decode cL_hasLeft 0 = .ok (.aload_n 2, 1) := by decide +kernel
theorem dL_hasLeft_1 : decode cL_hasLeft 1 = .ok (.iconst 0, 1) := by decide +kernel
theorem dL_hasLeft_2 : decode cL_hasLeft 2 = .ok (.aload_n 0, 1) := by decide +kernel
theorem dL_hasLeft_3 : decode cL_hasLeft 3 = .ok (.iload_n 1, 1) := by decide +kernel
theorem dL_hasLeft_4 : decode cL_hasLeft 4 = .ok (.invokevirtual 48, 3) := by decide +kernel
theorem dL_hasLeft_7 : decode cL_hasLeft 7 = .ok (.ifCond .eq 7, 3) := by decide +kernel
theorem dL_hasLeft_10 : decode cL_hasLeft 10 = .ok (.lconst 1, 1) := by decide +kernel
theorem dL_hasLeft_11 : decode cL_hasLeft 11 = .ok (.goto 4, 3) := by decide +kernel
theorem dL_hasLeft_14 : decode cL_hasLeft 14 = .ok (.lconst 0, 1) := by decide +kernel
theorem dL_hasLeft_15 : decode cL_hasLeft 15 = .ok (.lastore, 1) := by decide +kernel
theorem dL_hasLeft_16 : decode cL_hasLeft 16 = .ok (.goto 6, 3) := by decide +kernel
theorem dL_hasLeft_19 : decode cL_hasLeft 19 = .ok (.astore_n 3, 1) := by decide +kernel
theorem dL_hasLeft_20 : decode cL_hasLeft 20 = .ok (.iconst 1, 1) := by decide +kernel
theorem dL_hasLeft_21 : decode cL_hasLeft 21 = .ok (.ireturn, 1) := by decide +kernel
theorem dL_hasLeft_22 : decode cL_hasLeft 22 = .ok (.iconst 0, 1) := by decide +kernel
theorem dL_hasLeft_23 : decode cL_hasLeft 23 = .ok (.ireturn, 1) := by decide +kernel
set_option maxRecDepth 20000 in
theorem ggL_isReadOnly_X1_isReadOnly : GoodIn wsL_isReadOnly wsX1_isReadOnly := goodIn_ca (goodIn_r _ [6, 7, 8, 9, 10, 5, 11, 12, 13, 14, 15, 16, 17, 18, 19, 20, 21, 22, 23, 24, 25, 26, 27, 28, 29, 30, 31, 32, 33, 34, 35, 36, 37, 38, 39] (by decide +kernel) (by decide +kernel)) (goodIn_sub (fun _ h => List.mem_cons_of_mem _ (List.mem_append_right _ h)) (by decide +kernel))
set_option maxRecDepth 20000 in
theorem gL_isReadOnly_X1_isReadOnly : GoodIn wsL_isReadOnly (wsV RL 52 RX1 yX1_isReadOnly wsX1_isReadOnly) := goodIn_app (goodIn_of _ (by decide +kernel)) ggL_isReadOnly_X1_isReadOnly
theorem dL_isReadOnly_0 : decode cL_isReadOnly 0 = .ok (.aload_n 2, 1) := by decide +kernel
theorem dL_isReadOnly_1 : decode cL_isReadOnly 1 = .ok (.iconst 0, 1) := by decide +kernel
theorem dL_isReadOnly_2 : decode cL_isReadOnly 2 = .ok (.aload_n 0, 1) := by decide +kernel
theorem dL_isReadOnly_3 : decode cL_isReadOnly 3 = .ok (.iload_n 1, 1) := by decide +kernel
theorem dL_isReadOnly_4 : decode cL_isReadOnly 4 = .ok (.invokevirtual 52, 3) := by decide +kernel
theorem dL_isReadOnly_7 : decode cL_isReadOnly 7 = .ok (.ifCond .eq 7, 3) := by decide +kernel
theorem dL_isReadOnly_10 : decode cL_isReadOnly 10 = .ok (.lconst 1, 1) := by decide +kernel
theorem dL_isReadOnly_11 : decode cL_isReadOnly 11 = .ok (.goto 4, 3) := by decide +kernel
theorem dL_isReadOnly_14 : decode cL_isReadOnly 14 = .ok (.lconst 0, 1) := by decide +kernel
theorem dL_isReadOnly_15 : decode cL_isReadOnly 15 = .ok (.lastore, 1) := by decide +kernel
theorem dL_isReadOnly_16 : decode cL_isReadOnly 16 = .ok (.goto 6, 3) := by decide +kernel
theorem dL_isReadOnly_19 : decode cL_isReadOnly 19 = .ok (.astore_n 3, 1) := by decide +kernel
theorem dL_isReadOnly_20 : decode cL_isReadOnly 20 = .ok (.iconst 1, 1) := by decide +kernel
theorem dL_isReadOnly_21 : decode cL_isReadOnly 21 = .ok (.ireturn, 1) := by decide +kernel
theorem dL_isReadOnly_22 : decode cL_isReadOnly 22 = .ok (.iconst 0, 1) := by decide +kernel
theorem dL_isReadOnly_23 : decode cL_isReadOnly 23 = .ok (.ireturn, 1) := by decide +kernel
set_option maxRecDepth 20000 in
theorem ggL_placeAt_X1_placeAt : GoodIn wsL_placeAt wsX1_placeAt := goodIn_ca (goodIn_ca (goodIn_r _ [7, 8, 9, 10, 11, 12, 6, 13, 14, 15, 16, 17, 18, 19, 20, 21, 22, 23, 24, 25, 26, 27, 28, 29, 30, 31, 32, 33, 34, 35, 36, 37, 38, 39, 40, 41, 42, 43, 44, 45, 46, 47, 48, 49, 50, 51] (by decide +kernel) (by decide +kernel)) (goodIn_sub (fun _ h => List.mem_cons_of_mem _ (List.mem_append_left _ (List.mem_append_right _ h))) (by decide +kernel))) (goodIn_sub (fun _ h => List.mem_cons_of_mem _ (List.mem_append_right _ h)) (by decide +kernel))
set_option maxRecDepth 20000 in
theorem gL_placeAt_X1_placeAt : GoodIn wsL_placeAt (wsV RL 55 RX1 yX1_placeAt wsX1_placeAt) := goodIn_app (goodIn_of _ (by decide +kernel)) ggL_placeAt_X1_placeAt
theorem dL_placeAt_0 : decode cL_placeAt 0 = .ok (.aload_n 3, 1) := by decide +kernel
theorem dL_placeAt_1 : decode cL_placeAt 1 = .ok (.iconst 0, 1) := by decide +kernel
theorem dL_placeAt_2 : decode cL_placeAt 2 = .ok (.aload_n 0, 1) := by decide +kernel
theorem dL_placeAt_3 : decode cL_placeAt 3 = .ok (.iload_n 1, 1) := by decide +kernel
theorem dL_placeAt_4 : decode cL_placeAt 4 = .ok (.iload_n 2, 1) := by decide +kernel
theorem dL_placeAt_5 : decode cL_placeAt 5 = .ok (.invokevirtual 55, 3) := by decide +kernel
theorem dL_placeAt_8 : decode cL_placeAt 8 = .ok (.i2l, 1) := by decide +kernel
theorem dL_placeAt_9 : decode cL_placeAt 9 = .ok (.lastore, 1) := by decide +kernel
theorem dL_placeAt_10 : decode cL_placeAt 10 = .ok (.goto 11, 3) := by decide +kernel
theorem dL_placeAt_13 : decode cL_placeAt 13 = .ok (.astore 4, 2) := by decide +kernel
theorem dL_placeAt_15 : decode cL_placeAt 15 = .ok (.iconst 1, 1) := by decide +kernel
theorem dL_placeAt_16 : decode cL_placeAt 16 = .ok (.ireturn, 1) := by decide +kernel
theorem dL_placeAt_17 : decode cL_placeAt 17 = .ok (.astore 4, 2) := by decide +kernel
theorem dL_placeAt_19 : decode cL_placeAt 19 = .ok (.iconst 2, 1) := by decide +kernel
theorem dL_placeAt_20 : decode cL_placeAt 20 = .ok (.ireturn, 1) := by decide +kernel
theorem dL_placeAt_21 : decode cL_placeAt 21 = .ok (.iconst 0, 1) := by decide +kernel
theorem dL_placeAt_22 : decode cL_placeAt 22 = .ok (.ireturn, 1) := by decide +kernel
set_option maxRecDepth 20000 in
theorem ggL_endAt_X1_endAt : GoodIn wsL_endAt wsX1_endAt := goodIn_ca (goodIn_ca (goodIn_r _ [7, 8, 9, 10, 11, 12, 13, 14, 15, 16, 17, 6, 18, 19, 20, 21, 22, 23, 24, 25, 26, 27, 28, 29, 30, 31, 32, 33, 34, 35, 36, 37, 38, 39, 40, 41, 42, 43, 44, 45, 46, 47, 48, 49, 50, 51, 52, 53, 54, 55, 56] (by decide +kernel) (by decide +kernel)) (goodIn_sub (fun _ h => List.mem_cons_of_mem _ (List.mem_append_left _ (List.mem_append_right _ h))) (by decide +kernel))) (goodIn_sub (fun _ h => List.mem_cons_of_mem _ (List.mem_append_right _ h)) (by decide +kernel))
set_option maxRecDepth 20000 in
theorem gL_endAt_X1_endAt : GoodIn wsL_endAt (wsV RL 58 RX1 yX1_endAt wsX1_endAt) := goodIn_app (goodIn_of _ (by decide +kernel)) ggL_endAt_X1_endAt
theorem dL_endAt_0 : decode cL_endAt 0 = .ok (.aload_n 3, 1) := by decide +kernel
theorem dL_endAt_1 : decode cL_endAt 1 = .ok (.iconst 0, 1) := by decide +kernel
theorem dL_endAt_2 : decode cL_endAt 2 = .ok (.aload_n 0, 1) := by decide +kernel
theorem dL_endAt_3 : decode cL_endAt 3 = .ok (.iload_n 1, 1) := by decide +kernel
theorem dL_endAt_4 : decode cL_endAt 4 = .ok (.iload_n 2, 1) := by decide +kernel
theorem dL_endAt_5 : decode cL_endAt 5 = .ok (.invokevirtual 58, 3) := by decide +kernel
theorem dL_endAt_8 : decode cL_endAt 8 = .ok (.i2l, 1) := by decide +kernel
theorem dL_endAt_9 : decode cL_endAt 9 = .ok (.lastore, 1) := by decide +kernel
theorem dL_endAt_10 : decode cL_endAt 10 = .ok (.goto 11, 3) := by decide +kernel
theorem dL_endAt_13 : decode cL_endAt 13 = .ok (.astore 4, 2) := by decide +kernel
theorem dL_endAt_15 : decode cL_endAt 15 = .ok (.iconst 1, 1) := by decide +kernel
theorem dL_endAt_16 : decode cL_endAt 16 = .ok (.ireturn, 1) := by decide +kernel
theorem dL_endAt_17 : decode cL_endAt 17 = .ok (.astore 4, 2) := by decide +kernel
theorem dL_endAt_19 : decode cL_endAt 19 = .ok (.iconst 2, 1) := by decide +kernel
theorem dL_endAt_20 : decode cL_endAt 20 = .ok (.ireturn, 1) := by decide +kernel
theorem dL_endAt_21 : decode cL_endAt 21 = .ok (.iconst 0, 1) := by decide +kernel
theorem dL_endAt_22 : decode cL_endAt 22 = .ok (.ireturn, 1) := by decide +kernel
set_option maxRecDepth 20000 in
theorem ggL_mark_X1_mark : GoodIn wsL_mark wsX1_mark := goodIn_ca (goodIn_r _ [6, 7, 8, 9, 10, 11, 5, 12, 13, 14, 15, 16, 17, 18, 19, 20, 21, 22, 23, 24, 25, 26, 27, 28, 29, 30, 31, 32, 33, 34, 35, 36, 37, 38, 39, 40] (by decide +kernel) (by decide +kernel)) (goodIn_sub (fun _ h => List.mem_cons_of_mem _ (List.mem_append_right _ h)) (by decide +kernel))
set_option maxRecDepth 20000 in
theorem gL_mark_X1_mark : GoodIn wsL_mark (wsV RL 61 RX1 yX1_mark wsX1_mark) := goodIn_app (goodIn_of _ (by decide +kernel)) ggL_mark_X1_mark
theorem dL_mark_0 : decode cL_mark 0 = .ok (.aload_n 2, 1) := by decide +kernel
theorem dL_mark_1 : decode cL_mark 1 = .ok (.iconst 0, 1) := by decide +kernel
theorem dL_mark_2 : decode cL_mark 2 = .ok (.aload_n 0, 1) := by decide +kernel
theorem dL_mark_3 : decode cL_mark 3 = .ok (.iload_n 1, 1) := by decide +kernel
theorem dL_mark_4 : decode cL_mark 4 = .ok (.invokevirtual 61, 3) := by decide +kernel
theorem dL_mark_7 : decode cL_mark 7 = .ok (.i2l, 1) := by decide +kernel
theorem dL_mark_8 : decode cL_mark 8 = .ok (.lastore, 1) := by decide +kernel
theorem dL_mark_9 : decode cL_mark 9 = .ok (.goto 6, 3) := by decide +kernel
theorem dL_mark_12 : decode cL_mark 12 = .ok (.astore_n 3, 1) := by decide +kernel
theorem dL_mark_13 : decode cL_mark 13 = .ok (.iconst 1, 1) := by decide +kernel
theorem dL_mark_14 : decode cL_mark 14 = .ok (.ireturn, 1) := by decide +kernel
theorem dL_mark_15 : decode cL_mark 15 = .ok (.iconst 0, 1) := by decide +kernel
theorem dL_mark_16 : decode cL_mark 16 = .ok (.ireturn, 1) := by decide +kernel
set_option maxRecDepth 20000 in
theorem ggL_back_X1_back : GoodIn wsL_back wsX1_back := goodIn_ca (goodIn_ca (goodIn_r _ [7, 8, 9, 10, 11, 12, 13, 14, 6, 15, 16, 17, 18, 19, 20, 21, 22, 23, 24, 25, 26, 27, 28, 29, 30, 31, 32, 33, 34, 35, 36, 37, 38, 39, 40, 41, 42, 43] (by decide +kernel) (by decide +kernel)) (goodIn_sub (fun _ h => List.mem_cons_of_mem _ (List.mem_append_left _ (List.mem_append_right _ h))) (by decide +kernel))) (goodIn_sub (fun _ h => List.mem_cons_of_mem _ (List.mem_append_right _ h)) (by decide +kernel))
set_option maxRecDepth 20000 in
theorem gL_back_X1_back : GoodIn wsL_back (wsV RL 64 RX1 yX1_back wsX1_back) := goodIn_app (goodIn_of _ (by decide +kernel)) ggL_back_X1_back
theorem dL_back_0 : decode cL_back 0 = .ok (.aload_n 2, 1) := by decide +kernel
theorem dL_back_1 : decode cL_back 1 = .ok (.iconst 0, 1) := by decide +kernel
theorem dL_back_2 : decode cL_back 2 = .ok (.aload_n 0, 1) := by decide +kernel
theorem dL_back_3 : decode cL_back 3 = .ok (.iload_n 1, 1) := by decide +kernel
theorem dL_back_4 : decode cL_back 4 = .ok (.invokevirtual 64, 3) := by decide +kernel
theorem dL_back_7 : decode cL_back 7 = .ok (.i2l, 1) := by decide +kernel
theorem dL_back_8 : decode cL_back 8 = .ok (.lastore, 1) := by decide +kernel
theorem dL_back_9 : decode cL_back 9 = .ok (.goto 9, 3) := by decide +kernel
theorem dL_back_12 : decode cL_back 12 = .ok (.astore_n 3, 1) := by decide +kernel
theorem dL_back_13 : decode cL_back 13 = .ok (.iconst 1, 1) := by decide +kernel
theorem dL_back_14 : decode cL_back 14 = .ok (.ireturn, 1) := by decide +kernel
theorem dL_back_15 : decode cL_back 15 = .ok (.astore_n 3, 1) := by decide +kernel
theorem dL_back_16 : decode cL_back 16 = .ok (.iconst 2, 1) := by decide +kernel
theorem dL_back_17 : decode cL_back 17 = .ok (.ireturn, 1) := by decide +kernel
theorem dL_back_18 : decode cL_back 18 = .ok (.iconst 0, 1) := by decide +kernel
theorem dL_back_19 : decode cL_back 19 = .ok (.ireturn, 1) := by decide +kernel
set_option maxRecDepth 20000 in
theorem ggL_clear_X1_clear : GoodIn wsL_clear wsX1_clear := goodIn_ca (goodIn_r _ [6, 7, 8, 9, 10, 11, 5, 12, 13, 14, 15, 16, 17, 18, 19, 20, 21, 22, 23, 24, 25, 26, 27, 28, 29, 30, 31, 32, 33, 34, 35, 36, 37, 38, 39, 40, 41, 42, 43, 44, 45, 46, 47] (by decide +kernel) (by decide +kernel)) (goodIn_sub (fun _ h => List.mem_cons_of_mem _ (List.mem_append_right _ h)) (by decide +kernel))
set_option maxRecDepth 20000 in
theorem gL_clear_X1_clear : GoodIn wsL_clear (wsV RL 69 RX1 yX1_clear wsX1_clear) := goodIn_app (goodIn_of _ (by decide +kernel)) ggL_clear_X1_clear
theorem dL_clear_0 : decode cL_clear 0 = .ok (.aload_n 2, 1) := by decide +kernel
theorem dL_clear_1 : decode cL_clear 1 = .ok (.iconst 0, 1) := by decide +kernel
theorem dL_clear_2 : decode cL_clear 2 = .ok (.aload_n 0, 1) := by decide +kernel
theorem dL_clear_3 : decode cL_clear 3 = .ok (.iload_n 1, 1) := by decide +kernel
theorem dL_clear_4 : decode cL_clear 4 = .ok (.invokevirtual 69, 3) := by decide +kernel
theorem dL_clear_7 : decode cL_clear 7 = .ok (.i2l, 1) := by decide +kernel
theorem dL_clear_8 : decode cL_clear 8 = .ok (.lastore, 1) := by decide +kernel
theorem dL_clear_9 : decode cL_clear 9 = .ok (.goto 6, 3) := by decide +kernel
theorem dL_clear_12 : decode cL_clear 12 = .ok (.astore_n 3, 1) := by decide +kernel
theorem dL_clear_13 : decode cL_clear 13 = .ok (.iconst 1, 1) := by decide +kernel
theorem dL_clear_14 : decode cL_clear 14 = .ok (.ireturn, 1) := by decide +kernel
theorem dL_clear_15 : decode cL_clear 15 = .ok (.iconst 0, 1) := by decide +kernel
theorem dL_clear_16 : decode cL_clear 16 = .ok (.ireturn, 1) := by decide +kernel
set_option maxRecDepth 20000 in
theorem ggL_flip_X1_flip : GoodIn wsL_flip wsX1_flip := goodIn_ca (goodIn_r _ [6, 7, 8, 9, 10, 11, 5, 12, 13, 14, 15, 16, 17, 18, 19, 20, 21, 22, 23, 24, 25, 26, 27, 28, 29, 30, 31, 32, 33, 34, 35, 36, 37, 38, 39, 40, 41, 42, 43, 44, 45, 46, 47] (by decide +kernel) (by decide +kernel)) (goodIn_sub (fun _ h => List.mem_cons_of_mem _ (List.mem_append_right _ h)) (by decide +kernel))
set_option maxRecDepth 20000 in
theorem gL_flip_X1_flip : GoodIn wsL_flip (wsV RL 72 RX1 yX1_flip wsX1_flip) := goodIn_app (goodIn_of _ (by decide +kernel)) ggL_flip_X1_flip
theorem dL_flip_0 : decode cL_flip 0 = .ok (.aload_n 2, 1) := by decide +kernel
theorem dL_flip_1 : decode cL_flip 1 = .ok (.iconst 0, 1) := by decide +kernel
theorem dL_flip_2 : decode cL_flip 2 = .ok (.aload_n 0, 1) := by decide +kernel
theorem dL_flip_3 : decode cL_flip 3 = .ok (.iload_n 1, 1) := by decide +kernel
theorem dL_flip_4 : decode cL_flip 4 = .ok (.invokevirtual 72, 3) := by decide +kernel
theorem dL_flip_7 : decode cL_flip 7 = .ok (.i2l, 1) := by decide +kernel
theorem dL_flip_8 : decode cL_flip 8 = .ok (.lastore, 1) := by decide +kernel
theorem dL_flip_9 : decode cL_flip 9 = .ok (.goto 6, 3) := by decide +kernel
theorem dL_flip_12 : decode cL_flip 12 = .ok (.astore_n 3, 1) := by decide +kernel
theorem dL_flip_13 : decode cL_flip 13 = .ok (.iconst 1, 1) := by decide +kernel
theorem dL_flip_14 : decode cL_flip 14 = .ok (.ireturn, 1) := by decide +kernel
theorem dL_flip_15 : decode cL_flip 15 = .ok (.iconst 0, 1) := by decide +kernel
theorem dL_flip_16 : decode cL_flip 16 = .ok (.ireturn, 1) := by decide +kernel
set_option maxRecDepth 20000 in
theorem ggL_rewind_X1_rewind : GoodIn wsL_rewind wsX1_rewind := goodIn_ca (goodIn_r _ [6, 7, 8, 9, 10, 5, 11, 12, 13, 14, 15, 16, 17, 18, 19, 20, 21, 22, 23, 24, 25, 26, 27, 28, 29, 30, 31, 32, 33, 34, 35, 36, 37, 38, 39, 40, 41, 42, 43, 44, 45, 46, 47, 48, 49, 50] (by decide +kernel) (by decide +kernel)) (goodIn_sub (fun _ h => List.mem_cons_of_mem _ (List.mem_append_right _ h)) (by decide +kernel))
set_option maxRecDepth 20000 in
theorem gL_rewind_X1_rewind : GoodIn wsL_rewind (wsV RL 75 RX1 yX1_rewind wsX1_rewind) := goodIn_app (goodIn_of _ (by decide +kernel)) ggL_rewind_X1_rewind
theorem dL_rewind_0 : decode cL_rewind 0 = .ok (.aload_n 2, 1) := by decide +kernel
theorem dL_rewind_1 : decode cL_rewind 1 = .ok (.iconst 0, 1) := by decide +kernel
theorem dL_rewind_2 : decode cL_rewind 2 = .ok (.aload_n 0, 1) := by decide +kernel
theorem dL_rewind_3 : decode cL_rewind 3 = .ok (.iload_n 1, 1) := by decide +kernel
theorem dL_rewind_4 : decode cL_rewind 4 = .ok (.invokevirtual 75, 3) := by decide +kernel
theorem dL_rewind_7 : decode cL_rewind 7 = .ok (.i2l, 1) := by decide +kernel
theorem dL_rewind_8 : decode cL_rewind 8 = .ok (.lastore, 1) := by decide +kernel
theorem dL_rewind_9 : decode cL_rewind 9 = .ok (.goto 6, 3) := by decide +kernel
theorem dL_rewind_12 : decode cL_rewind 12 = .ok (.astore_n 3, 1) := by decide +kernel
theorem dL_rewind_13 : decode cL_rewind 13 = .ok (.iconst 1, 1) := by decide +kernel
theorem dL_rewind_14 : decode cL_rewind 14 = .ok (.ireturn, 1) := by decide +kernel
theorem dL_rewind_15 : decode cL_rewind 15 = .ok (.iconst 0, 1) := by decide +kernel
theorem dL_rewind_16 : decode cL_rewind 16 = .ok (.ireturn, 1) := by decide +kernel
set_option maxRecDepth 20000 in
theorem ggL_compact_X1_compact : GoodIn wsL_compact wsX1_compact := goodIn_ca (goodIn_ca (goodIn_r _ [7, 8, 9, 10, 11, 12, 13, 14, 15, 16, 17, 18, 6, 19, 20, 21, 22, 23, 24, 25, 26, 27, 28, 29, 30, 31, 32, 33, 34, 35, 36, 37, 38, 39, 40, 41, 42, 43, 44, 45, 46, 47, 48, 49, 50, 51, 52, 53, 54, 55, 56, 57, 58, 59, 60, 61, 62, 63, 64] (by decide +kernel) (by decide +kernel)) (goodIn_sub (fun _ h => List.mem_cons_of_mem _ (List.mem_append_left _ (List.mem_append_right _ h))) (by decide +kernel))) (goodIn_sub (fun _ h => List.mem_cons_of_mem _ (List.mem_append_right _ h)) (by decide +kernel))
set_option maxRecDepth 20000 in
theorem gL_compact_X1_compact : GoodIn wsL_compact (wsV RL 78 RX1 yX1_compact wsX1_compact) := goodIn_app (goodIn_of _ (by decide +kernel)) ggL_compact_X1_compact
theorem dL_compact_0 : decode cL_compact 0 = .ok (.aload_n 2, 1) := by decide +kernel
theorem dL_compact_1 : decode cL_compact 1 = .ok (.iconst 0, 1) := by decide +kernel
theorem dL_compact_2 : decode cL_compact 2 = .ok (.aload_n 0, 1) := by decide +kernel
theorem dL_compact_3 : decode cL_compact 3 = .ok (.iload_n 1, 1) := by decide +kernel
theorem dL_compact_4 : decode cL_compact 4 = .ok (.invokevirtual 78, 3) := by decide +kernel
theorem dL_compact_7 : decode cL_compact 7 = .ok (.i2l, 1) := by decide +kernel
theorem dL_compact_8 : decode cL_compact 8 = .ok (.lastore, 1) := by decide +kernel
theorem dL_compact_9 : decode cL_compact 9 = .ok (.goto 9, 3) := by decide +kernel
theorem dL_compact_12 : decode cL_compact 12 = .ok (.astore_n 3, 1) := by decide +kernel
theorem dL_compact_13 : decode cL_compact 13 = .ok (.iconst 1, 1) := by decide +kernel
theorem dL_compact_14 : decode cL_compact 14 = .ok (.ireturn, 1) := by decide +kernel
theorem dL_compact_15 : decode cL_compact 15 = .ok (.astore_n 3, 1) := by decide +kernel
theorem dL_compact_16 : decode cL_compact 16 = .ok (.iconst 2, 1) := by decide +kernel
theorem dL_compact_17 : decode cL_compact 17 = .ok (.ireturn, 1) := by decide +kernel
theorem dL_compact_18 : decode cL_compact 18 = .ok (.iconst 0, 1) := by decide +kernel
theorem dL_compact_19 : decode cL_compact 19 = .ok (.ireturn, 1) := by decide +kernel
set_option maxRecDepth 20000 in
theorem ggL_get_X1_get : GoodIn wsL_get wsX1_get := goodIn_ca (goodIn_ca (goodIn_ca (goodIn_r _ [7, 8, 9, 10, 6, 11, 12, 13, 14, 15, 16, 17, 18, 19, 20, 21, 22, 23, 24, 25, 26, 27, 28, 29, 30, 31, 32, 33, 34, 35, 36, 37, 38, 39, 40, 41, 42, 43, 44, 45, 46, 47, 48, 49, 50, 51, 52, 53, 54, 55, 56, 57, 58, 59, 60] (by decide +kernel) (by decide +kernel)) (goodIn_sub (fun _ h => List.mem_cons_of_mem _ (List.mem_append_left _ (List.mem_append_right _ h))) (by decide +kernel))) (goodIn_sub (fun _ h => List.mem_cons_of_mem _ (List.mem_append_right _ h)) (by decide +kernel))) (goodIn_sub (fun _ h => List.mem_cons_of_mem _ (List.mem_append_left _ (List.mem_append_left _ (List.mem_append_right _ h)))) (by decide +kernel))
set_option maxRecDepth 20000 in
theorem gL_get_X1_get : GoodIn wsL_get (wsV RL 83 RX1 yX1_get wsX1_get) := goodIn_app (goodIn_of _ (by decide +kernel)) ggL_get_X1_get
theorem dL_get_0 : decode cL_get 0 = .ok (.aload_n 2, 1) := by decide +kernel
theorem dL_get_1 : decode cL_get 1 = .ok (.iconst 0, 1) := by decide +kernel
theorem dL_get_2 : decode cL_get 2 = .ok (.aload_n 0, 1) := by decide +kernel
theorem dL_get_3 : decode cL_get 3 = .ok (.iload_n 1, 1) := by decide +kernel
theorem dL_get_4 : decode cL_get 4 = .ok (.invokevirtual 83, 3) := by decide +kernel
theorem dL_get_7 : decode cL_get 7 = .ok (.lastore, 1) := by decide +kernel
theorem dL_get_8 : decode cL_get 8 = .ok (.goto 9, 3) := by decide +kernel
theorem dL_get_11 : decode cL_get 11 = .ok (.astore_n 3, 1) := by decide +kernel
theorem dL_get_12 : decode cL_get 12 = .ok (.iconst 1, 1) := by decide +kernel
theorem dL_get_13 : decode cL_get 13 = .ok (.ireturn, 1) := by decide +kernel
theorem dL_get_14 : decode cL_get 14 = .ok (.astore_n 3, 1) := by decide +kernel
theorem dL_get_15 : decode cL_get 15 = .ok (.iconst 2, 1) := by decide +kernel
theorem dL_get_16 : decode cL_get 16 = .ok (.ireturn, 1) := by decide +kernel
theorem dL_get_17 : decode cL_get 17 = .ok (.iconst 0, 1) := by decide +kernel
theorem dL_get_18 : decode cL_get 18 = .ok (.ireturn, 1) := by decide +kernel
set_option maxRecDepth 20000 in
theorem ggL_put_X1_put : GoodIn wsL_put wsX1_put := goodIn_ca (goodIn_ca (goodIn_ca (goodIn_ca (goodIn_r _ [8, 9, 10, 11, 12, 7, 13, 14, 15, 16, 17, 18, 19, 20, 21, 22, 23, 24, 25, 26, 27, 28, 29, 30, 31, 32, 33, 34, 35, 36, 37, 38, 39, 40, 41, 42, 43, 44, 45, 46, 47, 48, 49, 50, 51, 52, 53, 54, 55, 56, 57, 58, 59, 60, 61, 62, 63, 64, 65, 66, 67, 68, 69, 70, 71, 72, 73] (by decide +kernel) (by decide +kernel)) (goodIn_sub (fun _ h => List.mem_cons_of_mem _ (List.mem_append_left _ (List.mem_append_left _ (List.mem_append_right _ h)))) (by decide +kernel))) (goodIn_sub (fun _ h => List.mem_cons_of_mem _ (List.mem_append_left _ (List.mem_append_right _ h))) (by decide +kernel))) (goodIn_sub (fun _ h => List.mem_cons_of_mem _ (List.mem_append_right _ h)) (by decide +kernel))) (goodIn_sub (fun _ h => List.mem_cons_of_mem _ (List.mem_append_left _ (List.mem_append_left _ (List.mem_append_left _ (List.mem_append_right _ h))))) (by decide +kernel))
set_option maxRecDepth 20000 in
theorem gL_put_X1_put : GoodIn wsL_put (wsV RL 89 RX1 yX1_put wsX1_put) := goodIn_app (goodIn_of _ (by decide +kernel)) ggL_put_X1_put
theorem dL_put_0 : decode cL_put 0 = .ok (.aload 4, 2) := by decide +kernel
theorem dL_put_2 : decode cL_put 2 = .ok (.iconst 0, 1) := by decide +kernel
theorem dL_put_3 : decode cL_put 3 = .ok (.aload_n 0, 1) := by decide +kernel
theorem dL_put_4 : decode cL_put 4 = .ok (.iload_n 1, 1) := by decide +kernel
theorem dL_put_5 : decode cL_put 5 = .ok (.lload_n 2, 1) := by decide +kernel
theorem dL_put_6 : decode cL_put 6 = .ok (.invokevirtual 89, 3) := by decide +kernel
theorem dL_put_9 : decode cL_put 9 = .ok (.i2l, 1) := by decide +kernel
theorem dL_put_10 : decode cL_put 10 = .ok (.lastore, 1) := by decide +kernel
theorem dL_put_11 : decode cL_put 11 = .ok (.goto 15, 3) := by decide +kernel
theorem dL_put_14 : decode cL_put 14 = .ok (.astore 5, 2) := by decide +kernel
theorem dL_put_16 : decode cL_put 16 = .ok (.iconst 1, 1) := by decide +kernel
theorem dL_put_17 : decode cL_put 17 = .ok (.ireturn, 1) := by decide +kernel
theorem dL_put_18 : decode cL_put 18 = .ok (.astore 5, 2) := by decide +kernel
theorem dL_put_20 : decode cL_put 20 = .ok (.iconst 2, 1) := by decide +kernel
theorem dL_put_21 : decode cL_put 21 = .ok (.ireturn, 1) := by decide +kernel
theorem dL_put_22 : decode cL_put 22 = .ok (.astore 5, 2) := by decide +kernel
theorem dL_put_24 : decode cL_put 24 = .ok (.iconst 3, 1) := by decide +kernel
theorem dL_put_25 : decode cL_put 25 = .ok (.ireturn, 1) := by decide +kernel
theorem dL_put_26 : decode cL_put 26 = .ok (.iconst 0, 1) := by decide +kernel
theorem dL_put_27 : decode cL_put 27 = .ok (.ireturn, 1) := by decide +kernel
set_option maxRecDepth 20000 in
theorem ggL_getAt_X1_getAt : GoodIn wsL_getAt wsX1_getAt := goodIn_ca (goodIn_ca (goodIn_r _ [6, 7, 8, 9, 10, 5, 11, 12, 13, 14, 15, 16, 17, 18, 19, 20, 21, 22, 23, 24, 25, 26, 27, 28, 29, 30, 31, 32, 33, 34, 35, 36, 37, 38, 39, 40, 41, 42, 43, 44, 45] (by decide +kernel) (by decide +kernel)) (goodIn_sub (fun _ h => List.mem_cons_of_mem _ (List.mem_append_right _ h)) (by decide +kernel))) (goodIn_sub (fun _ h => List.mem_cons_of_mem _ (List.mem_append_left _ (List.mem_append_right _ h))) (by decide +kernel))
set_option maxRecDepth 20000 in
theorem gL_getAt_X1_getAt : GoodIn wsL_getAt (wsV RL 93 RX1 yX1_getAt wsX1_getAt) := goodIn_app (goodIn_of _ (by decide +kernel)) ggL_getAt_X1_getAt
theorem dL_getAt_0 : decode cL_getAt 0 = .ok (.aload_n 3, 1) := by decide +kernel
theorem dL_getAt_1 : decode cL_getAt 1 = .ok (.iconst 0, 1) := by decide +kernel
theorem dL_getAt_2 : decode cL_getAt 2 = .ok (.aload_n 0, 1) := by decide +kernel
theorem dL_getAt_3 : decode cL_getAt 3 = .ok (.iload_n 1, 1) := by decide +kernel
theorem dL_getAt_4 : decode cL_getAt 4 = .ok (.iload_n 2, 1) := by decide +kernel
theorem dL_getAt_5 : decode cL_getAt 5 = .ok (.invokevirtual 93, 3) := by decide +kernel
theorem dL_getAt_8 : decode cL_getAt 8 = .ok (.lastore, 1) := by decide +kernel
theorem dL_getAt_9 : decode cL_getAt 9 = .ok (.goto 7, 3) := by decide +kernel
theorem dL_getAt_12 : decode cL_getAt 12 = .ok (.astore 4, 2) := by decide +kernel
theorem dL_getAt_14 : decode cL_getAt 14 = .ok (.iconst 1, 1) := by decide +kernel
theorem dL_getAt_15 : decode cL_getAt 15 = .ok (.ireturn, 1) := by decide +kernel
theorem dL_getAt_16 : decode cL_getAt 16 = .ok (.iconst 0, 1) := by decide +kernel
theorem dL_getAt_17 : decode cL_getAt 17 = .ok (.ireturn, 1) := by decide +kernel
set_option maxRecDepth 20000 in
theorem ggL_putAt_X1_putAt : GoodIn wsL_putAt wsX1_putAt := goodIn_ca (goodIn_ca (goodIn_ca (goodIn_r _ [7, 8, 9, 10, 11, 6, 12, 13, 14, 15, 16, 17, 18, 19, 20, 21, 22, 23, 24, 25, 26, 27, 28, 29, 30, 31, 32, 33, 34, 35, 36, 37, 38, 39, 40, 41, 42, 43, 44, 45, 46, 47, 48, 49, 50, 51, 52, 53, 54, 55, 56, 57, 58, 59, 60, 61] (by decide +kernel) (by decide +kernel)) (goodIn_sub (fun _ h => List.mem_cons_of_mem _ (List.mem_append_left _ (List.mem_append_right _ h))) (by decide +kernel))) (goodIn_sub (fun _ h => List.mem_cons_of_mem _ (List.mem_append_right _ h)) (by decide +kernel))) (goodIn_sub (fun _ h => List.mem_cons_of_mem _ (List.mem_append_left _ (List.mem_append_left _ (List.mem_append_right _ h)))) (by decide +kernel))
set_option maxRecDepth 20000 in
theorem gL_putAt_X1_putAt : GoodIn wsL_putAt (wsV RL 97 RX1 yX1_putAt wsX1_putAt) := goodIn_app (goodIn_of _ (by decide +kernel)) ggL_putAt_X1_putAt
theorem dL_putAt_0 : decode cL_putAt 0 = .ok (.aload 5, 2) := by decide +kernel
theorem dL_putAt_2 : decode cL_putAt 2 = .ok (.iconst 0, 1) := by decide +kernel
theorem dL_putAt_3 : decode cL_putAt 3 = .ok (.aload_n 0, 1) := by decide +kernel
theorem dL_putAt_4 : decode cL_putAt 4 = .ok (.iload_n 1, 1) := by decide +kernel
theorem dL_putAt_5 : decode cL_putAt 5 = .ok (.iload_n 2, 1) := by decide +kernel
theorem dL_putAt_6 : decode cL_putAt 6 = .ok (.lload_n 3, 1) := by decide +kernel
theorem dL_putAt_7 : decode cL_putAt 7 = .ok (.invokevirtual 97, 3) := by decide +kernel
theorem dL_putAt_10 : decode cL_putAt 10 = .ok (.lastore, 1) := by decide +kernel
theorem dL_putAt_11 : decode cL_putAt 11 = .ok (.goto 11, 3) := by decide +kernel
theorem dL_putAt_14 : decode cL_putAt 14 = .ok (.astore 6, 2) := by decide +kernel
theorem dL_putAt_16 : decode cL_putAt 16 = .ok (.iconst 1, 1) := by decide +kernel
theorem dL_putAt_17 : decode cL_putAt 17 = .ok (.ireturn, 1) := by decide +kernel
theorem dL_putAt_18 : decode cL_putAt 18 = .ok (.astore 6, 2) := by decide +kernel
theorem dL_putAt_20 : decode cL_putAt 20 = .ok (.iconst 2, 1) := by decide +kernel
theorem dL_putAt_21 : decode cL_putAt 21 = .ok (.ireturn, 1) := by decide +kernel
theorem dL_putAt_22 : decode cL_putAt 22 = .ok (.iconst 0, 1) := by decide +kernel
theorem dL_putAt_23 : decode cL_putAt 23 = .ok (.ireturn, 1) := by decide +kernel
set_option maxRecDepth 20000 in
theorem ggL_fill_X1_fill : GoodIn wsL_fill wsX1_fill := goodIn_ca (goodIn_ca (goodIn_ca (goodIn_ca (goodIn_ca (goodIn_r _ [9, 10, 11, 12, 13, 8, 14, 15, 16, 17, 18, 19, 20, 21, 22, 23, 24, 25, 26, 27, 28, 29, 30, 31, 32, 33, 34, 35, 36, 37, 38, 39, 40, 41, 42, 43, 44, 45, 46, 47, 48, 49, 50, 51, 52, 53, 54, 55, 56, 57, 58, 59, 60, 61, 62, 63, 64, 65, 66, 67, 68, 69, 70, 71, 72, 73, 74, 75, 76, 77, 78, 79] (by decide +kernel) (by decide +kernel)) (goodIn_sub (fun _ h => List.mem_cons_of_mem _ (List.mem_append_left _ (List.mem_append_left _ (List.mem_append_left _ (List.mem_append_right _ h))))) (by decide +kernel))) (goodIn_sub (fun _ h => List.mem_cons_of_mem _ (List.mem_append_left _ (List.mem_append_left _ (List.mem_append_right _ h)))) (by decide +kernel))) (goodIn_sub (fun _ h => List.mem_cons_of_mem _ (List.mem_append_left _ (List.mem_append_right _ h))) (by decide +kernel))) (goodIn_sub (fun _ h => List.mem_cons_of_mem _ (List.mem_append_right _ h)) (by decide +kernel))) (goodIn_sub (fun _ h => List.mem_cons_of_mem _ (List.mem_append_left _ (List.mem_append_left _ (List.mem_append_left _ (List.mem_append_left _ (List.mem_append_right _ h)))))) (by decide +kernel))
set_option maxRecDepth 20000 in
theorem gL_fill_X1_fill : GoodIn wsL_fill (wsV RL 101 RX1 yX1_fill wsX1_fill) := goodIn_app (goodIn_of _ (by decide +kernel)) ggL_fill_X1_fill
theorem dL_fill_0 : decode cL_fill 0 = .ok (.aload 7, 2) := by decide +kernel
theorem dL_fill_2 : decode cL_fill 2 = .ok (.iconst 0, 1) := by decide +kernel
theorem dL_fill_3 : decode cL_fill 3 = .ok (.aload_n 0, 1) := by decide +kernel
theorem dL_fill_4 : decode cL_fill 4 = .ok (.iload_n 1, 1) := by decide +kernel
theorem dL_fill_5 : decode cL_fill 5 = .ok (.iload_n 2, 1) := by decide +kernel
theorem dL_fill_6 : decode cL_fill 6 = .ok (.lload_n 3, 1) := by decide +kernel
theorem dL_fill_7 : decode cL_fill 7 = .ok (.lload 5, 2) := by decide +kernel
theorem dL_fill_9 : decode cL_fill 9 = .ok (.invokevirtual 101, 3) := by decide +kernel
theorem dL_fill_12 : decode cL_fill 12 = .ok (.i2l, 1) := by decide +kernel
theorem dL_fill_13 : decode cL_fill 13 = .ok (.lastore, 1) := by decide +kernel
theorem dL_fill_14 : decode cL_fill 14 = .ok (.goto 19, 3) := by decide +kernel
theorem dL_fill_17 : decode cL_fill 17 = .ok (.astore 8, 2) := by decide +kernel
theorem dL_fill_19 : decode cL_fill 19 = .ok (.iconst 1, 1) := by decide +kernel
theorem dL_fill_20 : decode cL_fill 20 = .ok (.ireturn, 1) := by decide +kernel
theorem dL_fill_21 : decode cL_fill 21 = .ok (.astore 8, 2) := by decide +kernel
theorem dL_fill_23 : decode cL_fill 23 = .ok (.iconst 2, 1) := by decide +kernel
theorem dL_fill_24 : decode cL_fill 24 = .ok (.ireturn, 1) := by decide +kernel
theorem dL_fill_25 : decode cL_fill 25 = .ok (.astore 8, 2) := by decide +kernel
theorem dL_fill_27 : decode cL_fill 27 = .ok (.iconst 3, 1) := by decide +kernel
theorem dL_fill_28 : decode cL_fill 28 = .ok (.ireturn, 1) := by decide +kernel
theorem dL_fill_29 : decode cL_fill 29 = .ok (.astore 8, 2) := by decide +kernel
theorem dL_fill_31 : decode cL_fill 31 = .ok (.iconst 4, 1) := by decide +kernel
theorem dL_fill_32 : decode cL_fill 32 = .ok (.ireturn, 1) := by decide +kernel
theorem dL_fill_33 : decode cL_fill 33 = .ok (.iconst 0, 1) := by decide +kernel
theorem dL_fill_34 : decode cL_fill 34 = .ok (.ireturn, 1) := by decide +kernel
set_option maxRecDepth 20000 in
theorem ggL_pour_X1_pour : GoodIn wsL_pour wsX1_pour := goodIn_ca (goodIn_ca (goodIn_ca (goodIn_ca (goodIn_ca (goodIn_ca (goodIn_r _ [10, 11, 12, 13, 14, 15, 16, 9, 17, 18, 19, 20, 21, 22, 23, 24, 25, 26, 27, 28, 29, 30, 31, 32, 33, 34, 35, 36, 37, 38, 39, 40, 41, 42, 43, 44, 45, 46, 47, 48, 49, 50, 51, 52, 53, 54, 55, 56, 57, 58, 59, 60, 61, 62, 63, 64, 65, 66, 67, 68, 69, 70, 71, 72, 73, 74, 75, 76, 77, 78, 79, 80, 81, 82, 83, 84, 85, 86, 87, 88, 89, 90, 91, 92, 93] (by decide +kernel) (by decide +kernel)) (goodIn_sub (fun _ h => List.mem_cons_of_mem _ (List.mem_append_left _ (List.mem_append_left _ (List.mem_append_left _ (List.mem_append_left _ (List.mem_append_right _ h)))))) (by decide +kernel))) (goodIn_sub (fun _ h => List.mem_cons_of_mem _ (List.mem_append_left _ (List.mem_append_left _ (List.mem_append_left _ (List.mem_append_right _ h))))) (by decide +kernel))) (goodIn_sub (fun _ h => List.mem_cons_of_mem _ (List.mem_append_left _ (List.mem_append_left _ (List.mem_append_right _ h)))) (by decide +kernel))) (goodIn_sub (fun _ h => List.mem_cons_of_mem _ (List.mem_append_left _ (List.mem_append_right _ h))) (by decide +kernel))) (goodIn_sub (fun _ h => List.mem_cons_of_mem _ (List.mem_append_right _ h)) (by decide +kernel))) (goodIn_sub (fun _ h => List.mem_cons_of_mem _ (List.mem_append_left _ (List.mem_append_left _ (List.mem_append_left _ (List.mem_append_left _ (List.mem_append_left _ (List.mem_append_right _ h))))))) (by decide +kernel))
set_option maxRecDepth 20000 in
theorem gL_pour_X1_pour : GoodIn wsL_pour (wsV RL 105 RX1 yX1_pour wsX1_pour) := goodIn_app (goodIn_of _ (by decide +kernel)) ggL_pour_X1_pour
theorem dL_pour_0 : decode cL_pour 0 = .ok (.aload 4, 2) := by decide +kernel
theorem dL_pour_2 : decode cL_pour 2 = .ok (.iconst 0, 1) := by decide +kernel
theorem dL_pour_3 : decode cL_pour 3 = .ok (.aload_n 0, 1) := by decide +kernel
theorem dL_pour_4 : decode cL_pour 4 = .ok (.iload_n 1, 1) := by decide +kernel
theorem dL_pour_5 : decode cL_pour 5 = .ok (.iload_n 2, 1) := by decide +kernel
theorem dL_pour_6 : decode cL_pour 6 = .ok (.iload_n 3, 1) := by decide +kernel
theorem dL_pour_7 : decode cL_pour 7 = .ok (.invokevirtual 105, 3) := by decide +kernel
theorem dL_pour_10 : decode cL_pour 10 = .ok (.i2l, 1) := by decide +kernel
theorem dL_pour_11 : decode cL_pour 11 = .ok (.lastore, 1) := by decide +kernel
theorem dL_pour_12 : decode cL_pour 12 = .ok (.goto 23, 3) := by decide +kernel
theorem dL_pour_15 : decode cL_pour 15 = .ok (.astore 5, 2) := by decide +kernel
theorem dL_pour_17 : decode cL_pour 17 = .ok (.iconst 1, 1) := by decide +kernel
theorem dL_pour_18 : decode cL_pour 18 = .ok (.ireturn, 1) := by decide +kernel
theorem dL_pour_19 : decode cL_pour 19 = .ok (.astore 5, 2) := by decide +kernel
theorem dL_pour_21 : decode cL_pour 21 = .ok (.iconst 2, 1) := by decide +kernel
theorem dL_pour_22 : decode cL_pour 22 = .ok (.ireturn, 1) := by decide +kernel
theorem dL_pour_23 : decode cL_pour 23 = .ok (.astore 5, 2) := by decide +kernel
theorem dL_pour_25 : decode cL_pour 25 = .ok (.iconst 3, 1) := by decide +kernel
theorem dL_pour_26 : decode cL_pour 26 = .ok (.ireturn, 1) := by decide +kernel
theorem dL_pour_27 : decode cL_pour 27 = .ok (.astore 5, 2) := by decide +kernel
theorem dL_pour_29 : decode cL_pour 29 = .ok (.iconst 4, 1) := by decide +kernel
theorem dL_pour_30 : decode cL_pour 30 = .ok (.ireturn, 1) := by decide +kernel
theorem dL_pour_31 : decode cL_pour 31 = .ok (.astore 5, 2) := by decide +kernel
theorem dL_pour_33 : decode cL_pour 33 = .ok (.iconst 5, 1) := by decide +kernel
theorem dL_pour_34 : decode cL_pour 34 = .ok (.ireturn, 1) := by decide +kernel
theorem dL_pour_35 : decode cL_pour 35 = .ok (.iconst 0, 1) := by decide +kernel
theorem dL_pour_36 : decode cL_pour 36 = .ok (.ireturn, 1) := by decide +kernel
set_option maxRecDepth 20000 in
theorem ggL_slice_X1_slice : GoodIn wsL_slice wsX1_slice := goodIn_ca (goodIn_r _ [6, 7, 8, 9, 10, 11, 5, 12, 13, 14, 15, 16, 17, 18, 19, 20, 21, 22, 23, 24, 25, 26, 27, 28, 29, 30, 31, 32, 33, 34, 35, 36, 37, 38, 39, 40, 41, 42, 43, 44, 45, 46, 47, 48, 49, 50, 51, 52, 53, 54, 55, 56, 57, 58, 59] (by decide +kernel) (by decide +kernel)) (goodIn_sub (fun _ h => List.mem_cons_of_mem _ (List.mem_append_right _ h)) (by decide +kernel))
set_option maxRecDepth 20000 in
theorem gL_slice_X1_slice : GoodIn wsL_slice (wsV RL 108 RX1 yX1_slice wsX1_slice) := goodIn_app (goodIn_of _ (by decide +kernel)) ggL_slice_X1_slice
theorem dL_slice_0 : decode cL_slice 0 = .ok (.aload_n 3, 1) := by decide +kernel
theorem dL_slice_1 : decode cL_slice 1 = .ok (.iconst 0, 1) := by decide +kernel
theorem dL_slice_2 : decode cL_slice 2 = .ok (.aload_n 0, 1) := by decide +kernel
theorem dL_slice_3 : decode cL_slice 3 = .ok (.iload_n 1, 1) := by decide +kernel
theorem dL_slice_4 : decode cL_slice 4 = .ok (.iload_n 2, 1) := by decide +kernel
theorem dL_slice_5 : decode cL_slice 5 = .ok (.invokevirtual 108, 3) := by decide +kernel
theorem dL_slice_8 : decode cL_slice 8 = .ok (.i2l, 1) := by decide +kernel
theorem dL_slice_9 : decode cL_slice 9 = .ok (.lastore, 1) := by decide +kernel
theorem dL_slice_10 : decode cL_slice 10 = .ok (.goto 7, 3) := by decide +kernel
theorem dL_slice_13 : decode cL_slice 13 = .ok (.astore 4, 2) := by decide +kernel
theorem dL_slice_15 : decode cL_slice 15 = .ok (.iconst 1, 1) := by decide +kernel
theorem dL_slice_16 : decode cL_slice 16 = .ok (.ireturn, 1) := by decide +kernel
theorem dL_slice_17 : decode cL_slice 17 = .ok (.iconst 0, 1) := by decide +kernel
theorem dL_slice_18 : decode cL_slice 18 = .ok (.ireturn, 1) := by decide +kernel
set_option maxRecDepth 20000 in
theorem ggL_sliceAt_X1_sliceAt : GoodIn wsL_sliceAt wsX1_sliceAt := goodIn_ca (goodIn_r _ [6, 7, 8, 9, 10, 11, 5, 12, 13, 14, 15, 16, 17, 18, 19, 20, 21, 22, 23, 24, 25, 26, 27, 28, 29, 30, 31, 32, 33, 34, 35, 36, 37, 38, 39, 40, 41, 42, 43, 44, 45, 46, 47, 48, 49, 50, 51, 52, 53, 54, 55, 56, 57, 58] (by decide +kernel) (by decide +kernel)) (goodIn_sub (fun _ h => List.mem_cons_of_mem _ (List.mem_append_right _ h)) (by decide +kernel))
set_option maxRecDepth 20000 in
theorem gL_sliceAt_X1_sliceAt : GoodIn wsL_sliceAt (wsV RL 111 RX1 yX1_sliceAt wsX1_sliceAt) := goodIn_app (goodIn_of _ (by decide +kernel)) ggL_sliceAt_X1_sliceAt
theorem dL_sliceAt_0 : decode cL_sliceAt 0 = .ok (.aload 5, 2) := by decide +kernel
theorem dL_sliceAt_2 : decode cL_sliceAt 2 = .ok (.iconst 0, 1) := by decide +kernel
theorem dL_sliceAt_3 : decode cL_sliceAt 3 = .ok (.aload_n 0, 1) := by decide +kernel
theorem dL_sliceAt_4 : decode cL_sliceAt 4 = .ok (.iload_n 1, 1) := by decide +kernel
theorem dL_sliceAt_5 : decode cL_sliceAt 5 = .ok (.iload_n 2, 1) := by decide +kernel
theorem dL_sliceAt_6 : decode cL_sliceAt 6 = .ok (.iload_n 3, 1) := by decide +kernel
theorem dL_sliceAt_7 : decode cL_sliceAt 7 = .ok (.iload 4, 2) := by decide +kernel
theorem dL_sliceAt_9 : decode cL_sliceAt 9 = .ok (.invokevirtual 111, 3) := by decide +kernel
theorem dL_sliceAt_12 : decode cL_sliceAt 12 = .ok (.i2l, 1) := by decide +kernel
theorem dL_sliceAt_13 : decode cL_sliceAt 13 = .ok (.lastore, 1) := by decide +kernel
theorem dL_sliceAt_14 : decode cL_sliceAt 14 = .ok (.goto 7, 3) := by decide +kernel
theorem dL_sliceAt_17 : decode cL_sliceAt 17 = .ok (.astore 6, 2) := by decide +kernel
theorem dL_sliceAt_19 : decode cL_sliceAt 19 = .ok (.iconst 1, 1) := by decide +kernel
theorem dL_sliceAt_20 : decode cL_sliceAt 20 = .ok (.ireturn, 1) := by decide +kernel
theorem dL_sliceAt_21 : decode cL_sliceAt 21 = .ok (.iconst 0, 1) := by decide +kernel
theorem dL_sliceAt_22 : decode cL_sliceAt 22 = .ok (.ireturn, 1) := by decide +kernel
set_option maxRecDepth 20000 in
theorem ggL_duplicate_X1_duplicate : GoodIn wsL_duplicate wsX1_duplicate := goodIn_ca (goodIn_r _ [6, 7, 8, 9, 5, 10, 11, 12, 13, 14, 15, 16, 17, 18, 19, 20, 21, 22, 23, 24, 25, 26, 27, 28, 29, 30, 31, 32, 33, 34, 35, 36, 37, 38, 39, 40, 41, 42, 43, 44, 45, 46, 47, 48, 49, 50, 51, 52, 53] (by decide +kernel) (by decide +kernel)) (goodIn_sub (fun _ h => List.mem_cons_of_mem _ (List.mem_append_right _ h)) (by decide +kernel))
set_option maxRecDepth 20000 in
theorem gL_duplicate_X1_duplicate : GoodIn wsL_duplicate (wsV RL 115 RX1 yX1_duplicate wsX1_duplicate) := goodIn_app (goodIn_of _ (by decide +kernel)) ggL_duplicate_X1_duplicate
theorem dL_duplicate_0 : decode cL_duplicate 0 = .ok (.aload_n 3, 1) := by decide +kernel
theorem dL_duplicate_1 : decode cL_duplicate 1 = .ok (.iconst 0, 1) := by decide +kernel
theorem dL_duplicate_2 : decode cL_duplicate 2 = .ok (.aload_n 0, 1) := by decide +kernel
theorem dL_duplicate_3 : decode cL_duplicate 3 = .ok (.iload_n 1, 1) := by decide +kernel
theorem dL_duplicate_4 : decode cL_duplicate 4 = .ok (.iload_n 2, 1) := by decide +kernel
theorem dL_duplicate_5 : decode cL_duplicate 5 = .ok (.invokevirtual 115, 3) := by decide +kernel
theorem dL_duplicate_8 : decode cL_duplicate 8 = .ok (.i2l, 1) := by decide +kernel
theorem dL_duplicate_9 : decode cL_duplicate 9 = .ok (.lastore, 1) := by decide +kernel
theorem dL_duplicate_10 : decode cL_duplicate 10 = .ok (.goto 7, 3) := by decide +kernel
theorem dL_duplicate_13 : decode cL_duplicate 13 = .ok (.astore 4, 2) := by decide +kernel
theorem dL_duplicate_15 : decode cL_duplicate 15 = .ok (.iconst 1, 1) := by decide +kernel
theorem dL_duplicate_16 : decode cL_duplicate 16 = .ok (.ireturn, 1) := by decide +kernel
theorem dL_duplicate_17 : decode cL_duplicate 17 = .ok (.iconst 0, 1) := by decide +kernel
theorem dL_duplicate_18 : decode cL_duplicate 18 = .ok (.ireturn, 1) := by decide +kernel
set_option maxRecDepth 20000 in
theorem ggL_readOnly_X1_readOnly : GoodIn wsL_readOnly wsX1_readOnly := goodIn_ca (goodIn_r _ [6, 7, 8, 9, 10, 5, 11, 12, 13, 14, 15, 16, 17, 18, 19, 20, 21, 22, 23, 24, 25, 26, 27, 28, 29, 30, 31, 32, 33, 34, 35, 36, 37, 38, 39, 40, 41, 42, 43, 44, 45, 46, 47, 48, 49, 50, 51, 52, 53, 54] (by decide +kernel) (by decide +kernel)) (goodIn_sub (fun _ h => List.mem_cons_of_mem _ (List.mem_append_right _ h)) (by decide +kernel))
set_option maxRecDepth 20000 in
theorem gL_readOnly_X1_readOnly : GoodIn wsL_readOnly (wsV RL 118 RX1 yX1_readOnly wsX1_readOnly) := goodIn_app (goodIn_of _ (by decide +kernel)) ggL_readOnly_X1_readOnly
theorem dL_readOnly_0 : decode cL_readOnly 0 = .ok (.aload_n 3, 1) := by decide +kernel
theorem dL_readOnly_1 : decode cL_readOnly 1 = .ok (.iconst 0, 1) := by decide +kernel
theorem dL_readOnly_2 : decode cL_readOnly 2 = .ok (.aload_n 0, 1) := by decide +kernel
theorem dL_readOnly_3 : decode cL_readOnly 3 = .ok (.iload_n 1, 1) := by decide +kernel
theorem dL_readOnly_4 : decode cL_readOnly 4 = .ok (.iload_n 2, 1) := by decide +kernel
theorem dL_readOnly_5 : decode cL_readOnly 5 = .ok (.invokevirtual 118, 3) := by decide +kernel
theorem dL_readOnly_8 : decode cL_readOnly 8 = .ok (.i2l, 1) := by decide +kernel
theorem dL_readOnly_9 : decode cL_readOnly 9 = .ok (.lastore, 1) := by decide +kernel
theorem dL_readOnly_10 : decode cL_readOnly 10 = .ok (.goto 7, 3) := by decide +kernel
theorem dL_readOnly_13 : decode cL_readOnly 13 = .ok (.astore 4, 2) := by decide +kernel
theorem dL_readOnly_15 : decode cL_readOnly 15 = .ok (.iconst 1, 1) := by decide +kernel
theorem dL_readOnly_16 : decode cL_readOnly 16 = .ok (.ireturn, 1) := by decide +kernel
theorem dL_readOnly_17 : decode cL_readOnly 17 = .ok (.iconst 0, 1) := by decide +kernel
theorem dL_readOnly_18 : decode cL_readOnly 18 = .ok (.ireturn, 1) := by decide +kernel
set_option maxRecDepth 20000 in
theorem ggL_signAt_X1_signAt : GoodIn wsL_signAt wsX1_signAt := goodIn_ca (goodIn_ca (goodIn_ca (goodIn_ca (goodIn_r _ [8, 9, 10, 11, 12, 13, 14, 7, 15, 16, 17, 18, 19, 20, 21, 22, 23, 24, 25, 26, 27, 28, 29, 30, 31, 32, 33, 34, 35, 36, 37, 38, 39, 40, 41, 42, 43, 44, 45, 46, 47, 48, 49, 50, 51, 52, 53, 54, 55, 56, 57, 58, 59, 60, 61] (by decide +kernel) (by decide +kernel)) (goodIn_sub (fun _ h => List.mem_cons_of_mem _ (List.mem_append_left _ (List.mem_append_left _ (List.mem_append_right _ h)))) (by decide +kernel))) (goodIn_sub (fun _ h => List.mem_cons_of_mem _ (List.mem_append_left _ (List.mem_append_right _ h))) (by decide +kernel))) (goodIn_sub (fun _ h => List.mem_cons_of_mem _ (List.mem_append_right _ h)) (by decide +kernel))) (goodIn_sub (fun _ h => List.mem_cons_of_mem _ (List.mem_append_left _ (List.mem_append_left _ (List.mem_append_left _ (List.mem_append_right _ h))))) (by decide +kernel))
set_option maxRecDepth 20000 in
theorem gL_signAt_X1_signAt : GoodIn wsL_signAt (wsV RL 121 RX1 yX1_signAt wsX1_signAt) := goodIn_app (goodIn_of _ (by decide +kernel)) ggL_signAt_X1_signAt
theorem dL_signAt_0 : decode cL_signAt 0 = .ok (.aload_n 3, 1) := by decide +kernel
theorem dL_signAt_1 : decode cL_signAt 1 = .ok (.iconst 0, 1) := by decide +kernel
theorem dL_signAt_2 : decode cL_signAt 2 = .ok (.aload_n 0, 1) := by decide +kernel
theorem dL_signAt_3 : decode cL_signAt 3 = .ok (.iload_n 1, 1) := by decide +kernel
theorem dL_signAt_4 : decode cL_signAt 4 = .ok (.iload_n 2, 1) := by decide +kernel
theorem dL_signAt_5 : decode cL_signAt 5 = .ok (.invokevirtual 121, 3) := by decide +kernel
theorem dL_signAt_8 : decode cL_signAt 8 = .ok (.i2l, 1) := by decide +kernel
theorem dL_signAt_9 : decode cL_signAt 9 = .ok (.lastore, 1) := by decide +kernel
theorem dL_signAt_10 : decode cL_signAt 10 = .ok (.goto 15, 3) := by decide +kernel
theorem dL_signAt_13 : decode cL_signAt 13 = .ok (.astore 4, 2) := by decide +kernel
theorem dL_signAt_15 : decode cL_signAt 15 = .ok (.iconst 1, 1) := by decide +kernel
theorem dL_signAt_16 : decode cL_signAt 16 = .ok (.ireturn, 1) := by decide +kernel
theorem dL_signAt_17 : decode cL_signAt 17 = .ok (.astore 4, 2) := by decide +kernel
theorem dL_signAt_19 : decode cL_signAt 19 = .ok (.iconst 2, 1) := by decide +kernel
theorem dL_signAt_20 : decode cL_signAt 20 = .ok (.ireturn, 1) := by decide +kernel
theorem dL_signAt_21 : decode cL_signAt 21 = .ok (.astore 4, 2) := by decide +kernel
theorem dL_signAt_23 : decode cL_signAt 23 = .ok (.iconst 3, 1) := by decide +kernel
theorem dL_signAt_24 : decode cL_signAt 24 = .ok (.ireturn, 1) := by decide +kernel
theorem dL_signAt_25 : decode cL_signAt 25 = .ok (.iconst 0, 1) := by decide +kernel
theorem dL_signAt_26 : decode cL_signAt 26 = .ok (.ireturn, 1) := by decide +kernel
set_option maxRecDepth 20000 in
theorem ggL_signsLeft_X1_signsLeft : GoodIn wsL_signsLeft wsX1_signsLeft := goodIn_ca (goodIn_ca (goodIn_r _ [7, 8, 9, 10, 6, 11, 12, 13, 14, 15, 16, 17, 18, 19, 20, 21, 22, 23, 24, 25, 26, 27, 28, 29, 30, 31, 32, 33, 34, 35, 36, 37, 38, 39, 40, 41, 42, 43, 44, 45, 46, 47, 48, 49, 50, 51] (by decide +kernel) (by decide +kernel)) (goodIn_sub (fun _ h => List.mem_cons_of_mem _ (List.mem_append_left _ (List.mem_append_right _ h))) (by decide +kernel))) (goodIn_sub (fun _ h => List.mem_cons_of_mem _ (List.mem_append_right _ h)) (by decide +kernel))
set_option maxRecDepth 20000 in
theorem gL_signsLeft_X1_signsLeft : GoodIn wsL_signsLeft (wsV RL 125 RX1 yX1_signsLeft wsX1_signsLeft) := goodIn_app (goodIn_of _ (by decide +kernel)) ggL_signsLeft_X1_signsLeft
theorem dL_signsLeft_0 : decode cL_signsLeft 0 = .ok (.aload_n 2, 1) := by decide +kernel
theorem dL_signsLeft_1 : decode cL_signsLeft 1 = .ok (.iconst 0, 1) := by decide +kernel
theorem dL_signsLeft_2 : decode cL_signsLeft 2 = .ok (.aload_n 0, 1) := by decide +kernel
theorem dL_signsLeft_3 : decode cL_signsLeft 3 = .ok (.iload_n 1, 1) := by decide +kernel
theorem dL_signsLeft_4 : decode cL_signsLeft 4 = .ok (.invokevirtual 125, 3) := by decide +kernel
theorem dL_signsLeft_7 : decode cL_signsLeft 7 = .ok (.i2l, 1) := by decide +kernel
theorem dL_signsLeft_8 : decode cL_signsLeft 8 = .ok (.lastore, 1) := by decide +kernel
theorem dL_signsLeft_9 : decode cL_signsLeft 9 = .ok (.goto 9, 3) := by decide +kernel
theorem dL_signsLeft_12 : decode cL_signsLeft 12 = .ok (.astore_n 3, 1) := by decide +kernel
theorem dL_signsLeft_13 : decode cL_signsLeft 13 = .ok (.iconst 1, 1) := by decide +kernel
theorem dL_signsLeft_14 : decode cL_signsLeft 14 = .ok (.ireturn, 1) := by decide +kernel
theorem dL_signsLeft_15 : decode cL_signsLeft 15 = .ok (.astore_n 3, 1) := by decide +kernel
theorem dL_signsLeft_16 : decode cL_signsLeft 16 = .ok (.iconst 2, 1) := by decide +kernel
theorem dL_signsLeft_17 : decode cL_signsLeft 17 = .ok (.ireturn, 1) := by decide +kernel
theorem dL_signsLeft_18 : decode cL_signsLeft 18 = .ok (.iconst 0, 1) := by decide +kernel
theorem dL_signsLeft_19 : decode cL_signsLeft 19 = .ok (.ireturn, 1) := by decide +kernel
set_option maxRecDepth 20000 in
theorem ggL_append_X1_append : GoodIn wsL_append wsX1_append := goodIn_ca (goodIn_ca (goodIn_ca (goodIn_ca (goodIn_r _ [8, 9, 10, 11, 12, 7, 13, 14, 15, 16, 17, 18, 19, 20, 21, 22, 23, 24, 25, 26, 27, 28, 29, 30, 31, 32, 33, 34, 35, 36, 37, 38, 39, 40, 41, 42, 43, 44, 45, 46, 47, 48, 49, 50, 51, 52, 53, 54, 55, 56, 57, 58, 59, 60, 61, 62, 63, 64, 65, 66, 67, 68, 69, 70, 71, 72, 73, 74, 75, 76, 77] (by decide +kernel) (by decide +kernel)) (goodIn_sub (fun _ h => List.mem_cons_of_mem _ (List.mem_append_left _ (List.mem_append_left _ (List.mem_append_right _ h)))) (by decide +kernel))) (goodIn_sub (fun _ h => List.mem_cons_of_mem _ (List.mem_append_left _ (List.mem_append_right _ h))) (by decide +kernel))) (goodIn_sub (fun _ h => List.mem_cons_of_mem _ (List.mem_append_right _ h)) (by decide +kernel))) (goodIn_sub (fun _ h => List.mem_cons_of_mem _ (List.mem_append_left _ (List.mem_append_left _ (List.mem_append_left _ (List.mem_append_right _ h))))) (by decide +kernel))
set_option maxRecDepth 20000 in
theorem gL_append_X1_append : GoodIn wsL_append (wsV RL 128 RX1 yX1_append wsX1_append) := goodIn_app (goodIn_of _ (by decide +kernel)) ggL_append_X1_append
theorem dL_append_0 : decode cL_append 0 = .ok (.aload_n 3, 1) := by decide +kernel
theorem dL_append_1 : decode cL_append 1 = .ok (.iconst 0, 1) := by decide +kernel
theorem dL_append_2 : decode cL_append 2 = .ok (.aload_n 0, 1) := by decide +kernel
theorem dL_append_3 : decode cL_append 3 = .ok (.iload_n 1, 1) := by decide +kernel
theorem dL_append_4 : decode cL_append 4 = .ok (.iload_n 2, 1) := by decide +kernel
theorem dL_append_5 : decode cL_append 5 = .ok (.invokevirtual 128, 3) := by decide +kernel
theorem dL_append_8 : decode cL_append 8 = .ok (.i2l, 1) := by decide +kernel
theorem dL_append_9 : decode cL_append 9 = .ok (.lastore, 1) := by decide +kernel
theorem dL_append_10 : decode cL_append 10 = .ok (.goto 15, 3) := by decide +kernel
theorem dL_append_13 : decode cL_append 13 = .ok (.astore 4, 2) := by decide +kernel
theorem dL_append_15 : decode cL_append 15 = .ok (.iconst 1, 1) := by decide +kernel
theorem dL_append_16 : decode cL_append 16 = .ok (.ireturn, 1) := by decide +kernel
theorem dL_append_17 : decode cL_append 17 = .ok (.astore 4, 2) := by decide +kernel
theorem dL_append_19 : decode cL_append 19 = .ok (.iconst 2, 1) := by decide +kernel
theorem dL_append_20 : decode cL_append 20 = .ok (.ireturn, 1) := by decide +kernel
theorem dL_append_21 : decode cL_append 21 = .ok (.astore 4, 2) := by decide +kernel
theorem dL_append_23 : decode cL_append 23 = .ok (.iconst 3, 1) := by decide +kernel
theorem dL_append_24 : decode cL_append 24 = .ok (.ireturn, 1) := by decide +kernel
theorem dL_append_25 : decode cL_append 25 = .ok (.iconst 0, 1) := by decide +kernel
theorem dL_append_26 : decode cL_append 26 = .ok (.ireturn, 1) := by decide +kernel
set_option maxRecDepth 20000 in
theorem ggL_text_X1_text : GoodIn wsL_text wsX1_text := goodIn_ca (goodIn_ca (goodIn_ca (goodIn_r _ [7, 8, 9, 10, 11, 12, 6, 13, 14, 15, 16, 17, 18, 19, 20, 21, 22, 23, 24, 25, 26, 27, 28, 29, 30, 31, 32, 33, 34, 35, 36, 37, 38, 39, 40, 41, 42, 43, 44, 45, 46, 47, 48, 49, 50, 51, 52, 53, 54, 55, 56, 57, 58, 59, 60, 61] (by decide +kernel) (by decide +kernel)) (goodIn_sub (fun _ h => List.mem_cons_of_mem _ (List.mem_append_left _ (List.mem_append_right _ h))) (by decide +kernel))) (goodIn_sub (fun _ h => List.mem_cons_of_mem _ (List.mem_append_right _ h)) (by decide +kernel))) (goodIn_sub (fun _ h => List.mem_cons_of_mem _ (List.mem_append_left _ (List.mem_append_left _ (List.mem_append_right _ h)))) (by decide +kernel))
set_option maxRecDepth 20000 in
theorem gL_text_X1_text : GoodIn wsL_text (wsV RL 132 RX1 yX1_text wsX1_text) := goodIn_app (goodIn_of _ (by decide +kernel)) ggL_text_X1_text
theorem dL_text_0 : decode cL_text 0 = .ok (.aload_n 2, 1) := by decide +kernel
theorem dL_text_1 : decode cL_text 1 = .ok (.iconst 0, 1) := by decide +kernel
theorem dL_text_2 : decode cL_text 2 = .ok (.aload_n 0, 1) := by decide +kernel
theorem dL_text_3 : decode cL_text 3 = .ok (.iload_n 1, 1) := by decide +kernel
theorem dL_text_4 : decode cL_text 4 = .ok (.invokevirtual 132, 3) := by decide +kernel
theorem dL_text_7 : decode cL_text 7 = .ok (.lastore, 1) := by decide +kernel
theorem dL_text_8 : decode cL_text 8 = .ok (.goto 9, 3) := by decide +kernel
theorem dL_text_11 : decode cL_text 11 = .ok (.astore_n 3, 1) := by decide +kernel
theorem dL_text_12 : decode cL_text 12 = .ok (.iconst 1, 1) := by decide +kernel
theorem dL_text_13 : decode cL_text 13 = .ok (.ireturn, 1) := by decide +kernel
theorem dL_text_14 : decode cL_text 14 = .ok (.astore_n 3, 1) := by decide +kernel
theorem dL_text_15 : decode cL_text 15 = .ok (.iconst 2, 1) := by decide +kernel
theorem dL_text_16 : decode cL_text 16 = .ok (.ireturn, 1) := by decide +kernel
theorem dL_text_17 : decode cL_text 17 = .ok (.iconst 0, 1) := by decide +kernel
theorem dL_text_18 : decode cL_text 18 = .ok (.ireturn, 1) := by decide +kernel
set_option maxRecDepth 20000 in
theorem ggL_isAlike_X1_isAlike : GoodIn wsL_isAlike wsX1_isAlike := goodIn_ca (goodIn_ca (goodIn_r _ [6, 7, 8, 9, 10, 5, 11, 12, 13, 14, 15, 16, 17, 18, 19, 20, 21, 22, 23, 24, 25, 26, 27, 28, 29, 30, 31, 32, 33, 34, 35, 36, 37, 38, 39, 40, 41, 42, 43, 44, 45, 46, 47, 48, 49, 50, 51] (by decide +kernel) (by decide +kernel)) (goodIn_sub (fun _ h => List.mem_cons_of_mem _ (List.mem_append_right _ h)) (by decide +kernel))) (goodIn_sub (fun _ h => List.mem_cons_of_mem _ (List.mem_append_left _ (List.mem_append_right _ h))) (by decide +kernel))
set_option maxRecDepth 20000 in
theorem gL_isAlike_X1_isAlike : GoodIn wsL_isAlike (wsV RL 135 RX1 yX1_isAlike wsX1_isAlike) := goodIn_app (goodIn_of _ (by decide +kernel)) ggL_isAlike_X1_isAlike
theorem dL_isAlike_0 : decode cL_isAlike 0 = .ok (.aload_n 3, 1) := by decide +kernel
theorem dL_isAlike_1 : decode cL_isAlike 1 = .ok (.iconst 0, 1) := by decide +kernel
theorem dL_isAlike_2 : decode cL_isAlike 2 = .ok (.aload_n 0, 1) := by decide +kernel
theorem dL_isAlike_3 : decode cL_isAlike 3 = .ok (.iload_n 1, 1) := by decide +kernel
theorem dL_isAlike_4 : decode cL_isAlike 4 = .ok (.iload_n 2, 1) := by decide +kernel
theorem dL_isAlike_5 : decode cL_isAlike 5 = .ok (.invokevirtual 135, 3) := by decide +kernel
theorem dL_isAlike_8 : decode cL_isAlike 8 = .ok (.ifCond .eq 7, 3) := by decide +kernel
theorem dL_isAlike_11 : decode cL_isAlike 11 = .ok (.lconst 1, 1) := by decide +kernel
theorem dL_isAlike_12 : decode cL_isAlike 12 = .ok (.goto 4, 3) := by decide +kernel
theorem dL_isAlike_15 : decode cL_isAlike 15 = .ok (.lconst 0, 1) := by decide +kernel
theorem dL_isAlike_16 : decode cL_isAlike 16 = .ok (.lastore, 1) := by decide +kernel
theorem dL_isAlike_17 : decode cL_isAlike 17 = .ok (.goto 7, 3) := by decide +kernel
theorem dL_isAlike_20 : decode cL_isAlike 20 = .ok (.astore 4, 2) := by decide +kernel
theorem dL_isAlike_22 : decode cL_isAlike 22 = .ok (.iconst 1, 1) := by decide +kernel
theorem dL_isAlike_23 : decode cL_isAlike 23 = .ok (.ireturn, 1) := by decide +kernel
theorem dL_isAlike_24 : decode cL_isAlike 24 = .ok (.iconst 0, 1) := by decide +kernel
theorem dL_isAlike_25 : decode cL_isAlike 25 = .ok (.ireturn, 1) := by decide +kernel
set_option maxRecDepth 20000 in
theorem ggL_fullShare_X1_fullShare : GoodIn wsL_fullShare wsX1_fullShare := goodIn_ca (goodIn_ca (goodIn_r _ [7, 8, 9, 10, 11, 12, 13, 14, 6, 15, 16, 17, 18, 19, 20, 21, 22, 23, 24, 25, 26, 27, 28, 29, 30, 31, 32, 33, 34, 35, 36, 37, 38, 39, 40, 41, 42, 43] (by decide +kernel) (by decide +kernel)) (goodIn_sub (fun _ h => List.mem_cons_of_mem _ (List.mem_append_left _ (List.mem_append_right _ h))) (by decide +kernel))) (goodIn_sub (fun _ h => List.mem_cons_of_mem _ (List.mem_append_right _ h)) (by decide +kernel))
set_option maxRecDepth 20000 in
theorem gL_fullShare_X1_fullShare : GoodIn wsL_fullShare (wsV RL 139 RX1 yX1_fullShare wsX1_fullShare) := goodIn_app (goodIn_of _ (by decide +kernel)) ggL_fullShare_X1_fullShare
theorem dL_fullShare_0 : decode cL_fullShare 0 = .ok (.aload_n 2, 1) := by decide +kernel
theorem dL_fullShare_1 : decode cL_fullShare 1 = .ok (.iconst 0, 1) := by decide +kernel
theorem dL_fullShare_2 : decode cL_fullShare 2 = .ok (.aload_n 0, 1) := by decide +kernel
theorem dL_fullShare_3 : decode cL_fullShare 3 = .ok (.iload_n 1, 1) := by decide +kernel
theorem dL_fullShare_4 : decode cL_fullShare 4 = .ok (.invokevirtual 139, 3) := by decide +kernel
theorem dL_fullShare_7 : decode cL_fullShare 7 = .ok (.f2d, 1) := by decide +kernel
theorem dL_fullShare_8 : decode cL_fullShare 8 = .ok (.dastore, 1) := by decide +kernel
theorem dL_fullShare_9 : decode cL_fullShare 9 = .ok (.goto 9, 3) := by decide +kernel
theorem dL_fullShare_12 : decode cL_fullShare 12 = .ok (.astore_n 3, 1) := by decide +kernel
theorem dL_fullShare_13 : decode cL_fullShare 13 = .ok (.iconst 1, 1) := by decide +kernel
theorem dL_fullShare_14 : decode cL_fullShare 14 = .ok (.ireturn, 1) := by decide +kernel
theorem dL_fullShare_15 : decode cL_fullShare 15 = .ok (.astore_n 3, 1) := by decide +kernel
theorem dL_fullShare_16 : decode cL_fullShare 16 = .ok (.iconst 2, 1) := by decide +kernel
theorem dL_fullShare_17 : decode cL_fullShare 17 = .ok (.ireturn, 1) := by decide +kernel
theorem dL_fullShare_18 : decode cL_fullShare 18 = .ok (.iconst 0, 1) := by decide +kernel
theorem dL_fullShare_19 : decode cL_fullShare 19 = .ok (.ireturn, 1) := by decide +kernel
set_option maxRecDepth 20000 in
theorem ggL_meanLeft_X1_meanLeft : GoodIn wsL_meanLeft wsX1_meanLeft := goodIn_ca (goodIn_r _ [6, 7, 8, 9, 10, 11, 12, 13, 14, 15, 16, 17, 18, 19, 20, 21, 22, 23, 24, 25, 26, 27, 28, 29, 30, 31, 32, 33] (by decide +kernel) (by decide +kernel)) (goodIn_sub (fun _ h => List.mem_cons_of_mem _ (List.mem_append_right _ h)) (by decide +kernel))
set_option maxRecDepth 20000 in
theorem gL_meanLeft_X1_meanLeft : GoodIn wsL_meanLeft (wsV RL 145 RX1 yX1_meanLeft wsX1_meanLeft) := goodIn_app (goodIn_of _ (by decide +kernel)) ggL_meanLeft_X1_meanLeft
theorem dL_meanLeft_0 : decode cL_meanLeft 0 = .ok (.aload_n 1, 1) := by decide +kernel
theorem dL_meanLeft_1 : decode cL_meanLeft 1 = .ok (.iconst 0, 1) := by decide +kernel
theorem dL_meanLeft_2 : decode cL_meanLeft 2 = .ok (.aload_n 0, 1) := by decide +kernel
theorem dL_meanLeft_3 : decode cL_meanLeft 3 = .ok (.invokevirtual 145, 3) := by decide +kernel
theorem dL_meanLeft_6 : decode cL_meanLeft 6 = .ok (.dastore, 1) := by decide +kernel
theorem dL_meanLeft_7 : decode cL_meanLeft 7 = .ok (.goto 6, 3) := by decide +kernel
theorem dL_meanLeft_10 : decode cL_meanLeft 10 = .ok (.astore_n 2, 1) := by decide +kernel
theorem dL_meanLeft_11 : decode cL_meanLeft 11 = .ok (.iconst 1, 1) := by decide +kernel
theorem dL_meanLeft_12 : decode cL_meanLeft 12 = .ok (.ireturn, 1) := by decide +kernel
theorem dL_meanLeft_13 : decode cL_meanLeft 13 = .ok (.iconst 0, 1) := by decide +kernel
theorem dL_meanLeft_14 : decode cL_meanLeft 14 = .ok (.ireturn, 1) := by decide +kernel
set_option maxRecDepth 20000 in
theorem ggL_law_X1_init : GoodIn wsL_law wsX1_init := goodIn_r _ [11, 12, 13, 14, 15, 6, 16, 17, 18, 19, 20, 21, 22, 23, 24, 25, 26, 27, 28, 29, 684, 685, 686, 687, 701, 702, 703, 704, 705, 706, 707, 708] (by decide +kernel) (by decide +kernel)
set_option maxRecDepth 20000 in
theorem gL_law_X1_init : GoodIn wsL_law (wsX1_init) := ggL_law_X1_init
set_option maxRecDepth 20000 in
theorem ggL_law_X2_init : GoodIn wsL_law wsX2_init := goodIn_ca (goodIn_r _ [32, 33, 13, 14, 6, 34, 35, 36, 37, 38, 39, 40, 41, 42, 43, 44, 45, 46, 47, 688, 689, 690, 691, 692, 693, 694, 695, 696, 697, 698, 699, 700] (by decide +kernel) (by decide +kernel)) (goodIn_sub (fun _ h => List.mem_append_left _ (List.mem_append_left _ (List.mem_append_left _ (List.mem_append_left _ (List.mem_append_left _ (List.mem_append_left _ (List.mem_append_right _ h))))))) (by decide +kernel))
set_option maxRecDepth 20000 in
theorem gL_law_X2_init : GoodIn wsL_law (wsX2_init) := ggL_law_X2_init
set_option maxRecDepth 20000 in
theorem ggL_law_L_make : GoodIn wsL_law wsL_make := goodIn_ca (goodIn_ca (goodIn_ca (goodIn_r _ [51, 52, 53, 54, 55, 56, 2, 57, 16, 6, 58, 59, 60, 61, 62, 63, 64, 65, 66, 67, 68, 69, 70, 71, 684, 685, 686, 687] (by decide +kernel) (by decide +kernel)) (goodIn_sub (fun _ h => List.mem_append_left _ (List.mem_append_left _ (List.mem_append_left _ (List.mem_append_left _ (List.mem_append_left _ (List.mem_append_left _ (List.mem_append_right _ h))))))) (by decide +kernel))) (goodIn_sub (fun _ h => List.mem_append_left _ (List.mem_append_left _ (List.mem_append_left _ (List.mem_append_left _ (List.mem_append_left _ (List.mem_append_right _ h)))))) (by decide +kernel))) (goodIn_sub (fun _ h => List.mem_append_left _ (List.mem_append_left _ (List.mem_append_left _ (List.mem_append_left _ (List.mem_append_right _ h))))) (by decide +kernel))
set_option maxRecDepth 20000 in
theorem gL_law_L_make : GoodIn wsL_law (va_wsS RL 153 yL_make wsL_make) := goodIn_app (goodIn_of _ (by decide +kernel)) ggL_law_L_make
set_option maxRecDepth 20000 in
theorem ggL_law_X2_make : GoodIn wsL_law wsX2_make := goodIn_ca (goodIn_r _ [75, 76, 46, 45, 77, 78, 5, 79, 80, 81, 82, 83, 36, 37, 34, 688, 689, 690, 691, 692, 693, 694, 695, 696, 697, 698, 699, 700] (by decide +kernel) (by decide +kernel)) (goodIn_sub (fun _ h => List.mem_append_left _ (List.mem_append_left _ (List.mem_append_left _ (List.mem_append_left _ (List.mem_append_left _ (List.mem_append_left _ (List.mem_append_right _ h))))))) (by decide +kernel))
set_option maxRecDepth 20000 in
theorem gL_law_X2_make : GoodIn wsL_law (wsV RL 158 RX2 yX2_make wsX2_make) := goodIn_app (goodIn_of _ (by decide +kernel)) ggL_law_X2_make
set_option maxRecDepth 20000 in
theorem ggL_law_X2_thrown : GoodIn wsL_law wsX2_thrown := goodIn_r _ [87, 76, 688, 689, 690, 691, 692, 693, 694, 695, 696, 697, 698, 699, 700] (by decide +kernel) (by decide +kernel)
set_option maxRecDepth 20000 in
theorem gL_law_X2_thrown : GoodIn wsL_law (wsV RL 159 RX2 yX2_thrown wsX2_thrown) := goodIn_app (goodIn_of _ (by decide +kernel)) ggL_law_X2_thrown
set_option maxRecDepth 20000 in
theorem ggL_law_L_rowAt : GoodIn wsL_law wsL_rowAt := goodIn_ca (goodIn_ca (goodIn_r _ [90, 52, 91, 92, 93, 2, 94, 58, 59, 60, 61, 16, 62, 63, 64, 65, 66, 684, 685, 686, 687] (by decide +kernel) (by decide +kernel)) (goodIn_sub (fun _ h => List.mem_append_left _ (List.mem_append_left _ (List.mem_append_left _ (List.mem_append_left _ (List.mem_append_left _ (List.mem_append_left _ (List.mem_append_right _ h))))))) (by decide +kernel))) (goodIn_sub (fun _ h => List.mem_append_left _ (List.mem_append_left _ (List.mem_append_left _ (List.mem_append_left _ (List.mem_append_left _ (List.mem_append_right _ h)))))) (by decide +kernel))
set_option maxRecDepth 20000 in
theorem gL_law_L_rowAt : GoodIn wsL_law (va_wsS RL 163 yL_rowAt wsL_rowAt) := goodIn_app (goodIn_of _ (by decide +kernel)) ggL_law_L_rowAt
set_option maxRecDepth 20000 in
theorem ggL_law_X2_rowAt : GoodIn wsL_law wsX2_rowAt := goodIn_ca (goodIn_r _ [98, 34, 45, 99, 100, 101, 5, 102, 46, 76, 77, 78, 79, 688, 689, 690, 691, 692, 693, 694, 695, 696, 697, 698, 699, 700] (by decide +kernel) (by decide +kernel)) (goodIn_sub (fun _ h => List.mem_append_left _ (List.mem_append_left _ (List.mem_append_left _ (List.mem_append_left _ (List.mem_append_left _ (List.mem_append_left _ (List.mem_append_right _ h))))))) (by decide +kernel))
set_option maxRecDepth 20000 in
theorem gL_law_X2_rowAt : GoodIn wsL_law (wsV RL 165 RX2 yX2_rowAt wsX2_rowAt) := goodIn_app (goodIn_of _ (by decide +kernel)) ggL_law_X2_rowAt
set_option maxRecDepth 20000 in
theorem ggL_law_L_rowPut : GoodIn wsL_law wsL_rowPut := goodIn_ca (goodIn_ca (goodIn_r _ [105, 52, 106, 107, 108, 2, 109, 58, 59, 60, 61, 16, 62, 63, 64, 65, 66, 684, 685, 686, 687] (by decide +kernel) (by decide +kernel)) (goodIn_sub (fun _ h => List.mem_append_left _ (List.mem_append_left _ (List.mem_append_left _ (List.mem_append_left _ (List.mem_append_left _ (List.mem_append_left _ (List.mem_append_right _ h))))))) (by decide +kernel))) (goodIn_sub (fun _ h => List.mem_append_left _ (List.mem_append_left _ (List.mem_append_left _ (List.mem_append_left _ (List.mem_append_left _ (List.mem_append_right _ h)))))) (by decide +kernel))
set_option maxRecDepth 20000 in
theorem gL_law_L_rowPut : GoodIn wsL_law (va_wsS RL 166 yL_rowPut wsL_rowPut) := goodIn_app (goodIn_of _ (by decide +kernel)) ggL_law_L_rowPut
set_option maxRecDepth 20000 in
theorem ggL_law_X2_rowPut : GoodIn wsL_law wsX2_rowPut := goodIn_ca (goodIn_r _ [113, 34, 45, 99, 100, 101, 5, 102, 46, 76, 77, 78, 79, 688, 689, 690, 691, 692, 693, 694, 695, 696, 697, 698, 699, 700] (by decide +kernel) (by decide +kernel)) (goodIn_sub (fun _ h => List.mem_append_left _ (List.mem_append_left _ (List.mem_append_left _ (List.mem_append_left _ (List.mem_append_left _ (List.mem_append_left _ (List.mem_append_right _ h))))))) (by decide +kernel))
set_option maxRecDepth 20000 in
theorem gL_law_X2_rowPut : GoodIn wsL_law (wsV RL 169 RX2 yX2_rowPut wsX2_rowPut) := goodIn_app (goodIn_of _ (by decide +kernel)) ggL_law_X2_rowPut
set_option maxRecDepth 20000 in
theorem ggL_law_L_allocate : GoodIn wsL_law wsL_allocate := goodIn_ca (goodIn_ca (goodIn_ca (goodIn_r _ [116, 52, 53, 117, 118, 119, 2, 120, 6, 121, 122, 123, 124, 18, 62, 63, 64, 65, 66, 125, 126, 127, 70, 71, 67, 68, 69, 128, 129, 130, 20, 131, 27, 132, 133, 134, 135, 136, 28, 137, 138, 139, 140, 141, 142, 143, 144, 29, 684, 685, 686, 687, 701, 702, 703, 704, 705, 706, 707, 708] (by decide +kernel) (by decide +kernel)) (goodIn_sub (fun _ h => List.mem_append_left _ (List.mem_append_left _ (List.mem_append_left _ (List.mem_append_left _ (List.mem_append_left _ (List.mem_append_left _ (List.mem_append_right _ h))))))) (by decide +kernel))) (goodIn_sub (fun _ h => List.mem_append_left _ (List.mem_append_left _ (List.mem_append_left _ (List.mem_append_left _ (List.mem_append_left _ (List.mem_append_right _ h)))))) (by decide +kernel))) (goodIn_sub (fun _ h => List.mem_append_left _ (List.mem_append_left _ (List.mem_append_left _ (List.mem_append_left _ (List.mem_append_right _ h))))) (by decide +kernel))
set_option maxRecDepth 20000 in
theorem gL_law_L_allocate : GoodIn wsL_law (va_wsS RL 170 yL_allocate wsL_allocate) := goodIn_app (goodIn_of _ (by decide +kernel)) ggL_law_L_allocate
set_option maxRecDepth 20000 in
theorem ggL_law_X2_allocate : GoodIn wsL_law wsX2_allocate := goodIn_ca (goodIn_r _ [148, 76, 36, 77, 78, 5, 79, 80, 81, 82, 83, 45, 37, 34, 149, 150, 151, 152, 38, 39, 40, 41, 42, 44, 688, 689, 690, 691, 692, 693, 694, 695, 696, 697, 698, 699, 700] (by decide +kernel) (by decide +kernel)) (goodIn_sub (fun _ h => List.mem_append_left _ (List.mem_append_left _ (List.mem_append_left _ (List.mem_append_left _ (List.mem_append_left _ (List.mem_append_left _ (List.mem_append_right _ h))))))) (by decide +kernel))
set_option maxRecDepth 20000 in
theorem gL_law_X2_allocate : GoodIn wsL_law (wsV RL 173 RX2 yX2_allocate wsX2_allocate) := goodIn_app (goodIn_of _ (by decide +kernel)) ggL_law_X2_allocate
set_option maxRecDepth 20000 in
theorem ggL_law_L_wrap : GoodIn wsL_law wsL_wrap := goodIn_ca (goodIn_ca (goodIn_r _ [155, 52, 156, 157, 158, 2, 159, 160, 121, 122, 123, 124, 18, 62, 63, 64, 65, 66, 58, 59, 60, 61, 16, 132, 133, 134, 20, 135, 27, 136, 28, 137, 138, 139, 140, 141, 142, 143, 144, 29, 701, 702, 703, 704, 705, 706, 707, 708, 684, 685, 686, 687] (by decide +kernel) (by decide +kernel)) (goodIn_sub (fun _ h => List.mem_append_left _ (List.mem_append_left _ (List.mem_append_left _ (List.mem_append_left _ (List.mem_append_left _ (List.mem_append_left _ (List.mem_append_right _ h))))))) (by decide +kernel))) (goodIn_sub (fun _ h => List.mem_append_left _ (List.mem_append_left _ (List.mem_append_left _ (List.mem_append_left _ (List.mem_append_left _ (List.mem_append_right _ h)))))) (by decide +kernel))
set_option maxRecDepth 20000 in
theorem gL_law_L_wrap : GoodIn wsL_law (va_wsS RL 174 yL_wrap wsL_wrap) := goodIn_app (goodIn_of _ (by decide +kernel)) ggL_law_L_wrap
set_option maxRecDepth 20000 in
theorem ggL_law_X2_wrap : GoodIn wsL_law wsX2_wrap := goodIn_ca (goodIn_r _ [164, 76, 45, 46, 77, 78, 5, 79, 149, 150, 151, 152, 36, 37, 38, 39, 40, 41, 42, 44, 688, 689, 690, 691, 692, 693, 694, 695, 696, 697, 698, 699, 700] (by decide +kernel) (by decide +kernel)) (goodIn_sub (fun _ h => List.mem_append_left _ (List.mem_append_left _ (List.mem_append_left _ (List.mem_append_left _ (List.mem_append_left _ (List.mem_append_left _ (List.mem_append_right _ h))))))) (by decide +kernel))
set_option maxRecDepth 20000 in
theorem gL_law_X2_wrap : GoodIn wsL_law (wsV RL 176 RX2 yX2_wrap wsX2_wrap) := goodIn_app (goodIn_of _ (by decide +kernel)) ggL_law_X2_wrap
set_option maxRecDepth 20000 in
theorem ggL_law_L_kind : GoodIn wsL_law wsL_kind := goodIn_ca (goodIn_ca (goodIn_r _ [167, 52, 168, 169, 170, 2, 171, 172, 121, 122, 123, 124, 18, 62, 63, 64, 65, 66, 701, 702, 703, 704, 705, 706, 707, 708, 684, 685, 686, 687] (by decide +kernel) (by decide +kernel)) (goodIn_sub (fun _ h => List.mem_append_left _ (List.mem_append_left _ (List.mem_append_left _ (List.mem_append_left _ (List.mem_append_left _ (List.mem_append_left _ (List.mem_append_right _ h))))))) (by decide +kernel))) (goodIn_sub (fun _ h => List.mem_append_left _ (List.mem_append_left _ (List.mem_append_left _ (List.mem_append_left _ (List.mem_append_left _ (List.mem_append_right _ h)))))) (by decide +kernel))
set_option maxRecDepth 20000 in
theorem gL_law_L_kind : GoodIn wsL_law (va_wsS RL 177 yL_kind wsL_kind) := goodIn_app (goodIn_of _ (by decide +kernel)) ggL_law_L_kind
set_option maxRecDepth 20000 in
theorem ggL_law_X2_kind : GoodIn wsL_law wsX2_kind := goodIn_ca (goodIn_r _ [176, 76, 36, 77, 78, 5, 79, 688, 689, 690, 691, 692, 693, 694, 695, 696, 697, 698, 699, 700] (by decide +kernel) (by decide +kernel)) (goodIn_sub (fun _ h => List.mem_append_left _ (List.mem_append_left _ (List.mem_append_left _ (List.mem_append_left _ (List.mem_append_left _ (List.mem_append_left _ (List.mem_append_right _ h))))))) (by decide +kernel))
set_option maxRecDepth 20000 in
theorem gL_law_X2_kind : GoodIn wsL_law (wsV RL 180 RX2 yX2_kind wsX2_kind) := goodIn_app (goodIn_of _ (by decide +kernel)) ggL_law_X2_kind
set_option maxRecDepth 20000 in
theorem ggL_law_L_capacity : GoodIn wsL_law wsL_capacity := goodIn_ca (goodIn_ca (goodIn_r _ [179, 52, 180, 181, 182, 2, 183, 160, 184, 185, 186, 187, 65, 66, 121, 122, 123, 124, 18, 62, 63, 64, 128, 129, 130, 20, 131, 27, 701, 702, 703, 704, 705, 706, 707, 708, 684, 685, 686, 687] (by decide +kernel) (by decide +kernel)) (goodIn_sub (fun _ h => List.mem_append_left _ (List.mem_append_left _ (List.mem_append_left _ (List.mem_append_left _ (List.mem_append_left _ (List.mem_append_left _ (List.mem_append_right _ h))))))) (by decide +kernel))) (goodIn_sub (fun _ h => List.mem_append_left _ (List.mem_append_left _ (List.mem_append_left _ (List.mem_append_left _ (List.mem_append_left _ (List.mem_append_right _ h)))))) (by decide +kernel))
set_option maxRecDepth 20000 in
theorem gL_law_L_capacity : GoodIn wsL_law (va_wsS RL 181 yL_capacity wsL_capacity) := goodIn_app (goodIn_of _ (by decide +kernel)) ggL_law_L_capacity
set_option maxRecDepth 20000 in
theorem ggL_law_X2_capacity : GoodIn wsL_law wsX2_capacity := goodIn_ca (goodIn_r _ [191, 39, 192, 193, 194, 5, 195, 76, 196, 197, 198, 199, 36, 77, 78, 79, 688, 689, 690, 691, 692, 693, 694, 695, 696, 697, 698, 699, 700] (by decide +kernel) (by decide +kernel)) (goodIn_sub (fun _ h => List.mem_append_left _ (List.mem_append_left _ (List.mem_append_left _ (List.mem_append_left _ (List.mem_append_left _ (List.mem_append_left _ (List.mem_append_right _ h))))))) (by decide +kernel))
set_option maxRecDepth 20000 in
theorem gL_law_X2_capacity : GoodIn wsL_law (wsV RL 183 RX2 yX2_capacity wsX2_capacity) := goodIn_app (goodIn_of _ (by decide +kernel)) ggL_law_X2_capacity
set_option maxRecDepth 20000 in
theorem ggL_law_L_place : GoodIn wsL_law wsL_place := goodIn_ca (goodIn_ca (goodIn_r _ [202, 52, 203, 204, 205, 2, 206, 207, 184, 185, 186, 187, 65, 66, 121, 122, 123, 124, 18, 62, 63, 64, 128, 129, 130, 20, 131, 27, 701, 702, 703, 704, 705, 706, 707, 708, 684, 685, 686, 687] (by decide +kernel) (by decide +kernel)) (goodIn_sub (fun _ h => List.mem_append_left _ (List.mem_append_left _ (List.mem_append_left _ (List.mem_append_left _ (List.mem_append_left _ (List.mem_append_left _ (List.mem_append_right _ h))))))) (by decide +kernel))) (goodIn_sub (fun _ h => List.mem_append_left _ (List.mem_append_left _ (List.mem_append_left _ (List.mem_append_left _ (List.mem_append_left _ (List.mem_append_right _ h)))))) (by decide +kernel))
set_option maxRecDepth 20000 in
theorem gL_law_L_place : GoodIn wsL_law (va_wsS RL 184 yL_place wsL_place) := goodIn_app (goodIn_of _ (by decide +kernel)) ggL_law_L_place
set_option maxRecDepth 20000 in
theorem ggL_law_X2_place : GoodIn wsL_law wsX2_place := goodIn_ca (goodIn_r _ [211, 40, 192, 193, 194, 5, 195, 76, 196, 197, 198, 199, 36, 77, 78, 79, 688, 689, 690, 691, 692, 693, 694, 695, 696, 697, 698, 699, 700] (by decide +kernel) (by decide +kernel)) (goodIn_sub (fun _ h => List.mem_append_left _ (List.mem_append_left _ (List.mem_append_left _ (List.mem_append_left _ (List.mem_append_left _ (List.mem_append_left _ (List.mem_append_right _ h))))))) (by decide +kernel))
set_option maxRecDepth 20000 in
theorem gL_law_X2_place : GoodIn wsL_law (wsV RL 186 RX2 yX2_place wsX2_place) := goodIn_app (goodIn_of _ (by decide +kernel)) ggL_law_X2_place
set_option maxRecDepth 20000 in
theorem ggL_law_L_end : GoodIn wsL_law wsL_end := goodIn_ca (goodIn_ca (goodIn_r _ [214, 52, 215, 216, 217, 2, 218, 219, 184, 185, 186, 187, 65, 66, 121, 122, 123, 124, 18, 62, 63, 64, 128, 129, 130, 20, 131, 27, 701, 702, 703, 704, 705, 706, 707, 708, 684, 685, 686, 687] (by decide +kernel) (by decide +kernel)) (goodIn_sub (fun _ h => List.mem_append_left _ (List.mem_append_left _ (List.mem_append_left _ (List.mem_append_left _ (List.mem_append_left _ (List.mem_append_left _ (List.mem_append_right _ h))))))) (by decide +kernel))) (goodIn_sub (fun _ h => List.mem_append_left _ (List.mem_append_left _ (List.mem_append_left _ (List.mem_append_left _ (List.mem_append_left _ (List.mem_append_right _ h)))))) (by decide +kernel))
set_option maxRecDepth 20000 in
theorem gL_law_L_end : GoodIn wsL_law (va_wsS RL 187 yL_end wsL_end) := goodIn_app (goodIn_of _ (by decide +kernel)) ggL_law_L_end
set_option maxRecDepth 20000 in
theorem ggL_law_X2_end : GoodIn wsL_law wsX2_end := goodIn_ca (goodIn_r _ [223, 41, 192, 193, 194, 5, 195, 76, 196, 197, 198, 199, 36, 77, 78, 79, 688, 689, 690, 691, 692, 693, 694, 695, 696, 697, 698, 699, 700] (by decide +kernel) (by decide +kernel)) (goodIn_sub (fun _ h => List.mem_append_left _ (List.mem_append_left _ (List.mem_append_left _ (List.mem_append_left _ (List.mem_append_left _ (List.mem_append_left _ (List.mem_append_right _ h))))))) (by decide +kernel))
set_option maxRecDepth 20000 in
theorem gL_law_X2_end : GoodIn wsL_law (wsV RL 189 RX2 yX2_end wsX2_end) := goodIn_app (goodIn_of _ (by decide +kernel)) ggL_law_X2_end
set_option maxRecDepth 20000 in
theorem ggL_law_L_left : GoodIn wsL_law wsL_left := goodIn_ca (goodIn_ca (goodIn_r _ [226, 52, 227, 228, 229, 2, 230, 184, 185, 186, 187, 65, 66, 121, 122, 123, 124, 18, 62, 63, 64, 128, 129, 130, 20, 131, 27, 231, 232, 233, 234, 144, 143, 684, 685, 686, 687, 701, 702, 703, 704, 705, 706, 707, 708] (by decide +kernel) (by decide +kernel)) (goodIn_sub (fun _ h => List.mem_append_left _ (List.mem_append_left _ (List.mem_append_left _ (List.mem_append_left _ (List.mem_append_left _ (List.mem_append_left _ (List.mem_append_right _ h))))))) (by decide +kernel))) (goodIn_sub (fun _ h => List.mem_append_left _ (List.mem_append_left _ (List.mem_append_left _ (List.mem_append_left _ (List.mem_append_left _ (List.mem_append_right _ h)))))) (by decide +kernel))
set_option maxRecDepth 20000 in
theorem gL_law_L_left : GoodIn wsL_law (va_wsS RL 190 yL_left wsL_left) := goodIn_app (goodIn_of _ (by decide +kernel)) ggL_law_L_left
set_option maxRecDepth 20000 in
theorem ggL_law_X2_left : GoodIn wsL_law wsX2_left := goodIn_ca (goodIn_r _ [238, 41, 40, 192, 193, 194, 5, 195, 76, 196, 197, 198, 199, 36, 77, 78, 79, 688, 689, 690, 691, 692, 693, 694, 695, 696, 697, 698, 699, 700] (by decide +kernel) (by decide +kernel)) (goodIn_sub (fun _ h => List.mem_append_left _ (List.mem_append_left _ (List.mem_append_left _ (List.mem_append_left _ (List.mem_append_left _ (List.mem_append_left _ (List.mem_append_right _ h))))))) (by decide +kernel))
set_option maxRecDepth 20000 in
theorem gL_law_X2_left : GoodIn wsL_law (wsV RL 192 RX2 yX2_left wsX2_left) := goodIn_app (goodIn_of _ (by decide +kernel)) ggL_law_X2_left
set_option maxRecDepth 20000 in
theorem ggL_law_L_hasLeft : GoodIn wsL_law wsL_hasLeft := goodIn_ca (goodIn_ca (goodIn_r _ [241, 52, 242, 243, 244, 2, 245, 184, 185, 186, 187, 65, 66, 121, 122, 123, 124, 18, 62, 63, 64, 128, 129, 130, 20, 131, 27, 231, 232, 233, 234, 144, 143, 684, 685, 686, 687, 701, 702, 703, 704, 705, 706, 707, 708] (by decide +kernel) (by decide +kernel)) (goodIn_sub (fun _ h => List.mem_append_left _ (List.mem_append_left _ (List.mem_append_left _ (List.mem_append_left _ (List.mem_append_left _ (List.mem_append_left _ (List.mem_append_right _ h))))))) (by decide +kernel))) (goodIn_sub (fun _ h => List.mem_append_left _ (List.mem_append_left _ (List.mem_append_left _ (List.mem_append_left _ (List.mem_append_left _ (List.mem_append_right _ h)))))) (by decide +kernel))
set_option maxRecDepth 20000 in
theorem gL_law_L_hasLeft : GoodIn wsL_law (va_wsS RL 193 yL_hasLeft wsL_hasLeft) := goodIn_app (goodIn_of _ (by decide +kernel)) ggL_law_L_hasLeft
set_option maxRecDepth 20000 in
theorem ggL_law_X2_hasLeft : GoodIn wsL_law wsX2_hasLeft := goodIn_ca (goodIn_r _ [249, 41, 40, 192, 193, 194, 5, 195, 76, 196, 197, 198, 199, 36, 77, 78, 79, 688, 689, 690, 691, 692, 693, 694, 695, 696, 697, 698, 699, 700] (by decide +kernel) (by decide +kernel)) (goodIn_sub (fun _ h => List.mem_append_left _ (List.mem_append_left _ (List.mem_append_left _ (List.mem_append_left _ (List.mem_append_left _ (List.mem_append_left _ (List.mem_append_right _ h))))))) (by decide +kernel))
set_option maxRecDepth 20000 in
theorem gL_law_X2_hasLeft : GoodIn wsL_law (wsV RL 195 RX2 yX2_hasLeft wsX2_hasLeft) := goodIn_app (goodIn_of _ (by decide +kernel)) ggL_law_X2_hasLeft
set_option maxRecDepth 20000 in
theorem ggL_law_L_isReadOnly : GoodIn wsL_law wsL_isReadOnly := goodIn_ca (goodIn_ca (goodIn_r _ [252, 52, 253, 254, 255, 2, 256, 257, 184, 185, 186, 187, 65, 66, 121, 122, 123, 124, 18, 62, 63, 64, 128, 129, 130, 20, 131, 27, 701, 702, 703, 704, 705, 706, 707, 708, 684, 685, 686, 687] (by decide +kernel) (by decide +kernel)) (goodIn_sub (fun _ h => List.mem_append_left _ (List.mem_append_left _ (List.mem_append_left _ (List.mem_append_left _ (List.mem_append_left _ (List.mem_append_left _ (List.mem_append_right _ h))))))) (by decide +kernel))) (goodIn_sub (fun _ h => List.mem_append_left _ (List.mem_append_left _ (List.mem_append_left _ (List.mem_append_left _ (List.mem_append_left _ (List.mem_append_right _ h)))))) (by decide +kernel))
set_option maxRecDepth 20000 in
theorem gL_law_L_isReadOnly : GoodIn wsL_law (va_wsS RL 196 yL_isReadOnly wsL_isReadOnly) := goodIn_app (goodIn_of _ (by decide +kernel)) ggL_law_L_isReadOnly
set_option maxRecDepth 20000 in
theorem ggL_law_X2_isReadOnly : GoodIn wsL_law wsX2_isReadOnly := goodIn_ca (goodIn_r _ [261, 44, 192, 193, 194, 5, 195, 76, 196, 197, 198, 199, 36, 77, 78, 79, 688, 689, 690, 691, 692, 693, 694, 695, 696, 697, 698, 699, 700] (by decide +kernel) (by decide +kernel)) (goodIn_sub (fun _ h => List.mem_append_left _ (List.mem_append_left _ (List.mem_append_left _ (List.mem_append_left _ (List.mem_append_left _ (List.mem_append_left _ (List.mem_append_right _ h))))))) (by decide +kernel))
set_option maxRecDepth 20000 in
theorem gL_law_X2_isReadOnly : GoodIn wsL_law (wsV RL 198 RX2 yX2_isReadOnly wsX2_isReadOnly) := goodIn_app (goodIn_of _ (by decide +kernel)) ggL_law_X2_isReadOnly
set_option maxRecDepth 20000 in
theorem ggL_law_L_placeAt : GoodIn wsL_law wsL_placeAt := goodIn_ca (goodIn_ca (goodIn_ca (goodIn_r _ [264, 52, 53, 265, 266, 267, 2, 268, 219, 207, 184, 185, 186, 187, 65, 66, 121, 122, 123, 124, 18, 62, 63, 64, 128, 129, 130, 20, 131, 27, 269, 270, 271, 70, 71, 272, 273, 274, 275, 29, 701, 702, 703, 704, 705, 706, 707, 708, 684, 685, 686, 687] (by decide +kernel) (by decide +kernel)) (goodIn_sub (fun _ h => List.mem_append_left _ (List.mem_append_left _ (List.mem_append_left _ (List.mem_append_left _ (List.mem_append_left _ (List.mem_append_left _ (List.mem_append_right _ h))))))) (by decide +kernel))) (goodIn_sub (fun _ h => List.mem_append_left _ (List.mem_append_left _ (List.mem_append_left _ (List.mem_append_left _ (List.mem_append_left _ (List.mem_append_right _ h)))))) (by decide +kernel))) (goodIn_sub (fun _ h => List.mem_append_left _ (List.mem_append_left _ (List.mem_append_left _ (List.mem_append_left _ (List.mem_append_right _ h))))) (by decide +kernel))
set_option maxRecDepth 20000 in
theorem gL_law_L_placeAt : GoodIn wsL_law (va_wsS RL 199 yL_placeAt wsL_placeAt) := goodIn_app (goodIn_of _ (by decide +kernel)) ggL_law_L_placeAt
set_option maxRecDepth 20000 in
theorem ggL_law_X2_placeAt : GoodIn wsL_law wsX2_placeAt := goodIn_ca (goodIn_r _ [279, 41, 76, 40, 42, 196, 197, 198, 5, 199, 36, 77, 78, 79, 688, 689, 690, 691, 692, 693, 694, 695, 696, 697, 698, 699, 700] (by decide +kernel) (by decide +kernel)) (goodIn_sub (fun _ h => List.mem_append_left _ (List.mem_append_left _ (List.mem_append_left _ (List.mem_append_left _ (List.mem_append_left _ (List.mem_append_left _ (List.mem_append_right _ h))))))) (by decide +kernel))
set_option maxRecDepth 20000 in
theorem gL_law_X2_placeAt : GoodIn wsL_law (wsV RL 201 RX2 yX2_placeAt wsX2_placeAt) := goodIn_app (goodIn_of _ (by decide +kernel)) ggL_law_X2_placeAt
set_option maxRecDepth 20000 in
theorem ggL_law_L_endAt : GoodIn wsL_law wsL_endAt := goodIn_ca (goodIn_ca (goodIn_ca (goodIn_r _ [282, 52, 53, 283, 284, 285, 2, 286, 160, 219, 207, 287, 288, 289, 290, 184, 185, 186, 187, 65, 66, 121, 122, 123, 124, 18, 62, 63, 64, 128, 129, 130, 20, 131, 27, 269, 270, 271, 70, 71, 272, 273, 274, 275, 29, 701, 702, 703, 704, 705, 706, 707, 708, 684, 685, 686, 687] (by decide +kernel) (by decide +kernel)) (goodIn_sub (fun _ h => List.mem_append_left _ (List.mem_append_left _ (List.mem_append_left _ (List.mem_append_left _ (List.mem_append_left _ (List.mem_append_left _ (List.mem_append_right _ h))))))) (by decide +kernel))) (goodIn_sub (fun _ h => List.mem_append_left _ (List.mem_append_left _ (List.mem_append_left _ (List.mem_append_left _ (List.mem_append_left _ (List.mem_append_right _ h)))))) (by decide +kernel))) (goodIn_sub (fun _ h => List.mem_append_left _ (List.mem_append_left _ (List.mem_append_left _ (List.mem_append_left _ (List.mem_append_right _ h))))) (by decide +kernel))
set_option maxRecDepth 20000 in
theorem gL_law_L_endAt : GoodIn wsL_law (va_wsS RL 202 yL_endAt wsL_endAt) := goodIn_app (goodIn_of _ (by decide +kernel)) ggL_law_L_endAt
set_option maxRecDepth 20000 in
theorem ggL_law_X2_endAt : GoodIn wsL_law wsX2_endAt := goodIn_ca (goodIn_r _ [294, 39, 76, 41, 40, 42, 196, 197, 198, 5, 199, 36, 77, 78, 79, 688, 689, 690, 691, 692, 693, 694, 695, 696, 697, 698, 699, 700] (by decide +kernel) (by decide +kernel)) (goodIn_sub (fun _ h => List.mem_append_left _ (List.mem_append_left _ (List.mem_append_left _ (List.mem_append_left _ (List.mem_append_left _ (List.mem_append_left _ (List.mem_append_right _ h))))))) (by decide +kernel))
set_option maxRecDepth 20000 in
theorem gL_law_X2_endAt : GoodIn wsL_law (wsV RL 204 RX2 yX2_endAt wsX2_endAt) := goodIn_app (goodIn_of _ (by decide +kernel)) ggL_law_X2_endAt
set_option maxRecDepth 20000 in
theorem ggL_law_L_mark : GoodIn wsL_law wsL_mark := goodIn_ca (goodIn_ca (goodIn_r _ [297, 52, 298, 299, 300, 2, 301, 207, 302, 184, 185, 186, 187, 65, 66, 121, 122, 123, 124, 18, 62, 63, 64, 128, 129, 130, 20, 131, 27, 701, 702, 703, 704, 705, 706, 707, 708, 684, 685, 686, 687] (by decide +kernel) (by decide +kernel)) (goodIn_sub (fun _ h => List.mem_append_left _ (List.mem_append_left _ (List.mem_append_left _ (List.mem_append_left _ (List.mem_append_left _ (List.mem_append_left _ (List.mem_append_right _ h))))))) (by decide +kernel))) (goodIn_sub (fun _ h => List.mem_append_left _ (List.mem_append_left _ (List.mem_append_left _ (List.mem_append_left _ (List.mem_append_left _ (List.mem_append_right _ h)))))) (by decide +kernel))
set_option maxRecDepth 20000 in
theorem gL_law_L_mark : GoodIn wsL_law (va_wsS RL 205 yL_mark wsL_mark) := goodIn_app (goodIn_of _ (by decide +kernel)) ggL_law_L_mark
set_option maxRecDepth 20000 in
theorem ggL_law_X2_mark : GoodIn wsL_law wsX2_mark := goodIn_ca (goodIn_r _ [306, 42, 40, 192, 193, 194, 5, 195, 76, 196, 197, 198, 199, 36, 77, 78, 79, 688, 689, 690, 691, 692, 693, 694, 695, 696, 697, 698, 699, 700] (by decide +kernel) (by decide +kernel)) (goodIn_sub (fun _ h => List.mem_append_left _ (List.mem_append_left _ (List.mem_append_left _ (List.mem_append_left _ (List.mem_append_left _ (List.mem_append_left _ (List.mem_append_right _ h))))))) (by decide +kernel))
set_option maxRecDepth 20000 in
theorem gL_law_X2_mark : GoodIn wsL_law (wsV RL 207 RX2 yX2_mark wsX2_mark) := goodIn_app (goodIn_of _ (by decide +kernel)) ggL_law_X2_mark
set_option maxRecDepth 20000 in
theorem ggL_law_L_back : GoodIn wsL_law wsL_back := goodIn_ca (goodIn_ca (goodIn_ca (goodIn_r _ [309, 52, 310, 311, 312, 313, 2, 314, 315, 316, 302, 207, 184, 185, 186, 187, 65, 66, 121, 122, 123, 124, 18, 62, 63, 64, 128, 129, 130, 20, 131, 27, 701, 702, 703, 704, 705, 706, 707, 708, 684, 685, 686, 687] (by decide +kernel) (by decide +kernel)) (goodIn_sub (fun _ h => List.mem_append_left _ (List.mem_append_left _ (List.mem_append_left _ (List.mem_append_left _ (List.mem_append_left _ (List.mem_append_left _ (List.mem_append_right _ h))))))) (by decide +kernel))) (goodIn_sub (fun _ h => List.mem_append_left _ (List.mem_append_left _ (List.mem_append_left _ (List.mem_append_right _ h)))) (by decide +kernel))) (goodIn_sub (fun _ h => List.mem_append_left _ (List.mem_append_left _ (List.mem_append_left _ (List.mem_append_left _ (List.mem_append_left _ (List.mem_append_right _ h)))))) (by decide +kernel))
set_option maxRecDepth 20000 in
theorem gL_law_L_back : GoodIn wsL_law (va_wsS RL 208 yL_back wsL_back) := goodIn_app (goodIn_of _ (by decide +kernel)) ggL_law_L_back
set_option maxRecDepth 20000 in
theorem ggL_law_X2_back : GoodIn wsL_law wsX2_back := goodIn_ca (goodIn_r _ [320, 42, 76, 40, 196, 197, 198, 5, 199, 36, 77, 78, 79, 688, 689, 690, 691, 692, 693, 694, 695, 696, 697, 698, 699, 700] (by decide +kernel) (by decide +kernel)) (goodIn_sub (fun _ h => List.mem_append_left _ (List.mem_append_left _ (List.mem_append_left _ (List.mem_append_left _ (List.mem_append_left _ (List.mem_append_left _ (List.mem_append_right _ h))))))) (by decide +kernel))
set_option maxRecDepth 20000 in
theorem gL_law_X2_back : GoodIn wsL_law (wsV RL 210 RX2 yX2_back wsX2_back) := goodIn_app (goodIn_of _ (by decide +kernel)) ggL_law_X2_back
set_option maxRecDepth 20000 in
theorem ggL_law_L_clear : GoodIn wsL_law wsL_clear := goodIn_ca (goodIn_ca (goodIn_r _ [323, 52, 324, 325, 326, 2, 327, 160, 219, 184, 185, 186, 187, 65, 66, 121, 122, 123, 124, 18, 62, 63, 64, 128, 129, 130, 20, 131, 27, 328, 140, 141, 142, 143, 144, 29, 701, 702, 703, 704, 705, 706, 707, 708, 684, 685, 686, 687] (by decide +kernel) (by decide +kernel)) (goodIn_sub (fun _ h => List.mem_append_left _ (List.mem_append_left _ (List.mem_append_left _ (List.mem_append_left _ (List.mem_append_left _ (List.mem_append_left _ (List.mem_append_right _ h))))))) (by decide +kernel))) (goodIn_sub (fun _ h => List.mem_append_left _ (List.mem_append_left _ (List.mem_append_left _ (List.mem_append_left _ (List.mem_append_left _ (List.mem_append_right _ h)))))) (by decide +kernel))
set_option maxRecDepth 20000 in
theorem gL_law_L_clear : GoodIn wsL_law (va_wsS RL 211 yL_clear wsL_clear) := goodIn_app (goodIn_of _ (by decide +kernel)) ggL_law_L_clear
set_option maxRecDepth 20000 in
theorem ggL_law_X2_clear : GoodIn wsL_law wsX2_clear := goodIn_ca (goodIn_r _ [332, 39, 41, 192, 193, 194, 5, 195, 76, 196, 197, 198, 199, 36, 77, 78, 79, 333, 334, 335, 336, 40, 42, 688, 689, 690, 691, 692, 693, 694, 695, 696, 697, 698, 699, 700] (by decide +kernel) (by decide +kernel)) (goodIn_sub (fun _ h => List.mem_append_left _ (List.mem_append_left _ (List.mem_append_left _ (List.mem_append_left _ (List.mem_append_left _ (List.mem_append_left _ (List.mem_append_right _ h))))))) (by decide +kernel))
set_option maxRecDepth 20000 in
theorem gL_law_X2_clear : GoodIn wsL_law (wsV RL 213 RX2 yX2_clear wsX2_clear) := goodIn_app (goodIn_of _ (by decide +kernel)) ggL_law_X2_clear
set_option maxRecDepth 20000 in
theorem ggL_law_L_flip : GoodIn wsL_law wsL_flip := goodIn_ca (goodIn_ca (goodIn_r _ [339, 52, 340, 341, 342, 2, 343, 207, 219, 184, 185, 186, 187, 65, 66, 121, 122, 123, 124, 18, 62, 63, 64, 128, 129, 130, 20, 131, 27, 328, 140, 141, 142, 143, 144, 29, 701, 702, 703, 704, 705, 706, 707, 708, 684, 685, 686, 687] (by decide +kernel) (by decide +kernel)) (goodIn_sub (fun _ h => List.mem_append_left _ (List.mem_append_left _ (List.mem_append_left _ (List.mem_append_left _ (List.mem_append_left _ (List.mem_append_left _ (List.mem_append_right _ h))))))) (by decide +kernel))) (goodIn_sub (fun _ h => List.mem_append_left _ (List.mem_append_left _ (List.mem_append_left _ (List.mem_append_left _ (List.mem_append_left _ (List.mem_append_right _ h)))))) (by decide +kernel))
set_option maxRecDepth 20000 in
theorem gL_law_L_flip : GoodIn wsL_law (va_wsS RL 214 yL_flip wsL_flip) := goodIn_app (goodIn_of _ (by decide +kernel)) ggL_law_L_flip
set_option maxRecDepth 20000 in
theorem ggL_law_X2_flip : GoodIn wsL_law wsX2_flip := goodIn_ca (goodIn_r _ [347, 40, 41, 192, 193, 194, 5, 195, 76, 196, 197, 198, 199, 36, 77, 78, 79, 333, 334, 335, 336, 42, 688, 689, 690, 691, 692, 693, 694, 695, 696, 697, 698, 699, 700] (by decide +kernel) (by decide +kernel)) (goodIn_sub (fun _ h => List.mem_append_left _ (List.mem_append_left _ (List.mem_append_left _ (List.mem_append_left _ (List.mem_append_left _ (List.mem_append_left _ (List.mem_append_right _ h))))))) (by decide +kernel))
set_option maxRecDepth 20000 in
theorem gL_law_X2_flip : GoodIn wsL_law (wsV RL 216 RX2 yX2_flip wsX2_flip) := goodIn_app (goodIn_of _ (by decide +kernel)) ggL_law_X2_flip
set_option maxRecDepth 20000 in
theorem ggL_law_L_rewind : GoodIn wsL_law wsL_rewind := goodIn_ca (goodIn_ca (goodIn_r _ [350, 52, 351, 352, 353, 2, 354, 219, 184, 185, 186, 187, 65, 66, 121, 122, 123, 124, 18, 62, 63, 64, 128, 129, 130, 20, 131, 27, 328, 140, 141, 142, 143, 144, 29, 231, 232, 233, 234, 701, 702, 703, 704, 705, 706, 707, 708, 684, 685, 686, 687] (by decide +kernel) (by decide +kernel)) (goodIn_sub (fun _ h => List.mem_append_left _ (List.mem_append_left _ (List.mem_append_left _ (List.mem_append_left _ (List.mem_append_left _ (List.mem_append_left _ (List.mem_append_right _ h))))))) (by decide +kernel))) (goodIn_sub (fun _ h => List.mem_append_left _ (List.mem_append_left _ (List.mem_append_left _ (List.mem_append_left _ (List.mem_append_left _ (List.mem_append_right _ h)))))) (by decide +kernel))
set_option maxRecDepth 20000 in
theorem gL_law_L_rewind : GoodIn wsL_law (va_wsS RL 217 yL_rewind wsL_rewind) := goodIn_app (goodIn_of _ (by decide +kernel)) ggL_law_L_rewind
set_option maxRecDepth 20000 in
theorem ggL_law_X2_rewind : GoodIn wsL_law wsX2_rewind := goodIn_ca (goodIn_r _ [358, 41, 192, 193, 194, 5, 195, 76, 196, 197, 198, 199, 36, 77, 78, 79, 333, 334, 335, 336, 40, 42, 688, 689, 690, 691, 692, 693, 694, 695, 696, 697, 698, 699, 700] (by decide +kernel) (by decide +kernel)) (goodIn_sub (fun _ h => List.mem_append_left _ (List.mem_append_left _ (List.mem_append_left _ (List.mem_append_left _ (List.mem_append_left _ (List.mem_append_left _ (List.mem_append_right _ h))))))) (by decide +kernel))
set_option maxRecDepth 20000 in
theorem gL_law_X2_rewind : GoodIn wsL_law (wsV RL 219 RX2 yX2_rewind wsX2_rewind) := goodIn_app (goodIn_of _ (by decide +kernel)) ggL_law_X2_rewind
set_option maxRecDepth 20000 in
theorem ggL_law_L_compact : GoodIn wsL_law wsL_compact := goodIn_ca (goodIn_ca (goodIn_ca (goodIn_r _ [361, 52, 362, 363, 364, 365, 2, 366, 367, 368, 207, 369, 370, 371, 372, 160, 184, 185, 186, 187, 65, 66, 121, 122, 123, 124, 18, 62, 63, 64, 128, 129, 130, 20, 131, 27, 373, 374, 375, 376, 377, 257, 231, 232, 233, 234, 144, 143, 328, 140, 141, 142, 29, 701, 702, 703, 704, 705, 706, 707, 708, 684, 685, 686, 687] (by decide +kernel) (by decide +kernel)) (goodIn_sub (fun _ h => List.mem_append_left _ (List.mem_append_left _ (List.mem_append_left _ (List.mem_append_left _ (List.mem_append_left _ (List.mem_append_left _ (List.mem_append_right _ h))))))) (by decide +kernel))) (goodIn_sub (fun _ h => List.mem_append_left _ (List.mem_append_left _ (List.mem_append_left _ (List.mem_append_left _ (List.mem_append_left _ (List.mem_append_right _ h)))))) (by decide +kernel))) (goodIn_sub (fun _ h => List.mem_append_left _ (List.mem_append_left _ (List.mem_append_right _ h))) (by decide +kernel))
set_option maxRecDepth 20000 in
theorem gL_law_L_compact : GoodIn wsL_law (va_wsS RL 220 yL_compact wsL_compact) := goodIn_app (goodIn_of _ (by decide +kernel)) ggL_law_L_compact
set_option maxRecDepth 20000 in
theorem ggL_law_X2_compact : GoodIn wsL_law wsX2_compact := goodIn_ca (goodIn_r _ [381, 44, 76, 41, 40, 47, 39, 196, 197, 198, 5, 199, 36, 77, 78, 79, 382, 383, 384, 385, 34, 37, 38, 386, 387, 388, 389, 390, 333, 334, 335, 336, 42, 688, 689, 690, 691, 692, 693, 694, 695, 696, 697, 698, 699, 700] (by decide +kernel) (by decide +kernel)) (goodIn_sub (fun _ h => List.mem_append_left _ (List.mem_append_left _ (List.mem_append_left _ (List.mem_append_left _ (List.mem_append_left _ (List.mem_append_left _ (List.mem_append_right _ h))))))) (by decide +kernel))
set_option maxRecDepth 20000 in
theorem gL_law_X2_compact : GoodIn wsL_law (wsV RL 222 RX2 yX2_compact wsX2_compact) := goodIn_app (goodIn_of _ (by decide +kernel)) ggL_law_X2_compact
set_option maxRecDepth 20000 in
theorem ggL_law_L_get : GoodIn wsL_law wsL_get := goodIn_ca (goodIn_ca (goodIn_ca (goodIn_r _ [393, 52, 394, 395, 396, 397, 2, 398, 184, 185, 186, 187, 65, 66, 121, 122, 123, 124, 18, 62, 63, 64, 128, 129, 130, 20, 131, 27, 399, 400, 401, 402, 403, 231, 232, 233, 234, 144, 143, 404, 405, 406, 407, 408, 409, 410, 411, 28, 137, 684, 685, 686, 687, 701, 702, 703, 704, 705, 706, 707, 708] (by decide +kernel) (by decide +kernel)) (goodIn_sub (fun _ h => List.mem_append_left _ (List.mem_append_left _ (List.mem_append_left _ (List.mem_append_left _ (List.mem_append_left _ (List.mem_append_left _ (List.mem_append_right _ h))))))) (by decide +kernel))) (goodIn_sub (fun _ h => List.mem_append_left _ (List.mem_append_left _ (List.mem_append_left _ (List.mem_append_left _ (List.mem_append_left _ (List.mem_append_right _ h)))))) (by decide +kernel))) (goodIn_sub (fun _ h => List.mem_append_left _ (List.mem_append_right _ h)) (by decide +kernel))
set_option maxRecDepth 20000 in
theorem gL_law_L_get : GoodIn wsL_law (va_wsS RL 223 yL_get wsL_get) := goodIn_app (goodIn_of _ (by decide +kernel)) ggL_law_L_get
set_option maxRecDepth 20000 in
theorem ggL_law_X2_get : GoodIn wsL_law wsX2_get := goodIn_ca (goodIn_r _ [415, 40, 41, 76, 196, 197, 198, 5, 199, 36, 77, 78, 79, 382, 383, 384, 385, 34, 37, 38, 688, 689, 690, 691, 692, 693, 694, 695, 696, 697, 698, 699, 700] (by decide +kernel) (by decide +kernel)) (goodIn_sub (fun _ h => List.mem_append_left _ (List.mem_append_left _ (List.mem_append_left _ (List.mem_append_left _ (List.mem_append_left _ (List.mem_append_left _ (List.mem_append_right _ h))))))) (by decide +kernel))
set_option maxRecDepth 20000 in
theorem gL_law_X2_get : GoodIn wsL_law (wsV RL 225 RX2 yX2_get wsX2_get) := goodIn_app (goodIn_of _ (by decide +kernel)) ggL_law_X2_get
set_option maxRecDepth 20000 in
theorem ggL_law_L_put : GoodIn wsL_law wsL_put := goodIn_ca (goodIn_ca (goodIn_ca (goodIn_ca (goodIn_r _ [418, 52, 362, 310, 419, 420, 421, 2, 422, 207, 184, 185, 186, 187, 65, 66, 121, 122, 123, 124, 18, 62, 63, 64, 128, 129, 130, 20, 131, 27, 373, 374, 375, 376, 377, 257, 423, 424, 425, 315, 316, 231, 232, 233, 234, 144, 143, 426, 427, 428, 429, 430, 431, 432, 433, 28, 137, 434, 435, 436, 437, 438, 701, 702, 703, 704, 705, 706, 707, 708, 684, 685, 686, 687] (by decide +kernel) (by decide +kernel)) (goodIn_sub (fun _ h => List.mem_append_left _ (List.mem_append_left _ (List.mem_append_left _ (List.mem_append_left _ (List.mem_append_left _ (List.mem_append_left _ (List.mem_append_right _ h))))))) (by decide +kernel))) (goodIn_sub (fun _ h => List.mem_append_left _ (List.mem_append_left _ (List.mem_append_left _ (List.mem_append_left _ (List.mem_append_left _ (List.mem_append_right _ h)))))) (by decide +kernel))) (goodIn_sub (fun _ h => List.mem_append_left _ (List.mem_append_left _ (List.mem_append_right _ h))) (by decide +kernel))) (goodIn_sub (fun _ h => List.mem_append_left _ (List.mem_append_left _ (List.mem_append_left _ (List.mem_append_right _ h)))) (by decide +kernel))
set_option maxRecDepth 20000 in
theorem gL_law_L_put : GoodIn wsL_law (va_wsS RL 228 yL_put wsL_put) := goodIn_app (goodIn_of _ (by decide +kernel)) ggL_law_L_put
set_option maxRecDepth 20000 in
theorem ggL_law_X2_put : GoodIn wsL_law wsX2_put := goodIn_ca (goodIn_r _ [442, 44, 40, 41, 76, 196, 197, 198, 5, 199, 36, 77, 78, 79, 386, 387, 388, 389, 390, 34, 37, 38, 688, 689, 690, 691, 692, 693, 694, 695, 696, 697, 698, 699, 700] (by decide +kernel) (by decide +kernel)) (goodIn_sub (fun _ h => List.mem_append_left _ (List.mem_append_left _ (List.mem_append_left _ (List.mem_append_left _ (List.mem_append_left _ (List.mem_append_left _ (List.mem_append_right _ h))))))) (by decide +kernel))
set_option maxRecDepth 20000 in
theorem gL_law_X2_put : GoodIn wsL_law (wsV RL 231 RX2 yX2_put wsX2_put) := goodIn_app (goodIn_of _ (by decide +kernel)) ggL_law_X2_put
set_option maxRecDepth 20000 in
theorem ggL_law_L_getAt : GoodIn wsL_law wsL_getAt := goodIn_ca (goodIn_ca (goodIn_r _ [445, 52, 446, 447, 448, 2, 449, 219, 184, 185, 186, 187, 65, 66, 121, 122, 123, 124, 18, 62, 63, 64, 128, 129, 130, 20, 131, 27, 450, 409, 410, 411, 28, 137, 701, 702, 703, 704, 705, 706, 707, 708, 684, 685, 686, 687] (by decide +kernel) (by decide +kernel)) (goodIn_sub (fun _ h => List.mem_append_left _ (List.mem_append_left _ (List.mem_append_left _ (List.mem_append_left _ (List.mem_append_left _ (List.mem_append_left _ (List.mem_append_right _ h))))))) (by decide +kernel))) (goodIn_sub (fun _ h => List.mem_append_left _ (List.mem_append_left _ (List.mem_append_left _ (List.mem_append_left _ (List.mem_append_left _ (List.mem_append_right _ h)))))) (by decide +kernel))
set_option maxRecDepth 20000 in
theorem gL_law_L_getAt : GoodIn wsL_law (va_wsS RL 232 yL_getAt wsL_getAt) := goodIn_app (goodIn_of _ (by decide +kernel)) ggL_law_L_getAt
set_option maxRecDepth 20000 in
theorem ggL_law_X2_getAt : GoodIn wsL_law wsX2_getAt := goodIn_ca (goodIn_r _ [454, 41, 76, 196, 197, 198, 5, 199, 36, 77, 78, 79, 382, 383, 384, 385, 34, 37, 38, 688, 689, 690, 691, 692, 693, 694, 695, 696, 697, 698, 699, 700] (by decide +kernel) (by decide +kernel)) (goodIn_sub (fun _ h => List.mem_append_left _ (List.mem_append_left _ (List.mem_append_left _ (List.mem_append_left _ (List.mem_append_left _ (List.mem_append_left _ (List.mem_append_right _ h))))))) (by decide +kernel))
set_option maxRecDepth 20000 in
theorem gL_law_X2_getAt : GoodIn wsL_law (wsV RL 234 RX2 yX2_getAt wsX2_getAt) := goodIn_app (goodIn_of _ (by decide +kernel)) ggL_law_X2_getAt
set_option maxRecDepth 20000 in
theorem ggL_law_L_putAt : GoodIn wsL_law wsL_putAt := goodIn_ca (goodIn_ca (goodIn_ca (goodIn_r _ [457, 52, 362, 458, 459, 460, 2, 461, 219, 184, 185, 186, 187, 65, 66, 121, 122, 123, 124, 18, 62, 63, 64, 128, 129, 130, 20, 131, 27, 373, 374, 375, 376, 377, 257, 450, 409, 410, 411, 28, 137, 462, 431, 432, 433, 434, 435, 436, 437, 438, 701, 702, 703, 704, 705, 706, 707, 708, 684, 685, 686, 687] (by decide +kernel) (by decide +kernel)) (goodIn_sub (fun _ h => List.mem_append_left _ (List.mem_append_left _ (List.mem_append_left _ (List.mem_append_left _ (List.mem_append_left _ (List.mem_append_left _ (List.mem_append_right _ h))))))) (by decide +kernel))) (goodIn_sub (fun _ h => List.mem_append_left _ (List.mem_append_left _ (List.mem_append_left _ (List.mem_append_left _ (List.mem_append_left _ (List.mem_append_right _ h)))))) (by decide +kernel))) (goodIn_sub (fun _ h => List.mem_append_left _ (List.mem_append_left _ (List.mem_append_right _ h))) (by decide +kernel))
set_option maxRecDepth 20000 in
theorem gL_law_L_putAt : GoodIn wsL_law (va_wsS RL 235 yL_putAt wsL_putAt) := goodIn_app (goodIn_of _ (by decide +kernel)) ggL_law_L_putAt
set_option maxRecDepth 20000 in
theorem ggL_law_X2_putAt : GoodIn wsL_law wsX2_putAt := goodIn_ca (goodIn_r _ [466, 41, 44, 76, 196, 197, 198, 5, 199, 36, 77, 78, 79, 382, 383, 384, 385, 34, 37, 38, 386, 387, 388, 389, 390, 688, 689, 690, 691, 692, 693, 694, 695, 696, 697, 698, 699, 700] (by decide +kernel) (by decide +kernel)) (goodIn_sub (fun _ h => List.mem_append_left _ (List.mem_append_left _ (List.mem_append_left _ (List.mem_append_left _ (List.mem_append_left _ (List.mem_append_left _ (List.mem_append_right _ h))))))) (by decide +kernel))
set_option maxRecDepth 20000 in
theorem gL_law_X2_putAt : GoodIn wsL_law (wsV RL 238 RX2 yX2_putAt wsX2_putAt) := goodIn_app (goodIn_of _ (by decide +kernel)) ggL_law_X2_putAt
set_option maxRecDepth 20000 in
theorem ggL_law_L_fill : GoodIn wsL_law wsL_fill := goodIn_ca (goodIn_ca (goodIn_ca (goodIn_ca (goodIn_ca (goodIn_r _ [469, 52, 53, 362, 310, 470, 471, 472, 2, 473, 207, 184, 185, 186, 187, 65, 66, 121, 122, 123, 124, 18, 62, 63, 64, 128, 129, 130, 20, 131, 27, 474, 475, 476, 70, 71, 373, 374, 375, 376, 377, 257, 423, 424, 425, 315, 316, 231, 232, 233, 234, 144, 143, 426, 427, 428, 429, 430, 431, 432, 433, 28, 137, 434, 435, 436, 437, 438, 701, 702, 703, 704, 705, 706, 707, 708, 684, 685, 686, 687] (by decide +kernel) (by decide +kernel)) (goodIn_sub (fun _ h => List.mem_append_left _ (List.mem_append_left _ (List.mem_append_left _ (List.mem_append_left _ (List.mem_append_left _ (List.mem_append_left _ (List.mem_append_right _ h))))))) (by decide +kernel))) (goodIn_sub (fun _ h => List.mem_append_left _ (List.mem_append_left _ (List.mem_append_left _ (List.mem_append_left _ (List.mem_append_left _ (List.mem_append_right _ h)))))) (by decide +kernel))) (goodIn_sub (fun _ h => List.mem_append_left _ (List.mem_append_left _ (List.mem_append_left _ (List.mem_append_left _ (List.mem_append_right _ h))))) (by decide +kernel))) (goodIn_sub (fun _ h => List.mem_append_left _ (List.mem_append_left _ (List.mem_append_right _ h))) (by decide +kernel))) (goodIn_sub (fun _ h => List.mem_append_left _ (List.mem_append_left _ (List.mem_append_left _ (List.mem_append_right _ h)))) (by decide +kernel))
set_option maxRecDepth 20000 in
theorem gL_law_L_fill : GoodIn wsL_law (va_wsS RL 239 yL_fill wsL_fill) := goodIn_app (goodIn_of _ (by decide +kernel)) ggL_law_L_fill
set_option maxRecDepth 20000 in
theorem ggL_law_X2_fill : GoodIn wsL_law wsX2_fill := goodIn_ca (goodIn_r _ [480, 44, 41, 40, 76, 196, 197, 198, 5, 199, 36, 77, 78, 79, 386, 387, 388, 389, 390, 34, 37, 38, 688, 689, 690, 691, 692, 693, 694, 695, 696, 697, 698, 699, 700] (by decide +kernel) (by decide +kernel)) (goodIn_sub (fun _ h => List.mem_append_left _ (List.mem_append_left _ (List.mem_append_left _ (List.mem_append_left _ (List.mem_append_left _ (List.mem_append_left _ (List.mem_append_right _ h))))))) (by decide +kernel))
set_option maxRecDepth 20000 in
theorem gL_law_X2_fill : GoodIn wsL_law (wsV RL 242 RX2 yX2_fill wsX2_fill) := goodIn_app (goodIn_of _ (by decide +kernel)) ggL_law_X2_fill
set_option maxRecDepth 20000 in
theorem ggL_law_L_pour : GoodIn wsL_law wsL_pour := goodIn_ca (goodIn_ca (goodIn_ca (goodIn_ca (goodIn_ca (goodIn_ca (goodIn_r _ [483, 52, 53, 362, 394, 310, 484, 485, 486, 2, 487, 70, 71, 207, 184, 185, 186, 187, 65, 66, 121, 122, 123, 124, 18, 62, 63, 64, 128, 129, 130, 20, 131, 27, 474, 475, 476, 373, 374, 375, 376, 377, 257, 399, 400, 401, 402, 403, 231, 232, 233, 234, 144, 143, 423, 424, 425, 315, 316, 404, 405, 406, 407, 408, 409, 410, 411, 28, 137, 426, 427, 428, 429, 430, 431, 432, 433, 434, 435, 436, 437, 438, 701, 702, 703, 704, 705, 706, 707, 708, 684, 685, 686, 687] (by decide +kernel) (by decide +kernel)) (goodIn_sub (fun _ h => List.mem_append_left _ (List.mem_append_left _ (List.mem_append_left _ (List.mem_append_left _ (List.mem_append_left _ (List.mem_append_left _ (List.mem_append_right _ h))))))) (by decide +kernel))) (goodIn_sub (fun _ h => List.mem_append_left _ (List.mem_append_left _ (List.mem_append_left _ (List.mem_append_left _ (List.mem_append_right _ h))))) (by decide +kernel))) (goodIn_sub (fun _ h => List.mem_append_left _ (List.mem_append_left _ (List.mem_append_left _ (List.mem_append_left _ (List.mem_append_left _ (List.mem_append_right _ h)))))) (by decide +kernel))) (goodIn_sub (fun _ h => List.mem_append_left _ (List.mem_append_left _ (List.mem_append_right _ h))) (by decide +kernel))) (goodIn_sub (fun _ h => List.mem_append_left _ (List.mem_append_right _ h)) (by decide +kernel))) (goodIn_sub (fun _ h => List.mem_append_left _ (List.mem_append_left _ (List.mem_append_left _ (List.mem_append_right _ h)))) (by decide +kernel))
set_option maxRecDepth 20000 in
theorem gL_law_L_pour : GoodIn wsL_law (va_wsS RL 243 yL_pour wsL_pour) := goodIn_app (goodIn_of _ (by decide +kernel)) ggL_law_L_pour
set_option maxRecDepth 20000 in
theorem ggL_law_X2_pour : GoodIn wsL_law wsX2_pour := goodIn_ca (goodIn_r _ [491, 44, 41, 40, 76, 196, 197, 198, 5, 199, 36, 77, 78, 79, 382, 383, 384, 385, 34, 37, 38, 386, 387, 388, 389, 390, 688, 689, 690, 691, 692, 693, 694, 695, 696, 697, 698, 699, 700] (by decide +kernel) (by decide +kernel)) (goodIn_sub (fun _ h => List.mem_append_left _ (List.mem_append_left _ (List.mem_append_left _ (List.mem_append_left _ (List.mem_append_left _ (List.mem_append_left _ (List.mem_append_right _ h))))))) (by decide +kernel))
set_option maxRecDepth 20000 in
theorem gL_law_X2_pour : GoodIn wsL_law (wsV RL 245 RX2 yX2_pour wsX2_pour) := goodIn_app (goodIn_of _ (by decide +kernel)) ggL_law_X2_pour
set_option maxRecDepth 20000 in
theorem ggL_law_L_slice : GoodIn wsL_law wsL_slice := goodIn_ca (goodIn_ca (goodIn_r _ [494, 52, 495, 496, 497, 2, 498, 207, 160, 184, 185, 186, 187, 65, 66, 121, 122, 123, 124, 18, 62, 63, 64, 128, 129, 130, 20, 131, 27, 231, 232, 233, 234, 144, 143, 499, 500, 501, 502, 136, 28, 137, 138, 139, 140, 141, 142, 29, 701, 702, 703, 704, 705, 706, 707, 708, 684, 685, 686, 687] (by decide +kernel) (by decide +kernel)) (goodIn_sub (fun _ h => List.mem_append_left _ (List.mem_append_left _ (List.mem_append_left _ (List.mem_append_left _ (List.mem_append_left _ (List.mem_append_left _ (List.mem_append_right _ h))))))) (by decide +kernel))) (goodIn_sub (fun _ h => List.mem_append_left _ (List.mem_append_left _ (List.mem_append_left _ (List.mem_append_left _ (List.mem_append_left _ (List.mem_append_right _ h)))))) (by decide +kernel))
set_option maxRecDepth 20000 in
theorem gL_law_L_slice : GoodIn wsL_law (va_wsS RL 246 yL_slice wsL_slice) := goodIn_app (goodIn_of _ (by decide +kernel)) ggL_law_L_slice
set_option maxRecDepth 20000 in
theorem ggL_law_X2_slice : GoodIn wsL_law wsX2_slice := goodIn_ca (goodIn_r _ [506, 76, 36, 37, 38, 40, 41, 44, 39, 196, 197, 198, 5, 199, 77, 78, 79, 149, 150, 151, 152, 42, 688, 689, 690, 691, 692, 693, 694, 695, 696, 697, 698, 699, 700] (by decide +kernel) (by decide +kernel)) (goodIn_sub (fun _ h => List.mem_append_left _ (List.mem_append_left _ (List.mem_append_left _ (List.mem_append_left _ (List.mem_append_left _ (List.mem_append_left _ (List.mem_append_right _ h))))))) (by decide +kernel))
set_option maxRecDepth 20000 in
theorem gL_law_X2_slice : GoodIn wsL_law (wsV RL 248 RX2 yX2_slice wsX2_slice) := goodIn_app (goodIn_of _ (by decide +kernel)) ggL_law_X2_slice
set_option maxRecDepth 20000 in
theorem ggL_law_L_sliceAt : GoodIn wsL_law wsL_sliceAt := goodIn_ca (goodIn_ca (goodIn_r _ [509, 52, 510, 511, 512, 2, 513, 219, 160, 184, 185, 186, 187, 65, 66, 121, 122, 123, 124, 18, 62, 63, 64, 128, 129, 130, 20, 131, 27, 514, 515, 516, 499, 500, 501, 502, 136, 28, 137, 138, 139, 140, 141, 142, 143, 144, 29, 701, 702, 703, 704, 705, 706, 707, 708, 684, 685, 686, 687] (by decide +kernel) (by decide +kernel)) (goodIn_sub (fun _ h => List.mem_append_left _ (List.mem_append_left _ (List.mem_append_left _ (List.mem_append_left _ (List.mem_append_left _ (List.mem_append_left _ (List.mem_append_right _ h))))))) (by decide +kernel))) (goodIn_sub (fun _ h => List.mem_append_left _ (List.mem_append_left _ (List.mem_append_left _ (List.mem_append_left _ (List.mem_append_left _ (List.mem_append_right _ h)))))) (by decide +kernel))
set_option maxRecDepth 20000 in
theorem gL_law_L_sliceAt : GoodIn wsL_law (va_wsS RL 249 yL_sliceAt wsL_sliceAt) := goodIn_app (goodIn_of _ (by decide +kernel)) ggL_law_L_sliceAt
set_option maxRecDepth 20000 in
theorem ggL_law_X2_sliceAt : GoodIn wsL_law wsX2_sliceAt := goodIn_ca (goodIn_r _ [520, 41, 76, 36, 37, 38, 44, 196, 197, 198, 5, 199, 77, 78, 79, 149, 150, 151, 152, 39, 40, 42, 688, 689, 690, 691, 692, 693, 694, 695, 696, 697, 698, 699, 700] (by decide +kernel) (by decide +kernel)) (goodIn_sub (fun _ h => List.mem_append_left _ (List.mem_append_left _ (List.mem_append_left _ (List.mem_append_left _ (List.mem_append_left _ (List.mem_append_left _ (List.mem_append_right _ h))))))) (by decide +kernel))
set_option maxRecDepth 20000 in
theorem gL_law_X2_sliceAt : GoodIn wsL_law (wsV RL 252 RX2 yX2_sliceAt wsX2_sliceAt) := goodIn_app (goodIn_of _ (by decide +kernel)) ggL_law_X2_sliceAt
set_option maxRecDepth 20000 in
theorem ggL_law_L_duplicate : GoodIn wsL_law wsL_duplicate := goodIn_ca (goodIn_ca (goodIn_r _ [523, 52, 524, 525, 526, 2, 527, 184, 185, 186, 187, 65, 66, 121, 122, 123, 124, 18, 62, 63, 64, 128, 129, 130, 20, 131, 27, 528, 529, 530, 531, 136, 28, 137, 138, 143, 144, 29, 231, 232, 233, 234, 684, 685, 686, 687, 701, 702, 703, 704, 705, 706, 707, 708] (by decide +kernel) (by decide +kernel)) (goodIn_sub (fun _ h => List.mem_append_left _ (List.mem_append_left _ (List.mem_append_left _ (List.mem_append_left _ (List.mem_append_left _ (List.mem_append_left _ (List.mem_append_right _ h))))))) (by decide +kernel))) (goodIn_sub (fun _ h => List.mem_append_left _ (List.mem_append_left _ (List.mem_append_left _ (List.mem_append_left _ (List.mem_append_left _ (List.mem_append_right _ h)))))) (by decide +kernel))
set_option maxRecDepth 20000 in
theorem gL_law_L_duplicate : GoodIn wsL_law (va_wsS RL 253 yL_duplicate wsL_duplicate) := goodIn_app (goodIn_of _ (by decide +kernel)) ggL_law_L_duplicate
set_option maxRecDepth 20000 in
theorem ggL_law_X2_duplicate : GoodIn wsL_law wsX2_duplicate := goodIn_ca (goodIn_r _ [535, 536, 537, 538, 5, 539, 76, 40, 41, 42, 36, 37, 38, 39, 44, 196, 197, 198, 199, 77, 78, 79, 149, 150, 151, 152, 688, 689, 690, 691, 692, 693, 694, 695, 696, 697, 698, 699, 700] (by decide +kernel) (by decide +kernel)) (goodIn_sub (fun _ h => List.mem_append_left _ (List.mem_append_left _ (List.mem_append_left _ (List.mem_append_left _ (List.mem_append_left _ (List.mem_append_left _ (List.mem_append_right _ h))))))) (by decide +kernel))
set_option maxRecDepth 20000 in
theorem gL_law_X2_duplicate : GoodIn wsL_law (wsV RL 255 RX2 yX2_duplicate wsX2_duplicate) := goodIn_app (goodIn_of _ (by decide +kernel)) ggL_law_X2_duplicate
set_option maxRecDepth 20000 in
theorem ggL_law_L_readOnly : GoodIn wsL_law wsL_readOnly := goodIn_ca (goodIn_ca (goodIn_r _ [542, 52, 543, 544, 545, 2, 546, 257, 184, 185, 186, 187, 65, 66, 121, 122, 123, 124, 18, 62, 63, 64, 128, 129, 130, 20, 131, 27, 528, 529, 530, 531, 136, 28, 137, 138, 143, 144, 29, 231, 232, 233, 234, 701, 702, 703, 704, 705, 706, 707, 708, 684, 685, 686, 687] (by decide +kernel) (by decide +kernel)) (goodIn_sub (fun _ h => List.mem_append_left _ (List.mem_append_left _ (List.mem_append_left _ (List.mem_append_left _ (List.mem_append_left _ (List.mem_append_left _ (List.mem_append_right _ h))))))) (by decide +kernel))) (goodIn_sub (fun _ h => List.mem_append_left _ (List.mem_append_left _ (List.mem_append_left _ (List.mem_append_left _ (List.mem_append_left _ (List.mem_append_right _ h)))))) (by decide +kernel))
set_option maxRecDepth 20000 in
theorem gL_law_L_readOnly : GoodIn wsL_law (va_wsS RL 256 yL_readOnly wsL_readOnly) := goodIn_app (goodIn_of _ (by decide +kernel)) ggL_law_L_readOnly
set_option maxRecDepth 20000 in
theorem ggL_law_X2_readOnly : GoodIn wsL_law wsX2_readOnly := goodIn_ca (goodIn_r _ [550, 536, 537, 538, 5, 539, 76, 40, 41, 42, 36, 37, 38, 39, 44, 196, 197, 198, 199, 77, 78, 79, 149, 150, 151, 152, 688, 689, 690, 691, 692, 693, 694, 695, 696, 697, 698, 699, 700] (by decide +kernel) (by decide +kernel)) (goodIn_sub (fun _ h => List.mem_append_left _ (List.mem_append_left _ (List.mem_append_left _ (List.mem_append_left _ (List.mem_append_left _ (List.mem_append_left _ (List.mem_append_right _ h))))))) (by decide +kernel))
set_option maxRecDepth 20000 in
theorem gL_law_X2_readOnly : GoodIn wsL_law (wsV RL 258 RX2 yX2_readOnly wsX2_readOnly) := goodIn_app (goodIn_of _ (by decide +kernel)) ggL_law_X2_readOnly
set_option maxRecDepth 20000 in
theorem ggL_law_L_signAt : GoodIn wsL_law wsL_signAt := goodIn_ca (goodIn_ca (goodIn_ca (goodIn_ca (goodIn_r _ [553, 52, 362, 394, 554, 555, 556, 2, 557, 402, 403, 207, 184, 185, 186, 187, 65, 66, 121, 122, 123, 124, 18, 62, 63, 64, 128, 129, 130, 20, 131, 27, 558, 559, 560, 376, 377, 172, 231, 232, 233, 234, 144, 143, 450, 409, 410, 411, 28, 137, 701, 702, 703, 704, 705, 706, 707, 708, 684, 685, 686, 687] (by decide +kernel) (by decide +kernel)) (goodIn_sub (fun _ h => List.mem_append_left _ (List.mem_append_left _ (List.mem_append_left _ (List.mem_append_left _ (List.mem_append_left _ (List.mem_append_left _ (List.mem_append_right _ h))))))) (by decide +kernel))) (goodIn_sub (fun _ h => List.mem_append_left _ (List.mem_append_right _ h)) (by decide +kernel))) (goodIn_sub (fun _ h => List.mem_append_left _ (List.mem_append_left _ (List.mem_append_left _ (List.mem_append_left _ (List.mem_append_left _ (List.mem_append_right _ h)))))) (by decide +kernel))) (goodIn_sub (fun _ h => List.mem_append_left _ (List.mem_append_left _ (List.mem_append_right _ h))) (by decide +kernel))
set_option maxRecDepth 20000 in
theorem gL_law_L_signAt : GoodIn wsL_law (va_wsS RL 259 yL_signAt wsL_signAt) := goodIn_app (goodIn_of _ (by decide +kernel)) ggL_law_L_signAt
set_option maxRecDepth 20000 in
theorem ggL_law_X2_signAt : GoodIn wsL_law wsX2_signAt := goodIn_ca (goodIn_r _ [564, 36, 41, 40, 76, 196, 197, 198, 5, 199, 77, 78, 79, 382, 383, 384, 385, 34, 37, 38, 688, 689, 690, 691, 692, 693, 694, 695, 696, 697, 698, 699, 700] (by decide +kernel) (by decide +kernel)) (goodIn_sub (fun _ h => List.mem_append_left _ (List.mem_append_left _ (List.mem_append_left _ (List.mem_append_left _ (List.mem_append_left _ (List.mem_append_left _ (List.mem_append_right _ h))))))) (by decide +kernel))
set_option maxRecDepth 20000 in
theorem gL_law_X2_signAt : GoodIn wsL_law (wsV RL 261 RX2 yX2_signAt wsX2_signAt) := goodIn_app (goodIn_of _ (by decide +kernel)) ggL_law_X2_signAt
set_option maxRecDepth 20000 in
theorem ggL_law_L_signsLeft : GoodIn wsL_law wsL_signsLeft := goodIn_ca (goodIn_ca (goodIn_ca (goodIn_r _ [567, 52, 362, 568, 569, 570, 2, 571, 184, 185, 186, 187, 65, 66, 121, 122, 123, 124, 18, 62, 63, 64, 128, 129, 130, 20, 131, 27, 558, 559, 560, 376, 377, 172, 231, 232, 233, 234, 144, 143, 684, 685, 686, 687, 701, 702, 703, 704, 705, 706, 707, 708] (by decide +kernel) (by decide +kernel)) (goodIn_sub (fun _ h => List.mem_append_left _ (List.mem_append_left _ (List.mem_append_left _ (List.mem_append_left _ (List.mem_append_left _ (List.mem_append_left _ (List.mem_append_right _ h))))))) (by decide +kernel))) (goodIn_sub (fun _ h => List.mem_append_left _ (List.mem_append_left _ (List.mem_append_left _ (List.mem_append_left _ (List.mem_append_left _ (List.mem_append_right _ h)))))) (by decide +kernel))) (goodIn_sub (fun _ h => List.mem_append_left _ (List.mem_append_left _ (List.mem_append_right _ h))) (by decide +kernel))
set_option maxRecDepth 20000 in
theorem gL_law_L_signsLeft : GoodIn wsL_law (va_wsS RL 262 yL_signsLeft wsL_signsLeft) := goodIn_app (goodIn_of _ (by decide +kernel)) ggL_law_L_signsLeft
set_option maxRecDepth 20000 in
theorem ggL_law_X2_signsLeft : GoodIn wsL_law wsX2_signsLeft := goodIn_ca (goodIn_r _ [575, 36, 76, 41, 40, 196, 197, 198, 5, 199, 77, 78, 79, 688, 689, 690, 691, 692, 693, 694, 695, 696, 697, 698, 699, 700] (by decide +kernel) (by decide +kernel)) (goodIn_sub (fun _ h => List.mem_append_left _ (List.mem_append_left _ (List.mem_append_left _ (List.mem_append_left _ (List.mem_append_left _ (List.mem_append_left _ (List.mem_append_right _ h))))))) (by decide +kernel))
set_option maxRecDepth 20000 in
theorem gL_law_X2_signsLeft : GoodIn wsL_law (wsV RL 264 RX2 yX2_signsLeft wsX2_signsLeft) := goodIn_app (goodIn_of _ (by decide +kernel)) ggL_law_X2_signsLeft
set_option maxRecDepth 20000 in
theorem ggL_law_L_append : GoodIn wsL_law wsL_append := goodIn_ca (goodIn_ca (goodIn_ca (goodIn_ca (goodIn_r _ [578, 52, 362, 310, 579, 580, 581, 2, 582, 207, 184, 185, 186, 187, 65, 66, 121, 122, 123, 124, 18, 62, 63, 64, 128, 129, 130, 20, 131, 27, 558, 559, 560, 376, 377, 172, 373, 374, 375, 257, 423, 424, 425, 315, 316, 231, 232, 233, 234, 144, 143, 426, 427, 428, 429, 430, 431, 432, 433, 28, 137, 434, 435, 436, 437, 438, 701, 702, 703, 704, 705, 706, 707, 708, 684, 685, 686, 687] (by decide +kernel) (by decide +kernel)) (goodIn_sub (fun _ h => List.mem_append_left _ (List.mem_append_left _ (List.mem_append_left _ (List.mem_append_left _ (List.mem_append_left _ (List.mem_append_left _ (List.mem_append_right _ h))))))) (by decide +kernel))) (goodIn_sub (fun _ h => List.mem_append_left _ (List.mem_append_left _ (List.mem_append_left _ (List.mem_append_left _ (List.mem_append_left _ (List.mem_append_right _ h)))))) (by decide +kernel))) (goodIn_sub (fun _ h => List.mem_append_left _ (List.mem_append_left _ (List.mem_append_right _ h))) (by decide +kernel))) (goodIn_sub (fun _ h => List.mem_append_left _ (List.mem_append_left _ (List.mem_append_left _ (List.mem_append_right _ h)))) (by decide +kernel))
set_option maxRecDepth 20000 in
theorem gL_law_L_append : GoodIn wsL_law (va_wsS RL 265 yL_append wsL_append) := goodIn_app (goodIn_of _ (by decide +kernel)) ggL_law_L_append
set_option maxRecDepth 20000 in
theorem ggL_law_X2_append : GoodIn wsL_law wsX2_append := goodIn_ca (goodIn_r _ [586, 36, 44, 40, 41, 76, 196, 197, 198, 5, 199, 77, 78, 79, 386, 387, 388, 389, 390, 34, 37, 38, 688, 689, 690, 691, 692, 693, 694, 695, 696, 697, 698, 699, 700] (by decide +kernel) (by decide +kernel)) (goodIn_sub (fun _ h => List.mem_append_left _ (List.mem_append_left _ (List.mem_append_left _ (List.mem_append_left _ (List.mem_append_left _ (List.mem_append_left _ (List.mem_append_right _ h))))))) (by decide +kernel))
set_option maxRecDepth 20000 in
theorem gL_law_X2_append : GoodIn wsL_law (wsV RL 268 RX2 yX2_append wsX2_append) := goodIn_app (goodIn_of _ (by decide +kernel)) ggL_law_X2_append
set_option maxRecDepth 20000 in
theorem ggL_law_L_text : GoodIn wsL_law wsL_text := goodIn_ca (goodIn_ca (goodIn_ca (goodIn_r _ [589, 52, 362, 590, 591, 592, 2, 593, 594, 207, 184, 185, 186, 187, 65, 66, 121, 122, 123, 124, 18, 62, 63, 64, 128, 129, 130, 20, 131, 27, 558, 559, 560, 376, 377, 172, 595, 596, 597, 598, 144, 408, 409, 410, 411, 28, 137, 599, 600, 601, 701, 702, 703, 704, 705, 706, 707, 708, 684, 685, 686, 687] (by decide +kernel) (by decide +kernel)) (goodIn_sub (fun _ h => List.mem_append_left _ (List.mem_append_left _ (List.mem_append_left _ (List.mem_append_left _ (List.mem_append_left _ (List.mem_append_left _ (List.mem_append_right _ h))))))) (by decide +kernel))) (goodIn_sub (fun _ h => List.mem_append_left _ (List.mem_append_left _ (List.mem_append_left _ (List.mem_append_left _ (List.mem_append_left _ (List.mem_append_right _ h)))))) (by decide +kernel))) (goodIn_sub (fun _ h => List.mem_append_left _ (List.mem_append_left _ (List.mem_append_right _ h))) (by decide +kernel))
set_option maxRecDepth 20000 in
theorem gL_law_L_text : GoodIn wsL_law (va_wsS RL 269 yL_text wsL_text) := goodIn_app (goodIn_of _ (by decide +kernel)) ggL_law_L_text
set_option maxRecDepth 20000 in
theorem ggL_law_X2_text : GoodIn wsL_law wsX2_text := goodIn_ca (goodIn_r _ [605, 36, 76, 606, 40, 41, 607, 196, 197, 198, 5, 199, 77, 78, 79, 382, 383, 384, 385, 34, 37, 38, 688, 689, 690, 691, 692, 693, 694, 695, 696, 697, 698, 699, 700] (by decide +kernel) (by decide +kernel)) (goodIn_sub (fun _ h => List.mem_append_left _ (List.mem_append_left _ (List.mem_append_left _ (List.mem_append_left _ (List.mem_append_left _ (List.mem_append_left _ (List.mem_append_right _ h))))))) (by decide +kernel))
set_option maxRecDepth 20000 in
theorem gL_law_X2_text : GoodIn wsL_law (wsV RL 271 RX2 yX2_text wsX2_text) := goodIn_app (goodIn_of _ (by decide +kernel)) ggL_law_X2_text
set_option maxRecDepth 20000 in
theorem ggL_law_L_isAlike : GoodIn wsL_law wsL_isAlike := goodIn_ca (goodIn_ca (goodIn_r _ [610, 52, 611, 612, 613, 2, 614, 207, 184, 185, 186, 187, 65, 66, 121, 122, 123, 124, 18, 62, 63, 64, 128, 129, 130, 20, 131, 27, 231, 232, 233, 234, 144, 143, 450, 409, 410, 411, 28, 137, 701, 702, 703, 704, 705, 706, 707, 708, 684, 685, 686, 687] (by decide +kernel) (by decide +kernel)) (goodIn_sub (fun _ h => List.mem_append_left _ (List.mem_append_left _ (List.mem_append_left _ (List.mem_append_left _ (List.mem_append_left _ (List.mem_append_left _ (List.mem_append_right _ h))))))) (by decide +kernel))) (goodIn_sub (fun _ h => List.mem_append_left _ (List.mem_append_left _ (List.mem_append_left _ (List.mem_append_left _ (List.mem_append_left _ (List.mem_append_right _ h)))))) (by decide +kernel))
set_option maxRecDepth 20000 in
theorem gL_law_L_isAlike : GoodIn wsL_law (va_wsS RL 272 yL_isAlike wsL_isAlike) := goodIn_app (goodIn_of _ (by decide +kernel)) ggL_law_L_isAlike
set_option maxRecDepth 20000 in
theorem ggL_law_X2_isAlike : GoodIn wsL_law wsX2_isAlike := goodIn_ca (goodIn_r _ [618, 76, 41, 40, 196, 197, 198, 5, 199, 36, 77, 78, 79, 382, 383, 384, 385, 34, 37, 38, 688, 689, 690, 691, 692, 693, 694, 695, 696, 697, 698, 699, 700] (by decide +kernel) (by decide +kernel)) (goodIn_sub (fun _ h => List.mem_append_left _ (List.mem_append_left _ (List.mem_append_left _ (List.mem_append_left _ (List.mem_append_left _ (List.mem_append_left _ (List.mem_append_right _ h))))))) (by decide +kernel))
set_option maxRecDepth 20000 in
theorem gL_law_X2_isAlike : GoodIn wsL_law (wsV RL 274 RX2 yX2_isAlike wsX2_isAlike) := goodIn_app (goodIn_of _ (by decide +kernel)) ggL_law_X2_isAlike
set_option maxRecDepth 20000 in
theorem ggL_law_L_fullShare : GoodIn wsL_law wsL_fullShare := goodIn_ca (goodIn_ca (goodIn_ca (goodIn_r _ [621, 52, 622, 623, 624, 625, 2, 626, 627, 628, 160, 207, 184, 185, 186, 187, 65, 66, 121, 122, 123, 124, 18, 62, 63, 64, 128, 129, 130, 20, 131, 27, 701, 702, 703, 704, 705, 706, 707, 708, 684, 685, 686, 687] (by decide +kernel) (by decide +kernel)) (goodIn_sub (fun _ h => List.mem_append_left _ (List.mem_append_left _ (List.mem_append_left _ (List.mem_append_left _ (List.mem_append_left _ (List.mem_append_left _ (List.mem_append_right _ h))))))) (by decide +kernel))) (goodIn_sub (fun _ h => List.mem_append_right _ h) (by decide +kernel))) (goodIn_sub (fun _ h => List.mem_append_left _ (List.mem_append_left _ (List.mem_append_left _ (List.mem_append_left _ (List.mem_append_left _ (List.mem_append_right _ h)))))) (by decide +kernel))
set_option maxRecDepth 20000 in
theorem gL_law_L_fullShare : GoodIn wsL_law (va_wsS RL 275 yL_fullShare wsL_fullShare) := goodIn_app (goodIn_of _ (by decide +kernel)) ggL_law_L_fullShare
set_option maxRecDepth 20000 in
theorem ggL_law_X2_fullShare : GoodIn wsL_law wsX2_fullShare := goodIn_ca (goodIn_r _ [632, 39, 76, 40, 196, 197, 198, 5, 199, 36, 77, 78, 79, 688, 689, 690, 691, 692, 693, 694, 695, 696, 697, 698, 699, 700] (by decide +kernel) (by decide +kernel)) (goodIn_sub (fun _ h => List.mem_append_left _ (List.mem_append_left _ (List.mem_append_left _ (List.mem_append_left _ (List.mem_append_left _ (List.mem_append_left _ (List.mem_append_right _ h))))))) (by decide +kernel))
set_option maxRecDepth 20000 in
theorem gL_law_X2_fullShare : GoodIn wsL_law (wsV RL 278 RX2 yX2_fullShare wsX2_fullShare) := goodIn_app (goodIn_of _ (by decide +kernel)) ggL_law_X2_fullShare
set_option maxRecDepth 20000 in
theorem ggL_law_L_meanLeft : GoodIn wsL_law wsL_meanLeft := goodIn_ca (goodIn_ca (goodIn_r _ [635, 622, 636, 637, 638, 2, 639, 627, 628, 18, 128, 129, 130, 20, 131, 27, 231, 232, 233, 234, 144, 143, 684, 685, 686, 687, 701, 702, 703, 704, 705, 706, 707, 708] (by decide +kernel) (by decide +kernel)) (goodIn_sub (fun _ h => List.mem_append_left _ (List.mem_append_left _ (List.mem_append_left _ (List.mem_append_left _ (List.mem_append_left _ (List.mem_append_left _ (List.mem_append_right _ h))))))) (by decide +kernel))) (goodIn_sub (fun _ h => List.mem_append_right _ h) (by decide +kernel))
set_option maxRecDepth 20000 in
theorem gL_law_L_meanLeft : GoodIn wsL_law (va_wsS RL 279 yL_meanLeft wsL_meanLeft) := goodIn_app (goodIn_of _ (by decide +kernel)) ggL_law_L_meanLeft
set_option maxRecDepth 20000 in
theorem ggL_law_X2_meanLeft : GoodIn wsL_law wsX2_meanLeft := goodIn_ca (goodIn_r _ [643, 41, 40, 76, 196, 197, 198, 5, 199, 36, 77, 78, 79, 688, 689, 690, 691, 692, 693, 694, 695, 696, 697, 698, 699, 700] (by decide +kernel) (by decide +kernel)) (goodIn_sub (fun _ h => List.mem_append_left _ (List.mem_append_left _ (List.mem_append_left _ (List.mem_append_left _ (List.mem_append_left _ (List.mem_append_left _ (List.mem_append_right _ h))))))) (by decide +kernel))
set_option maxRecDepth 20000 in
theorem gL_law_X2_meanLeft : GoodIn wsL_law (wsV RL 282 RX2 yX2_meanLeft wsX2_meanLeft) := goodIn_app (goodIn_of _ (by decide +kernel)) ggL_law_X2_meanLeft
set_option maxRecDepth 20000 in
theorem ggL_law_X1_checksum : GoodIn wsL_law wsX1_checksum := goodIn_ca (goodIn_r _ [647, 594, 18, 16, 648, 649, 650, 20, 651, 27, 143, 144, 138, 599, 2, 600, 601, 652, 129, 130, 131, 653, 596, 597, 598, 408, 409, 410, 411, 28, 137, 654, 655, 656, 657, 684, 685, 686, 687, 701, 702, 703, 704, 705, 706, 707, 708] (by decide +kernel) (by decide +kernel)) (goodIn_sub (fun _ h => List.mem_append_left _ (List.mem_append_left _ (List.mem_append_left _ (List.mem_append_left _ (List.mem_append_left _ (List.mem_append_left _ (List.mem_append_right _ h))))))) (by decide +kernel))
set_option maxRecDepth 20000 in
theorem gL_law_X1_checksum : GoodIn wsL_law (wsV RL 283 RX1 yX1_checksum wsX1_checksum) := goodIn_app (goodIn_of _ (by decide +kernel)) ggL_law_X1_checksum
set_option maxRecDepth 20000 in
theorem ggL_law_X2_checksum : GoodIn wsL_law wsX2_checksum := goodIn_ca (goodIn_r _ [661, 76, 606, 607, 36, 40, 41, 39, 46, 34, 45, 382, 383, 384, 5, 385, 37, 38, 688, 689, 690, 691, 692, 693, 694, 695, 696, 697, 698, 699, 700] (by decide +kernel) (by decide +kernel)) (goodIn_sub (fun _ h => List.mem_append_left _ (List.mem_append_left _ (List.mem_append_left _ (List.mem_append_left _ (List.mem_append_left _ (List.mem_append_left _ (List.mem_append_right _ h))))))) (by decide +kernel))
set_option maxRecDepth 20000 in
theorem gL_law_X2_checksum : GoodIn wsL_law (wsV RL 287 RX2 yX2_checksum wsX2_checksum) := goodIn_app (goodIn_of _ (by decide +kernel)) ggL_law_X2_checksum
set_option maxRecDepth 20000 in
theorem ggL_law_X1_isTrue : GoodIn wsL_law wsX1_isTrue := goodIn_ca (goodIn_r _ [665, 18, 128, 129, 130, 20, 131, 27, 666, 667, 668, 2, 669, 257, 21, 207, 22, 670, 671, 672, 673, 143, 144, 138, 137, 28, 231, 232, 233, 234, 499, 500, 501, 502, 136, 139, 140, 141, 142, 29, 528, 529, 530, 531, 674, 675, 676, 677, 678, 450, 409, 410, 411, 679, 435, 436, 437, 438, 462, 431, 432, 433, 434, 684, 685, 686, 687, 701, 702, 703, 704, 705, 706, 707, 708] (by decide +kernel) (by decide +kernel)) (goodIn_sub (fun _ h => List.mem_append_left _ (List.mem_append_left _ (List.mem_append_left _ (List.mem_append_left _ (List.mem_append_left _ (List.mem_append_left _ (List.mem_append_right _ h))))))) (by decide +kernel))
set_option maxRecDepth 20000 in
theorem gL_law_X1_isTrue : GoodIn wsL_law (wsV RL 288 RX1 yX1_isTrue wsX1_isTrue) := goodIn_app (goodIn_of _ (by decide +kernel)) ggL_law_X1_isTrue
set_option maxRecDepth 20000 in
theorem ggL_law_X2_isTrue : GoodIn wsL_law wsX2_isTrue := goodIn_r _ [683, 76, 688, 689, 690, 691, 692, 693, 694, 695, 696, 697, 698, 699, 700] (by decide +kernel) (by decide +kernel)
set_option maxRecDepth 20000 in
theorem gL_law_X2_isTrue : GoodIn wsL_law (wsV RL 292 RX2 yX2_isTrue wsX2_isTrue) := goodIn_app (goodIn_of _ (by decide +kernel)) ggL_law_X2_isTrue
theorem dL_law_0 : decode cL_law 0 = .ok (.new 8, 3) := by decide +kernel
theorem dL_law_3 : decode cL_law 3 = .ok (.dup, 1) := by decide +kernel
theorem dL_law_4 : decode cL_law 4 = .ok (.invokespecial 149, 3) := by decide +kernel
theorem dL_law_7 : decode cL_law 7 = .ok (.astore_n 1, 1) := by decide +kernel
theorem dL_law_8 : decode cL_law 8 = .ok (.new 150, 3) := by decide +kernel
theorem dL_law_11 : decode cL_law 11 = .ok (.dup, 1) := by decide +kernel
theorem dL_law_12 : decode cL_law 12 = .ok (.invokespecial 152, 3) := by decide +kernel
theorem dL_law_15 : decode cL_law 15 = .ok (.astore_n 2, 1) := by decide +kernel
theorem dL_law_16 : decode cL_law 16 = .ok (.iconst 1, 1) := by decide +kernel
theorem dL_law_17 : decode cL_law 17 = .ok (.newarray .long, 2) := by decide +kernel
theorem dL_law_19 : decode cL_law 19 = .ok (.astore_n 3, 1) := by decide +kernel
theorem dL_law_20 : decode cL_law 20 = .ok (.iconst 1, 1) := by decide +kernel
theorem dL_law_21 : decode cL_law 21 = .ok (.newarray .double, 2) := by decide +kernel
theorem dL_law_23 : decode cL_law 23 = .ok (.astore 4, 2) := by decide +kernel
theorem dL_law_25 : decode cL_law 25 = .ok (.iconst 0, 1) := by decide +kernel
theorem dL_law_26 : decode cL_law 26 = .ok (.istore 5, 2) := by decide +kernel
theorem dL_law_28 : decode cL_law 28 = .ok (.iload 5, 2) := by decide +kernel
theorem dL_law_30 : decode cL_law 30 = .ok (.aload_n 0, 1) := by decide +kernel
theorem dL_law_31 : decode cL_law 31 = .ok (.arraylength, 1) := by decide +kernel
theorem dL_law_32 : decode cL_law 32 = .ok (.bipush 7, 2) := by decide +kernel
theorem dL_law_34 : decode cL_law 34 = .ok (.isub, 1) := by decide +kernel
theorem dL_law_35 : decode cL_law 35 = .ok (.if_icmp .gt 2799, 3) := by decide +kernel
theorem dL_law_38 : decode cL_law 38 = .ok (.aload_n 0, 1) := by decide +kernel
theorem dL_law_39 : decode cL_law 39 = .ok (.iload 5, 2) := by decide +kernel
theorem dL_law_41 : decode cL_law 41 = .ok (.iaload, 1) := by decide +kernel
theorem dL_law_42 : decode cL_law 42 = .ok (.bipush 63, 2) := by decide +kernel
theorem dL_law_44 : decode cL_law 44 = .ok (.iand, 1) := by decide +kernel
theorem dL_law_45 : decode cL_law 45 = .ok (.tableswitch 2783 0 38 #[171, 239, 307, 387, 476, 544, 600, 656, 712, 768, 824, 887, 950, 1018, 1086, 1142, 1198, 1254, 1310, 1366, 1422, 1477, 1577, 1644, 1755, 1913, 1993, 2061, 2153, 2221, 2289, 2357, 2413, 2483, 2538, 2613, 2691, 2756, 2770], 171) := by decide +kernel
theorem dL_law_216 : decode cL_law 216 = .ok (.aload_n 1, 1) := by decide +kernel
theorem dL_law_217 : decode cL_law 217 = .ok (.aload_n 0, 1) := by decide +kernel
theorem dL_law_218 : decode cL_law 218 = .ok (.iload 5, 2) := by decide +kernel
theorem dL_law_220 : decode cL_law 220 = .ok (.iconst 1, 1) := by decide +kernel
theorem dL_law_221 : decode cL_law 221 = .ok (.iadd, 1) := by decide +kernel
theorem dL_law_222 : decode cL_law 222 = .ok (.iaload, 1) := by decide +kernel
theorem dL_law_223 : decode cL_law 223 = .ok (.aload_n 0, 1) := by decide +kernel
theorem dL_law_224 : decode cL_law 224 = .ok (.iload 5, 2) := by decide +kernel
theorem dL_law_226 : decode cL_law 226 = .ok (.iconst 2, 1) := by decide +kernel
theorem dL_law_227 : decode cL_law 227 = .ok (.iadd, 1) := by decide +kernel
theorem dL_law_228 : decode cL_law 228 = .ok (.iaload, 1) := by decide +kernel
theorem dL_law_229 : decode cL_law 229 = .ok (.aload_n 3, 1) := by decide +kernel
theorem dL_law_230 : decode cL_law 230 = .ok (.invokestatic 153, 3) := by decide +kernel
theorem dL_law_233 : decode cL_law 233 = .ok (.istore 6, 2) := by decide +kernel
theorem dL_law_235 : decode cL_law 235 = .ok (.aload_n 2, 1) := by decide +kernel
theorem dL_law_236 : decode cL_law 236 = .ok (.aload_n 0, 1) := by decide +kernel
theorem dL_law_237 : decode cL_law 237 = .ok (.iload 5, 2) := by decide +kernel
theorem dL_law_239 : decode cL_law 239 = .ok (.iconst 1, 1) := by decide +kernel
theorem dL_law_240 : decode cL_law 240 = .ok (.iadd, 1) := by decide +kernel
theorem dL_law_241 : decode cL_law 241 = .ok (.iaload, 1) := by decide +kernel
theorem dL_law_242 : decode cL_law 242 = .ok (.aload_n 0, 1) := by decide +kernel
theorem dL_law_243 : decode cL_law 243 = .ok (.iload 5, 2) := by decide +kernel
theorem dL_law_245 : decode cL_law 245 = .ok (.iconst 2, 1) := by decide +kernel
theorem dL_law_246 : decode cL_law 246 = .ok (.iadd, 1) := by decide +kernel
theorem dL_law_247 : decode cL_law 247 = .ok (.iaload, 1) := by decide +kernel
theorem dL_law_248 : decode cL_law 248 = .ok (.invokevirtual 158, 3) := by decide +kernel
theorem dL_law_251 : decode cL_law 251 = .ok (.istore 7, 2) := by decide +kernel
theorem dL_law_253 : decode cL_law 253 = .ok (.aload_n 2, 1) := by decide +kernel
theorem dL_law_254 : decode cL_law 254 = .ok (.invokevirtual 159, 3) := by decide +kernel
theorem dL_law_257 : decode cL_law 257 = .ok (.iload 6, 2) := by decide +kernel
theorem dL_law_259 : decode cL_law 259 = .ok (.if_icmp .eq 5, 3) := by decide +kernel
theorem dL_law_262 : decode cL_law 262 = .ok (.iconst 0, 1) := by decide +kernel
theorem dL_law_263 : decode cL_law 263 = .ok (.ireturn, 1) := by decide +kernel
theorem dL_law_264 : decode cL_law 264 = .ok (.iload 6, 2) := by decide +kernel
theorem dL_law_266 : decode cL_law 266 = .ok (.ifCond .ne 15, 3) := by decide +kernel
theorem dL_law_269 : decode cL_law 269 = .ok (.aload_n 3, 1) := by decide +kernel
theorem dL_law_270 : decode cL_law 270 = .ok (.iconst 0, 1) := by decide +kernel
theorem dL_law_271 : decode cL_law 271 = .ok (.laload, 1) := by decide +kernel
theorem dL_law_272 : decode cL_law 272 = .ok (.iload 7, 2) := by decide +kernel
theorem dL_law_274 : decode cL_law 274 = .ok (.i2l, 1) := by decide +kernel
theorem dL_law_275 : decode cL_law 275 = .ok (.lcmp, 1) := by decide +kernel
theorem dL_law_276 : decode cL_law 276 = .ok (.ifCond .eq 5, 3) := by decide +kernel
theorem dL_law_279 : decode cL_law 279 = .ok (.iconst 0, 1) := by decide +kernel
theorem dL_law_280 : decode cL_law 280 = .ok (.ireturn, 1) := by decide +kernel
theorem dL_law_281 : decode cL_law 281 = .ok (.goto 2547, 3) := by decide +kernel
theorem dL_law_284 : decode cL_law 284 = .ok (.aload_n 1, 1) := by decide +kernel
theorem dL_law_285 : decode cL_law 285 = .ok (.aload_n 0, 1) := by decide +kernel
theorem dL_law_286 : decode cL_law 286 = .ok (.iload 5, 2) := by decide +kernel
theorem dL_law_288 : decode cL_law 288 = .ok (.iconst 1, 1) := by decide +kernel
theorem dL_law_289 : decode cL_law 289 = .ok (.iadd, 1) := by decide +kernel
theorem dL_law_290 : decode cL_law 290 = .ok (.iaload, 1) := by decide +kernel
theorem dL_law_291 : decode cL_law 291 = .ok (.aload_n 0, 1) := by decide +kernel
theorem dL_law_292 : decode cL_law 292 = .ok (.iload 5, 2) := by decide +kernel
theorem dL_law_294 : decode cL_law 294 = .ok (.iconst 2, 1) := by decide +kernel
theorem dL_law_295 : decode cL_law 295 = .ok (.iadd, 1) := by decide +kernel
theorem dL_law_296 : decode cL_law 296 = .ok (.iaload, 1) := by decide +kernel
theorem dL_law_297 : decode cL_law 297 = .ok (.aload_n 3, 1) := by decide +kernel
theorem dL_law_298 : decode cL_law 298 = .ok (.invokestatic 163, 3) := by decide +kernel
theorem dL_law_301 : decode cL_law 301 = .ok (.istore 6, 2) := by decide +kernel
theorem dL_law_303 : decode cL_law 303 = .ok (.aload_n 2, 1) := by decide +kernel
theorem dL_law_304 : decode cL_law 304 = .ok (.aload_n 0, 1) := by decide +kernel
theorem dL_law_305 : decode cL_law 305 = .ok (.iload 5, 2) := by decide +kernel
theorem dL_law_307 : decode cL_law 307 = .ok (.iconst 1, 1) := by decide +kernel
theorem dL_law_308 : decode cL_law 308 = .ok (.iadd, 1) := by decide +kernel
theorem dL_law_309 : decode cL_law 309 = .ok (.iaload, 1) := by decide +kernel
theorem dL_law_310 : decode cL_law 310 = .ok (.aload_n 0, 1) := by decide +kernel
theorem dL_law_311 : decode cL_law 311 = .ok (.iload 5, 2) := by decide +kernel
theorem dL_law_313 : decode cL_law 313 = .ok (.iconst 2, 1) := by decide +kernel
theorem dL_law_314 : decode cL_law 314 = .ok (.iadd, 1) := by decide +kernel
theorem dL_law_315 : decode cL_law 315 = .ok (.iaload, 1) := by decide +kernel
theorem dL_law_316 : decode cL_law 316 = .ok (.invokevirtual 165, 3) := by decide +kernel
theorem dL_law_319 : decode cL_law 319 = .ok (.istore 7, 2) := by decide +kernel
theorem dL_law_321 : decode cL_law 321 = .ok (.aload_n 2, 1) := by decide +kernel
theorem dL_law_322 : decode cL_law 322 = .ok (.invokevirtual 159, 3) := by decide +kernel
theorem dL_law_325 : decode cL_law 325 = .ok (.iload 6, 2) := by decide +kernel
theorem dL_law_327 : decode cL_law 327 = .ok (.if_icmp .eq 5, 3) := by decide +kernel
theorem dL_law_330 : decode cL_law 330 = .ok (.iconst 0, 1) := by decide +kernel
theorem dL_law_331 : decode cL_law 331 = .ok (.ireturn, 1) := by decide +kernel
theorem dL_law_332 : decode cL_law 332 = .ok (.iload 6, 2) := by decide +kernel
theorem dL_law_334 : decode cL_law 334 = .ok (.ifCond .ne 15, 3) := by decide +kernel
theorem dL_law_337 : decode cL_law 337 = .ok (.aload_n 3, 1) := by decide +kernel
theorem dL_law_338 : decode cL_law 338 = .ok (.iconst 0, 1) := by decide +kernel
theorem dL_law_339 : decode cL_law 339 = .ok (.laload, 1) := by decide +kernel
theorem dL_law_340 : decode cL_law 340 = .ok (.iload 7, 2) := by decide +kernel
theorem dL_law_342 : decode cL_law 342 = .ok (.i2l, 1) := by decide +kernel
theorem dL_law_343 : decode cL_law 343 = .ok (.lcmp, 1) := by decide +kernel
theorem dL_law_344 : decode cL_law 344 = .ok (.ifCond .eq 5, 3) := by decide +kernel
theorem dL_law_347 : decode cL_law 347 = .ok (.iconst 0, 1) := by decide +kernel
theorem dL_law_348 : decode cL_law 348 = .ok (.ireturn, 1) := by decide +kernel
theorem dL_law_349 : decode cL_law 349 = .ok (.goto 2479, 3) := by decide +kernel
theorem dL_law_352 : decode cL_law 352 = .ok (.aload_n 1, 1) := by decide +kernel
theorem dL_law_353 : decode cL_law 353 = .ok (.aload_n 0, 1) := by decide +kernel
theorem dL_law_354 : decode cL_law 354 = .ok (.iload 5, 2) := by decide +kernel
theorem dL_law_356 : decode cL_law 356 = .ok (.iconst 1, 1) := by decide +kernel
theorem dL_law_357 : decode cL_law 357 = .ok (.iadd, 1) := by decide +kernel
theorem dL_law_358 : decode cL_law 358 = .ok (.iaload, 1) := by decide +kernel
theorem dL_law_359 : decode cL_law 359 = .ok (.aload_n 0, 1) := by decide +kernel
theorem dL_law_360 : decode cL_law 360 = .ok (.iload 5, 2) := by decide +kernel
theorem dL_law_362 : decode cL_law 362 = .ok (.iconst 2, 1) := by decide +kernel
theorem dL_law_363 : decode cL_law 363 = .ok (.iadd, 1) := by decide +kernel
theorem dL_law_364 : decode cL_law 364 = .ok (.iaload, 1) := by decide +kernel
theorem dL_law_365 : decode cL_law 365 = .ok (.aload_n 0, 1) := by decide +kernel
theorem dL_law_366 : decode cL_law 366 = .ok (.iload 5, 2) := by decide +kernel
theorem dL_law_368 : decode cL_law 368 = .ok (.iconst 3, 1) := by decide +kernel
theorem dL_law_369 : decode cL_law 369 = .ok (.iadd, 1) := by decide +kernel
theorem dL_law_370 : decode cL_law 370 = .ok (.iaload, 1) := by decide +kernel
theorem dL_law_371 : decode cL_law 371 = .ok (.aload_n 3, 1) := by decide +kernel
theorem dL_law_372 : decode cL_law 372 = .ok (.invokestatic 166, 3) := by decide +kernel
theorem dL_law_375 : decode cL_law 375 = .ok (.istore 6, 2) := by decide +kernel
theorem dL_law_377 : decode cL_law 377 = .ok (.aload_n 2, 1) := by decide +kernel
theorem dL_law_378 : decode cL_law 378 = .ok (.aload_n 0, 1) := by decide +kernel
theorem dL_law_379 : decode cL_law 379 = .ok (.iload 5, 2) := by decide +kernel
theorem dL_law_381 : decode cL_law 381 = .ok (.iconst 1, 1) := by decide +kernel
theorem dL_law_382 : decode cL_law 382 = .ok (.iadd, 1) := by decide +kernel
theorem dL_law_383 : decode cL_law 383 = .ok (.iaload, 1) := by decide +kernel
theorem dL_law_384 : decode cL_law 384 = .ok (.aload_n 0, 1) := by decide +kernel
theorem dL_law_385 : decode cL_law 385 = .ok (.iload 5, 2) := by decide +kernel
theorem dL_law_387 : decode cL_law 387 = .ok (.iconst 2, 1) := by decide +kernel
theorem dL_law_388 : decode cL_law 388 = .ok (.iadd, 1) := by decide +kernel
theorem dL_law_389 : decode cL_law 389 = .ok (.iaload, 1) := by decide +kernel
theorem dL_law_390 : decode cL_law 390 = .ok (.aload_n 0, 1) := by decide +kernel
theorem dL_law_391 : decode cL_law 391 = .ok (.iload 5, 2) := by decide +kernel
theorem dL_law_393 : decode cL_law 393 = .ok (.iconst 3, 1) := by decide +kernel
theorem dL_law_394 : decode cL_law 394 = .ok (.iadd, 1) := by decide +kernel
theorem dL_law_395 : decode cL_law 395 = .ok (.iaload, 1) := by decide +kernel
theorem dL_law_396 : decode cL_law 396 = .ok (.invokevirtual 169, 3) := by decide +kernel
theorem dL_law_399 : decode cL_law 399 = .ok (.istore 7, 2) := by decide +kernel
theorem dL_law_401 : decode cL_law 401 = .ok (.aload_n 2, 1) := by decide +kernel
theorem dL_law_402 : decode cL_law 402 = .ok (.invokevirtual 159, 3) := by decide +kernel
theorem dL_law_405 : decode cL_law 405 = .ok (.iload 6, 2) := by decide +kernel
theorem dL_law_407 : decode cL_law 407 = .ok (.if_icmp .eq 5, 3) := by decide +kernel
theorem dL_law_410 : decode cL_law 410 = .ok (.iconst 0, 1) := by decide +kernel
theorem dL_law_411 : decode cL_law 411 = .ok (.ireturn, 1) := by decide +kernel
theorem dL_law_412 : decode cL_law 412 = .ok (.iload 6, 2) := by decide +kernel
theorem dL_law_414 : decode cL_law 414 = .ok (.ifCond .ne 15, 3) := by decide +kernel
theorem dL_law_417 : decode cL_law 417 = .ok (.aload_n 3, 1) := by decide +kernel
theorem dL_law_418 : decode cL_law 418 = .ok (.iconst 0, 1) := by decide +kernel
theorem dL_law_419 : decode cL_law 419 = .ok (.laload, 1) := by decide +kernel
theorem dL_law_420 : decode cL_law 420 = .ok (.iload 7, 2) := by decide +kernel
theorem dL_law_422 : decode cL_law 422 = .ok (.i2l, 1) := by decide +kernel
theorem dL_law_423 : decode cL_law 423 = .ok (.lcmp, 1) := by decide +kernel
theorem dL_law_424 : decode cL_law 424 = .ok (.ifCond .eq 5, 3) := by decide +kernel
theorem dL_law_427 : decode cL_law 427 = .ok (.iconst 0, 1) := by decide +kernel
theorem dL_law_428 : decode cL_law 428 = .ok (.ireturn, 1) := by decide +kernel
theorem dL_law_429 : decode cL_law 429 = .ok (.goto 2399, 3) := by decide +kernel
theorem dL_law_432 : decode cL_law 432 = .ok (.aload_n 1, 1) := by decide +kernel
theorem dL_law_433 : decode cL_law 433 = .ok (.aload_n 0, 1) := by decide +kernel
theorem dL_law_434 : decode cL_law 434 = .ok (.iload 5, 2) := by decide +kernel
theorem dL_law_436 : decode cL_law 436 = .ok (.iconst 1, 1) := by decide +kernel
theorem dL_law_437 : decode cL_law 437 = .ok (.iadd, 1) := by decide +kernel
theorem dL_law_438 : decode cL_law 438 = .ok (.iaload, 1) := by decide +kernel
theorem dL_law_439 : decode cL_law 439 = .ok (.aload_n 0, 1) := by decide +kernel
theorem dL_law_440 : decode cL_law 440 = .ok (.iload 5, 2) := by decide +kernel
theorem dL_law_442 : decode cL_law 442 = .ok (.iconst 2, 1) := by decide +kernel
theorem dL_law_443 : decode cL_law 443 = .ok (.iadd, 1) := by decide +kernel
theorem dL_law_444 : decode cL_law 444 = .ok (.iaload, 1) := by decide +kernel
theorem dL_law_445 : decode cL_law 445 = .ok (.i2c, 1) := by decide +kernel
theorem dL_law_446 : decode cL_law 446 = .ok (.aload_n 0, 1) := by decide +kernel
theorem dL_law_447 : decode cL_law 447 = .ok (.iload 5, 2) := by decide +kernel
theorem dL_law_449 : decode cL_law 449 = .ok (.iconst 3, 1) := by decide +kernel
theorem dL_law_450 : decode cL_law 450 = .ok (.iadd, 1) := by decide +kernel
theorem dL_law_451 : decode cL_law 451 = .ok (.iaload, 1) := by decide +kernel
theorem dL_law_452 : decode cL_law 452 = .ok (.aload_n 3, 1) := by decide +kernel
theorem dL_law_453 : decode cL_law 453 = .ok (.invokestatic 170, 3) := by decide +kernel
theorem dL_law_456 : decode cL_law 456 = .ok (.istore 6, 2) := by decide +kernel
theorem dL_law_458 : decode cL_law 458 = .ok (.aload_n 2, 1) := by decide +kernel
theorem dL_law_459 : decode cL_law 459 = .ok (.aload_n 0, 1) := by decide +kernel
theorem dL_law_460 : decode cL_law 460 = .ok (.iload 5, 2) := by decide +kernel
theorem dL_law_462 : decode cL_law 462 = .ok (.iconst 1, 1) := by decide +kernel
theorem dL_law_463 : decode cL_law 463 = .ok (.iadd, 1) := by decide +kernel
theorem dL_law_464 : decode cL_law 464 = .ok (.iaload, 1) := by decide +kernel
theorem dL_law_465 : decode cL_law 465 = .ok (.aload_n 0, 1) := by decide +kernel
theorem dL_law_466 : decode cL_law 466 = .ok (.iload 5, 2) := by decide +kernel
theorem dL_law_468 : decode cL_law 468 = .ok (.iconst 2, 1) := by decide +kernel
theorem dL_law_469 : decode cL_law 469 = .ok (.iadd, 1) := by decide +kernel
theorem dL_law_470 : decode cL_law 470 = .ok (.iaload, 1) := by decide +kernel
theorem dL_law_471 : decode cL_law 471 = .ok (.i2c, 1) := by decide +kernel
theorem dL_law_472 : decode cL_law 472 = .ok (.aload_n 0, 1) := by decide +kernel
theorem dL_law_473 : decode cL_law 473 = .ok (.iload 5, 2) := by decide +kernel
theorem dL_law_475 : decode cL_law 475 = .ok (.iconst 3, 1) := by decide +kernel
theorem dL_law_476 : decode cL_law 476 = .ok (.iadd, 1) := by decide +kernel
theorem dL_law_477 : decode cL_law 477 = .ok (.iaload, 1) := by decide +kernel
theorem dL_law_478 : decode cL_law 478 = .ok (.invokevirtual 173, 3) := by decide +kernel
theorem dL_law_481 : decode cL_law 481 = .ok (.istore 7, 2) := by decide +kernel
theorem dL_law_483 : decode cL_law 483 = .ok (.aload_n 2, 1) := by decide +kernel
theorem dL_law_484 : decode cL_law 484 = .ok (.invokevirtual 159, 3) := by decide +kernel
theorem dL_law_487 : decode cL_law 487 = .ok (.iload 6, 2) := by decide +kernel
theorem dL_law_489 : decode cL_law 489 = .ok (.if_icmp .eq 5, 3) := by decide +kernel
theorem dL_law_492 : decode cL_law 492 = .ok (.iconst 0, 1) := by decide +kernel
theorem dL_law_493 : decode cL_law 493 = .ok (.ireturn, 1) := by decide +kernel
theorem dL_law_494 : decode cL_law 494 = .ok (.iload 6, 2) := by decide +kernel
theorem dL_law_496 : decode cL_law 496 = .ok (.ifCond .ne 22, 3) := by decide +kernel
theorem dL_law_499 : decode cL_law 499 = .ok (.aload_n 3, 1) := by decide +kernel
theorem dL_law_500 : decode cL_law 500 = .ok (.iconst 0, 1) := by decide +kernel
theorem dL_law_501 : decode cL_law 501 = .ok (.laload, 1) := by decide +kernel
theorem dL_law_502 : decode cL_law 502 = .ok (.iload 7, 2) := by decide +kernel
theorem dL_law_504 : decode cL_law 504 = .ok (.ifCond .eq 7, 3) := by decide +kernel
theorem dL_law_507 : decode cL_law 507 = .ok (.lconst 1, 1) := by decide +kernel
theorem dL_law_508 : decode cL_law 508 = .ok (.goto 4, 3) := by decide +kernel
theorem dL_law_511 : decode cL_law 511 = .ok (.lconst 0, 1) := by decide +kernel
theorem dL_law_512 : decode cL_law 512 = .ok (.lcmp, 1) := by decide +kernel
theorem dL_law_513 : decode cL_law 513 = .ok (.ifCond .eq 5, 3) := by decide +kernel
theorem dL_law_516 : decode cL_law 516 = .ok (.iconst 0, 1) := by decide +kernel
theorem dL_law_517 : decode cL_law 517 = .ok (.ireturn, 1) := by decide +kernel
theorem dL_law_518 : decode cL_law 518 = .ok (.goto 2310, 3) := by decide +kernel
theorem dL_law_521 : decode cL_law 521 = .ok (.aload_n 1, 1) := by decide +kernel
theorem dL_law_522 : decode cL_law 522 = .ok (.aload_n 0, 1) := by decide +kernel
theorem dL_law_523 : decode cL_law 523 = .ok (.iload 5, 2) := by decide +kernel
theorem dL_law_525 : decode cL_law 525 = .ok (.iconst 1, 1) := by decide +kernel
theorem dL_law_526 : decode cL_law 526 = .ok (.iadd, 1) := by decide +kernel
theorem dL_law_527 : decode cL_law 527 = .ok (.iaload, 1) := by decide +kernel
theorem dL_law_528 : decode cL_law 528 = .ok (.aload_n 0, 1) := by decide +kernel
theorem dL_law_529 : decode cL_law 529 = .ok (.iload 5, 2) := by decide +kernel
theorem dL_law_531 : decode cL_law 531 = .ok (.iconst 2, 1) := by decide +kernel
theorem dL_law_532 : decode cL_law 532 = .ok (.iadd, 1) := by decide +kernel
theorem dL_law_533 : decode cL_law 533 = .ok (.iaload, 1) := by decide +kernel
theorem dL_law_534 : decode cL_law 534 = .ok (.aload_n 3, 1) := by decide +kernel
theorem dL_law_535 : decode cL_law 535 = .ok (.invokestatic 174, 3) := by decide +kernel
theorem dL_law_538 : decode cL_law 538 = .ok (.istore 6, 2) := by decide +kernel
theorem dL_law_540 : decode cL_law 540 = .ok (.aload_n 2, 1) := by decide +kernel
theorem dL_law_541 : decode cL_law 541 = .ok (.aload_n 0, 1) := by decide +kernel
theorem dL_law_542 : decode cL_law 542 = .ok (.iload 5, 2) := by decide +kernel
theorem dL_law_544 : decode cL_law 544 = .ok (.iconst 1, 1) := by decide +kernel
theorem dL_law_545 : decode cL_law 545 = .ok (.iadd, 1) := by decide +kernel
theorem dL_law_546 : decode cL_law 546 = .ok (.iaload, 1) := by decide +kernel
theorem dL_law_547 : decode cL_law 547 = .ok (.aload_n 0, 1) := by decide +kernel
theorem dL_law_548 : decode cL_law 548 = .ok (.iload 5, 2) := by decide +kernel
theorem dL_law_550 : decode cL_law 550 = .ok (.iconst 2, 1) := by decide +kernel
theorem dL_law_551 : decode cL_law 551 = .ok (.iadd, 1) := by decide +kernel
theorem dL_law_552 : decode cL_law 552 = .ok (.iaload, 1) := by decide +kernel
theorem dL_law_553 : decode cL_law 553 = .ok (.invokevirtual 176, 3) := by decide +kernel
theorem dL_law_556 : decode cL_law 556 = .ok (.istore 7, 2) := by decide +kernel
theorem dL_law_558 : decode cL_law 558 = .ok (.aload_n 2, 1) := by decide +kernel
theorem dL_law_559 : decode cL_law 559 = .ok (.invokevirtual 159, 3) := by decide +kernel
theorem dL_law_562 : decode cL_law 562 = .ok (.iload 6, 2) := by decide +kernel
theorem dL_law_564 : decode cL_law 564 = .ok (.if_icmp .eq 5, 3) := by decide +kernel
theorem dL_law_567 : decode cL_law 567 = .ok (.iconst 0, 1) := by decide +kernel
theorem dL_law_568 : decode cL_law 568 = .ok (.ireturn, 1) := by decide +kernel
theorem dL_law_569 : decode cL_law 569 = .ok (.iload 6, 2) := by decide +kernel
theorem dL_law_571 : decode cL_law 571 = .ok (.ifCond .ne 15, 3) := by decide +kernel
theorem dL_law_574 : decode cL_law 574 = .ok (.aload_n 3, 1) := by decide +kernel
theorem dL_law_575 : decode cL_law 575 = .ok (.iconst 0, 1) := by decide +kernel
theorem dL_law_576 : decode cL_law 576 = .ok (.laload, 1) := by decide +kernel
theorem dL_law_577 : decode cL_law 577 = .ok (.iload 7, 2) := by decide +kernel
theorem dL_law_579 : decode cL_law 579 = .ok (.i2l, 1) := by decide +kernel
theorem dL_law_580 : decode cL_law 580 = .ok (.lcmp, 1) := by decide +kernel
theorem dL_law_581 : decode cL_law 581 = .ok (.ifCond .eq 5, 3) := by decide +kernel
theorem dL_law_584 : decode cL_law 584 = .ok (.iconst 0, 1) := by decide +kernel
theorem dL_law_585 : decode cL_law 585 = .ok (.ireturn, 1) := by decide +kernel
theorem dL_law_586 : decode cL_law 586 = .ok (.goto 2242, 3) := by decide +kernel
theorem dL_law_589 : decode cL_law 589 = .ok (.aload_n 1, 1) := by decide +kernel
theorem dL_law_590 : decode cL_law 590 = .ok (.aload_n 0, 1) := by decide +kernel
theorem dL_law_591 : decode cL_law 591 = .ok (.iload 5, 2) := by decide +kernel
theorem dL_law_593 : decode cL_law 593 = .ok (.iconst 1, 1) := by decide +kernel
theorem dL_law_594 : decode cL_law 594 = .ok (.iadd, 1) := by decide +kernel
theorem dL_law_595 : decode cL_law 595 = .ok (.iaload, 1) := by decide +kernel
theorem dL_law_596 : decode cL_law 596 = .ok (.aload_n 3, 1) := by decide +kernel
theorem dL_law_597 : decode cL_law 597 = .ok (.invokestatic 177, 3) := by decide +kernel
theorem dL_law_600 : decode cL_law 600 = .ok (.istore 6, 2) := by decide +kernel
theorem dL_law_602 : decode cL_law 602 = .ok (.aload_n 2, 1) := by decide +kernel
theorem dL_law_603 : decode cL_law 603 = .ok (.aload_n 0, 1) := by decide +kernel
theorem dL_law_604 : decode cL_law 604 = .ok (.iload 5, 2) := by decide +kernel
theorem dL_law_606 : decode cL_law 606 = .ok (.iconst 1, 1) := by decide +kernel
theorem dL_law_607 : decode cL_law 607 = .ok (.iadd, 1) := by decide +kernel
theorem dL_law_608 : decode cL_law 608 = .ok (.iaload, 1) := by decide +kernel
theorem dL_law_609 : decode cL_law 609 = .ok (.invokevirtual 180, 3) := by decide +kernel
theorem dL_law_612 : decode cL_law 612 = .ok (.istore 7, 2) := by decide +kernel
theorem dL_law_614 : decode cL_law 614 = .ok (.aload_n 2, 1) := by decide +kernel
theorem dL_law_615 : decode cL_law 615 = .ok (.invokevirtual 159, 3) := by decide +kernel
theorem dL_law_618 : decode cL_law 618 = .ok (.iload 6, 2) := by decide +kernel
theorem dL_law_620 : decode cL_law 620 = .ok (.if_icmp .eq 5, 3) := by decide +kernel
theorem dL_law_623 : decode cL_law 623 = .ok (.iconst 0, 1) := by decide +kernel
theorem dL_law_624 : decode cL_law 624 = .ok (.ireturn, 1) := by decide +kernel
theorem dL_law_625 : decode cL_law 625 = .ok (.iload 6, 2) := by decide +kernel
theorem dL_law_627 : decode cL_law 627 = .ok (.ifCond .ne 15, 3) := by decide +kernel
theorem dL_law_630 : decode cL_law 630 = .ok (.aload_n 3, 1) := by decide +kernel
theorem dL_law_631 : decode cL_law 631 = .ok (.iconst 0, 1) := by decide +kernel
theorem dL_law_632 : decode cL_law 632 = .ok (.laload, 1) := by decide +kernel
theorem dL_law_633 : decode cL_law 633 = .ok (.iload 7, 2) := by decide +kernel
theorem dL_law_635 : decode cL_law 635 = .ok (.i2l, 1) := by decide +kernel
theorem dL_law_636 : decode cL_law 636 = .ok (.lcmp, 1) := by decide +kernel
theorem dL_law_637 : decode cL_law 637 = .ok (.ifCond .eq 5, 3) := by decide +kernel
theorem dL_law_640 : decode cL_law 640 = .ok (.iconst 0, 1) := by decide +kernel
theorem dL_law_641 : decode cL_law 641 = .ok (.ireturn, 1) := by decide +kernel
theorem dL_law_642 : decode cL_law 642 = .ok (.goto 2186, 3) := by decide +kernel
theorem dL_law_645 : decode cL_law 645 = .ok (.aload_n 1, 1) := by decide +kernel
theorem dL_law_646 : decode cL_law 646 = .ok (.aload_n 0, 1) := by decide +kernel
theorem dL_law_647 : decode cL_law 647 = .ok (.iload 5, 2) := by decide +kernel
theorem dL_law_649 : decode cL_law 649 = .ok (.iconst 1, 1) := by decide +kernel
theorem dL_law_650 : decode cL_law 650 = .ok (.iadd, 1) := by decide +kernel
theorem dL_law_651 : decode cL_law 651 = .ok (.iaload, 1) := by decide +kernel
theorem dL_law_652 : decode cL_law 652 = .ok (.aload_n 3, 1) := by decide +kernel
theorem dL_law_653 : decode cL_law 653 = .ok (.invokestatic 181, 3) := by decide +kernel
theorem dL_law_656 : decode cL_law 656 = .ok (.istore 6, 2) := by decide +kernel
theorem dL_law_658 : decode cL_law 658 = .ok (.aload_n 2, 1) := by decide +kernel
theorem dL_law_659 : decode cL_law 659 = .ok (.aload_n 0, 1) := by decide +kernel
theorem dL_law_660 : decode cL_law 660 = .ok (.iload 5, 2) := by decide +kernel
theorem dL_law_662 : decode cL_law 662 = .ok (.iconst 1, 1) := by decide +kernel
theorem dL_law_663 : decode cL_law 663 = .ok (.iadd, 1) := by decide +kernel
theorem dL_law_664 : decode cL_law 664 = .ok (.iaload, 1) := by decide +kernel
theorem dL_law_665 : decode cL_law 665 = .ok (.invokevirtual 183, 3) := by decide +kernel
theorem dL_law_668 : decode cL_law 668 = .ok (.istore 7, 2) := by decide +kernel
theorem dL_law_670 : decode cL_law 670 = .ok (.aload_n 2, 1) := by decide +kernel
theorem dL_law_671 : decode cL_law 671 = .ok (.invokevirtual 159, 3) := by decide +kernel
theorem dL_law_674 : decode cL_law 674 = .ok (.iload 6, 2) := by decide +kernel
theorem dL_law_676 : decode cL_law 676 = .ok (.if_icmp .eq 5, 3) := by decide +kernel
theorem dL_law_679 : decode cL_law 679 = .ok (.iconst 0, 1) := by decide +kernel
theorem dL_law_680 : decode cL_law 680 = .ok (.ireturn, 1) := by decide +kernel
theorem dL_law_681 : decode cL_law 681 = .ok (.iload 6, 2) := by decide +kernel
theorem dL_law_683 : decode cL_law 683 = .ok (.ifCond .ne 15, 3) := by decide +kernel
theorem dL_law_686 : decode cL_law 686 = .ok (.aload_n 3, 1) := by decide +kernel
theorem dL_law_687 : decode cL_law 687 = .ok (.iconst 0, 1) := by decide +kernel
theorem dL_law_688 : decode cL_law 688 = .ok (.laload, 1) := by decide +kernel
theorem dL_law_689 : decode cL_law 689 = .ok (.iload 7, 2) := by decide +kernel
theorem dL_law_691 : decode cL_law 691 = .ok (.i2l, 1) := by decide +kernel
theorem dL_law_692 : decode cL_law 692 = .ok (.lcmp, 1) := by decide +kernel
theorem dL_law_693 : decode cL_law 693 = .ok (.ifCond .eq 5, 3) := by decide +kernel
theorem dL_law_696 : decode cL_law 696 = .ok (.iconst 0, 1) := by decide +kernel
theorem dL_law_697 : decode cL_law 697 = .ok (.ireturn, 1) := by decide +kernel
theorem dL_law_698 : decode cL_law 698 = .ok (.goto 2130, 3) := by decide +kernel
theorem dL_law_701 : decode cL_law 701 = .ok (.aload_n 1, 1) := by decide +kernel
theorem dL_law_702 : decode cL_law 702 = .ok (.aload_n 0, 1) := by decide +kernel
theorem dL_law_703 : decode cL_law 703 = .ok (.iload 5, 2) := by decide +kernel
theorem dL_law_705 : decode cL_law 705 = .ok (.iconst 1, 1) := by decide +kernel
theorem dL_law_706 : decode cL_law 706 = .ok (.iadd, 1) := by decide +kernel
theorem dL_law_707 : decode cL_law 707 = .ok (.iaload, 1) := by decide +kernel
theorem dL_law_708 : decode cL_law 708 = .ok (.aload_n 3, 1) := by decide +kernel
theorem dL_law_709 : decode cL_law 709 = .ok (.invokestatic 184, 3) := by decide +kernel
theorem dL_law_712 : decode cL_law 712 = .ok (.istore 6, 2) := by decide +kernel
theorem dL_law_714 : decode cL_law 714 = .ok (.aload_n 2, 1) := by decide +kernel
theorem dL_law_715 : decode cL_law 715 = .ok (.aload_n 0, 1) := by decide +kernel
theorem dL_law_716 : decode cL_law 716 = .ok (.iload 5, 2) := by decide +kernel
theorem dL_law_718 : decode cL_law 718 = .ok (.iconst 1, 1) := by decide +kernel
theorem dL_law_719 : decode cL_law 719 = .ok (.iadd, 1) := by decide +kernel
theorem dL_law_720 : decode cL_law 720 = .ok (.iaload, 1) := by decide +kernel
theorem dL_law_721 : decode cL_law 721 = .ok (.invokevirtual 186, 3) := by decide +kernel
theorem dL_law_724 : decode cL_law 724 = .ok (.istore 7, 2) := by decide +kernel
theorem dL_law_726 : decode cL_law 726 = .ok (.aload_n 2, 1) := by decide +kernel
theorem dL_law_727 : decode cL_law 727 = .ok (.invokevirtual 159, 3) := by decide +kernel
theorem dL_law_730 : decode cL_law 730 = .ok (.iload 6, 2) := by decide +kernel
theorem dL_law_732 : decode cL_law 732 = .ok (.if_icmp .eq 5, 3) := by decide +kernel
theorem dL_law_735 : decode cL_law 735 = .ok (.iconst 0, 1) := by decide +kernel
theorem dL_law_736 : decode cL_law 736 = .ok (.ireturn, 1) := by decide +kernel
theorem dL_law_737 : decode cL_law 737 = .ok (.iload 6, 2) := by decide +kernel
theorem dL_law_739 : decode cL_law 739 = .ok (.ifCond .ne 15, 3) := by decide +kernel
theorem dL_law_742 : decode cL_law 742 = .ok (.aload_n 3, 1) := by decide +kernel
theorem dL_law_743 : decode cL_law 743 = .ok (.iconst 0, 1) := by decide +kernel
theorem dL_law_744 : decode cL_law 744 = .ok (.laload, 1) := by decide +kernel
theorem dL_law_745 : decode cL_law 745 = .ok (.iload 7, 2) := by decide +kernel
theorem dL_law_747 : decode cL_law 747 = .ok (.i2l, 1) := by decide +kernel
theorem dL_law_748 : decode cL_law 748 = .ok (.lcmp, 1) := by decide +kernel
theorem dL_law_749 : decode cL_law 749 = .ok (.ifCond .eq 5, 3) := by decide +kernel
theorem dL_law_752 : decode cL_law 752 = .ok (.iconst 0, 1) := by decide +kernel
theorem dL_law_753 : decode cL_law 753 = .ok (.ireturn, 1) := by decide +kernel
theorem dL_law_754 : decode cL_law 754 = .ok (.goto 2074, 3) := by decide +kernel
theorem dL_law_757 : decode cL_law 757 = .ok (.aload_n 1, 1) := by decide +kernel
theorem dL_law_758 : decode cL_law 758 = .ok (.aload_n 0, 1) := by decide +kernel
theorem dL_law_759 : decode cL_law 759 = .ok (.iload 5, 2) := by decide +kernel
theorem dL_law_761 : decode cL_law 761 = .ok (.iconst 1, 1) := by decide +kernel
theorem dL_law_762 : decode cL_law 762 = .ok (.iadd, 1) := by decide +kernel
theorem dL_law_763 : decode cL_law 763 = .ok (.iaload, 1) := by decide +kernel
theorem dL_law_764 : decode cL_law 764 = .ok (.aload_n 3, 1) := by decide +kernel
theorem dL_law_765 : decode cL_law 765 = .ok (.invokestatic 187, 3) := by decide +kernel
theorem dL_law_768 : decode cL_law 768 = .ok (.istore 6, 2) := by decide +kernel
theorem dL_law_770 : decode cL_law 770 = .ok (.aload_n 2, 1) := by decide +kernel
theorem dL_law_771 : decode cL_law 771 = .ok (.aload_n 0, 1) := by decide +kernel
theorem dL_law_772 : decode cL_law 772 = .ok (.iload 5, 2) := by decide +kernel
theorem dL_law_774 : decode cL_law 774 = .ok (.iconst 1, 1) := by decide +kernel
theorem dL_law_775 : decode cL_law 775 = .ok (.iadd, 1) := by decide +kernel
theorem dL_law_776 : decode cL_law 776 = .ok (.iaload, 1) := by decide +kernel
theorem dL_law_777 : decode cL_law 777 = .ok (.invokevirtual 189, 3) := by decide +kernel
theorem dL_law_780 : decode cL_law 780 = .ok (.istore 7, 2) := by decide +kernel
theorem dL_law_782 : decode cL_law 782 = .ok (.aload_n 2, 1) := by decide +kernel
theorem dL_law_783 : decode cL_law 783 = .ok (.invokevirtual 159, 3) := by decide +kernel
theorem dL_law_786 : decode cL_law 786 = .ok (.iload 6, 2) := by decide +kernel
theorem dL_law_788 : decode cL_law 788 = .ok (.if_icmp .eq 5, 3) := by decide +kernel
theorem dL_law_791 : decode cL_law 791 = .ok (.iconst 0, 1) := by decide +kernel
theorem dL_law_792 : decode cL_law 792 = .ok (.ireturn, 1) := by decide +kernel
theorem dL_law_793 : decode cL_law 793 = .ok (.iload 6, 2) := by decide +kernel
theorem dL_law_795 : decode cL_law 795 = .ok (.ifCond .ne 15, 3) := by decide +kernel
theorem dL_law_798 : decode cL_law 798 = .ok (.aload_n 3, 1) := by decide +kernel
theorem dL_law_799 : decode cL_law 799 = .ok (.iconst 0, 1) := by decide +kernel
theorem dL_law_800 : decode cL_law 800 = .ok (.laload, 1) := by decide +kernel
theorem dL_law_801 : decode cL_law 801 = .ok (.iload 7, 2) := by decide +kernel
theorem dL_law_803 : decode cL_law 803 = .ok (.i2l, 1) := by decide +kernel
theorem dL_law_804 : decode cL_law 804 = .ok (.lcmp, 1) := by decide +kernel
theorem dL_law_805 : decode cL_law 805 = .ok (.ifCond .eq 5, 3) := by decide +kernel
theorem dL_law_808 : decode cL_law 808 = .ok (.iconst 0, 1) := by decide +kernel
theorem dL_law_809 : decode cL_law 809 = .ok (.ireturn, 1) := by decide +kernel
theorem dL_law_810 : decode cL_law 810 = .ok (.goto 2018, 3) := by decide +kernel
theorem dL_law_813 : decode cL_law 813 = .ok (.aload_n 1, 1) := by decide +kernel
theorem dL_law_814 : decode cL_law 814 = .ok (.aload_n 0, 1) := by decide +kernel
theorem dL_law_815 : decode cL_law 815 = .ok (.iload 5, 2) := by decide +kernel
theorem dL_law_817 : decode cL_law 817 = .ok (.iconst 1, 1) := by decide +kernel
theorem dL_law_818 : decode cL_law 818 = .ok (.iadd, 1) := by decide +kernel
theorem dL_law_819 : decode cL_law 819 = .ok (.iaload, 1) := by decide +kernel
theorem dL_law_820 : decode cL_law 820 = .ok (.aload_n 3, 1) := by decide +kernel
theorem dL_law_821 : decode cL_law 821 = .ok (.invokestatic 190, 3) := by decide +kernel
theorem dL_law_824 : decode cL_law 824 = .ok (.istore 6, 2) := by decide +kernel
theorem dL_law_826 : decode cL_law 826 = .ok (.aload_n 2, 1) := by decide +kernel
theorem dL_law_827 : decode cL_law 827 = .ok (.aload_n 0, 1) := by decide +kernel
theorem dL_law_828 : decode cL_law 828 = .ok (.iload 5, 2) := by decide +kernel
theorem dL_law_830 : decode cL_law 830 = .ok (.iconst 1, 1) := by decide +kernel
theorem dL_law_831 : decode cL_law 831 = .ok (.iadd, 1) := by decide +kernel
theorem dL_law_832 : decode cL_law 832 = .ok (.iaload, 1) := by decide +kernel
theorem dL_law_833 : decode cL_law 833 = .ok (.invokevirtual 192, 3) := by decide +kernel
theorem dL_law_836 : decode cL_law 836 = .ok (.istore 7, 2) := by decide +kernel
theorem dL_law_838 : decode cL_law 838 = .ok (.aload_n 2, 1) := by decide +kernel
theorem dL_law_839 : decode cL_law 839 = .ok (.invokevirtual 159, 3) := by decide +kernel
theorem dL_law_842 : decode cL_law 842 = .ok (.iload 6, 2) := by decide +kernel
theorem dL_law_844 : decode cL_law 844 = .ok (.if_icmp .eq 5, 3) := by decide +kernel
theorem dL_law_847 : decode cL_law 847 = .ok (.iconst 0, 1) := by decide +kernel
theorem dL_law_848 : decode cL_law 848 = .ok (.ireturn, 1) := by decide +kernel
theorem dL_law_849 : decode cL_law 849 = .ok (.iload 6, 2) := by decide +kernel
theorem dL_law_851 : decode cL_law 851 = .ok (.ifCond .ne 15, 3) := by decide +kernel
theorem dL_law_854 : decode cL_law 854 = .ok (.aload_n 3, 1) := by decide +kernel
theorem dL_law_855 : decode cL_law 855 = .ok (.iconst 0, 1) := by decide +kernel
theorem dL_law_856 : decode cL_law 856 = .ok (.laload, 1) := by decide +kernel
theorem dL_law_857 : decode cL_law 857 = .ok (.iload 7, 2) := by decide +kernel
theorem dL_law_859 : decode cL_law 859 = .ok (.i2l, 1) := by decide +kernel
theorem dL_law_860 : decode cL_law 860 = .ok (.lcmp, 1) := by decide +kernel
theorem dL_law_861 : decode cL_law 861 = .ok (.ifCond .eq 5, 3) := by decide +kernel
theorem dL_law_864 : decode cL_law 864 = .ok (.iconst 0, 1) := by decide +kernel
theorem dL_law_865 : decode cL_law 865 = .ok (.ireturn, 1) := by decide +kernel
theorem dL_law_866 : decode cL_law 866 = .ok (.goto 1962, 3) := by decide +kernel
theorem dL_law_869 : decode cL_law 869 = .ok (.aload_n 1, 1) := by decide +kernel
theorem dL_law_870 : decode cL_law 870 = .ok (.aload_n 0, 1) := by decide +kernel
theorem dL_law_871 : decode cL_law 871 = .ok (.iload 5, 2) := by decide +kernel
theorem dL_law_873 : decode cL_law 873 = .ok (.iconst 1, 1) := by decide +kernel
theorem dL_law_874 : decode cL_law 874 = .ok (.iadd, 1) := by decide +kernel
theorem dL_law_875 : decode cL_law 875 = .ok (.iaload, 1) := by decide +kernel
theorem dL_law_876 : decode cL_law 876 = .ok (.aload_n 3, 1) := by decide +kernel
theorem dL_law_877 : decode cL_law 877 = .ok (.invokestatic 193, 3) := by decide +kernel
theorem dL_law_880 : decode cL_law 880 = .ok (.istore 6, 2) := by decide +kernel
theorem dL_law_882 : decode cL_law 882 = .ok (.aload_n 2, 1) := by decide +kernel
theorem dL_law_883 : decode cL_law 883 = .ok (.aload_n 0, 1) := by decide +kernel
theorem dL_law_884 : decode cL_law 884 = .ok (.iload 5, 2) := by decide +kernel
theorem dL_law_886 : decode cL_law 886 = .ok (.iconst 1, 1) := by decide +kernel
theorem dL_law_887 : decode cL_law 887 = .ok (.iadd, 1) := by decide +kernel
theorem dL_law_888 : decode cL_law 888 = .ok (.iaload, 1) := by decide +kernel
theorem dL_law_889 : decode cL_law 889 = .ok (.invokevirtual 195, 3) := by decide +kernel
theorem dL_law_892 : decode cL_law 892 = .ok (.istore 7, 2) := by decide +kernel
theorem dL_law_894 : decode cL_law 894 = .ok (.aload_n 2, 1) := by decide +kernel
theorem dL_law_895 : decode cL_law 895 = .ok (.invokevirtual 159, 3) := by decide +kernel
theorem dL_law_898 : decode cL_law 898 = .ok (.iload 6, 2) := by decide +kernel
theorem dL_law_900 : decode cL_law 900 = .ok (.if_icmp .eq 5, 3) := by decide +kernel
theorem dL_law_903 : decode cL_law 903 = .ok (.iconst 0, 1) := by decide +kernel
theorem dL_law_904 : decode cL_law 904 = .ok (.ireturn, 1) := by decide +kernel
theorem dL_law_905 : decode cL_law 905 = .ok (.iload 6, 2) := by decide +kernel
theorem dL_law_907 : decode cL_law 907 = .ok (.ifCond .ne 22, 3) := by decide +kernel
theorem dL_law_910 : decode cL_law 910 = .ok (.aload_n 3, 1) := by decide +kernel
theorem dL_law_911 : decode cL_law 911 = .ok (.iconst 0, 1) := by decide +kernel
theorem dL_law_912 : decode cL_law 912 = .ok (.laload, 1) := by decide +kernel
theorem dL_law_913 : decode cL_law 913 = .ok (.iload 7, 2) := by decide +kernel
theorem dL_law_915 : decode cL_law 915 = .ok (.ifCond .eq 7, 3) := by decide +kernel
theorem dL_law_918 : decode cL_law 918 = .ok (.lconst 1, 1) := by decide +kernel
theorem dL_law_919 : decode cL_law 919 = .ok (.goto 4, 3) := by decide +kernel
theorem dL_law_922 : decode cL_law 922 = .ok (.lconst 0, 1) := by decide +kernel
theorem dL_law_923 : decode cL_law 923 = .ok (.lcmp, 1) := by decide +kernel
theorem dL_law_924 : decode cL_law 924 = .ok (.ifCond .eq 5, 3) := by decide +kernel
theorem dL_law_927 : decode cL_law 927 = .ok (.iconst 0, 1) := by decide +kernel
theorem dL_law_928 : decode cL_law 928 = .ok (.ireturn, 1) := by decide +kernel
theorem dL_law_929 : decode cL_law 929 = .ok (.goto 1899, 3) := by decide +kernel
theorem dL_law_932 : decode cL_law 932 = .ok (.aload_n 1, 1) := by decide +kernel
theorem dL_law_933 : decode cL_law 933 = .ok (.aload_n 0, 1) := by decide +kernel
theorem dL_law_934 : decode cL_law 934 = .ok (.iload 5, 2) := by decide +kernel
theorem dL_law_936 : decode cL_law 936 = .ok (.iconst 1, 1) := by decide +kernel
theorem dL_law_937 : decode cL_law 937 = .ok (.iadd, 1) := by decide +kernel
theorem dL_law_938 : decode cL_law 938 = .ok (.iaload, 1) := by decide +kernel
theorem dL_law_939 : decode cL_law 939 = .ok (.aload_n 3, 1) := by decide +kernel
theorem dL_law_940 : decode cL_law 940 = .ok (.invokestatic 196, 3) := by decide +kernel
theorem dL_law_943 : decode cL_law 943 = .ok (.istore 6, 2) := by decide +kernel
theorem dL_law_945 : decode cL_law 945 = .ok (.aload_n 2, 1) := by decide +kernel
theorem dL_law_946 : decode cL_law 946 = .ok (.aload_n 0, 1) := by decide +kernel
theorem dL_law_947 : decode cL_law 947 = .ok (.iload 5, 2) := by decide +kernel
theorem dL_law_949 : decode cL_law 949 = .ok (.iconst 1, 1) := by decide +kernel
theorem dL_law_950 : decode cL_law 950 = .ok (.iadd, 1) := by decide +kernel
theorem dL_law_951 : decode cL_law 951 = .ok (.iaload, 1) := by decide +kernel
theorem dL_law_952 : decode cL_law 952 = .ok (.invokevirtual 198, 3) := by decide +kernel
theorem dL_law_955 : decode cL_law 955 = .ok (.istore 7, 2) := by decide +kernel
theorem dL_law_957 : decode cL_law 957 = .ok (.aload_n 2, 1) := by decide +kernel
theorem dL_law_958 : decode cL_law 958 = .ok (.invokevirtual 159, 3) := by decide +kernel
theorem dL_law_961 : decode cL_law 961 = .ok (.iload 6, 2) := by decide +kernel
theorem dL_law_963 : decode cL_law 963 = .ok (.if_icmp .eq 5, 3) := by decide +kernel
theorem dL_law_966 : decode cL_law 966 = .ok (.iconst 0, 1) := by decide +kernel
theorem dL_law_967 : decode cL_law 967 = .ok (.ireturn, 1) := by decide +kernel
theorem dL_law_968 : decode cL_law 968 = .ok (.iload 6, 2) := by decide +kernel
theorem dL_law_970 : decode cL_law 970 = .ok (.ifCond .ne 22, 3) := by decide +kernel
theorem dL_law_973 : decode cL_law 973 = .ok (.aload_n 3, 1) := by decide +kernel
theorem dL_law_974 : decode cL_law 974 = .ok (.iconst 0, 1) := by decide +kernel
theorem dL_law_975 : decode cL_law 975 = .ok (.laload, 1) := by decide +kernel
theorem dL_law_976 : decode cL_law 976 = .ok (.iload 7, 2) := by decide +kernel
theorem dL_law_978 : decode cL_law 978 = .ok (.ifCond .eq 7, 3) := by decide +kernel
theorem dL_law_981 : decode cL_law 981 = .ok (.lconst 1, 1) := by decide +kernel
theorem dL_law_982 : decode cL_law 982 = .ok (.goto 4, 3) := by decide +kernel
theorem dL_law_985 : decode cL_law 985 = .ok (.lconst 0, 1) := by decide +kernel
theorem dL_law_986 : decode cL_law 986 = .ok (.lcmp, 1) := by decide +kernel
theorem dL_law_987 : decode cL_law 987 = .ok (.ifCond .eq 5, 3) := by decide +kernel
theorem dL_law_990 : decode cL_law 990 = .ok (.iconst 0, 1) := by decide +kernel
theorem dL_law_991 : decode cL_law 991 = .ok (.ireturn, 1) := by decide +kernel
theorem dL_law_992 : decode cL_law 992 = .ok (.goto 1836, 3) := by decide +kernel
theorem dL_law_995 : decode cL_law 995 = .ok (.aload_n 1, 1) := by decide +kernel
theorem dL_law_996 : decode cL_law 996 = .ok (.aload_n 0, 1) := by decide +kernel
theorem dL_law_997 : decode cL_law 997 = .ok (.iload 5, 2) := by decide +kernel
theorem dL_law_999 : decode cL_law 999 = .ok (.iconst 1, 1) := by decide +kernel
theorem dL_law_1000 : decode cL_law 1000 = .ok (.iadd, 1) := by decide +kernel
theorem dL_law_1001 : decode cL_law 1001 = .ok (.iaload, 1) := by decide +kernel
theorem dL_law_1002 : decode cL_law 1002 = .ok (.aload_n 0, 1) := by decide +kernel
theorem dL_law_1003 : decode cL_law 1003 = .ok (.iload 5, 2) := by decide +kernel
theorem dL_law_1005 : decode cL_law 1005 = .ok (.iconst 2, 1) := by decide +kernel
theorem dL_law_1006 : decode cL_law 1006 = .ok (.iadd, 1) := by decide +kernel
theorem dL_law_1007 : decode cL_law 1007 = .ok (.iaload, 1) := by decide +kernel
theorem dL_law_1008 : decode cL_law 1008 = .ok (.aload_n 3, 1) := by decide +kernel
theorem dL_law_1009 : decode cL_law 1009 = .ok (.invokestatic 199, 3) := by decide +kernel
theorem dL_law_1012 : decode cL_law 1012 = .ok (.istore 6, 2) := by decide +kernel
theorem dL_law_1014 : decode cL_law 1014 = .ok (.aload_n 2, 1) := by decide +kernel
theorem dL_law_1015 : decode cL_law 1015 = .ok (.aload_n 0, 1) := by decide +kernel
theorem dL_law_1016 : decode cL_law 1016 = .ok (.iload 5, 2) := by decide +kernel
theorem dL_law_1018 : decode cL_law 1018 = .ok (.iconst 1, 1) := by decide +kernel
theorem dL_law_1019 : decode cL_law 1019 = .ok (.iadd, 1) := by decide +kernel
theorem dL_law_1020 : decode cL_law 1020 = .ok (.iaload, 1) := by decide +kernel
theorem dL_law_1021 : decode cL_law 1021 = .ok (.aload_n 0, 1) := by decide +kernel
theorem dL_law_1022 : decode cL_law 1022 = .ok (.iload 5, 2) := by decide +kernel
theorem dL_law_1024 : decode cL_law 1024 = .ok (.iconst 2, 1) := by decide +kernel
theorem dL_law_1025 : decode cL_law 1025 = .ok (.iadd, 1) := by decide +kernel
theorem dL_law_1026 : decode cL_law 1026 = .ok (.iaload, 1) := by decide +kernel
theorem dL_law_1027 : decode cL_law 1027 = .ok (.invokevirtual 201, 3) := by decide +kernel
theorem dL_law_1030 : decode cL_law 1030 = .ok (.istore 7, 2) := by decide +kernel
theorem dL_law_1032 : decode cL_law 1032 = .ok (.aload_n 2, 1) := by decide +kernel
theorem dL_law_1033 : decode cL_law 1033 = .ok (.invokevirtual 159, 3) := by decide +kernel
theorem dL_law_1036 : decode cL_law 1036 = .ok (.iload 6, 2) := by decide +kernel
theorem dL_law_1038 : decode cL_law 1038 = .ok (.if_icmp .eq 5, 3) := by decide +kernel
theorem dL_law_1041 : decode cL_law 1041 = .ok (.iconst 0, 1) := by decide +kernel
theorem dL_law_1042 : decode cL_law 1042 = .ok (.ireturn, 1) := by decide +kernel
theorem dL_law_1043 : decode cL_law 1043 = .ok (.iload 6, 2) := by decide +kernel
theorem dL_law_1045 : decode cL_law 1045 = .ok (.ifCond .ne 15, 3) := by decide +kernel
theorem dL_law_1048 : decode cL_law 1048 = .ok (.aload_n 3, 1) := by decide +kernel
theorem dL_law_1049 : decode cL_law 1049 = .ok (.iconst 0, 1) := by decide +kernel
theorem dL_law_1050 : decode cL_law 1050 = .ok (.laload, 1) := by decide +kernel
theorem dL_law_1051 : decode cL_law 1051 = .ok (.iload 7, 2) := by decide +kernel
theorem dL_law_1053 : decode cL_law 1053 = .ok (.i2l, 1) := by decide +kernel
theorem dL_law_1054 : decode cL_law 1054 = .ok (.lcmp, 1) := by decide +kernel
theorem dL_law_1055 : decode cL_law 1055 = .ok (.ifCond .eq 5, 3) := by decide +kernel
theorem dL_law_1058 : decode cL_law 1058 = .ok (.iconst 0, 1) := by decide +kernel
theorem dL_law_1059 : decode cL_law 1059 = .ok (.ireturn, 1) := by decide +kernel
theorem dL_law_1060 : decode cL_law 1060 = .ok (.goto 1768, 3) := by decide +kernel
theorem dL_law_1063 : decode cL_law 1063 = .ok (.aload_n 1, 1) := by decide +kernel
theorem dL_law_1064 : decode cL_law 1064 = .ok (.aload_n 0, 1) := by decide +kernel
theorem dL_law_1065 : decode cL_law 1065 = .ok (.iload 5, 2) := by decide +kernel
theorem dL_law_1067 : decode cL_law 1067 = .ok (.iconst 1, 1) := by decide +kernel
theorem dL_law_1068 : decode cL_law 1068 = .ok (.iadd, 1) := by decide +kernel
theorem dL_law_1069 : decode cL_law 1069 = .ok (.iaload, 1) := by decide +kernel
theorem dL_law_1070 : decode cL_law 1070 = .ok (.aload_n 0, 1) := by decide +kernel
theorem dL_law_1071 : decode cL_law 1071 = .ok (.iload 5, 2) := by decide +kernel
theorem dL_law_1073 : decode cL_law 1073 = .ok (.iconst 2, 1) := by decide +kernel
theorem dL_law_1074 : decode cL_law 1074 = .ok (.iadd, 1) := by decide +kernel
theorem dL_law_1075 : decode cL_law 1075 = .ok (.iaload, 1) := by decide +kernel
theorem dL_law_1076 : decode cL_law 1076 = .ok (.aload_n 3, 1) := by decide +kernel
theorem dL_law_1077 : decode cL_law 1077 = .ok (.invokestatic 202, 3) := by decide +kernel
theorem dL_law_1080 : decode cL_law 1080 = .ok (.istore 6, 2) := by decide +kernel
theorem dL_law_1082 : decode cL_law 1082 = .ok (.aload_n 2, 1) := by decide +kernel
theorem dL_law_1083 : decode cL_law 1083 = .ok (.aload_n 0, 1) := by decide +kernel
theorem dL_law_1084 : decode cL_law 1084 = .ok (.iload 5, 2) := by decide +kernel
theorem dL_law_1086 : decode cL_law 1086 = .ok (.iconst 1, 1) := by decide +kernel
theorem dL_law_1087 : decode cL_law 1087 = .ok (.iadd, 1) := by decide +kernel
theorem dL_law_1088 : decode cL_law 1088 = .ok (.iaload, 1) := by decide +kernel
theorem dL_law_1089 : decode cL_law 1089 = .ok (.aload_n 0, 1) := by decide +kernel
theorem dL_law_1090 : decode cL_law 1090 = .ok (.iload 5, 2) := by decide +kernel
theorem dL_law_1092 : decode cL_law 1092 = .ok (.iconst 2, 1) := by decide +kernel
theorem dL_law_1093 : decode cL_law 1093 = .ok (.iadd, 1) := by decide +kernel
theorem dL_law_1094 : decode cL_law 1094 = .ok (.iaload, 1) := by decide +kernel
theorem dL_law_1095 : decode cL_law 1095 = .ok (.invokevirtual 204, 3) := by decide +kernel
theorem dL_law_1098 : decode cL_law 1098 = .ok (.istore 7, 2) := by decide +kernel
theorem dL_law_1100 : decode cL_law 1100 = .ok (.aload_n 2, 1) := by decide +kernel
theorem dL_law_1101 : decode cL_law 1101 = .ok (.invokevirtual 159, 3) := by decide +kernel
theorem dL_law_1104 : decode cL_law 1104 = .ok (.iload 6, 2) := by decide +kernel
theorem dL_law_1106 : decode cL_law 1106 = .ok (.if_icmp .eq 5, 3) := by decide +kernel
theorem dL_law_1109 : decode cL_law 1109 = .ok (.iconst 0, 1) := by decide +kernel
theorem dL_law_1110 : decode cL_law 1110 = .ok (.ireturn, 1) := by decide +kernel
theorem dL_law_1111 : decode cL_law 1111 = .ok (.iload 6, 2) := by decide +kernel
theorem dL_law_1113 : decode cL_law 1113 = .ok (.ifCond .ne 15, 3) := by decide +kernel
theorem dL_law_1116 : decode cL_law 1116 = .ok (.aload_n 3, 1) := by decide +kernel
theorem dL_law_1117 : decode cL_law 1117 = .ok (.iconst 0, 1) := by decide +kernel
theorem dL_law_1118 : decode cL_law 1118 = .ok (.laload, 1) := by decide +kernel
theorem dL_law_1119 : decode cL_law 1119 = .ok (.iload 7, 2) := by decide +kernel
theorem dL_law_1121 : decode cL_law 1121 = .ok (.i2l, 1) := by decide +kernel
theorem dL_law_1122 : decode cL_law 1122 = .ok (.lcmp, 1) := by decide +kernel
theorem dL_law_1123 : decode cL_law 1123 = .ok (.ifCond .eq 5, 3) := by decide +kernel
theorem dL_law_1126 : decode cL_law 1126 = .ok (.iconst 0, 1) := by decide +kernel
theorem dL_law_1127 : decode cL_law 1127 = .ok (.ireturn, 1) := by decide +kernel
theorem dL_law_1128 : decode cL_law 1128 = .ok (.goto 1700, 3) := by decide +kernel
theorem dL_law_1131 : decode cL_law 1131 = .ok (.aload_n 1, 1) := by decide +kernel
theorem dL_law_1132 : decode cL_law 1132 = .ok (.aload_n 0, 1) := by decide +kernel
theorem dL_law_1133 : decode cL_law 1133 = .ok (.iload 5, 2) := by decide +kernel
theorem dL_law_1135 : decode cL_law 1135 = .ok (.iconst 1, 1) := by decide +kernel
theorem dL_law_1136 : decode cL_law 1136 = .ok (.iadd, 1) := by decide +kernel
theorem dL_law_1137 : decode cL_law 1137 = .ok (.iaload, 1) := by decide +kernel
theorem dL_law_1138 : decode cL_law 1138 = .ok (.aload_n 3, 1) := by decide +kernel
theorem dL_law_1139 : decode cL_law 1139 = .ok (.invokestatic 205, 3) := by decide +kernel
theorem dL_law_1142 : decode cL_law 1142 = .ok (.istore 6, 2) := by decide +kernel
theorem dL_law_1144 : decode cL_law 1144 = .ok (.aload_n 2, 1) := by decide +kernel
theorem dL_law_1145 : decode cL_law 1145 = .ok (.aload_n 0, 1) := by decide +kernel
theorem dL_law_1146 : decode cL_law 1146 = .ok (.iload 5, 2) := by decide +kernel
theorem dL_law_1148 : decode cL_law 1148 = .ok (.iconst 1, 1) := by decide +kernel
theorem dL_law_1149 : decode cL_law 1149 = .ok (.iadd, 1) := by decide +kernel
theorem dL_law_1150 : decode cL_law 1150 = .ok (.iaload, 1) := by decide +kernel
theorem dL_law_1151 : decode cL_law 1151 = .ok (.invokevirtual 207, 3) := by decide +kernel
theorem dL_law_1154 : decode cL_law 1154 = .ok (.istore 7, 2) := by decide +kernel
theorem dL_law_1156 : decode cL_law 1156 = .ok (.aload_n 2, 1) := by decide +kernel
theorem dL_law_1157 : decode cL_law 1157 = .ok (.invokevirtual 159, 3) := by decide +kernel
theorem dL_law_1160 : decode cL_law 1160 = .ok (.iload 6, 2) := by decide +kernel
theorem dL_law_1162 : decode cL_law 1162 = .ok (.if_icmp .eq 5, 3) := by decide +kernel
theorem dL_law_1165 : decode cL_law 1165 = .ok (.iconst 0, 1) := by decide +kernel
theorem dL_law_1166 : decode cL_law 1166 = .ok (.ireturn, 1) := by decide +kernel
theorem dL_law_1167 : decode cL_law 1167 = .ok (.iload 6, 2) := by decide +kernel
theorem dL_law_1169 : decode cL_law 1169 = .ok (.ifCond .ne 15, 3) := by decide +kernel
theorem dL_law_1172 : decode cL_law 1172 = .ok (.aload_n 3, 1) := by decide +kernel
theorem dL_law_1173 : decode cL_law 1173 = .ok (.iconst 0, 1) := by decide +kernel
theorem dL_law_1174 : decode cL_law 1174 = .ok (.laload, 1) := by decide +kernel
theorem dL_law_1175 : decode cL_law 1175 = .ok (.iload 7, 2) := by decide +kernel
theorem dL_law_1177 : decode cL_law 1177 = .ok (.i2l, 1) := by decide +kernel
theorem dL_law_1178 : decode cL_law 1178 = .ok (.lcmp, 1) := by decide +kernel
theorem dL_law_1179 : decode cL_law 1179 = .ok (.ifCond .eq 5, 3) := by decide +kernel
theorem dL_law_1182 : decode cL_law 1182 = .ok (.iconst 0, 1) := by decide +kernel
theorem dL_law_1183 : decode cL_law 1183 = .ok (.ireturn, 1) := by decide +kernel
theorem dL_law_1184 : decode cL_law 1184 = .ok (.goto 1644, 3) := by decide +kernel
theorem dL_law_1187 : decode cL_law 1187 = .ok (.aload_n 1, 1) := by decide +kernel
theorem dL_law_1188 : decode cL_law 1188 = .ok (.aload_n 0, 1) := by decide +kernel
theorem dL_law_1189 : decode cL_law 1189 = .ok (.iload 5, 2) := by decide +kernel
theorem dL_law_1191 : decode cL_law 1191 = .ok (.iconst 1, 1) := by decide +kernel
theorem dL_law_1192 : decode cL_law 1192 = .ok (.iadd, 1) := by decide +kernel
theorem dL_law_1193 : decode cL_law 1193 = .ok (.iaload, 1) := by decide +kernel
theorem dL_law_1194 : decode cL_law 1194 = .ok (.aload_n 3, 1) := by decide +kernel
theorem dL_law_1195 : decode cL_law 1195 = .ok (.invokestatic 208, 3) := by decide +kernel
theorem dL_law_1198 : decode cL_law 1198 = .ok (.istore 6, 2) := by decide +kernel
theorem dL_law_1200 : decode cL_law 1200 = .ok (.aload_n 2, 1) := by decide +kernel
theorem dL_law_1201 : decode cL_law 1201 = .ok (.aload_n 0, 1) := by decide +kernel
theorem dL_law_1202 : decode cL_law 1202 = .ok (.iload 5, 2) := by decide +kernel
theorem dL_law_1204 : decode cL_law 1204 = .ok (.iconst 1, 1) := by decide +kernel
theorem dL_law_1205 : decode cL_law 1205 = .ok (.iadd, 1) := by decide +kernel
theorem dL_law_1206 : decode cL_law 1206 = .ok (.iaload, 1) := by decide +kernel
theorem dL_law_1207 : decode cL_law 1207 = .ok (.invokevirtual 210, 3) := by decide +kernel
theorem dL_law_1210 : decode cL_law 1210 = .ok (.istore 7, 2) := by decide +kernel
theorem dL_law_1212 : decode cL_law 1212 = .ok (.aload_n 2, 1) := by decide +kernel
theorem dL_law_1213 : decode cL_law 1213 = .ok (.invokevirtual 159, 3) := by decide +kernel
theorem dL_law_1216 : decode cL_law 1216 = .ok (.iload 6, 2) := by decide +kernel
theorem dL_law_1218 : decode cL_law 1218 = .ok (.if_icmp .eq 5, 3) := by decide +kernel
theorem dL_law_1221 : decode cL_law 1221 = .ok (.iconst 0, 1) := by decide +kernel
theorem dL_law_1222 : decode cL_law 1222 = .ok (.ireturn, 1) := by decide +kernel
theorem dL_law_1223 : decode cL_law 1223 = .ok (.iload 6, 2) := by decide +kernel
theorem dL_law_1225 : decode cL_law 1225 = .ok (.ifCond .ne 15, 3) := by decide +kernel
theorem dL_law_1228 : decode cL_law 1228 = .ok (.aload_n 3, 1) := by decide +kernel
theorem dL_law_1229 : decode cL_law 1229 = .ok (.iconst 0, 1) := by decide +kernel
theorem dL_law_1230 : decode cL_law 1230 = .ok (.laload, 1) := by decide +kernel
theorem dL_law_1231 : decode cL_law 1231 = .ok (.iload 7, 2) := by decide +kernel
theorem dL_law_1233 : decode cL_law 1233 = .ok (.i2l, 1) := by decide +kernel
theorem dL_law_1234 : decode cL_law 1234 = .ok (.lcmp, 1) := by decide +kernel
theorem dL_law_1235 : decode cL_law 1235 = .ok (.ifCond .eq 5, 3) := by decide +kernel
theorem dL_law_1238 : decode cL_law 1238 = .ok (.iconst 0, 1) := by decide +kernel
theorem dL_law_1239 : decode cL_law 1239 = .ok (.ireturn, 1) := by decide +kernel
theorem dL_law_1240 : decode cL_law 1240 = .ok (.goto 1588, 3) := by decide +kernel
theorem dL_law_1243 : decode cL_law 1243 = .ok (.aload_n 1, 1) := by decide +kernel
theorem dL_law_1244 : decode cL_law 1244 = .ok (.aload_n 0, 1) := by decide +kernel
theorem dL_law_1245 : decode cL_law 1245 = .ok (.iload 5, 2) := by decide +kernel
theorem dL_law_1247 : decode cL_law 1247 = .ok (.iconst 1, 1) := by decide +kernel
theorem dL_law_1248 : decode cL_law 1248 = .ok (.iadd, 1) := by decide +kernel
theorem dL_law_1249 : decode cL_law 1249 = .ok (.iaload, 1) := by decide +kernel
theorem dL_law_1250 : decode cL_law 1250 = .ok (.aload_n 3, 1) := by decide +kernel
theorem dL_law_1251 : decode cL_law 1251 = .ok (.invokestatic 211, 3) := by decide +kernel
theorem dL_law_1254 : decode cL_law 1254 = .ok (.istore 6, 2) := by decide +kernel
theorem dL_law_1256 : decode cL_law 1256 = .ok (.aload_n 2, 1) := by decide +kernel
theorem dL_law_1257 : decode cL_law 1257 = .ok (.aload_n 0, 1) := by decide +kernel
theorem dL_law_1258 : decode cL_law 1258 = .ok (.iload 5, 2) := by decide +kernel
theorem dL_law_1260 : decode cL_law 1260 = .ok (.iconst 1, 1) := by decide +kernel
theorem dL_law_1261 : decode cL_law 1261 = .ok (.iadd, 1) := by decide +kernel
theorem dL_law_1262 : decode cL_law 1262 = .ok (.iaload, 1) := by decide +kernel
theorem dL_law_1263 : decode cL_law 1263 = .ok (.invokevirtual 213, 3) := by decide +kernel
theorem dL_law_1266 : decode cL_law 1266 = .ok (.istore 7, 2) := by decide +kernel
theorem dL_law_1268 : decode cL_law 1268 = .ok (.aload_n 2, 1) := by decide +kernel
theorem dL_law_1269 : decode cL_law 1269 = .ok (.invokevirtual 159, 3) := by decide +kernel
theorem dL_law_1272 : decode cL_law 1272 = .ok (.iload 6, 2) := by decide +kernel
theorem dL_law_1274 : decode cL_law 1274 = .ok (.if_icmp .eq 5, 3) := by decide +kernel
theorem dL_law_1277 : decode cL_law 1277 = .ok (.iconst 0, 1) := by decide +kernel
theorem dL_law_1278 : decode cL_law 1278 = .ok (.ireturn, 1) := by decide +kernel
theorem dL_law_1279 : decode cL_law 1279 = .ok (.iload 6, 2) := by decide +kernel
theorem dL_law_1281 : decode cL_law 1281 = .ok (.ifCond .ne 15, 3) := by decide +kernel
theorem dL_law_1284 : decode cL_law 1284 = .ok (.aload_n 3, 1) := by decide +kernel
theorem dL_law_1285 : decode cL_law 1285 = .ok (.iconst 0, 1) := by decide +kernel
theorem dL_law_1286 : decode cL_law 1286 = .ok (.laload, 1) := by decide +kernel
theorem dL_law_1287 : decode cL_law 1287 = .ok (.iload 7, 2) := by decide +kernel
theorem dL_law_1289 : decode cL_law 1289 = .ok (.i2l, 1) := by decide +kernel
theorem dL_law_1290 : decode cL_law 1290 = .ok (.lcmp, 1) := by decide +kernel
theorem dL_law_1291 : decode cL_law 1291 = .ok (.ifCond .eq 5, 3) := by decide +kernel
theorem dL_law_1294 : decode cL_law 1294 = .ok (.iconst 0, 1) := by decide +kernel
theorem dL_law_1295 : decode cL_law 1295 = .ok (.ireturn, 1) := by decide +kernel
theorem dL_law_1296 : decode cL_law 1296 = .ok (.goto 1532, 3) := by decide +kernel
theorem dL_law_1299 : decode cL_law 1299 = .ok (.aload_n 1, 1) := by decide +kernel
theorem dL_law_1300 : decode cL_law 1300 = .ok (.aload_n 0, 1) := by decide +kernel
theorem dL_law_1301 : decode cL_law 1301 = .ok (.iload 5, 2) := by decide +kernel
theorem dL_law_1303 : decode cL_law 1303 = .ok (.iconst 1, 1) := by decide +kernel
theorem dL_law_1304 : decode cL_law 1304 = .ok (.iadd, 1) := by decide +kernel
theorem dL_law_1305 : decode cL_law 1305 = .ok (.iaload, 1) := by decide +kernel
theorem dL_law_1306 : decode cL_law 1306 = .ok (.aload_n 3, 1) := by decide +kernel
theorem dL_law_1307 : decode cL_law 1307 = .ok (.invokestatic 214, 3) := by decide +kernel
theorem dL_law_1310 : decode cL_law 1310 = .ok (.istore 6, 2) := by decide +kernel
theorem dL_law_1312 : decode cL_law 1312 = .ok (.aload_n 2, 1) := by decide +kernel
theorem dL_law_1313 : decode cL_law 1313 = .ok (.aload_n 0, 1) := by decide +kernel
theorem dL_law_1314 : decode cL_law 1314 = .ok (.iload 5, 2) := by decide +kernel
theorem dL_law_1316 : decode cL_law 1316 = .ok (.iconst 1, 1) := by decide +kernel
theorem dL_law_1317 : decode cL_law 1317 = .ok (.iadd, 1) := by decide +kernel
theorem dL_law_1318 : decode cL_law 1318 = .ok (.iaload, 1) := by decide +kernel
theorem dL_law_1319 : decode cL_law 1319 = .ok (.invokevirtual 216, 3) := by decide +kernel
theorem dL_law_1322 : decode cL_law 1322 = .ok (.istore 7, 2) := by decide +kernel
theorem dL_law_1324 : decode cL_law 1324 = .ok (.aload_n 2, 1) := by decide +kernel
theorem dL_law_1325 : decode cL_law 1325 = .ok (.invokevirtual 159, 3) := by decide +kernel
theorem dL_law_1328 : decode cL_law 1328 = .ok (.iload 6, 2) := by decide +kernel
theorem dL_law_1330 : decode cL_law 1330 = .ok (.if_icmp .eq 5, 3) := by decide +kernel
theorem dL_law_1333 : decode cL_law 1333 = .ok (.iconst 0, 1) := by decide +kernel
theorem dL_law_1334 : decode cL_law 1334 = .ok (.ireturn, 1) := by decide +kernel
theorem dL_law_1335 : decode cL_law 1335 = .ok (.iload 6, 2) := by decide +kernel
theorem dL_law_1337 : decode cL_law 1337 = .ok (.ifCond .ne 15, 3) := by decide +kernel
theorem dL_law_1340 : decode cL_law 1340 = .ok (.aload_n 3, 1) := by decide +kernel
theorem dL_law_1341 : decode cL_law 1341 = .ok (.iconst 0, 1) := by decide +kernel
theorem dL_law_1342 : decode cL_law 1342 = .ok (.laload, 1) := by decide +kernel
theorem dL_law_1343 : decode cL_law 1343 = .ok (.iload 7, 2) := by decide +kernel
theorem dL_law_1345 : decode cL_law 1345 = .ok (.i2l, 1) := by decide +kernel
theorem dL_law_1346 : decode cL_law 1346 = .ok (.lcmp, 1) := by decide +kernel
theorem dL_law_1347 : decode cL_law 1347 = .ok (.ifCond .eq 5, 3) := by decide +kernel
theorem dL_law_1350 : decode cL_law 1350 = .ok (.iconst 0, 1) := by decide +kernel
theorem dL_law_1351 : decode cL_law 1351 = .ok (.ireturn, 1) := by decide +kernel
theorem dL_law_1352 : decode cL_law 1352 = .ok (.goto 1476, 3) := by decide +kernel
theorem dL_law_1355 : decode cL_law 1355 = .ok (.aload_n 1, 1) := by decide +kernel
theorem dL_law_1356 : decode cL_law 1356 = .ok (.aload_n 0, 1) := by decide +kernel
theorem dL_law_1357 : decode cL_law 1357 = .ok (.iload 5, 2) := by decide +kernel
theorem dL_law_1359 : decode cL_law 1359 = .ok (.iconst 1, 1) := by decide +kernel
theorem dL_law_1360 : decode cL_law 1360 = .ok (.iadd, 1) := by decide +kernel
theorem dL_law_1361 : decode cL_law 1361 = .ok (.iaload, 1) := by decide +kernel
theorem dL_law_1362 : decode cL_law 1362 = .ok (.aload_n 3, 1) := by decide +kernel
theorem dL_law_1363 : decode cL_law 1363 = .ok (.invokestatic 217, 3) := by decide +kernel
theorem dL_law_1366 : decode cL_law 1366 = .ok (.istore 6, 2) := by decide +kernel
theorem dL_law_1368 : decode cL_law 1368 = .ok (.aload_n 2, 1) := by decide +kernel
theorem dL_law_1369 : decode cL_law 1369 = .ok (.aload_n 0, 1) := by decide +kernel
theorem dL_law_1370 : decode cL_law 1370 = .ok (.iload 5, 2) := by decide +kernel
theorem dL_law_1372 : decode cL_law 1372 = .ok (.iconst 1, 1) := by decide +kernel
theorem dL_law_1373 : decode cL_law 1373 = .ok (.iadd, 1) := by decide +kernel
theorem dL_law_1374 : decode cL_law 1374 = .ok (.iaload, 1) := by decide +kernel
theorem dL_law_1375 : decode cL_law 1375 = .ok (.invokevirtual 219, 3) := by decide +kernel
theorem dL_law_1378 : decode cL_law 1378 = .ok (.istore 7, 2) := by decide +kernel
theorem dL_law_1380 : decode cL_law 1380 = .ok (.aload_n 2, 1) := by decide +kernel
theorem dL_law_1381 : decode cL_law 1381 = .ok (.invokevirtual 159, 3) := by decide +kernel
theorem dL_law_1384 : decode cL_law 1384 = .ok (.iload 6, 2) := by decide +kernel
theorem dL_law_1386 : decode cL_law 1386 = .ok (.if_icmp .eq 5, 3) := by decide +kernel
theorem dL_law_1389 : decode cL_law 1389 = .ok (.iconst 0, 1) := by decide +kernel
theorem dL_law_1390 : decode cL_law 1390 = .ok (.ireturn, 1) := by decide +kernel
theorem dL_law_1391 : decode cL_law 1391 = .ok (.iload 6, 2) := by decide +kernel
theorem dL_law_1393 : decode cL_law 1393 = .ok (.ifCond .ne 15, 3) := by decide +kernel
theorem dL_law_1396 : decode cL_law 1396 = .ok (.aload_n 3, 1) := by decide +kernel
theorem dL_law_1397 : decode cL_law 1397 = .ok (.iconst 0, 1) := by decide +kernel
theorem dL_law_1398 : decode cL_law 1398 = .ok (.laload, 1) := by decide +kernel
theorem dL_law_1399 : decode cL_law 1399 = .ok (.iload 7, 2) := by decide +kernel
theorem dL_law_1401 : decode cL_law 1401 = .ok (.i2l, 1) := by decide +kernel
theorem dL_law_1402 : decode cL_law 1402 = .ok (.lcmp, 1) := by decide +kernel
theorem dL_law_1403 : decode cL_law 1403 = .ok (.ifCond .eq 5, 3) := by decide +kernel
theorem dL_law_1406 : decode cL_law 1406 = .ok (.iconst 0, 1) := by decide +kernel
theorem dL_law_1407 : decode cL_law 1407 = .ok (.ireturn, 1) := by decide +kernel
theorem dL_law_1408 : decode cL_law 1408 = .ok (.goto 1420, 3) := by decide +kernel
theorem dL_law_1411 : decode cL_law 1411 = .ok (.aload_n 1, 1) := by decide +kernel
theorem dL_law_1412 : decode cL_law 1412 = .ok (.aload_n 0, 1) := by decide +kernel
theorem dL_law_1413 : decode cL_law 1413 = .ok (.iload 5, 2) := by decide +kernel
theorem dL_law_1415 : decode cL_law 1415 = .ok (.iconst 1, 1) := by decide +kernel
theorem dL_law_1416 : decode cL_law 1416 = .ok (.iadd, 1) := by decide +kernel
theorem dL_law_1417 : decode cL_law 1417 = .ok (.iaload, 1) := by decide +kernel
theorem dL_law_1418 : decode cL_law 1418 = .ok (.aload_n 3, 1) := by decide +kernel
theorem dL_law_1419 : decode cL_law 1419 = .ok (.invokestatic 220, 3) := by decide +kernel
theorem dL_law_1422 : decode cL_law 1422 = .ok (.istore 6, 2) := by decide +kernel
theorem dL_law_1424 : decode cL_law 1424 = .ok (.aload_n 2, 1) := by decide +kernel
theorem dL_law_1425 : decode cL_law 1425 = .ok (.aload_n 0, 1) := by decide +kernel
theorem dL_law_1426 : decode cL_law 1426 = .ok (.iload 5, 2) := by decide +kernel
theorem dL_law_1428 : decode cL_law 1428 = .ok (.iconst 1, 1) := by decide +kernel
theorem dL_law_1429 : decode cL_law 1429 = .ok (.iadd, 1) := by decide +kernel
theorem dL_law_1430 : decode cL_law 1430 = .ok (.iaload, 1) := by decide +kernel
theorem dL_law_1431 : decode cL_law 1431 = .ok (.invokevirtual 222, 3) := by decide +kernel
theorem dL_law_1434 : decode cL_law 1434 = .ok (.istore 7, 2) := by decide +kernel
theorem dL_law_1436 : decode cL_law 1436 = .ok (.aload_n 2, 1) := by decide +kernel
theorem dL_law_1437 : decode cL_law 1437 = .ok (.invokevirtual 159, 3) := by decide +kernel
theorem dL_law_1440 : decode cL_law 1440 = .ok (.iload 6, 2) := by decide +kernel
theorem dL_law_1442 : decode cL_law 1442 = .ok (.if_icmp .eq 5, 3) := by decide +kernel
theorem dL_law_1445 : decode cL_law 1445 = .ok (.iconst 0, 1) := by decide +kernel
theorem dL_law_1446 : decode cL_law 1446 = .ok (.ireturn, 1) := by decide +kernel
theorem dL_law_1447 : decode cL_law 1447 = .ok (.iload 6, 2) := by decide +kernel
theorem dL_law_1449 : decode cL_law 1449 = .ok (.ifCond .ne 15, 3) := by decide +kernel
theorem dL_law_1452 : decode cL_law 1452 = .ok (.aload_n 3, 1) := by decide +kernel
theorem dL_law_1453 : decode cL_law 1453 = .ok (.iconst 0, 1) := by decide +kernel
theorem dL_law_1454 : decode cL_law 1454 = .ok (.laload, 1) := by decide +kernel
theorem dL_law_1455 : decode cL_law 1455 = .ok (.iload 7, 2) := by decide +kernel
theorem dL_law_1457 : decode cL_law 1457 = .ok (.i2l, 1) := by decide +kernel
theorem dL_law_1458 : decode cL_law 1458 = .ok (.lcmp, 1) := by decide +kernel
theorem dL_law_1459 : decode cL_law 1459 = .ok (.ifCond .eq 5, 3) := by decide +kernel
theorem dL_law_1462 : decode cL_law 1462 = .ok (.iconst 0, 1) := by decide +kernel
theorem dL_law_1463 : decode cL_law 1463 = .ok (.ireturn, 1) := by decide +kernel
theorem dL_law_1464 : decode cL_law 1464 = .ok (.goto 1364, 3) := by decide +kernel
theorem dL_law_1467 : decode cL_law 1467 = .ok (.aload_n 1, 1) := by decide +kernel
theorem dL_law_1468 : decode cL_law 1468 = .ok (.aload_n 0, 1) := by decide +kernel
theorem dL_law_1469 : decode cL_law 1469 = .ok (.iload 5, 2) := by decide +kernel
theorem dL_law_1471 : decode cL_law 1471 = .ok (.iconst 1, 1) := by decide +kernel
theorem dL_law_1472 : decode cL_law 1472 = .ok (.iadd, 1) := by decide +kernel
theorem dL_law_1473 : decode cL_law 1473 = .ok (.iaload, 1) := by decide +kernel
theorem dL_law_1474 : decode cL_law 1474 = .ok (.aload_n 3, 1) := by decide +kernel
theorem dL_law_1475 : decode cL_law 1475 = .ok (.invokestatic 223, 3) := by decide +kernel
theorem dL_law_1478 : decode cL_law 1478 = .ok (.istore 6, 2) := by decide +kernel
theorem dL_law_1480 : decode cL_law 1480 = .ok (.aload_n 2, 1) := by decide +kernel
theorem dL_law_1481 : decode cL_law 1481 = .ok (.aload_n 0, 1) := by decide +kernel
theorem dL_law_1482 : decode cL_law 1482 = .ok (.iload 5, 2) := by decide +kernel
theorem dL_law_1484 : decode cL_law 1484 = .ok (.iconst 1, 1) := by decide +kernel
theorem dL_law_1485 : decode cL_law 1485 = .ok (.iadd, 1) := by decide +kernel
theorem dL_law_1486 : decode cL_law 1486 = .ok (.iaload, 1) := by decide +kernel
theorem dL_law_1487 : decode cL_law 1487 = .ok (.invokevirtual 225, 3) := by decide +kernel
theorem dL_law_1490 : decode cL_law 1490 = .ok (.lstore 7, 2) := by decide +kernel
theorem dL_law_1492 : decode cL_law 1492 = .ok (.aload_n 2, 1) := by decide +kernel
theorem dL_law_1493 : decode cL_law 1493 = .ok (.invokevirtual 159, 3) := by decide +kernel
theorem dL_law_1496 : decode cL_law 1496 = .ok (.iload 6, 2) := by decide +kernel
theorem dL_law_1498 : decode cL_law 1498 = .ok (.if_icmp .eq 5, 3) := by decide +kernel
theorem dL_law_1501 : decode cL_law 1501 = .ok (.iconst 0, 1) := by decide +kernel
theorem dL_law_1502 : decode cL_law 1502 = .ok (.ireturn, 1) := by decide +kernel
theorem dL_law_1503 : decode cL_law 1503 = .ok (.iload 6, 2) := by decide +kernel
theorem dL_law_1505 : decode cL_law 1505 = .ok (.ifCond .ne 14, 3) := by decide +kernel
theorem dL_law_1508 : decode cL_law 1508 = .ok (.aload_n 3, 1) := by decide +kernel
theorem dL_law_1509 : decode cL_law 1509 = .ok (.iconst 0, 1) := by decide +kernel
theorem dL_law_1510 : decode cL_law 1510 = .ok (.laload, 1) := by decide +kernel
theorem dL_law_1511 : decode cL_law 1511 = .ok (.lload 7, 2) := by decide +kernel
theorem dL_law_1513 : decode cL_law 1513 = .ok (.lcmp, 1) := by decide +kernel
theorem dL_law_1514 : decode cL_law 1514 = .ok (.ifCond .eq 5, 3) := by decide +kernel
theorem dL_law_1517 : decode cL_law 1517 = .ok (.iconst 0, 1) := by decide +kernel
theorem dL_law_1518 : decode cL_law 1518 = .ok (.ireturn, 1) := by decide +kernel
theorem dL_law_1519 : decode cL_law 1519 = .ok (.goto 1309, 3) := by decide +kernel
theorem dL_law_1522 : decode cL_law 1522 = .ok (.aload_n 1, 1) := by decide +kernel
theorem dL_law_1523 : decode cL_law 1523 = .ok (.aload_n 0, 1) := by decide +kernel
theorem dL_law_1524 : decode cL_law 1524 = .ok (.iload 5, 2) := by decide +kernel
theorem dL_law_1526 : decode cL_law 1526 = .ok (.iconst 1, 1) := by decide +kernel
theorem dL_law_1527 : decode cL_law 1527 = .ok (.iadd, 1) := by decide +kernel
theorem dL_law_1528 : decode cL_law 1528 = .ok (.iaload, 1) := by decide +kernel
theorem dL_law_1529 : decode cL_law 1529 = .ok (.aload_n 0, 1) := by decide +kernel
theorem dL_law_1530 : decode cL_law 1530 = .ok (.iload 5, 2) := by decide +kernel
theorem dL_law_1532 : decode cL_law 1532 = .ok (.iconst 2, 1) := by decide +kernel
theorem dL_law_1533 : decode cL_law 1533 = .ok (.iadd, 1) := by decide +kernel
theorem dL_law_1534 : decode cL_law 1534 = .ok (.iaload, 1) := by decide +kernel
theorem dL_law_1535 : decode cL_law 1535 = .ok (.i2l, 1) := by decide +kernel
theorem dL_law_1536 : decode cL_law 1536 = .ok (.bipush 32, 2) := by decide +kernel
theorem dL_law_1538 : decode cL_law 1538 = .ok (.lshl, 1) := by decide +kernel
theorem dL_law_1539 : decode cL_law 1539 = .ok (.aload_n 0, 1) := by decide +kernel
theorem dL_law_1540 : decode cL_law 1540 = .ok (.iload 5, 2) := by decide +kernel
theorem dL_law_1542 : decode cL_law 1542 = .ok (.iconst 3, 1) := by decide +kernel
theorem dL_law_1543 : decode cL_law 1543 = .ok (.iadd, 1) := by decide +kernel
theorem dL_law_1544 : decode cL_law 1544 = .ok (.iaload, 1) := by decide +kernel
theorem dL_law_1545 : decode cL_law 1545 = .ok (.i2l, 1) := by decide +kernel
theorem dL_law_1546 : decode cL_law 1546 = .ok (.ldc2_w 226, 3) := by decide +kernel
theorem dL_law_1549 : decode cL_law 1549 = .ok (.land, 1) := by decide +kernel
theorem dL_law_1550 : decode cL_law 1550 = .ok (.lor, 1) := by decide +kernel
theorem dL_law_1551 : decode cL_law 1551 = .ok (.aload_n 3, 1) := by decide +kernel
theorem dL_law_1552 : decode cL_law 1552 = .ok (.invokestatic 228, 3) := by decide +kernel
theorem dL_law_1555 : decode cL_law 1555 = .ok (.istore 6, 2) := by decide +kernel
theorem dL_law_1557 : decode cL_law 1557 = .ok (.aload_n 2, 1) := by decide +kernel
theorem dL_law_1558 : decode cL_law 1558 = .ok (.aload_n 0, 1) := by decide +kernel
theorem dL_law_1559 : decode cL_law 1559 = .ok (.iload 5, 2) := by decide +kernel
theorem dL_law_1561 : decode cL_law 1561 = .ok (.iconst 1, 1) := by decide +kernel
theorem dL_law_1562 : decode cL_law 1562 = .ok (.iadd, 1) := by decide +kernel
theorem dL_law_1563 : decode cL_law 1563 = .ok (.iaload, 1) := by decide +kernel
theorem dL_law_1564 : decode cL_law 1564 = .ok (.aload_n 0, 1) := by decide +kernel
theorem dL_law_1565 : decode cL_law 1565 = .ok (.iload 5, 2) := by decide +kernel
theorem dL_law_1567 : decode cL_law 1567 = .ok (.iconst 2, 1) := by decide +kernel
theorem dL_law_1568 : decode cL_law 1568 = .ok (.iadd, 1) := by decide +kernel
theorem dL_law_1569 : decode cL_law 1569 = .ok (.iaload, 1) := by decide +kernel
theorem dL_law_1570 : decode cL_law 1570 = .ok (.i2l, 1) := by decide +kernel
theorem dL_law_1571 : decode cL_law 1571 = .ok (.bipush 32, 2) := by decide +kernel
theorem dL_law_1573 : decode cL_law 1573 = .ok (.lshl, 1) := by decide +kernel
theorem dL_law_1574 : decode cL_law 1574 = .ok (.aload_n 0, 1) := by decide +kernel
theorem dL_law_1575 : decode cL_law 1575 = .ok (.iload 5, 2) := by decide +kernel
theorem dL_law_1577 : decode cL_law 1577 = .ok (.iconst 3, 1) := by decide +kernel
theorem dL_law_1578 : decode cL_law 1578 = .ok (.iadd, 1) := by decide +kernel
theorem dL_law_1579 : decode cL_law 1579 = .ok (.iaload, 1) := by decide +kernel
theorem dL_law_1580 : decode cL_law 1580 = .ok (.i2l, 1) := by decide +kernel
theorem dL_law_1581 : decode cL_law 1581 = .ok (.ldc2_w 226, 3) := by decide +kernel
theorem dL_law_1584 : decode cL_law 1584 = .ok (.land, 1) := by decide +kernel
theorem dL_law_1585 : decode cL_law 1585 = .ok (.lor, 1) := by decide +kernel
theorem dL_law_1586 : decode cL_law 1586 = .ok (.invokevirtual 231, 3) := by decide +kernel
theorem dL_law_1589 : decode cL_law 1589 = .ok (.istore 7, 2) := by decide +kernel
theorem dL_law_1591 : decode cL_law 1591 = .ok (.aload_n 2, 1) := by decide +kernel
theorem dL_law_1592 : decode cL_law 1592 = .ok (.invokevirtual 159, 3) := by decide +kernel
theorem dL_law_1595 : decode cL_law 1595 = .ok (.iload 6, 2) := by decide +kernel
theorem dL_law_1597 : decode cL_law 1597 = .ok (.if_icmp .eq 5, 3) := by decide +kernel
theorem dL_law_1600 : decode cL_law 1600 = .ok (.iconst 0, 1) := by decide +kernel
theorem dL_law_1601 : decode cL_law 1601 = .ok (.ireturn, 1) := by decide +kernel
theorem dL_law_1602 : decode cL_law 1602 = .ok (.iload 6, 2) := by decide +kernel
theorem dL_law_1604 : decode cL_law 1604 = .ok (.ifCond .ne 15, 3) := by decide +kernel
theorem dL_law_1607 : decode cL_law 1607 = .ok (.aload_n 3, 1) := by decide +kernel
theorem dL_law_1608 : decode cL_law 1608 = .ok (.iconst 0, 1) := by decide +kernel
theorem dL_law_1609 : decode cL_law 1609 = .ok (.laload, 1) := by decide +kernel
theorem dL_law_1610 : decode cL_law 1610 = .ok (.iload 7, 2) := by decide +kernel
theorem dL_law_1612 : decode cL_law 1612 = .ok (.i2l, 1) := by decide +kernel
theorem dL_law_1613 : decode cL_law 1613 = .ok (.lcmp, 1) := by decide +kernel
theorem dL_law_1614 : decode cL_law 1614 = .ok (.ifCond .eq 5, 3) := by decide +kernel
theorem dL_law_1617 : decode cL_law 1617 = .ok (.iconst 0, 1) := by decide +kernel
theorem dL_law_1618 : decode cL_law 1618 = .ok (.ireturn, 1) := by decide +kernel
theorem dL_law_1619 : decode cL_law 1619 = .ok (.goto 1209, 3) := by decide +kernel
theorem dL_law_1622 : decode cL_law 1622 = .ok (.aload_n 1, 1) := by decide +kernel
theorem dL_law_1623 : decode cL_law 1623 = .ok (.aload_n 0, 1) := by decide +kernel
theorem dL_law_1624 : decode cL_law 1624 = .ok (.iload 5, 2) := by decide +kernel
theorem dL_law_1626 : decode cL_law 1626 = .ok (.iconst 1, 1) := by decide +kernel
theorem dL_law_1627 : decode cL_law 1627 = .ok (.iadd, 1) := by decide +kernel
theorem dL_law_1628 : decode cL_law 1628 = .ok (.iaload, 1) := by decide +kernel
theorem dL_law_1629 : decode cL_law 1629 = .ok (.aload_n 0, 1) := by decide +kernel
theorem dL_law_1630 : decode cL_law 1630 = .ok (.iload 5, 2) := by decide +kernel
theorem dL_law_1632 : decode cL_law 1632 = .ok (.iconst 2, 1) := by decide +kernel
theorem dL_law_1633 : decode cL_law 1633 = .ok (.iadd, 1) := by decide +kernel
theorem dL_law_1634 : decode cL_law 1634 = .ok (.iaload, 1) := by decide +kernel
theorem dL_law_1635 : decode cL_law 1635 = .ok (.aload_n 3, 1) := by decide +kernel
theorem dL_law_1636 : decode cL_law 1636 = .ok (.invokestatic 232, 3) := by decide +kernel
theorem dL_law_1639 : decode cL_law 1639 = .ok (.istore 6, 2) := by decide +kernel
theorem dL_law_1641 : decode cL_law 1641 = .ok (.aload_n 2, 1) := by decide +kernel
theorem dL_law_1642 : decode cL_law 1642 = .ok (.aload_n 0, 1) := by decide +kernel
theorem dL_law_1643 : decode cL_law 1643 = .ok (.iload 5, 2) := by decide +kernel
theorem dL_law_1645 : decode cL_law 1645 = .ok (.iconst 1, 1) := by decide +kernel
theorem dL_law_1646 : decode cL_law 1646 = .ok (.iadd, 1) := by decide +kernel
theorem dL_law_1647 : decode cL_law 1647 = .ok (.iaload, 1) := by decide +kernel
theorem dL_law_1648 : decode cL_law 1648 = .ok (.aload_n 0, 1) := by decide +kernel
theorem dL_law_1649 : decode cL_law 1649 = .ok (.iload 5, 2) := by decide +kernel
theorem dL_law_1651 : decode cL_law 1651 = .ok (.iconst 2, 1) := by decide +kernel
theorem dL_law_1652 : decode cL_law 1652 = .ok (.iadd, 1) := by decide +kernel
theorem dL_law_1653 : decode cL_law 1653 = .ok (.iaload, 1) := by decide +kernel
theorem dL_law_1654 : decode cL_law 1654 = .ok (.invokevirtual 234, 3) := by decide +kernel
theorem dL_law_1657 : decode cL_law 1657 = .ok (.lstore 7, 2) := by decide +kernel
theorem dL_law_1659 : decode cL_law 1659 = .ok (.aload_n 2, 1) := by decide +kernel
theorem dL_law_1660 : decode cL_law 1660 = .ok (.invokevirtual 159, 3) := by decide +kernel
theorem dL_law_1663 : decode cL_law 1663 = .ok (.iload 6, 2) := by decide +kernel
theorem dL_law_1665 : decode cL_law 1665 = .ok (.if_icmp .eq 5, 3) := by decide +kernel
theorem dL_law_1668 : decode cL_law 1668 = .ok (.iconst 0, 1) := by decide +kernel
theorem dL_law_1669 : decode cL_law 1669 = .ok (.ireturn, 1) := by decide +kernel
theorem dL_law_1670 : decode cL_law 1670 = .ok (.iload 6, 2) := by decide +kernel
theorem dL_law_1672 : decode cL_law 1672 = .ok (.ifCond .ne 14, 3) := by decide +kernel
theorem dL_law_1675 : decode cL_law 1675 = .ok (.aload_n 3, 1) := by decide +kernel
theorem dL_law_1676 : decode cL_law 1676 = .ok (.iconst 0, 1) := by decide +kernel
theorem dL_law_1677 : decode cL_law 1677 = .ok (.laload, 1) := by decide +kernel
theorem dL_law_1678 : decode cL_law 1678 = .ok (.lload 7, 2) := by decide +kernel
theorem dL_law_1680 : decode cL_law 1680 = .ok (.lcmp, 1) := by decide +kernel
theorem dL_law_1681 : decode cL_law 1681 = .ok (.ifCond .eq 5, 3) := by decide +kernel
theorem dL_law_1684 : decode cL_law 1684 = .ok (.iconst 0, 1) := by decide +kernel
theorem dL_law_1685 : decode cL_law 1685 = .ok (.ireturn, 1) := by decide +kernel
theorem dL_law_1686 : decode cL_law 1686 = .ok (.goto 1142, 3) := by decide +kernel
theorem dL_law_1689 : decode cL_law 1689 = .ok (.aload_n 1, 1) := by decide +kernel
theorem dL_law_1690 : decode cL_law 1690 = .ok (.aload_n 0, 1) := by decide +kernel
theorem dL_law_1691 : decode cL_law 1691 = .ok (.iload 5, 2) := by decide +kernel
theorem dL_law_1693 : decode cL_law 1693 = .ok (.iconst 1, 1) := by decide +kernel
theorem dL_law_1694 : decode cL_law 1694 = .ok (.iadd, 1) := by decide +kernel
theorem dL_law_1695 : decode cL_law 1695 = .ok (.iaload, 1) := by decide +kernel
theorem dL_law_1696 : decode cL_law 1696 = .ok (.aload_n 0, 1) := by decide +kernel
theorem dL_law_1697 : decode cL_law 1697 = .ok (.iload 5, 2) := by decide +kernel
theorem dL_law_1699 : decode cL_law 1699 = .ok (.iconst 2, 1) := by decide +kernel
theorem dL_law_1700 : decode cL_law 1700 = .ok (.iadd, 1) := by decide +kernel
theorem dL_law_1701 : decode cL_law 1701 = .ok (.iaload, 1) := by decide +kernel
theorem dL_law_1702 : decode cL_law 1702 = .ok (.aload_n 0, 1) := by decide +kernel
theorem dL_law_1703 : decode cL_law 1703 = .ok (.iload 5, 2) := by decide +kernel
theorem dL_law_1705 : decode cL_law 1705 = .ok (.iconst 3, 1) := by decide +kernel
theorem dL_law_1706 : decode cL_law 1706 = .ok (.iadd, 1) := by decide +kernel
theorem dL_law_1707 : decode cL_law 1707 = .ok (.iaload, 1) := by decide +kernel
theorem dL_law_1708 : decode cL_law 1708 = .ok (.i2l, 1) := by decide +kernel
theorem dL_law_1709 : decode cL_law 1709 = .ok (.bipush 32, 2) := by decide +kernel
theorem dL_law_1711 : decode cL_law 1711 = .ok (.lshl, 1) := by decide +kernel
theorem dL_law_1712 : decode cL_law 1712 = .ok (.aload_n 0, 1) := by decide +kernel
theorem dL_law_1713 : decode cL_law 1713 = .ok (.iload 5, 2) := by decide +kernel
theorem dL_law_1715 : decode cL_law 1715 = .ok (.iconst 4, 1) := by decide +kernel
theorem dL_law_1716 : decode cL_law 1716 = .ok (.iadd, 1) := by decide +kernel
theorem dL_law_1717 : decode cL_law 1717 = .ok (.iaload, 1) := by decide +kernel
theorem dL_law_1718 : decode cL_law 1718 = .ok (.i2l, 1) := by decide +kernel
theorem dL_law_1719 : decode cL_law 1719 = .ok (.ldc2_w 226, 3) := by decide +kernel
theorem dL_law_1722 : decode cL_law 1722 = .ok (.land, 1) := by decide +kernel
theorem dL_law_1723 : decode cL_law 1723 = .ok (.lor, 1) := by decide +kernel
theorem dL_law_1724 : decode cL_law 1724 = .ok (.aload_n 3, 1) := by decide +kernel
theorem dL_law_1725 : decode cL_law 1725 = .ok (.invokestatic 235, 3) := by decide +kernel
theorem dL_law_1728 : decode cL_law 1728 = .ok (.istore 6, 2) := by decide +kernel
theorem dL_law_1730 : decode cL_law 1730 = .ok (.aload_n 2, 1) := by decide +kernel
theorem dL_law_1731 : decode cL_law 1731 = .ok (.aload_n 0, 1) := by decide +kernel
theorem dL_law_1732 : decode cL_law 1732 = .ok (.iload 5, 2) := by decide +kernel
theorem dL_law_1734 : decode cL_law 1734 = .ok (.iconst 1, 1) := by decide +kernel
theorem dL_law_1735 : decode cL_law 1735 = .ok (.iadd, 1) := by decide +kernel
theorem dL_law_1736 : decode cL_law 1736 = .ok (.iaload, 1) := by decide +kernel
theorem dL_law_1737 : decode cL_law 1737 = .ok (.aload_n 0, 1) := by decide +kernel
theorem dL_law_1738 : decode cL_law 1738 = .ok (.iload 5, 2) := by decide +kernel
theorem dL_law_1740 : decode cL_law 1740 = .ok (.iconst 2, 1) := by decide +kernel
theorem dL_law_1741 : decode cL_law 1741 = .ok (.iadd, 1) := by decide +kernel
theorem dL_law_1742 : decode cL_law 1742 = .ok (.iaload, 1) := by decide +kernel
theorem dL_law_1743 : decode cL_law 1743 = .ok (.aload_n 0, 1) := by decide +kernel
theorem dL_law_1744 : decode cL_law 1744 = .ok (.iload 5, 2) := by decide +kernel
theorem dL_law_1746 : decode cL_law 1746 = .ok (.iconst 3, 1) := by decide +kernel
theorem dL_law_1747 : decode cL_law 1747 = .ok (.iadd, 1) := by decide +kernel
theorem dL_law_1748 : decode cL_law 1748 = .ok (.iaload, 1) := by decide +kernel
theorem dL_law_1749 : decode cL_law 1749 = .ok (.i2l, 1) := by decide +kernel
theorem dL_law_1750 : decode cL_law 1750 = .ok (.bipush 32, 2) := by decide +kernel
theorem dL_law_1752 : decode cL_law 1752 = .ok (.lshl, 1) := by decide +kernel
theorem dL_law_1753 : decode cL_law 1753 = .ok (.aload_n 0, 1) := by decide +kernel
theorem dL_law_1754 : decode cL_law 1754 = .ok (.iload 5, 2) := by decide +kernel
theorem dL_law_1756 : decode cL_law 1756 = .ok (.iconst 4, 1) := by decide +kernel
theorem dL_law_1757 : decode cL_law 1757 = .ok (.iadd, 1) := by decide +kernel
theorem dL_law_1758 : decode cL_law 1758 = .ok (.iaload, 1) := by decide +kernel
theorem dL_law_1759 : decode cL_law 1759 = .ok (.i2l, 1) := by decide +kernel
theorem dL_law_1760 : decode cL_law 1760 = .ok (.ldc2_w 226, 3) := by decide +kernel
theorem dL_law_1763 : decode cL_law 1763 = .ok (.land, 1) := by decide +kernel
theorem dL_law_1764 : decode cL_law 1764 = .ok (.lor, 1) := by decide +kernel
theorem dL_law_1765 : decode cL_law 1765 = .ok (.invokevirtual 238, 3) := by decide +kernel
theorem dL_law_1768 : decode cL_law 1768 = .ok (.lstore 7, 2) := by decide +kernel
theorem dL_law_1770 : decode cL_law 1770 = .ok (.aload_n 2, 1) := by decide +kernel
theorem dL_law_1771 : decode cL_law 1771 = .ok (.invokevirtual 159, 3) := by decide +kernel
theorem dL_law_1774 : decode cL_law 1774 = .ok (.iload 6, 2) := by decide +kernel
theorem dL_law_1776 : decode cL_law 1776 = .ok (.if_icmp .eq 5, 3) := by decide +kernel
theorem dL_law_1779 : decode cL_law 1779 = .ok (.iconst 0, 1) := by decide +kernel
theorem dL_law_1780 : decode cL_law 1780 = .ok (.ireturn, 1) := by decide +kernel
theorem dL_law_1781 : decode cL_law 1781 = .ok (.iload 6, 2) := by decide +kernel
theorem dL_law_1783 : decode cL_law 1783 = .ok (.ifCond .ne 14, 3) := by decide +kernel
theorem dL_law_1786 : decode cL_law 1786 = .ok (.aload_n 3, 1) := by decide +kernel
theorem dL_law_1787 : decode cL_law 1787 = .ok (.iconst 0, 1) := by decide +kernel
theorem dL_law_1788 : decode cL_law 1788 = .ok (.laload, 1) := by decide +kernel
theorem dL_law_1789 : decode cL_law 1789 = .ok (.lload 7, 2) := by decide +kernel
theorem dL_law_1791 : decode cL_law 1791 = .ok (.lcmp, 1) := by decide +kernel
theorem dL_law_1792 : decode cL_law 1792 = .ok (.ifCond .eq 5, 3) := by decide +kernel
theorem dL_law_1795 : decode cL_law 1795 = .ok (.iconst 0, 1) := by decide +kernel
theorem dL_law_1796 : decode cL_law 1796 = .ok (.ireturn, 1) := by decide +kernel
theorem dL_law_1797 : decode cL_law 1797 = .ok (.goto 1031, 3) := by decide +kernel
theorem dL_law_1800 : decode cL_law 1800 = .ok (.aload_n 1, 1) := by decide +kernel
theorem dL_law_1801 : decode cL_law 1801 = .ok (.aload_n 0, 1) := by decide +kernel
theorem dL_law_1802 : decode cL_law 1802 = .ok (.iload 5, 2) := by decide +kernel
theorem dL_law_1804 : decode cL_law 1804 = .ok (.iconst 1, 1) := by decide +kernel
theorem dL_law_1805 : decode cL_law 1805 = .ok (.iadd, 1) := by decide +kernel
theorem dL_law_1806 : decode cL_law 1806 = .ok (.iaload, 1) := by decide +kernel
theorem dL_law_1807 : decode cL_law 1807 = .ok (.aload_n 0, 1) := by decide +kernel
theorem dL_law_1808 : decode cL_law 1808 = .ok (.iload 5, 2) := by decide +kernel
theorem dL_law_1810 : decode cL_law 1810 = .ok (.iconst 2, 1) := by decide +kernel
theorem dL_law_1811 : decode cL_law 1811 = .ok (.iadd, 1) := by decide +kernel
theorem dL_law_1812 : decode cL_law 1812 = .ok (.iaload, 1) := by decide +kernel
theorem dL_law_1813 : decode cL_law 1813 = .ok (.aload_n 0, 1) := by decide +kernel
theorem dL_law_1814 : decode cL_law 1814 = .ok (.iload 5, 2) := by decide +kernel
theorem dL_law_1816 : decode cL_law 1816 = .ok (.iconst 3, 1) := by decide +kernel
theorem dL_law_1817 : decode cL_law 1817 = .ok (.iadd, 1) := by decide +kernel
theorem dL_law_1818 : decode cL_law 1818 = .ok (.iaload, 1) := by decide +kernel
theorem dL_law_1819 : decode cL_law 1819 = .ok (.i2l, 1) := by decide +kernel
theorem dL_law_1820 : decode cL_law 1820 = .ok (.bipush 32, 2) := by decide +kernel
theorem dL_law_1822 : decode cL_law 1822 = .ok (.lshl, 1) := by decide +kernel
theorem dL_law_1823 : decode cL_law 1823 = .ok (.aload_n 0, 1) := by decide +kernel
theorem dL_law_1824 : decode cL_law 1824 = .ok (.iload 5, 2) := by decide +kernel
theorem dL_law_1826 : decode cL_law 1826 = .ok (.iconst 4, 1) := by decide +kernel
theorem dL_law_1827 : decode cL_law 1827 = .ok (.iadd, 1) := by decide +kernel
theorem dL_law_1828 : decode cL_law 1828 = .ok (.iaload, 1) := by decide +kernel
theorem dL_law_1829 : decode cL_law 1829 = .ok (.i2l, 1) := by decide +kernel
theorem dL_law_1830 : decode cL_law 1830 = .ok (.ldc2_w 226, 3) := by decide +kernel
theorem dL_law_1833 : decode cL_law 1833 = .ok (.land, 1) := by decide +kernel
theorem dL_law_1834 : decode cL_law 1834 = .ok (.lor, 1) := by decide +kernel
theorem dL_law_1835 : decode cL_law 1835 = .ok (.aload_n 0, 1) := by decide +kernel
theorem dL_law_1836 : decode cL_law 1836 = .ok (.iload 5, 2) := by decide +kernel
theorem dL_law_1838 : decode cL_law 1838 = .ok (.iconst 5, 1) := by decide +kernel
theorem dL_law_1839 : decode cL_law 1839 = .ok (.iadd, 1) := by decide +kernel
theorem dL_law_1840 : decode cL_law 1840 = .ok (.iaload, 1) := by decide +kernel
theorem dL_law_1841 : decode cL_law 1841 = .ok (.i2l, 1) := by decide +kernel
theorem dL_law_1842 : decode cL_law 1842 = .ok (.bipush 32, 2) := by decide +kernel
theorem dL_law_1844 : decode cL_law 1844 = .ok (.lshl, 1) := by decide +kernel
theorem dL_law_1845 : decode cL_law 1845 = .ok (.aload_n 0, 1) := by decide +kernel
theorem dL_law_1846 : decode cL_law 1846 = .ok (.iload 5, 2) := by decide +kernel
theorem dL_law_1848 : decode cL_law 1848 = .ok (.bipush 6, 2) := by decide +kernel
theorem dL_law_1850 : decode cL_law 1850 = .ok (.iadd, 1) := by decide +kernel
theorem dL_law_1851 : decode cL_law 1851 = .ok (.iaload, 1) := by decide +kernel
theorem dL_law_1852 : decode cL_law 1852 = .ok (.i2l, 1) := by decide +kernel
theorem dL_law_1853 : decode cL_law 1853 = .ok (.ldc2_w 226, 3) := by decide +kernel
theorem dL_law_1856 : decode cL_law 1856 = .ok (.land, 1) := by decide +kernel
theorem dL_law_1857 : decode cL_law 1857 = .ok (.lor, 1) := by decide +kernel
theorem dL_law_1858 : decode cL_law 1858 = .ok (.aload_n 3, 1) := by decide +kernel
theorem dL_law_1859 : decode cL_law 1859 = .ok (.invokestatic 239, 3) := by decide +kernel
theorem dL_law_1862 : decode cL_law 1862 = .ok (.istore 6, 2) := by decide +kernel
theorem dL_law_1864 : decode cL_law 1864 = .ok (.aload_n 2, 1) := by decide +kernel
theorem dL_law_1865 : decode cL_law 1865 = .ok (.aload_n 0, 1) := by decide +kernel
theorem dL_law_1866 : decode cL_law 1866 = .ok (.iload 5, 2) := by decide +kernel
theorem dL_law_1868 : decode cL_law 1868 = .ok (.iconst 1, 1) := by decide +kernel
theorem dL_law_1869 : decode cL_law 1869 = .ok (.iadd, 1) := by decide +kernel
theorem dL_law_1870 : decode cL_law 1870 = .ok (.iaload, 1) := by decide +kernel
theorem dL_law_1871 : decode cL_law 1871 = .ok (.aload_n 0, 1) := by decide +kernel
theorem dL_law_1872 : decode cL_law 1872 = .ok (.iload 5, 2) := by decide +kernel
theorem dL_law_1874 : decode cL_law 1874 = .ok (.iconst 2, 1) := by decide +kernel
theorem dL_law_1875 : decode cL_law 1875 = .ok (.iadd, 1) := by decide +kernel
theorem dL_law_1876 : decode cL_law 1876 = .ok (.iaload, 1) := by decide +kernel
theorem dL_law_1877 : decode cL_law 1877 = .ok (.aload_n 0, 1) := by decide +kernel
theorem dL_law_1878 : decode cL_law 1878 = .ok (.iload 5, 2) := by decide +kernel
theorem dL_law_1880 : decode cL_law 1880 = .ok (.iconst 3, 1) := by decide +kernel
theorem dL_law_1881 : decode cL_law 1881 = .ok (.iadd, 1) := by decide +kernel
theorem dL_law_1882 : decode cL_law 1882 = .ok (.iaload, 1) := by decide +kernel
theorem dL_law_1883 : decode cL_law 1883 = .ok (.i2l, 1) := by decide +kernel
theorem dL_law_1884 : decode cL_law 1884 = .ok (.bipush 32, 2) := by decide +kernel
theorem dL_law_1886 : decode cL_law 1886 = .ok (.lshl, 1) := by decide +kernel
theorem dL_law_1887 : decode cL_law 1887 = .ok (.aload_n 0, 1) := by decide +kernel
theorem dL_law_1888 : decode cL_law 1888 = .ok (.iload 5, 2) := by decide +kernel
theorem dL_law_1890 : decode cL_law 1890 = .ok (.iconst 4, 1) := by decide +kernel
theorem dL_law_1891 : decode cL_law 1891 = .ok (.iadd, 1) := by decide +kernel
theorem dL_law_1892 : decode cL_law 1892 = .ok (.iaload, 1) := by decide +kernel
theorem dL_law_1893 : decode cL_law 1893 = .ok (.i2l, 1) := by decide +kernel
theorem dL_law_1894 : decode cL_law 1894 = .ok (.ldc2_w 226, 3) := by decide +kernel
theorem dL_law_1897 : decode cL_law 1897 = .ok (.land, 1) := by decide +kernel
theorem dL_law_1898 : decode cL_law 1898 = .ok (.lor, 1) := by decide +kernel
theorem dL_law_1899 : decode cL_law 1899 = .ok (.aload_n 0, 1) := by decide +kernel
theorem dL_law_1900 : decode cL_law 1900 = .ok (.iload 5, 2) := by decide +kernel
theorem dL_law_1902 : decode cL_law 1902 = .ok (.iconst 5, 1) := by decide +kernel
theorem dL_law_1903 : decode cL_law 1903 = .ok (.iadd, 1) := by decide +kernel
theorem dL_law_1904 : decode cL_law 1904 = .ok (.iaload, 1) := by decide +kernel
theorem dL_law_1905 : decode cL_law 1905 = .ok (.i2l, 1) := by decide +kernel
theorem dL_law_1906 : decode cL_law 1906 = .ok (.bipush 32, 2) := by decide +kernel
theorem dL_law_1908 : decode cL_law 1908 = .ok (.lshl, 1) := by decide +kernel
theorem dL_law_1909 : decode cL_law 1909 = .ok (.aload_n 0, 1) := by decide +kernel
theorem dL_law_1910 : decode cL_law 1910 = .ok (.iload 5, 2) := by decide +kernel
theorem dL_law_1912 : decode cL_law 1912 = .ok (.bipush 6, 2) := by decide +kernel
theorem dL_law_1914 : decode cL_law 1914 = .ok (.iadd, 1) := by decide +kernel
theorem dL_law_1915 : decode cL_law 1915 = .ok (.iaload, 1) := by decide +kernel
theorem dL_law_1916 : decode cL_law 1916 = .ok (.i2l, 1) := by decide +kernel
theorem dL_law_1917 : decode cL_law 1917 = .ok (.ldc2_w 226, 3) := by decide +kernel
theorem dL_law_1920 : decode cL_law 1920 = .ok (.land, 1) := by decide +kernel
theorem dL_law_1921 : decode cL_law 1921 = .ok (.lor, 1) := by decide +kernel
theorem dL_law_1922 : decode cL_law 1922 = .ok (.invokevirtual 242, 3) := by decide +kernel
theorem dL_law_1925 : decode cL_law 1925 = .ok (.istore 7, 2) := by decide +kernel
theorem dL_law_1927 : decode cL_law 1927 = .ok (.aload_n 2, 1) := by decide +kernel
theorem dL_law_1928 : decode cL_law 1928 = .ok (.invokevirtual 159, 3) := by decide +kernel
theorem dL_law_1931 : decode cL_law 1931 = .ok (.iload 6, 2) := by decide +kernel
theorem dL_law_1933 : decode cL_law 1933 = .ok (.if_icmp .eq 5, 3) := by decide +kernel
theorem dL_law_1936 : decode cL_law 1936 = .ok (.iconst 0, 1) := by decide +kernel
theorem dL_law_1937 : decode cL_law 1937 = .ok (.ireturn, 1) := by decide +kernel
theorem dL_law_1938 : decode cL_law 1938 = .ok (.iload 6, 2) := by decide +kernel
theorem dL_law_1940 : decode cL_law 1940 = .ok (.ifCond .ne 15, 3) := by decide +kernel
theorem dL_law_1943 : decode cL_law 1943 = .ok (.aload_n 3, 1) := by decide +kernel
theorem dL_law_1944 : decode cL_law 1944 = .ok (.iconst 0, 1) := by decide +kernel
theorem dL_law_1945 : decode cL_law 1945 = .ok (.laload, 1) := by decide +kernel
theorem dL_law_1946 : decode cL_law 1946 = .ok (.iload 7, 2) := by decide +kernel
theorem dL_law_1948 : decode cL_law 1948 = .ok (.i2l, 1) := by decide +kernel
theorem dL_law_1949 : decode cL_law 1949 = .ok (.lcmp, 1) := by decide +kernel
theorem dL_law_1950 : decode cL_law 1950 = .ok (.ifCond .eq 5, 3) := by decide +kernel
theorem dL_law_1953 : decode cL_law 1953 = .ok (.iconst 0, 1) := by decide +kernel
theorem dL_law_1954 : decode cL_law 1954 = .ok (.ireturn, 1) := by decide +kernel
theorem dL_law_1955 : decode cL_law 1955 = .ok (.goto 873, 3) := by decide +kernel
theorem dL_law_1958 : decode cL_law 1958 = .ok (.aload_n 1, 1) := by decide +kernel
theorem dL_law_1959 : decode cL_law 1959 = .ok (.aload_n 0, 1) := by decide +kernel
theorem dL_law_1960 : decode cL_law 1960 = .ok (.iload 5, 2) := by decide +kernel
theorem dL_law_1962 : decode cL_law 1962 = .ok (.iconst 1, 1) := by decide +kernel
theorem dL_law_1963 : decode cL_law 1963 = .ok (.iadd, 1) := by decide +kernel
theorem dL_law_1964 : decode cL_law 1964 = .ok (.iaload, 1) := by decide +kernel
theorem dL_law_1965 : decode cL_law 1965 = .ok (.aload_n 0, 1) := by decide +kernel
theorem dL_law_1966 : decode cL_law 1966 = .ok (.iload 5, 2) := by decide +kernel
theorem dL_law_1968 : decode cL_law 1968 = .ok (.iconst 2, 1) := by decide +kernel
theorem dL_law_1969 : decode cL_law 1969 = .ok (.iadd, 1) := by decide +kernel
theorem dL_law_1970 : decode cL_law 1970 = .ok (.iaload, 1) := by decide +kernel
theorem dL_law_1971 : decode cL_law 1971 = .ok (.aload_n 0, 1) := by decide +kernel
theorem dL_law_1972 : decode cL_law 1972 = .ok (.iload 5, 2) := by decide +kernel
theorem dL_law_1974 : decode cL_law 1974 = .ok (.iconst 3, 1) := by decide +kernel
theorem dL_law_1975 : decode cL_law 1975 = .ok (.iadd, 1) := by decide +kernel
theorem dL_law_1976 : decode cL_law 1976 = .ok (.iaload, 1) := by decide +kernel
theorem dL_law_1977 : decode cL_law 1977 = .ok (.aload_n 3, 1) := by decide +kernel
theorem dL_law_1978 : decode cL_law 1978 = .ok (.invokestatic 243, 3) := by decide +kernel
theorem dL_law_1981 : decode cL_law 1981 = .ok (.istore 6, 2) := by decide +kernel
theorem dL_law_1983 : decode cL_law 1983 = .ok (.aload_n 2, 1) := by decide +kernel
theorem dL_law_1984 : decode cL_law 1984 = .ok (.aload_n 0, 1) := by decide +kernel
theorem dL_law_1985 : decode cL_law 1985 = .ok (.iload 5, 2) := by decide +kernel
theorem dL_law_1987 : decode cL_law 1987 = .ok (.iconst 1, 1) := by decide +kernel
theorem dL_law_1988 : decode cL_law 1988 = .ok (.iadd, 1) := by decide +kernel
theorem dL_law_1989 : decode cL_law 1989 = .ok (.iaload, 1) := by decide +kernel
theorem dL_law_1990 : decode cL_law 1990 = .ok (.aload_n 0, 1) := by decide +kernel
theorem dL_law_1991 : decode cL_law 1991 = .ok (.iload 5, 2) := by decide +kernel
theorem dL_law_1993 : decode cL_law 1993 = .ok (.iconst 2, 1) := by decide +kernel
theorem dL_law_1994 : decode cL_law 1994 = .ok (.iadd, 1) := by decide +kernel
theorem dL_law_1995 : decode cL_law 1995 = .ok (.iaload, 1) := by decide +kernel
theorem dL_law_1996 : decode cL_law 1996 = .ok (.aload_n 0, 1) := by decide +kernel
theorem dL_law_1997 : decode cL_law 1997 = .ok (.iload 5, 2) := by decide +kernel
theorem dL_law_1999 : decode cL_law 1999 = .ok (.iconst 3, 1) := by decide +kernel
theorem dL_law_2000 : decode cL_law 2000 = .ok (.iadd, 1) := by decide +kernel
theorem dL_law_2001 : decode cL_law 2001 = .ok (.iaload, 1) := by decide +kernel
theorem dL_law_2002 : decode cL_law 2002 = .ok (.invokevirtual 245, 3) := by decide +kernel
theorem dL_law_2005 : decode cL_law 2005 = .ok (.istore 7, 2) := by decide +kernel
theorem dL_law_2007 : decode cL_law 2007 = .ok (.aload_n 2, 1) := by decide +kernel
theorem dL_law_2008 : decode cL_law 2008 = .ok (.invokevirtual 159, 3) := by decide +kernel
theorem dL_law_2011 : decode cL_law 2011 = .ok (.iload 6, 2) := by decide +kernel
theorem dL_law_2013 : decode cL_law 2013 = .ok (.if_icmp .eq 5, 3) := by decide +kernel
theorem dL_law_2016 : decode cL_law 2016 = .ok (.iconst 0, 1) := by decide +kernel
theorem dL_law_2017 : decode cL_law 2017 = .ok (.ireturn, 1) := by decide +kernel
theorem dL_law_2018 : decode cL_law 2018 = .ok (.iload 6, 2) := by decide +kernel
theorem dL_law_2020 : decode cL_law 2020 = .ok (.ifCond .ne 15, 3) := by decide +kernel
theorem dL_law_2023 : decode cL_law 2023 = .ok (.aload_n 3, 1) := by decide +kernel
theorem dL_law_2024 : decode cL_law 2024 = .ok (.iconst 0, 1) := by decide +kernel
theorem dL_law_2025 : decode cL_law 2025 = .ok (.laload, 1) := by decide +kernel
theorem dL_law_2026 : decode cL_law 2026 = .ok (.iload 7, 2) := by decide +kernel
theorem dL_law_2028 : decode cL_law 2028 = .ok (.i2l, 1) := by decide +kernel
theorem dL_law_2029 : decode cL_law 2029 = .ok (.lcmp, 1) := by decide +kernel
theorem dL_law_2030 : decode cL_law 2030 = .ok (.ifCond .eq 5, 3) := by decide +kernel
theorem dL_law_2033 : decode cL_law 2033 = .ok (.iconst 0, 1) := by decide +kernel
theorem dL_law_2034 : decode cL_law 2034 = .ok (.ireturn, 1) := by decide +kernel
theorem dL_law_2035 : decode cL_law 2035 = .ok (.goto 793, 3) := by decide +kernel
theorem dL_law_2038 : decode cL_law 2038 = .ok (.aload_n 1, 1) := by decide +kernel
theorem dL_law_2039 : decode cL_law 2039 = .ok (.aload_n 0, 1) := by decide +kernel
theorem dL_law_2040 : decode cL_law 2040 = .ok (.iload 5, 2) := by decide +kernel
theorem dL_law_2042 : decode cL_law 2042 = .ok (.iconst 1, 1) := by decide +kernel
theorem dL_law_2043 : decode cL_law 2043 = .ok (.iadd, 1) := by decide +kernel
theorem dL_law_2044 : decode cL_law 2044 = .ok (.iaload, 1) := by decide +kernel
theorem dL_law_2045 : decode cL_law 2045 = .ok (.aload_n 0, 1) := by decide +kernel
theorem dL_law_2046 : decode cL_law 2046 = .ok (.iload 5, 2) := by decide +kernel
theorem dL_law_2048 : decode cL_law 2048 = .ok (.iconst 2, 1) := by decide +kernel
theorem dL_law_2049 : decode cL_law 2049 = .ok (.iadd, 1) := by decide +kernel
theorem dL_law_2050 : decode cL_law 2050 = .ok (.iaload, 1) := by decide +kernel
theorem dL_law_2051 : decode cL_law 2051 = .ok (.aload_n 3, 1) := by decide +kernel
theorem dL_law_2052 : decode cL_law 2052 = .ok (.invokestatic 246, 3) := by decide +kernel
theorem dL_law_2055 : decode cL_law 2055 = .ok (.istore 6, 2) := by decide +kernel
theorem dL_law_2057 : decode cL_law 2057 = .ok (.aload_n 2, 1) := by decide +kernel
theorem dL_law_2058 : decode cL_law 2058 = .ok (.aload_n 0, 1) := by decide +kernel
theorem dL_law_2059 : decode cL_law 2059 = .ok (.iload 5, 2) := by decide +kernel
theorem dL_law_2061 : decode cL_law 2061 = .ok (.iconst 1, 1) := by decide +kernel
theorem dL_law_2062 : decode cL_law 2062 = .ok (.iadd, 1) := by decide +kernel
theorem dL_law_2063 : decode cL_law 2063 = .ok (.iaload, 1) := by decide +kernel
theorem dL_law_2064 : decode cL_law 2064 = .ok (.aload_n 0, 1) := by decide +kernel
theorem dL_law_2065 : decode cL_law 2065 = .ok (.iload 5, 2) := by decide +kernel
theorem dL_law_2067 : decode cL_law 2067 = .ok (.iconst 2, 1) := by decide +kernel
theorem dL_law_2068 : decode cL_law 2068 = .ok (.iadd, 1) := by decide +kernel
theorem dL_law_2069 : decode cL_law 2069 = .ok (.iaload, 1) := by decide +kernel
theorem dL_law_2070 : decode cL_law 2070 = .ok (.invokevirtual 248, 3) := by decide +kernel
theorem dL_law_2073 : decode cL_law 2073 = .ok (.istore 7, 2) := by decide +kernel
theorem dL_law_2075 : decode cL_law 2075 = .ok (.aload_n 2, 1) := by decide +kernel
theorem dL_law_2076 : decode cL_law 2076 = .ok (.invokevirtual 159, 3) := by decide +kernel
theorem dL_law_2079 : decode cL_law 2079 = .ok (.iload 6, 2) := by decide +kernel
theorem dL_law_2081 : decode cL_law 2081 = .ok (.if_icmp .eq 5, 3) := by decide +kernel
theorem dL_law_2084 : decode cL_law 2084 = .ok (.iconst 0, 1) := by decide +kernel
theorem dL_law_2085 : decode cL_law 2085 = .ok (.ireturn, 1) := by decide +kernel
theorem dL_law_2086 : decode cL_law 2086 = .ok (.iload 6, 2) := by decide +kernel
theorem dL_law_2088 : decode cL_law 2088 = .ok (.ifCond .ne 15, 3) := by decide +kernel
theorem dL_law_2091 : decode cL_law 2091 = .ok (.aload_n 3, 1) := by decide +kernel
theorem dL_law_2092 : decode cL_law 2092 = .ok (.iconst 0, 1) := by decide +kernel
theorem dL_law_2093 : decode cL_law 2093 = .ok (.laload, 1) := by decide +kernel
theorem dL_law_2094 : decode cL_law 2094 = .ok (.iload 7, 2) := by decide +kernel
theorem dL_law_2096 : decode cL_law 2096 = .ok (.i2l, 1) := by decide +kernel
theorem dL_law_2097 : decode cL_law 2097 = .ok (.lcmp, 1) := by decide +kernel
theorem dL_law_2098 : decode cL_law 2098 = .ok (.ifCond .eq 5, 3) := by decide +kernel
theorem dL_law_2101 : decode cL_law 2101 = .ok (.iconst 0, 1) := by decide +kernel
theorem dL_law_2102 : decode cL_law 2102 = .ok (.ireturn, 1) := by decide +kernel
theorem dL_law_2103 : decode cL_law 2103 = .ok (.goto 725, 3) := by decide +kernel
theorem dL_law_2106 : decode cL_law 2106 = .ok (.aload_n 1, 1) := by decide +kernel
theorem dL_law_2107 : decode cL_law 2107 = .ok (.aload_n 0, 1) := by decide +kernel
theorem dL_law_2108 : decode cL_law 2108 = .ok (.iload 5, 2) := by decide +kernel
theorem dL_law_2110 : decode cL_law 2110 = .ok (.iconst 1, 1) := by decide +kernel
theorem dL_law_2111 : decode cL_law 2111 = .ok (.iadd, 1) := by decide +kernel
theorem dL_law_2112 : decode cL_law 2112 = .ok (.iaload, 1) := by decide +kernel
theorem dL_law_2113 : decode cL_law 2113 = .ok (.aload_n 0, 1) := by decide +kernel
theorem dL_law_2114 : decode cL_law 2114 = .ok (.iload 5, 2) := by decide +kernel
theorem dL_law_2116 : decode cL_law 2116 = .ok (.iconst 2, 1) := by decide +kernel
theorem dL_law_2117 : decode cL_law 2117 = .ok (.iadd, 1) := by decide +kernel
theorem dL_law_2118 : decode cL_law 2118 = .ok (.iaload, 1) := by decide +kernel
theorem dL_law_2119 : decode cL_law 2119 = .ok (.aload_n 0, 1) := by decide +kernel
theorem dL_law_2120 : decode cL_law 2120 = .ok (.iload 5, 2) := by decide +kernel
theorem dL_law_2122 : decode cL_law 2122 = .ok (.iconst 3, 1) := by decide +kernel
theorem dL_law_2123 : decode cL_law 2123 = .ok (.iadd, 1) := by decide +kernel
theorem dL_law_2124 : decode cL_law 2124 = .ok (.iaload, 1) := by decide +kernel
theorem dL_law_2125 : decode cL_law 2125 = .ok (.aload_n 0, 1) := by decide +kernel
theorem dL_law_2126 : decode cL_law 2126 = .ok (.iload 5, 2) := by decide +kernel
theorem dL_law_2128 : decode cL_law 2128 = .ok (.iconst 4, 1) := by decide +kernel
theorem dL_law_2129 : decode cL_law 2129 = .ok (.iadd, 1) := by decide +kernel
theorem dL_law_2130 : decode cL_law 2130 = .ok (.iaload, 1) := by decide +kernel
theorem dL_law_2131 : decode cL_law 2131 = .ok (.aload_n 3, 1) := by decide +kernel
theorem dL_law_2132 : decode cL_law 2132 = .ok (.invokestatic 249, 3) := by decide +kernel
theorem dL_law_2135 : decode cL_law 2135 = .ok (.istore 6, 2) := by decide +kernel
theorem dL_law_2137 : decode cL_law 2137 = .ok (.aload_n 2, 1) := by decide +kernel
theorem dL_law_2138 : decode cL_law 2138 = .ok (.aload_n 0, 1) := by decide +kernel
theorem dL_law_2139 : decode cL_law 2139 = .ok (.iload 5, 2) := by decide +kernel
theorem dL_law_2141 : decode cL_law 2141 = .ok (.iconst 1, 1) := by decide +kernel
theorem dL_law_2142 : decode cL_law 2142 = .ok (.iadd, 1) := by decide +kernel
theorem dL_law_2143 : decode cL_law 2143 = .ok (.iaload, 1) := by decide +kernel
theorem dL_law_2144 : decode cL_law 2144 = .ok (.aload_n 0, 1) := by decide +kernel
theorem dL_law_2145 : decode cL_law 2145 = .ok (.iload 5, 2) := by decide +kernel
theorem dL_law_2147 : decode cL_law 2147 = .ok (.iconst 2, 1) := by decide +kernel
theorem dL_law_2148 : decode cL_law 2148 = .ok (.iadd, 1) := by decide +kernel
theorem dL_law_2149 : decode cL_law 2149 = .ok (.iaload, 1) := by decide +kernel
theorem dL_law_2150 : decode cL_law 2150 = .ok (.aload_n 0, 1) := by decide +kernel
theorem dL_law_2151 : decode cL_law 2151 = .ok (.iload 5, 2) := by decide +kernel
theorem dL_law_2153 : decode cL_law 2153 = .ok (.iconst 3, 1) := by decide +kernel
theorem dL_law_2154 : decode cL_law 2154 = .ok (.iadd, 1) := by decide +kernel
theorem dL_law_2155 : decode cL_law 2155 = .ok (.iaload, 1) := by decide +kernel
theorem dL_law_2156 : decode cL_law 2156 = .ok (.aload_n 0, 1) := by decide +kernel
theorem dL_law_2157 : decode cL_law 2157 = .ok (.iload 5, 2) := by decide +kernel
theorem dL_law_2159 : decode cL_law 2159 = .ok (.iconst 4, 1) := by decide +kernel
theorem dL_law_2160 : decode cL_law 2160 = .ok (.iadd, 1) := by decide +kernel
theorem dL_law_2161 : decode cL_law 2161 = .ok (.iaload, 1) := by decide +kernel
theorem dL_law_2162 : decode cL_law 2162 = .ok (.invokevirtual 252, 3) := by decide +kernel
theorem dL_law_2165 : decode cL_law 2165 = .ok (.istore 7, 2) := by decide +kernel
theorem dL_law_2167 : decode cL_law 2167 = .ok (.aload_n 2, 1) := by decide +kernel
theorem dL_law_2168 : decode cL_law 2168 = .ok (.invokevirtual 159, 3) := by decide +kernel
theorem dL_law_2171 : decode cL_law 2171 = .ok (.iload 6, 2) := by decide +kernel
theorem dL_law_2173 : decode cL_law 2173 = .ok (.if_icmp .eq 5, 3) := by decide +kernel
theorem dL_law_2176 : decode cL_law 2176 = .ok (.iconst 0, 1) := by decide +kernel
theorem dL_law_2177 : decode cL_law 2177 = .ok (.ireturn, 1) := by decide +kernel
theorem dL_law_2178 : decode cL_law 2178 = .ok (.iload 6, 2) := by decide +kernel
theorem dL_law_2180 : decode cL_law 2180 = .ok (.ifCond .ne 15, 3) := by decide +kernel
theorem dL_law_2183 : decode cL_law 2183 = .ok (.aload_n 3, 1) := by decide +kernel
theorem dL_law_2184 : decode cL_law 2184 = .ok (.iconst 0, 1) := by decide +kernel
theorem dL_law_2185 : decode cL_law 2185 = .ok (.laload, 1) := by decide +kernel
theorem dL_law_2186 : decode cL_law 2186 = .ok (.iload 7, 2) := by decide +kernel
theorem dL_law_2188 : decode cL_law 2188 = .ok (.i2l, 1) := by decide +kernel
theorem dL_law_2189 : decode cL_law 2189 = .ok (.lcmp, 1) := by decide +kernel
theorem dL_law_2190 : decode cL_law 2190 = .ok (.ifCond .eq 5, 3) := by decide +kernel
theorem dL_law_2193 : decode cL_law 2193 = .ok (.iconst 0, 1) := by decide +kernel
theorem dL_law_2194 : decode cL_law 2194 = .ok (.ireturn, 1) := by decide +kernel
theorem dL_law_2195 : decode cL_law 2195 = .ok (.goto 633, 3) := by decide +kernel
theorem dL_law_2198 : decode cL_law 2198 = .ok (.aload_n 1, 1) := by decide +kernel
theorem dL_law_2199 : decode cL_law 2199 = .ok (.aload_n 0, 1) := by decide +kernel
theorem dL_law_2200 : decode cL_law 2200 = .ok (.iload 5, 2) := by decide +kernel
theorem dL_law_2202 : decode cL_law 2202 = .ok (.iconst 1, 1) := by decide +kernel
theorem dL_law_2203 : decode cL_law 2203 = .ok (.iadd, 1) := by decide +kernel
theorem dL_law_2204 : decode cL_law 2204 = .ok (.iaload, 1) := by decide +kernel
theorem dL_law_2205 : decode cL_law 2205 = .ok (.aload_n 0, 1) := by decide +kernel
theorem dL_law_2206 : decode cL_law 2206 = .ok (.iload 5, 2) := by decide +kernel
theorem dL_law_2208 : decode cL_law 2208 = .ok (.iconst 2, 1) := by decide +kernel
theorem dL_law_2209 : decode cL_law 2209 = .ok (.iadd, 1) := by decide +kernel
theorem dL_law_2210 : decode cL_law 2210 = .ok (.iaload, 1) := by decide +kernel
theorem dL_law_2211 : decode cL_law 2211 = .ok (.aload_n 3, 1) := by decide +kernel
theorem dL_law_2212 : decode cL_law 2212 = .ok (.invokestatic 253, 3) := by decide +kernel
theorem dL_law_2215 : decode cL_law 2215 = .ok (.istore 6, 2) := by decide +kernel
theorem dL_law_2217 : decode cL_law 2217 = .ok (.aload_n 2, 1) := by decide +kernel
theorem dL_law_2218 : decode cL_law 2218 = .ok (.aload_n 0, 1) := by decide +kernel
theorem dL_law_2219 : decode cL_law 2219 = .ok (.iload 5, 2) := by decide +kernel
theorem dL_law_2221 : decode cL_law 2221 = .ok (.iconst 1, 1) := by decide +kernel
theorem dL_law_2222 : decode cL_law 2222 = .ok (.iadd, 1) := by decide +kernel
theorem dL_law_2223 : decode cL_law 2223 = .ok (.iaload, 1) := by decide +kernel
theorem dL_law_2224 : decode cL_law 2224 = .ok (.aload_n 0, 1) := by decide +kernel
theorem dL_law_2225 : decode cL_law 2225 = .ok (.iload 5, 2) := by decide +kernel
theorem dL_law_2227 : decode cL_law 2227 = .ok (.iconst 2, 1) := by decide +kernel
theorem dL_law_2228 : decode cL_law 2228 = .ok (.iadd, 1) := by decide +kernel
theorem dL_law_2229 : decode cL_law 2229 = .ok (.iaload, 1) := by decide +kernel
theorem dL_law_2230 : decode cL_law 2230 = .ok (.invokevirtual 255, 3) := by decide +kernel
theorem dL_law_2233 : decode cL_law 2233 = .ok (.istore 7, 2) := by decide +kernel
theorem dL_law_2235 : decode cL_law 2235 = .ok (.aload_n 2, 1) := by decide +kernel
theorem dL_law_2236 : decode cL_law 2236 = .ok (.invokevirtual 159, 3) := by decide +kernel
theorem dL_law_2239 : decode cL_law 2239 = .ok (.iload 6, 2) := by decide +kernel
theorem dL_law_2241 : decode cL_law 2241 = .ok (.if_icmp .eq 5, 3) := by decide +kernel
theorem dL_law_2244 : decode cL_law 2244 = .ok (.iconst 0, 1) := by decide +kernel
theorem dL_law_2245 : decode cL_law 2245 = .ok (.ireturn, 1) := by decide +kernel
theorem dL_law_2246 : decode cL_law 2246 = .ok (.iload 6, 2) := by decide +kernel
theorem dL_law_2248 : decode cL_law 2248 = .ok (.ifCond .ne 15, 3) := by decide +kernel
theorem dL_law_2251 : decode cL_law 2251 = .ok (.aload_n 3, 1) := by decide +kernel
theorem dL_law_2252 : decode cL_law 2252 = .ok (.iconst 0, 1) := by decide +kernel
theorem dL_law_2253 : decode cL_law 2253 = .ok (.laload, 1) := by decide +kernel
theorem dL_law_2254 : decode cL_law 2254 = .ok (.iload 7, 2) := by decide +kernel
theorem dL_law_2256 : decode cL_law 2256 = .ok (.i2l, 1) := by decide +kernel
theorem dL_law_2257 : decode cL_law 2257 = .ok (.lcmp, 1) := by decide +kernel
theorem dL_law_2258 : decode cL_law 2258 = .ok (.ifCond .eq 5, 3) := by decide +kernel
theorem dL_law_2261 : decode cL_law 2261 = .ok (.iconst 0, 1) := by decide +kernel
theorem dL_law_2262 : decode cL_law 2262 = .ok (.ireturn, 1) := by decide +kernel
theorem dL_law_2263 : decode cL_law 2263 = .ok (.goto 565, 3) := by decide +kernel
theorem dL_law_2266 : decode cL_law 2266 = .ok (.aload_n 1, 1) := by decide +kernel
theorem dL_law_2267 : decode cL_law 2267 = .ok (.aload_n 0, 1) := by decide +kernel
theorem dL_law_2268 : decode cL_law 2268 = .ok (.iload 5, 2) := by decide +kernel
theorem dL_law_2270 : decode cL_law 2270 = .ok (.iconst 1, 1) := by decide +kernel
theorem dL_law_2271 : decode cL_law 2271 = .ok (.iadd, 1) := by decide +kernel
theorem dL_law_2272 : decode cL_law 2272 = .ok (.iaload, 1) := by decide +kernel
theorem dL_law_2273 : decode cL_law 2273 = .ok (.aload_n 0, 1) := by decide +kernel
theorem dL_law_2274 : decode cL_law 2274 = .ok (.iload 5, 2) := by decide +kernel
theorem dL_law_2276 : decode cL_law 2276 = .ok (.iconst 2, 1) := by decide +kernel
theorem dL_law_2277 : decode cL_law 2277 = .ok (.iadd, 1) := by decide +kernel
theorem dL_law_2278 : decode cL_law 2278 = .ok (.iaload, 1) := by decide +kernel
theorem dL_law_2279 : decode cL_law 2279 = .ok (.aload_n 3, 1) := by decide +kernel
theorem dL_law_2280 : decode cL_law 2280 = .ok (.invokestatic 256, 3) := by decide +kernel
theorem dL_law_2283 : decode cL_law 2283 = .ok (.istore 6, 2) := by decide +kernel
theorem dL_law_2285 : decode cL_law 2285 = .ok (.aload_n 2, 1) := by decide +kernel
theorem dL_law_2286 : decode cL_law 2286 = .ok (.aload_n 0, 1) := by decide +kernel
theorem dL_law_2287 : decode cL_law 2287 = .ok (.iload 5, 2) := by decide +kernel
theorem dL_law_2289 : decode cL_law 2289 = .ok (.iconst 1, 1) := by decide +kernel
theorem dL_law_2290 : decode cL_law 2290 = .ok (.iadd, 1) := by decide +kernel
theorem dL_law_2291 : decode cL_law 2291 = .ok (.iaload, 1) := by decide +kernel
theorem dL_law_2292 : decode cL_law 2292 = .ok (.aload_n 0, 1) := by decide +kernel
theorem dL_law_2293 : decode cL_law 2293 = .ok (.iload 5, 2) := by decide +kernel
theorem dL_law_2295 : decode cL_law 2295 = .ok (.iconst 2, 1) := by decide +kernel
theorem dL_law_2296 : decode cL_law 2296 = .ok (.iadd, 1) := by decide +kernel
theorem dL_law_2297 : decode cL_law 2297 = .ok (.iaload, 1) := by decide +kernel
theorem dL_law_2298 : decode cL_law 2298 = .ok (.invokevirtual 258, 3) := by decide +kernel
theorem dL_law_2301 : decode cL_law 2301 = .ok (.istore 7, 2) := by decide +kernel
theorem dL_law_2303 : decode cL_law 2303 = .ok (.aload_n 2, 1) := by decide +kernel
theorem dL_law_2304 : decode cL_law 2304 = .ok (.invokevirtual 159, 3) := by decide +kernel
theorem dL_law_2307 : decode cL_law 2307 = .ok (.iload 6, 2) := by decide +kernel
theorem dL_law_2309 : decode cL_law 2309 = .ok (.if_icmp .eq 5, 3) := by decide +kernel
theorem dL_law_2312 : decode cL_law 2312 = .ok (.iconst 0, 1) := by decide +kernel
theorem dL_law_2313 : decode cL_law 2313 = .ok (.ireturn, 1) := by decide +kernel
theorem dL_law_2314 : decode cL_law 2314 = .ok (.iload 6, 2) := by decide +kernel
theorem dL_law_2316 : decode cL_law 2316 = .ok (.ifCond .ne 15, 3) := by decide +kernel
theorem dL_law_2319 : decode cL_law 2319 = .ok (.aload_n 3, 1) := by decide +kernel
theorem dL_law_2320 : decode cL_law 2320 = .ok (.iconst 0, 1) := by decide +kernel
theorem dL_law_2321 : decode cL_law 2321 = .ok (.laload, 1) := by decide +kernel
theorem dL_law_2322 : decode cL_law 2322 = .ok (.iload 7, 2) := by decide +kernel
theorem dL_law_2324 : decode cL_law 2324 = .ok (.i2l, 1) := by decide +kernel
theorem dL_law_2325 : decode cL_law 2325 = .ok (.lcmp, 1) := by decide +kernel
theorem dL_law_2326 : decode cL_law 2326 = .ok (.ifCond .eq 5, 3) := by decide +kernel
theorem dL_law_2329 : decode cL_law 2329 = .ok (.iconst 0, 1) := by decide +kernel
theorem dL_law_2330 : decode cL_law 2330 = .ok (.ireturn, 1) := by decide +kernel
theorem dL_law_2331 : decode cL_law 2331 = .ok (.goto 497, 3) := by decide +kernel
theorem dL_law_2334 : decode cL_law 2334 = .ok (.aload_n 1, 1) := by decide +kernel
theorem dL_law_2335 : decode cL_law 2335 = .ok (.aload_n 0, 1) := by decide +kernel
theorem dL_law_2336 : decode cL_law 2336 = .ok (.iload 5, 2) := by decide +kernel
theorem dL_law_2338 : decode cL_law 2338 = .ok (.iconst 1, 1) := by decide +kernel
theorem dL_law_2339 : decode cL_law 2339 = .ok (.iadd, 1) := by decide +kernel
theorem dL_law_2340 : decode cL_law 2340 = .ok (.iaload, 1) := by decide +kernel
theorem dL_law_2341 : decode cL_law 2341 = .ok (.aload_n 0, 1) := by decide +kernel
theorem dL_law_2342 : decode cL_law 2342 = .ok (.iload 5, 2) := by decide +kernel
theorem dL_law_2344 : decode cL_law 2344 = .ok (.iconst 2, 1) := by decide +kernel
theorem dL_law_2345 : decode cL_law 2345 = .ok (.iadd, 1) := by decide +kernel
theorem dL_law_2346 : decode cL_law 2346 = .ok (.iaload, 1) := by decide +kernel
theorem dL_law_2347 : decode cL_law 2347 = .ok (.aload_n 3, 1) := by decide +kernel
theorem dL_law_2348 : decode cL_law 2348 = .ok (.invokestatic 259, 3) := by decide +kernel
theorem dL_law_2351 : decode cL_law 2351 = .ok (.istore 6, 2) := by decide +kernel
theorem dL_law_2353 : decode cL_law 2353 = .ok (.aload_n 2, 1) := by decide +kernel
theorem dL_law_2354 : decode cL_law 2354 = .ok (.aload_n 0, 1) := by decide +kernel
theorem dL_law_2355 : decode cL_law 2355 = .ok (.iload 5, 2) := by decide +kernel
theorem dL_law_2357 : decode cL_law 2357 = .ok (.iconst 1, 1) := by decide +kernel
theorem dL_law_2358 : decode cL_law 2358 = .ok (.iadd, 1) := by decide +kernel
theorem dL_law_2359 : decode cL_law 2359 = .ok (.iaload, 1) := by decide +kernel
theorem dL_law_2360 : decode cL_law 2360 = .ok (.aload_n 0, 1) := by decide +kernel
theorem dL_law_2361 : decode cL_law 2361 = .ok (.iload 5, 2) := by decide +kernel
theorem dL_law_2363 : decode cL_law 2363 = .ok (.iconst 2, 1) := by decide +kernel
theorem dL_law_2364 : decode cL_law 2364 = .ok (.iadd, 1) := by decide +kernel
theorem dL_law_2365 : decode cL_law 2365 = .ok (.iaload, 1) := by decide +kernel
theorem dL_law_2366 : decode cL_law 2366 = .ok (.invokevirtual 261, 3) := by decide +kernel
theorem dL_law_2369 : decode cL_law 2369 = .ok (.istore 7, 2) := by decide +kernel
theorem dL_law_2371 : decode cL_law 2371 = .ok (.aload_n 2, 1) := by decide +kernel
theorem dL_law_2372 : decode cL_law 2372 = .ok (.invokevirtual 159, 3) := by decide +kernel
theorem dL_law_2375 : decode cL_law 2375 = .ok (.iload 6, 2) := by decide +kernel
theorem dL_law_2377 : decode cL_law 2377 = .ok (.if_icmp .eq 5, 3) := by decide +kernel
theorem dL_law_2380 : decode cL_law 2380 = .ok (.iconst 0, 1) := by decide +kernel
theorem dL_law_2381 : decode cL_law 2381 = .ok (.ireturn, 1) := by decide +kernel
theorem dL_law_2382 : decode cL_law 2382 = .ok (.iload 6, 2) := by decide +kernel
theorem dL_law_2384 : decode cL_law 2384 = .ok (.ifCond .ne 15, 3) := by decide +kernel
theorem dL_law_2387 : decode cL_law 2387 = .ok (.aload_n 3, 1) := by decide +kernel
theorem dL_law_2388 : decode cL_law 2388 = .ok (.iconst 0, 1) := by decide +kernel
theorem dL_law_2389 : decode cL_law 2389 = .ok (.laload, 1) := by decide +kernel
theorem dL_law_2390 : decode cL_law 2390 = .ok (.iload 7, 2) := by decide +kernel
theorem dL_law_2392 : decode cL_law 2392 = .ok (.i2l, 1) := by decide +kernel
theorem dL_law_2393 : decode cL_law 2393 = .ok (.lcmp, 1) := by decide +kernel
theorem dL_law_2394 : decode cL_law 2394 = .ok (.ifCond .eq 5, 3) := by decide +kernel
theorem dL_law_2397 : decode cL_law 2397 = .ok (.iconst 0, 1) := by decide +kernel
theorem dL_law_2398 : decode cL_law 2398 = .ok (.ireturn, 1) := by decide +kernel
theorem dL_law_2399 : decode cL_law 2399 = .ok (.goto 429, 3) := by decide +kernel
theorem dL_law_2402 : decode cL_law 2402 = .ok (.aload_n 1, 1) := by decide +kernel
theorem dL_law_2403 : decode cL_law 2403 = .ok (.aload_n 0, 1) := by decide +kernel
theorem dL_law_2404 : decode cL_law 2404 = .ok (.iload 5, 2) := by decide +kernel
theorem dL_law_2406 : decode cL_law 2406 = .ok (.iconst 1, 1) := by decide +kernel
theorem dL_law_2407 : decode cL_law 2407 = .ok (.iadd, 1) := by decide +kernel
theorem dL_law_2408 : decode cL_law 2408 = .ok (.iaload, 1) := by decide +kernel
theorem dL_law_2409 : decode cL_law 2409 = .ok (.aload_n 3, 1) := by decide +kernel
theorem dL_law_2410 : decode cL_law 2410 = .ok (.invokestatic 262, 3) := by decide +kernel
theorem dL_law_2413 : decode cL_law 2413 = .ok (.istore 6, 2) := by decide +kernel
theorem dL_law_2415 : decode cL_law 2415 = .ok (.aload_n 2, 1) := by decide +kernel
theorem dL_law_2416 : decode cL_law 2416 = .ok (.aload_n 0, 1) := by decide +kernel
theorem dL_law_2417 : decode cL_law 2417 = .ok (.iload 5, 2) := by decide +kernel
theorem dL_law_2419 : decode cL_law 2419 = .ok (.iconst 1, 1) := by decide +kernel
theorem dL_law_2420 : decode cL_law 2420 = .ok (.iadd, 1) := by decide +kernel
theorem dL_law_2421 : decode cL_law 2421 = .ok (.iaload, 1) := by decide +kernel
theorem dL_law_2422 : decode cL_law 2422 = .ok (.invokevirtual 264, 3) := by decide +kernel
theorem dL_law_2425 : decode cL_law 2425 = .ok (.istore 7, 2) := by decide +kernel
theorem dL_law_2427 : decode cL_law 2427 = .ok (.aload_n 2, 1) := by decide +kernel
theorem dL_law_2428 : decode cL_law 2428 = .ok (.invokevirtual 159, 3) := by decide +kernel
theorem dL_law_2431 : decode cL_law 2431 = .ok (.iload 6, 2) := by decide +kernel
theorem dL_law_2433 : decode cL_law 2433 = .ok (.if_icmp .eq 5, 3) := by decide +kernel
theorem dL_law_2436 : decode cL_law 2436 = .ok (.iconst 0, 1) := by decide +kernel
theorem dL_law_2437 : decode cL_law 2437 = .ok (.ireturn, 1) := by decide +kernel
theorem dL_law_2438 : decode cL_law 2438 = .ok (.iload 6, 2) := by decide +kernel
theorem dL_law_2440 : decode cL_law 2440 = .ok (.ifCond .ne 15, 3) := by decide +kernel
theorem dL_law_2443 : decode cL_law 2443 = .ok (.aload_n 3, 1) := by decide +kernel
theorem dL_law_2444 : decode cL_law 2444 = .ok (.iconst 0, 1) := by decide +kernel
theorem dL_law_2445 : decode cL_law 2445 = .ok (.laload, 1) := by decide +kernel
theorem dL_law_2446 : decode cL_law 2446 = .ok (.iload 7, 2) := by decide +kernel
theorem dL_law_2448 : decode cL_law 2448 = .ok (.i2l, 1) := by decide +kernel
theorem dL_law_2449 : decode cL_law 2449 = .ok (.lcmp, 1) := by decide +kernel
theorem dL_law_2450 : decode cL_law 2450 = .ok (.ifCond .eq 5, 3) := by decide +kernel
theorem dL_law_2453 : decode cL_law 2453 = .ok (.iconst 0, 1) := by decide +kernel
theorem dL_law_2454 : decode cL_law 2454 = .ok (.ireturn, 1) := by decide +kernel
theorem dL_law_2455 : decode cL_law 2455 = .ok (.goto 373, 3) := by decide +kernel
theorem dL_law_2458 : decode cL_law 2458 = .ok (.aload_n 1, 1) := by decide +kernel
theorem dL_law_2459 : decode cL_law 2459 = .ok (.aload_n 0, 1) := by decide +kernel
theorem dL_law_2460 : decode cL_law 2460 = .ok (.iload 5, 2) := by decide +kernel
theorem dL_law_2462 : decode cL_law 2462 = .ok (.iconst 1, 1) := by decide +kernel
theorem dL_law_2463 : decode cL_law 2463 = .ok (.iadd, 1) := by decide +kernel
theorem dL_law_2464 : decode cL_law 2464 = .ok (.iaload, 1) := by decide +kernel
theorem dL_law_2465 : decode cL_law 2465 = .ok (.aload_n 0, 1) := by decide +kernel
theorem dL_law_2466 : decode cL_law 2466 = .ok (.iload 5, 2) := by decide +kernel
theorem dL_law_2468 : decode cL_law 2468 = .ok (.iconst 2, 1) := by decide +kernel
theorem dL_law_2469 : decode cL_law 2469 = .ok (.iadd, 1) := by decide +kernel
theorem dL_law_2470 : decode cL_law 2470 = .ok (.iaload, 1) := by decide +kernel
theorem dL_law_2471 : decode cL_law 2471 = .ok (.i2c, 1) := by decide +kernel
theorem dL_law_2472 : decode cL_law 2472 = .ok (.aload_n 3, 1) := by decide +kernel
theorem dL_law_2473 : decode cL_law 2473 = .ok (.invokestatic 265, 3) := by decide +kernel
theorem dL_law_2476 : decode cL_law 2476 = .ok (.istore 6, 2) := by decide +kernel
theorem dL_law_2478 : decode cL_law 2478 = .ok (.aload_n 2, 1) := by decide +kernel
theorem dL_law_2479 : decode cL_law 2479 = .ok (.aload_n 0, 1) := by decide +kernel
theorem dL_law_2480 : decode cL_law 2480 = .ok (.iload 5, 2) := by decide +kernel
theorem dL_law_2482 : decode cL_law 2482 = .ok (.iconst 1, 1) := by decide +kernel
theorem dL_law_2483 : decode cL_law 2483 = .ok (.iadd, 1) := by decide +kernel
theorem dL_law_2484 : decode cL_law 2484 = .ok (.iaload, 1) := by decide +kernel
theorem dL_law_2485 : decode cL_law 2485 = .ok (.aload_n 0, 1) := by decide +kernel
theorem dL_law_2486 : decode cL_law 2486 = .ok (.iload 5, 2) := by decide +kernel
theorem dL_law_2488 : decode cL_law 2488 = .ok (.iconst 2, 1) := by decide +kernel
theorem dL_law_2489 : decode cL_law 2489 = .ok (.iadd, 1) := by decide +kernel
theorem dL_law_2490 : decode cL_law 2490 = .ok (.iaload, 1) := by decide +kernel
theorem dL_law_2491 : decode cL_law 2491 = .ok (.i2c, 1) := by decide +kernel
theorem dL_law_2492 : decode cL_law 2492 = .ok (.invokevirtual 268, 3) := by decide +kernel
theorem dL_law_2495 : decode cL_law 2495 = .ok (.istore 7, 2) := by decide +kernel
theorem dL_law_2497 : decode cL_law 2497 = .ok (.aload_n 2, 1) := by decide +kernel
theorem dL_law_2498 : decode cL_law 2498 = .ok (.invokevirtual 159, 3) := by decide +kernel
theorem dL_law_2501 : decode cL_law 2501 = .ok (.iload 6, 2) := by decide +kernel
theorem dL_law_2503 : decode cL_law 2503 = .ok (.if_icmp .eq 5, 3) := by decide +kernel
theorem dL_law_2506 : decode cL_law 2506 = .ok (.iconst 0, 1) := by decide +kernel
theorem dL_law_2507 : decode cL_law 2507 = .ok (.ireturn, 1) := by decide +kernel
theorem dL_law_2508 : decode cL_law 2508 = .ok (.iload 6, 2) := by decide +kernel
theorem dL_law_2510 : decode cL_law 2510 = .ok (.ifCond .ne 15, 3) := by decide +kernel
theorem dL_law_2513 : decode cL_law 2513 = .ok (.aload_n 3, 1) := by decide +kernel
theorem dL_law_2514 : decode cL_law 2514 = .ok (.iconst 0, 1) := by decide +kernel
theorem dL_law_2515 : decode cL_law 2515 = .ok (.laload, 1) := by decide +kernel
theorem dL_law_2516 : decode cL_law 2516 = .ok (.iload 7, 2) := by decide +kernel
theorem dL_law_2518 : decode cL_law 2518 = .ok (.i2l, 1) := by decide +kernel
theorem dL_law_2519 : decode cL_law 2519 = .ok (.lcmp, 1) := by decide +kernel
theorem dL_law_2520 : decode cL_law 2520 = .ok (.ifCond .eq 5, 3) := by decide +kernel
theorem dL_law_2523 : decode cL_law 2523 = .ok (.iconst 0, 1) := by decide +kernel
theorem dL_law_2524 : decode cL_law 2524 = .ok (.ireturn, 1) := by decide +kernel
theorem dL_law_2525 : decode cL_law 2525 = .ok (.goto 303, 3) := by decide +kernel
theorem dL_law_2528 : decode cL_law 2528 = .ok (.aload_n 1, 1) := by decide +kernel
theorem dL_law_2529 : decode cL_law 2529 = .ok (.aload_n 0, 1) := by decide +kernel
theorem dL_law_2530 : decode cL_law 2530 = .ok (.iload 5, 2) := by decide +kernel
theorem dL_law_2532 : decode cL_law 2532 = .ok (.iconst 1, 1) := by decide +kernel
theorem dL_law_2533 : decode cL_law 2533 = .ok (.iadd, 1) := by decide +kernel
theorem dL_law_2534 : decode cL_law 2534 = .ok (.iaload, 1) := by decide +kernel
theorem dL_law_2535 : decode cL_law 2535 = .ok (.aload_n 3, 1) := by decide +kernel
theorem dL_law_2536 : decode cL_law 2536 = .ok (.invokestatic 269, 3) := by decide +kernel
theorem dL_law_2539 : decode cL_law 2539 = .ok (.istore 6, 2) := by decide +kernel
theorem dL_law_2541 : decode cL_law 2541 = .ok (.aload_n 2, 1) := by decide +kernel
theorem dL_law_2542 : decode cL_law 2542 = .ok (.aload_n 0, 1) := by decide +kernel
theorem dL_law_2543 : decode cL_law 2543 = .ok (.iload 5, 2) := by decide +kernel
theorem dL_law_2545 : decode cL_law 2545 = .ok (.iconst 1, 1) := by decide +kernel
theorem dL_law_2546 : decode cL_law 2546 = .ok (.iadd, 1) := by decide +kernel
theorem dL_law_2547 : decode cL_law 2547 = .ok (.iaload, 1) := by decide +kernel
theorem dL_law_2548 : decode cL_law 2548 = .ok (.invokevirtual 271, 3) := by decide +kernel
theorem dL_law_2551 : decode cL_law 2551 = .ok (.lstore 7, 2) := by decide +kernel
theorem dL_law_2553 : decode cL_law 2553 = .ok (.aload_n 2, 1) := by decide +kernel
theorem dL_law_2554 : decode cL_law 2554 = .ok (.invokevirtual 159, 3) := by decide +kernel
theorem dL_law_2557 : decode cL_law 2557 = .ok (.iload 6, 2) := by decide +kernel
theorem dL_law_2559 : decode cL_law 2559 = .ok (.if_icmp .eq 5, 3) := by decide +kernel
theorem dL_law_2562 : decode cL_law 2562 = .ok (.iconst 0, 1) := by decide +kernel
theorem dL_law_2563 : decode cL_law 2563 = .ok (.ireturn, 1) := by decide +kernel
theorem dL_law_2564 : decode cL_law 2564 = .ok (.iload 6, 2) := by decide +kernel
theorem dL_law_2566 : decode cL_law 2566 = .ok (.ifCond .ne 14, 3) := by decide +kernel
theorem dL_law_2569 : decode cL_law 2569 = .ok (.aload_n 3, 1) := by decide +kernel
theorem dL_law_2570 : decode cL_law 2570 = .ok (.iconst 0, 1) := by decide +kernel
theorem dL_law_2571 : decode cL_law 2571 = .ok (.laload, 1) := by decide +kernel
theorem dL_law_2572 : decode cL_law 2572 = .ok (.lload 7, 2) := by decide +kernel
theorem dL_law_2574 : decode cL_law 2574 = .ok (.lcmp, 1) := by decide +kernel
theorem dL_law_2575 : decode cL_law 2575 = .ok (.ifCond .eq 5, 3) := by decide +kernel
theorem dL_law_2578 : decode cL_law 2578 = .ok (.iconst 0, 1) := by decide +kernel
theorem dL_law_2579 : decode cL_law 2579 = .ok (.ireturn, 1) := by decide +kernel
theorem dL_law_2580 : decode cL_law 2580 = .ok (.goto 248, 3) := by decide +kernel
theorem dL_law_2583 : decode cL_law 2583 = .ok (.aload_n 1, 1) := by decide +kernel
theorem dL_law_2584 : decode cL_law 2584 = .ok (.aload_n 0, 1) := by decide +kernel
theorem dL_law_2585 : decode cL_law 2585 = .ok (.iload 5, 2) := by decide +kernel
theorem dL_law_2587 : decode cL_law 2587 = .ok (.iconst 1, 1) := by decide +kernel
theorem dL_law_2588 : decode cL_law 2588 = .ok (.iadd, 1) := by decide +kernel
theorem dL_law_2589 : decode cL_law 2589 = .ok (.iaload, 1) := by decide +kernel
theorem dL_law_2590 : decode cL_law 2590 = .ok (.aload_n 0, 1) := by decide +kernel
theorem dL_law_2591 : decode cL_law 2591 = .ok (.iload 5, 2) := by decide +kernel
theorem dL_law_2593 : decode cL_law 2593 = .ok (.iconst 2, 1) := by decide +kernel
theorem dL_law_2594 : decode cL_law 2594 = .ok (.iadd, 1) := by decide +kernel
theorem dL_law_2595 : decode cL_law 2595 = .ok (.iaload, 1) := by decide +kernel
theorem dL_law_2596 : decode cL_law 2596 = .ok (.aload_n 3, 1) := by decide +kernel
theorem dL_law_2597 : decode cL_law 2597 = .ok (.invokestatic 272, 3) := by decide +kernel
theorem dL_law_2600 : decode cL_law 2600 = .ok (.istore 6, 2) := by decide +kernel
theorem dL_law_2602 : decode cL_law 2602 = .ok (.aload_n 2, 1) := by decide +kernel
theorem dL_law_2603 : decode cL_law 2603 = .ok (.aload_n 0, 1) := by decide +kernel
theorem dL_law_2604 : decode cL_law 2604 = .ok (.iload 5, 2) := by decide +kernel
theorem dL_law_2606 : decode cL_law 2606 = .ok (.iconst 1, 1) := by decide +kernel
theorem dL_law_2607 : decode cL_law 2607 = .ok (.iadd, 1) := by decide +kernel
theorem dL_law_2608 : decode cL_law 2608 = .ok (.iaload, 1) := by decide +kernel
theorem dL_law_2609 : decode cL_law 2609 = .ok (.aload_n 0, 1) := by decide +kernel
theorem dL_law_2610 : decode cL_law 2610 = .ok (.iload 5, 2) := by decide +kernel
theorem dL_law_2612 : decode cL_law 2612 = .ok (.iconst 2, 1) := by decide +kernel
theorem dL_law_2613 : decode cL_law 2613 = .ok (.iadd, 1) := by decide +kernel
theorem dL_law_2614 : decode cL_law 2614 = .ok (.iaload, 1) := by decide +kernel
theorem dL_law_2615 : decode cL_law 2615 = .ok (.invokevirtual 274, 3) := by decide +kernel
theorem dL_law_2618 : decode cL_law 2618 = .ok (.istore 7, 2) := by decide +kernel
theorem dL_law_2620 : decode cL_law 2620 = .ok (.aload_n 2, 1) := by decide +kernel
theorem dL_law_2621 : decode cL_law 2621 = .ok (.invokevirtual 159, 3) := by decide +kernel
theorem dL_law_2624 : decode cL_law 2624 = .ok (.iload 6, 2) := by decide +kernel
theorem dL_law_2626 : decode cL_law 2626 = .ok (.if_icmp .eq 5, 3) := by decide +kernel
theorem dL_law_2629 : decode cL_law 2629 = .ok (.iconst 0, 1) := by decide +kernel
theorem dL_law_2630 : decode cL_law 2630 = .ok (.ireturn, 1) := by decide +kernel
theorem dL_law_2631 : decode cL_law 2631 = .ok (.iload 6, 2) := by decide +kernel
theorem dL_law_2633 : decode cL_law 2633 = .ok (.ifCond .ne 22, 3) := by decide +kernel
theorem dL_law_2636 : decode cL_law 2636 = .ok (.aload_n 3, 1) := by decide +kernel
theorem dL_law_2637 : decode cL_law 2637 = .ok (.iconst 0, 1) := by decide +kernel
theorem dL_law_2638 : decode cL_law 2638 = .ok (.laload, 1) := by decide +kernel
theorem dL_law_2639 : decode cL_law 2639 = .ok (.iload 7, 2) := by decide +kernel
theorem dL_law_2641 : decode cL_law 2641 = .ok (.ifCond .eq 7, 3) := by decide +kernel
theorem dL_law_2644 : decode cL_law 2644 = .ok (.lconst 1, 1) := by decide +kernel
theorem dL_law_2645 : decode cL_law 2645 = .ok (.goto 4, 3) := by decide +kernel
theorem dL_law_2648 : decode cL_law 2648 = .ok (.lconst 0, 1) := by decide +kernel
theorem dL_law_2649 : decode cL_law 2649 = .ok (.lcmp, 1) := by decide +kernel
theorem dL_law_2650 : decode cL_law 2650 = .ok (.ifCond .eq 5, 3) := by decide +kernel
theorem dL_law_2653 : decode cL_law 2653 = .ok (.iconst 0, 1) := by decide +kernel
theorem dL_law_2654 : decode cL_law 2654 = .ok (.ireturn, 1) := by decide +kernel
theorem dL_law_2655 : decode cL_law 2655 = .ok (.goto 173, 3) := by decide +kernel
theorem dL_law_2658 : decode cL_law 2658 = .ok (.aload_n 1, 1) := by decide +kernel
theorem dL_law_2659 : decode cL_law 2659 = .ok (.aload_n 0, 1) := by decide +kernel
theorem dL_law_2660 : decode cL_law 2660 = .ok (.iload 5, 2) := by decide +kernel
theorem dL_law_2662 : decode cL_law 2662 = .ok (.iconst 1, 1) := by decide +kernel
theorem dL_law_2663 : decode cL_law 2663 = .ok (.iadd, 1) := by decide +kernel
theorem dL_law_2664 : decode cL_law 2664 = .ok (.iaload, 1) := by decide +kernel
theorem dL_law_2665 : decode cL_law 2665 = .ok (.aload 4, 2) := by decide +kernel
theorem dL_law_2667 : decode cL_law 2667 = .ok (.invokestatic 275, 3) := by decide +kernel
theorem dL_law_2670 : decode cL_law 2670 = .ok (.istore 6, 2) := by decide +kernel
theorem dL_law_2672 : decode cL_law 2672 = .ok (.aload_n 2, 1) := by decide +kernel
theorem dL_law_2673 : decode cL_law 2673 = .ok (.aload_n 0, 1) := by decide +kernel
theorem dL_law_2674 : decode cL_law 2674 = .ok (.iload 5, 2) := by decide +kernel
theorem dL_law_2676 : decode cL_law 2676 = .ok (.iconst 1, 1) := by decide +kernel
theorem dL_law_2677 : decode cL_law 2677 = .ok (.iadd, 1) := by decide +kernel
theorem dL_law_2678 : decode cL_law 2678 = .ok (.iaload, 1) := by decide +kernel
theorem dL_law_2679 : decode cL_law 2679 = .ok (.invokevirtual 278, 3) := by decide +kernel
theorem dL_law_2682 : decode cL_law 2682 = .ok (.fstore 7, 2) := by decide +kernel
theorem dL_law_2684 : decode cL_law 2684 = .ok (.aload_n 2, 1) := by decide +kernel
theorem dL_law_2685 : decode cL_law 2685 = .ok (.invokevirtual 159, 3) := by decide +kernel
theorem dL_law_2688 : decode cL_law 2688 = .ok (.iload 6, 2) := by decide +kernel
theorem dL_law_2690 : decode cL_law 2690 = .ok (.if_icmp .eq 5, 3) := by decide +kernel
theorem dL_law_2693 : decode cL_law 2693 = .ok (.iconst 0, 1) := by decide +kernel
theorem dL_law_2694 : decode cL_law 2694 = .ok (.ireturn, 1) := by decide +kernel
theorem dL_law_2695 : decode cL_law 2695 = .ok (.iload 6, 2) := by decide +kernel
theorem dL_law_2697 : decode cL_law 2697 = .ok (.ifCond .ne 36, 3) := by decide +kernel
theorem dL_law_2700 : decode cL_law 2700 = .ok (.aload 4, 2) := by decide +kernel
theorem dL_law_2702 : decode cL_law 2702 = .ok (.iconst 0, 1) := by decide +kernel
theorem dL_law_2703 : decode cL_law 2703 = .ok (.daload, 1) := by decide +kernel
theorem dL_law_2704 : decode cL_law 2704 = .ok (.fload 7, 2) := by decide +kernel
theorem dL_law_2706 : decode cL_law 2706 = .ok (.f2d, 1) := by decide +kernel
theorem dL_law_2707 : decode cL_law 2707 = .ok (.dcmp .l, 1) := by decide +kernel
theorem dL_law_2708 : decode cL_law 2708 = .ok (.ifCond .eq 25, 3) := by decide +kernel
theorem dL_law_2711 : decode cL_law 2711 = .ok (.aload 4, 2) := by decide +kernel
theorem dL_law_2713 : decode cL_law 2713 = .ok (.iconst 0, 1) := by decide +kernel
theorem dL_law_2714 : decode cL_law 2714 = .ok (.daload, 1) := by decide +kernel
theorem dL_law_2715 : decode cL_law 2715 = .ok (.aload 4, 2) := by decide +kernel
theorem dL_law_2717 : decode cL_law 2717 = .ok (.iconst 0, 1) := by decide +kernel
theorem dL_law_2718 : decode cL_law 2718 = .ok (.daload, 1) := by decide +kernel
theorem dL_law_2719 : decode cL_law 2719 = .ok (.dcmp .l, 1) := by decide +kernel
theorem dL_law_2720 : decode cL_law 2720 = .ok (.ifCond .eq 11, 3) := by decide +kernel
theorem dL_law_2723 : decode cL_law 2723 = .ok (.fload 7, 2) := by decide +kernel
theorem dL_law_2725 : decode cL_law 2725 = .ok (.fload 7, 2) := by decide +kernel
theorem dL_law_2727 : decode cL_law 2727 = .ok (.fcmp .l, 1) := by decide +kernel
theorem dL_law_2728 : decode cL_law 2728 = .ok (.ifCond .ne 5, 3) := by decide +kernel
theorem dL_law_2731 : decode cL_law 2731 = .ok (.iconst 0, 1) := by decide +kernel
theorem dL_law_2732 : decode cL_law 2732 = .ok (.ireturn, 1) := by decide +kernel
theorem dL_law_2733 : decode cL_law 2733 = .ok (.goto 95, 3) := by decide +kernel
theorem dL_law_2736 : decode cL_law 2736 = .ok (.aload_n 1, 1) := by decide +kernel
theorem dL_law_2737 : decode cL_law 2737 = .ok (.aload 4, 2) := by decide +kernel
theorem dL_law_2739 : decode cL_law 2739 = .ok (.invokestatic 279, 3) := by decide +kernel
theorem dL_law_2742 : decode cL_law 2742 = .ok (.istore 6, 2) := by decide +kernel
theorem dL_law_2744 : decode cL_law 2744 = .ok (.aload_n 2, 1) := by decide +kernel
theorem dL_law_2745 : decode cL_law 2745 = .ok (.invokevirtual 282, 3) := by decide +kernel
theorem dL_law_2748 : decode cL_law 2748 = .ok (.dstore 7, 2) := by decide +kernel
theorem dL_law_2750 : decode cL_law 2750 = .ok (.aload_n 2, 1) := by decide +kernel
theorem dL_law_2751 : decode cL_law 2751 = .ok (.invokevirtual 159, 3) := by decide +kernel
theorem dL_law_2754 : decode cL_law 2754 = .ok (.iload 6, 2) := by decide +kernel
theorem dL_law_2756 : decode cL_law 2756 = .ok (.if_icmp .eq 5, 3) := by decide +kernel
theorem dL_law_2759 : decode cL_law 2759 = .ok (.iconst 0, 1) := by decide +kernel
theorem dL_law_2760 : decode cL_law 2760 = .ok (.ireturn, 1) := by decide +kernel
theorem dL_law_2761 : decode cL_law 2761 = .ok (.iload 6, 2) := by decide +kernel
theorem dL_law_2763 : decode cL_law 2763 = .ok (.ifCond .ne 35, 3) := by decide +kernel
theorem dL_law_2766 : decode cL_law 2766 = .ok (.aload 4, 2) := by decide +kernel
theorem dL_law_2768 : decode cL_law 2768 = .ok (.iconst 0, 1) := by decide +kernel
theorem dL_law_2769 : decode cL_law 2769 = .ok (.daload, 1) := by decide +kernel
theorem dL_law_2770 : decode cL_law 2770 = .ok (.dload 7, 2) := by decide +kernel
theorem dL_law_2772 : decode cL_law 2772 = .ok (.dcmp .l, 1) := by decide +kernel
theorem dL_law_2773 : decode cL_law 2773 = .ok (.ifCond .eq 25, 3) := by decide +kernel
theorem dL_law_2776 : decode cL_law 2776 = .ok (.aload 4, 2) := by decide +kernel
theorem dL_law_2778 : decode cL_law 2778 = .ok (.iconst 0, 1) := by decide +kernel
theorem dL_law_2779 : decode cL_law 2779 = .ok (.daload, 1) := by decide +kernel
theorem dL_law_2780 : decode cL_law 2780 = .ok (.aload 4, 2) := by decide +kernel
theorem dL_law_2782 : decode cL_law 2782 = .ok (.iconst 0, 1) := by decide +kernel
theorem dL_law_2783 : decode cL_law 2783 = .ok (.daload, 1) := by decide +kernel
theorem dL_law_2784 : decode cL_law 2784 = .ok (.dcmp .l, 1) := by decide +kernel
theorem dL_law_2785 : decode cL_law 2785 = .ok (.ifCond .eq 11, 3) := by decide +kernel
theorem dL_law_2788 : decode cL_law 2788 = .ok (.dload 7, 2) := by decide +kernel
theorem dL_law_2790 : decode cL_law 2790 = .ok (.dload 7, 2) := by decide +kernel
theorem dL_law_2792 : decode cL_law 2792 = .ok (.dcmp .l, 1) := by decide +kernel
theorem dL_law_2793 : decode cL_law 2793 = .ok (.ifCond .ne 5, 3) := by decide +kernel
theorem dL_law_2796 : decode cL_law 2796 = .ok (.iconst 0, 1) := by decide +kernel
theorem dL_law_2797 : decode cL_law 2797 = .ok (.ireturn, 1) := by decide +kernel
theorem dL_law_2798 : decode cL_law 2798 = .ok (.goto 30, 3) := by decide +kernel
theorem dL_law_2801 : decode cL_law 2801 = .ok (.aload_n 1, 1) := by decide +kernel
theorem dL_law_2802 : decode cL_law 2802 = .ok (.invokevirtual 283, 3) := by decide +kernel
theorem dL_law_2805 : decode cL_law 2805 = .ok (.aload_n 2, 1) := by decide +kernel
theorem dL_law_2806 : decode cL_law 2806 = .ok (.invokevirtual 287, 3) := by decide +kernel
theorem dL_law_2809 : decode cL_law 2809 = .ok (.lcmp, 1) := by decide +kernel
theorem dL_law_2810 : decode cL_law 2810 = .ok (.ifCond .eq 18, 3) := by decide +kernel
theorem dL_law_2813 : decode cL_law 2813 = .ok (.iconst 0, 1) := by decide +kernel
theorem dL_law_2814 : decode cL_law 2814 = .ok (.ireturn, 1) := by decide +kernel
theorem dL_law_2815 : decode cL_law 2815 = .ok (.aload_n 1, 1) := by decide +kernel
theorem dL_law_2816 : decode cL_law 2816 = .ok (.invokevirtual 288, 3) := by decide +kernel
theorem dL_law_2819 : decode cL_law 2819 = .ok (.aload_n 2, 1) := by decide +kernel
theorem dL_law_2820 : decode cL_law 2820 = .ok (.invokevirtual 292, 3) := by decide +kernel
theorem dL_law_2823 : decode cL_law 2823 = .ok (.if_icmp .eq 5, 3) := by decide +kernel
theorem dL_law_2826 : decode cL_law 2826 = .ok (.iconst 0, 1) := by decide +kernel
theorem dL_law_2827 : decode cL_law 2827 = .ok (.ireturn, 1) := by decide +kernel
theorem dL_law_2828 : decode cL_law 2828 = .ok (.iinc 5 7, 3) := by decide +kernel
theorem dL_law_2831 : decode cL_law 2831 = .ok (.goto (-2803), 3) := by decide +kernel
theorem dL_law_2834 : decode cL_law 2834 = .ok (.iconst 1, 1) := by decide +kernel
theorem dL_law_2835 : decode cL_law 2835 = .ok (.ireturn, 1) := by decide +kernel
