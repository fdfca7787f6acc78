def tyX0 : Nat → FieldType := fun k => match k with
  | 0 => .object "NeededLists$Meter"
  | 1 => .array .long
  | 2 => .array .byte
  | 3 => .int
  | 4 => .int
  | 5 => .object "NeededLists$LazyList"
  | 6 => .int
  | 7 => .long
  | _ => .long
abbrev wsX00 : List Cond := u_ws RX0 TX0 9
theorem nmX0 : ∀ a, a < 9 → ∀ b, b < 9 → a ≠ b → (TX0 a).2.1 ≠ (TX0 b).2.1 := by decide +kernel
theorem tyX0_ok : ∀ k, k < 9 → parseFieldDescriptor (TX0 k).2.2.1 = some (tyX0 k) := by decide +kernel
abbrev cX0_init : ByteArray := prog_2_method_1_code
def yX0_init : MethodName := ⟨RX0, "<init>", "(LNeededLists$Meter;LNeededLists$LazyList;IJJ)V"⟩
abbrev cX0_seek : ByteArray := prog_2_method_2_code
def yX0_seek : MethodName := ⟨RX0, "seek", "(I)I"⟩
abbrev cX0_form : ByteArray := prog_2_method_3_code
def yX0_form : MethodName := ⟨RX0, "form", "(I)I"⟩
abbrev cX0_workAhead : ByteArray := prog_2_method_4_code
def yX0_workAhead : MethodName := ⟨RX0, "workAhead", "(I)I"⟩
def tyX1 : Nat → FieldType := fun k => match k with
  | 0 => .object "NeededLists$Meter"
  | 1 => .array .long
  | 2 => .array .byte
  | 3 => .int
  | 4 => .int
  | 5 => .object "NeededLists$LazyList"
  | 6 => .object "NeededLists$LazyList"
  | 7 => .int
  | _ => .long
abbrev wsX10 : List Cond := u_ws RX1 TX1 9
theorem nmX1 : ∀ a, a < 9 → ∀ b, b < 9 → a ≠ b → (TX1 a).2.1 ≠ (TX1 b).2.1 := by decide +kernel
theorem tyX1_ok : ∀ k, k < 9 → parseFieldDescriptor (TX1 k).2.2.1 = some (tyX1 k) := by decide +kernel
abbrev cX1_init : ByteArray := prog_3_method_1_code
def yX1_init : MethodName := ⟨RX1, "<init>", "(LNeededLists$Meter;LNeededLists$LazyList;LNeededLists$LazyList;IJ)V"⟩
abbrev cX1_seek : ByteArray := prog_3_method_2_code
def yX1_seek : MethodName := ⟨RX1, "seek", "(I)I"⟩
abbrev cX1_form : ByteArray := prog_3_method_3_code
def yX1_form : MethodName := ⟨RX1, "form", "(I)I"⟩
def tyX2 : Nat → FieldType := fun k => match k with
  | 0 => .object "NeededLists$Meter"
  | 1 => .array .long
  | 2 => .array .byte
  | 3 => .int
  | 4 => .int
  | 5 => .object "NeededLists$LazyList"
  | 6 => .int
  | 7 => .int
  | _ => .long
abbrev wsX20 : List Cond := u_ws RX2 TX2 9
theorem nmX2 : ∀ a, a < 9 → ∀ b, b < 9 → a ≠ b → (TX2 a).2.1 ≠ (TX2 b).2.1 := by decide +kernel
theorem tyX2_ok : ∀ k, k < 9 → parseFieldDescriptor (TX2 k).2.2.1 = some (tyX2 k) := by decide +kernel
abbrev cX2_init : ByteArray := prog_4_method_1_code
def yX2_init : MethodName := ⟨RX2, "<init>", "(LNeededLists$Meter;LNeededLists$LazyList;IIJ)V"⟩
abbrev cX2_seek : ByteArray := prog_4_method_2_code
def yX2_seek : MethodName := ⟨RX2, "seek", "(I)I"⟩
abbrev cX2_source : ByteArray := prog_4_method_3_code
def yX2_source : MethodName := ⟨RX2, "source", "(I)LNeededLists$LazyList;"⟩
def tyX3 : Nat → FieldType := fun k => match k with
  | 0 => .object "NeededLists$Meter"
  | 1 => .array .long
  | 2 => .array .byte
  | 3 => .int
  | 4 => .int
  | 5 => .array .byte
  | _ => .int
abbrev wsX30 : List Cond := u_ws RX3 TX3 7
theorem nmX3 : ∀ a, a < 7 → ∀ b, b < 7 → a ≠ b → (TX3 a).2.1 ≠ (TX3 b).2.1 := by decide +kernel
theorem tyX3_ok : ∀ k, k < 7 → parseFieldDescriptor (TX3 k).2.2.1 = some (tyX3 k) := by decide +kernel
abbrev cX3_init : ByteArray := prog_5_method_1_code
def yX3_init : MethodName := ⟨RX3, "<init>", "(LNeededLists$Meter;[J[BI)V"⟩
abbrev cX3_seek : ByteArray := prog_5_method_2_code
def yX3_seek : MethodName := ⟨RX3, "seek", "(I)I"⟩
abbrev cX3_form : ByteArray := prog_5_method_3_code
def yX3_form : MethodName := ⟨RX3, "form", "(I)I"⟩
def tyX4 : Nat → FieldType := fun k => match k with
  | 0 => .object "NeededLists$Meter"
  | 1 => .array .long
  | 2 => .array .byte
  | 3 => .int
  | 4 => .int
  | 5 => .object "NeededLists$LazyList"
  | _ => .object "NeededLists$LazyList"
abbrev wsX40 : List Cond := u_ws RX4 TX4 7
theorem nmX4 : ∀ a, a < 7 → ∀ b, b < 7 → a ≠ b → (TX4 a).2.1 ≠ (TX4 b).2.1 := by decide +kernel
theorem tyX4_ok : ∀ k, k < 7 → parseFieldDescriptor (TX4 k).2.2.1 = some (tyX4 k) := by decide +kernel
abbrev cX4_init : ByteArray := prog_6_method_1_code
def yX4_init : MethodName := ⟨RX4, "<init>", "(LNeededLists$Meter;LNeededLists$LazyList;LNeededLists$LazyList;)V"⟩
abbrev cX4_seek : ByteArray := prog_6_method_2_code
def yX4_seek : MethodName := ⟨RX4, "seek", "(I)I"⟩
abbrev cX4_source : ByteArray := prog_6_method_3_code
def yX4_source : MethodName := ⟨RX4, "source", "(I)LNeededLists$LazyList;"⟩
abbrev cX4_place : ByteArray := prog_6_method_4_code
def yX4_place : MethodName := ⟨RX4, "place", "(I)I"⟩
def RX5 : String := "NeededLists$LazyList"
abbrev cX5_init : ByteArray := prog_7_method_1_code
def yX5_init : MethodName := ⟨RX5, "<init>", "(LNeededLists$Meter;[J)V"⟩
abbrev cX5_form : ByteArray := prog_7_method_3_code
def yX5_form : MethodName := ⟨RX5, "form", "(I)I"⟩
abbrev cX5_source : ByteArray := prog_7_method_4_code
def yX5_source : MethodName := ⟨RX5, "source", "(I)LNeededLists$LazyList;"⟩
abbrev cX5_place : ByteArray := prog_7_method_5_code
def yX5_place : MethodName := ⟨RX5, "place", "(I)I"⟩
abbrev cX5_there : ByteArray := prog_7_method_6_code
def yX5_there : MethodName := ⟨RX5, "there", "()I"⟩
abbrev cX5_reach : ByteArray := prog_7_method_7_code
def yX5_reach : MethodName := ⟨RX5, "reach", "(I)I"⟩
abbrev cX5_reachAll : ByteArray := prog_7_method_8_code
def yX5_reachAll : MethodName := ⟨RX5, "reachAll", "()I"⟩
abbrev cX5_work : ByteArray := prog_7_method_9_code
def yX5_work : MethodName := ⟨RX5, "work", "(I)I"⟩
abbrev cX5_isWorked : ByteArray := prog_7_method_10_code
def yX5_isWorked : MethodName := ⟨RX5, "isWorked", "(I)Z"⟩
abbrev cX5_number : ByteArray := prog_7_method_11_code
def yX5_number : MethodName := ⟨RX5, "number", "(I)J"⟩
abbrev cX5_tell : ByteArray := prog_7_method_12_code
def yX5_tell : MethodName := ⟨RX5, "tell", "(IJ)I"⟩
abbrev cX5_tellOp : ByteArray := prog_7_method_13_code
def yX5_tellOp : MethodName := ⟨RX5, "tellOp", "(IIJJ)I"⟩
abbrev wsX60 : List Cond := u_ws RX6 TX6 2
def yX6_init : MethodName := ⟨RX6, "<init>", "()V"⟩
abbrev cX6_begin : ByteArray := prog_8_method_2_code
def yX6_begin : MethodName := ⟨RX6, "begin", "(I)V"⟩
abbrev cX6_spend : ByteArray := prog_8_method_3_code
def yX6_spend : MethodName := ⟨RX6, "spend", "()Z"⟩
def tyX7 : Nat → FieldType := fun k => match k with
  | 0 => .object "NeededLists$Meter"
  | 1 => .array .long
  | 2 => .array .byte
  | 3 => .int
  | 4 => .int
  | 5 => .object "NeededLists$LazyList"
  | _ => .array .int
abbrev wsX70 : List Cond := u_ws RX7 TX7 7
theorem nmX7 : ∀ a, a < 7 → ∀ b, b < 7 → a ≠ b → (TX7 a).2.1 ≠ (TX7 b).2.1 := by decide +kernel
theorem tyX7_ok : ∀ k, k < 7 → parseFieldDescriptor (TX7 k).2.2.1 = some (tyX7 k) := by decide +kernel
abbrev cX7_init : ByteArray := prog_9_method_1_code
def yX7_init : MethodName := ⟨RX7, "<init>", "(LNeededLists$Meter;LNeededLists$LazyList;Z)V"⟩
abbrev cX7_seek : ByteArray := prog_9_method_2_code
def yX7_seek : MethodName := ⟨RX7, "seek", "(I)I"⟩
abbrev cX7_sortPlaces : ByteArray := prog_9_method_3_code
def yX7_sortPlaces : MethodName := ⟨RX7, "sortPlaces", "()I"⟩
abbrev cX7_insertPlace : ByteArray := prog_9_method_4_code
def yX7_insertPlace : MethodName := ⟨RX7, "insertPlace", "(I)V"⟩
abbrev cX7_source : ByteArray := prog_9_method_5_code
def yX7_source : MethodName := ⟨RX7, "source", "(I)LNeededLists$LazyList;"⟩
abbrev cX7_place : ByteArray := prog_9_method_6_code
def yX7_place : MethodName := ⟨RX7, "place", "(I)I"⟩
def tyX8 : Nat → FieldType := fun k => match k with
  | 0 => .object "NeededLists$Meter"
  | 1 => .array .long
  | 2 => .array .byte
  | 3 => .int
  | 4 => .int
  | 5 => .object "NeededLists$LazyList"
  | 6 => .int
  | 7 => .long
  | _ => .int
abbrev wsX80 : List Cond := u_ws RX8 TX8 9
theorem nmX8 : ∀ a, a < 9 → ∀ b, b < 9 → a ≠ b → (TX8 a).2.1 ≠ (TX8 b).2.1 := by decide +kernel
theorem tyX8_ok : ∀ k, k < 9 → parseFieldDescriptor (TX8 k).2.2.1 = some (tyX8 k) := by decide +kernel
abbrev cX8_init : ByteArray := prog_10_method_1_code
def yX8_init : MethodName := ⟨RX8, "<init>", "(LNeededLists$Meter;LNeededLists$LazyList;IIJ)V"⟩
abbrev cX8_seek : ByteArray := prog_10_method_2_code
def yX8_seek : MethodName := ⟨RX8, "seek", "(I)I"⟩
abbrev cX8_findStart : ByteArray := prog_10_method_3_code
def yX8_findStart : MethodName := ⟨RX8, "findStart", "()I"⟩
abbrev cX8_source : ByteArray := prog_10_method_4_code
def yX8_source : MethodName := ⟨RX8, "source", "(I)LNeededLists$LazyList;"⟩
abbrev cX8_place : ByteArray := prog_10_method_5_code
def yX8_place : MethodName := ⟨RX8, "place", "(I)I"⟩
def tyX9 : Nat → FieldType := fun k => match k with
  | 0 => .object "NeededLists$Meter"
  | 1 => .array .long
  | 2 => .array .byte
  | 3 => .int
  | 4 => .int
  | 5 => .object "NeededLists$LazyList"
  | 6 => .array .int
  | _ => .int
abbrev wsX90 : List Cond := u_ws RX9 TX9 8
theorem nmX9 : ∀ a, a < 8 → ∀ b, b < 8 → a ≠ b → (TX9 a).2.1 ≠ (TX9 b).2.1 := by decide +kernel
theorem tyX9_ok : ∀ k, k < 8 → parseFieldDescriptor (TX9 k).2.2.1 = some (tyX9 k) := by decide +kernel
abbrev cX9_init : ByteArray := prog_11_method_1_code
def yX9_init : MethodName := ⟨RX9, "<init>", "(LNeededLists$Meter;LNeededLists$LazyList;)V"⟩
abbrev cX9_seek : ByteArray := prog_11_method_2_code
def yX9_seek : MethodName := ⟨RX9, "seek", "(I)I"⟩
abbrev cX9_form : ByteArray := prog_11_method_3_code
def yX9_form : MethodName := ⟨RX9, "form", "(I)I"⟩
abbrev cX9_lookThrough : ByteArray := prog_11_method_4_code
def yX9_lookThrough : MethodName := ⟨RX9, "lookThrough", "(I)I"⟩
def tyX10 : Nat → FieldType := fun k => match k with
  | 0 => .object "NeededLists$Meter"
  | 1 => .array .long
  | 2 => .array .byte
  | 3 => .int
  | 4 => .int
  | 5 => .object "NeededLists$LazyList"
  | 6 => .int
  | 7 => .long
  | _ => .array .int
abbrev wsX100 : List Cond := u_ws RX10 TX10 9
theorem nmX10 : ∀ a, a < 9 → ∀ b, b < 9 → a ≠ b → (TX10 a).2.1 ≠ (TX10 b).2.1 := by decide +kernel
theorem tyX10_ok : ∀ k, k < 9 → parseFieldDescriptor (TX10 k).2.2.1 = some (tyX10 k) := by decide +kernel
abbrev cX10_init : ByteArray := prog_12_method_1_code
def yX10_init : MethodName := ⟨RX10, "<init>", "(LNeededLists$Meter;LNeededLists$LazyList;IJ)V"⟩
abbrev cX10_seek : ByteArray := prog_12_method_2_code
def yX10_seek : MethodName := ⟨RX10, "seek", "(I)I"⟩
abbrev cX10_lets : ByteArray := prog_12_method_3_code
def yX10_lets : MethodName := ⟨RX10, "lets", "(JI)Z"⟩
abbrev cX10_source : ByteArray := prog_12_method_4_code
def yX10_source : MethodName := ⟨RX10, "source", "(I)LNeededLists$LazyList;"⟩
abbrev cX10_place : ByteArray := prog_12_method_5_code
def yX10_place : MethodName := ⟨RX10, "place", "(I)I"⟩
abbrev wsX110 : List Cond := u_ws RX11 TX11 9
abbrev cX11_addToRow : ByteArray := prog_1_method_4_code
def yX11_addToRow : MethodName := ⟨RX11, "addToRow", "(JI)I"⟩
abbrev cX11_otherList : ByteArray := prog_1_method_18_code
def yX11_otherList : MethodName := ⟨RX11, "otherList", "(LNeededLists$LazyList;I)LNeededLists$LazyList;"⟩
abbrev cX11_addList : ByteArray := prog_1_method_19_code
def yX11_addList : MethodName := ⟨RX11, "addList", "(LNeededLists$LazyList;)I"⟩
abbrev cX11_finish : ByteArray := prog_1_method_29_code
def yX11_finish : MethodName := ⟨RX11, "finish", "(IJ)J"⟩
abbrev cX11_listOf : ByteArray := prog_1_method_33_code
def yX11_listOf : MethodName := ⟨RX11, "listOf", "(I)LNeededLists$LazyList;"⟩
abbrev cX11_checkRoom : ByteArray := prog_1_method_34_code
def yX11_checkRoom : MethodName := ⟨RX11, "checkRoom", "()V"⟩
abbrev cX11_checkOp : ByteArray := prog_1_method_35_code
def yX11_checkOp : MethodName := ⟨RX11, "checkOp", "(I)V"⟩
abbrev cX11_checkCond : ByteArray := prog_1_method_36_code
def yX11_checkCond : MethodName := ⟨RX11, "checkCond", "(I)V"⟩
abbrev cX11_checkLength : ByteArray := prog_1_method_37_code
def yX11_checkLength : MethodName := ⟨RX11, "checkLength", "(I)V"⟩
abbrev cX11_dividesByNone : ByteArray := prog_1_method_38_code
def yX11_dividesByNone : MethodName := ⟨RX11, "dividesByNone", "(IJ)Z"⟩
abbrev cX11_reckon : ByteArray := prog_1_method_39_code
def yX11_reckon : MethodName := ⟨RX11, "reckon", "(IJJ)J"⟩
abbrev cX11_meets : ByteArray := prog_1_method_40_code
def yX11_meets : MethodName := ⟨RX11, "meets", "(IJJ)Z"⟩
def RJ9 : String := "java/lang/Math"
abbrev cJ9_floorDiv_f86c9 : ByteArray := prog_19_method_49_code
def yJ9_floorDiv_f86c9 : MethodName := ⟨RJ9, "floorDiv", "(JJ)J"⟩
abbrev cJ9_floorMod_f86c9 : ByteArray := prog_19_method_52_code
def yJ9_floorMod_f86c9 : MethodName := ⟨RJ9, "floorMod", "(JJ)J"⟩
abbrev cJ9_max_f86c9 : ByteArray := prog_19_method_66_code
def yJ9_max_f86c9 : MethodName := ⟨RJ9, "max", "(JJ)J"⟩
abbrev cJ9_min_7cf53 : ByteArray := prog_19_method_69_code
def yJ9_min_7cf53 : MethodName := ⟨RJ9, "min", "(II)I"⟩
abbrev cJ9_min_f86c9 : ByteArray := prog_19_method_70_code
def yJ9_min_f86c9 : MethodName := ⟨RJ9, "min", "(JJ)J"⟩
def RJ7 : String := "java/util/Arrays"
abbrev cJ7_fill_031fb : ByteArray := prog_25_method_109_code
def yJ7_fill_031fb : MethodName := ⟨RJ7, "fill", "([BB)V"⟩
abbrev cJ7_copyOf_9075b : ByteArray := prog_25_method_121_code
def yJ7_copyOf_9075b : MethodName := ⟨RJ7, "copyOf", "([BI)[B"⟩
abbrev cJ7_copyOf_c38d5 : ByteArray := prog_25_method_124_code
def yJ7_copyOf_c38d5 : MethodName := ⟨RJ7, "copyOf", "([JI)[J"⟩
def WE_IAE : List Cond := (vx_atS RX11 42 "java/lang/IllegalArgumentException" ["java/lang/RuntimeException", "java/lang/Exception"]).filter goodWord
def WE_UOE : List Cond := (vx_atS RX11 52 "java/lang/UnsupportedOperationException" ["java/lang/RuntimeException", "java/lang/Exception"]).filter goodWord
def WE_IOO : List Cond := (vx_atS RX11 202 "java/lang/IndexOutOfBoundsException" ["java/lang/RuntimeException", "java/lang/Exception"]).filter goodWord
def WC_k0 : List Cond := [.code yJ9_floorDiv_f86c9 cJ9_floorDiv_f86c9 6 (some .long), .methodLink RX11 211 yJ9_floorDiv_f86c9, .static yJ9_floorDiv_f86c9, .initialized RJ9, .code yJ9_floorMod_f86c9 cJ9_floorMod_f86c9 6 (some .long), .methodLink RX11 217 yJ9_floorMod_f86c9, .static yJ9_floorMod_f86c9, .code yJ9_min_f86c9 cJ9_min_f86c9 4 (some .long), .methodLink RX11 220 yJ9_min_f86c9, .static yJ9_min_f86c9, .code yJ9_max_f86c9 cJ9_max_f86c9 4 (some .long), .methodLink RX11 223 yJ9_max_f86c9, .static yJ9_max_f86c9, .fieldLink RX6 7 "NeededLists$Meter" "left" "I", .fieldLink RX6 13 "NeededLists$Meter" "used" "I", .fieldLink RX5 23 "NeededLists$LazyList" "close" "I", .fieldLink RX5 27 "NeededLists$LazyList" "met" "I", .fieldLink RX2 9 "NeededLists$Front" "of" "LNeededLists$LazyList;", .fieldLink RX4 9 "NeededLists$Joined" "left" "LNeededLists$LazyList;", .methodLink RX4 22 ⟨"NeededLists$LazyList", "there", "()I"⟩, .sameMethod "NeededLists$LazyList" "NeededLists$LazyList" "there" "()I", .instanceMethod yX5_there, .initialized RX5, .code yX5_there cX5_there 1 (some .int), .selects RX0 ⟨"NeededLists$LazyList", "there", "()I"⟩ yX5_there, .selects RX1 ⟨"NeededLists$LazyList", "there", "()I"⟩ yX5_there, .selects RX2 ⟨"NeededLists$LazyList", "there", "()I"⟩ yX5_there, .selects RX3 ⟨"NeededLists$LazyList", "there", "()I"⟩ yX5_there, .selects RX4 ⟨"NeededLists$LazyList", "there", "()I"⟩ yX5_there, .selects RX7 ⟨"NeededLists$LazyList", "there", "()I"⟩ yX5_there, .selects RX8 ⟨"NeededLists$LazyList", "there", "()I"⟩ yX5_there, .selects RX9 ⟨"NeededLists$LazyList", "there", "()I"⟩ yX5_there, .selects RX10 ⟨"NeededLists$LazyList", "there", "()I"⟩ yX5_there, .fieldLink RX4 15 "NeededLists$Joined" "right" "LNeededLists$LazyList;", .fieldLink RX7 9 "NeededLists$Ordered" "of" "LNeededLists$LazyList;", .fieldLink RX8 9 "NeededLists$Rest" "of" "LNeededLists$LazyList;", .fieldLink RX10 9 "NeededLists$Sieve" "of" "LNeededLists$LazyList;", .fieldLink RX7 15 "NeededLists$Ordered" "places" "[I", .methodLink RX7 26 ⟨"NeededLists$LazyList", "there", "()I"⟩, .fieldLink RX8 15 "NeededLists$Rest" "start" "I"]
def WC_k1 : List Cond := [.fieldLink RX10 23 "NeededLists$Sieve" "places" "[I", .methodLink RX5 53 ⟨"NeededLists$LazyList", "source", "(I)LNeededLists$LazyList;"⟩, .sameMethod "NeededLists$LazyList" "NeededLists$LazyList" "source" "(I)LNeededLists$LazyList;", .selects RX0 ⟨"NeededLists$LazyList", "source", "(I)LNeededLists$LazyList;"⟩ yX5_source, .instanceMethod yX5_source, .code yX5_source cX5_source 2 (some (.object "NeededLists$LazyList")), .selects RX1 ⟨"NeededLists$LazyList", "source", "(I)LNeededLists$LazyList;"⟩ yX5_source, .selects RX2 ⟨"NeededLists$LazyList", "source", "(I)LNeededLists$LazyList;"⟩ yX2_source, .instanceMethod yX2_source, .initialized RX2, .code yX2_source cX2_source 2 (some (.object "NeededLists$LazyList")), .selects RX3 ⟨"NeededLists$LazyList", "source", "(I)LNeededLists$LazyList;"⟩ yX5_source, .selects RX4 ⟨"NeededLists$LazyList", "source", "(I)LNeededLists$LazyList;"⟩ yX4_source, .instanceMethod yX4_source, .initialized RX4, .code yX4_source cX4_source 2 (some (.object "NeededLists$LazyList")), .selects RX7 ⟨"NeededLists$LazyList", "source", "(I)LNeededLists$LazyList;"⟩ yX7_source, .instanceMethod yX7_source, .initialized RX7, .code yX7_source cX7_source 2 (some (.object "NeededLists$LazyList")), .selects RX8 ⟨"NeededLists$LazyList", "source", "(I)LNeededLists$LazyList;"⟩ yX8_source, .instanceMethod yX8_source, .initialized RX8, .code yX8_source cX8_source 2 (some (.object "NeededLists$LazyList")), .selects RX9 ⟨"NeededLists$LazyList", "source", "(I)LNeededLists$LazyList;"⟩ yX5_source, .selects RX10 ⟨"NeededLists$LazyList", "source", "(I)LNeededLists$LazyList;"⟩ yX10_source, .instanceMethod yX10_source, .initialized RX10, .code yX10_source cX10_source 2 (some (.object "NeededLists$LazyList")), .methodLink RX5 57 ⟨"NeededLists$LazyList", "place", "(I)I"⟩, .sameMethod "NeededLists$LazyList" "NeededLists$LazyList" "place" "(I)I", .selects RX0 ⟨"NeededLists$LazyList", "place", "(I)I"⟩ yX5_place, .instanceMethod yX5_place, .code yX5_place cX5_place 2 (some .int), .selects RX1 ⟨"NeededLists$LazyList", "place", "(I)I"⟩ yX5_place, .selects RX2 ⟨"NeededLists$LazyList", "place", "(I)I"⟩ yX5_place, .selects RX3 ⟨"NeededLists$LazyList", "place", "(I)I"⟩ yX5_place, .selects RX4 ⟨"NeededLists$LazyList", "place", "(I)I"⟩ yX4_place, .instanceMethod yX4_place, .code yX4_place cX4_place 3 (some .int)]
def WC_k2 : List Cond := [.selects RX7 ⟨"NeededLists$LazyList", "place", "(I)I"⟩ yX7_place, .instanceMethod yX7_place, .code yX7_place cX7_place 2 (some .int), .selects RX8 ⟨"NeededLists$LazyList", "place", "(I)I"⟩ yX8_place, .instanceMethod yX8_place, .code yX8_place cX8_place 2 (some .int), .selects RX9 ⟨"NeededLists$LazyList", "place", "(I)I"⟩ yX5_place, .selects RX10 ⟨"NeededLists$LazyList", "place", "(I)I"⟩ yX10_place, .instanceMethod yX10_place, .code yX10_place cX10_place 2 (some .int), .fieldLink RX5 15 "NeededLists$LazyList" "numbers" "[J", .methodLink RX5 70 ⟨"NeededLists$LazyList", "number", "(I)J"⟩, .sameMethod "NeededLists$LazyList" "NeededLists$LazyList" "number" "(I)J", .instanceMethod yX5_number, .code yX5_number cX5_number 3 (some .long), .selects RX0 ⟨"NeededLists$LazyList", "number", "(I)J"⟩ yX5_number, .selects RX1 ⟨"NeededLists$LazyList", "number", "(I)J"⟩ yX5_number, .selects RX2 ⟨"NeededLists$LazyList", "number", "(I)J"⟩ yX5_number, .selects RX3 ⟨"NeededLists$LazyList", "number", "(I)J"⟩ yX5_number, .selects RX4 ⟨"NeededLists$LazyList", "number", "(I)J"⟩ yX5_number, .selects RX7 ⟨"NeededLists$LazyList", "number", "(I)J"⟩ yX5_number, .selects RX8 ⟨"NeededLists$LazyList", "number", "(I)J"⟩ yX5_number, .selects RX9 ⟨"NeededLists$LazyList", "number", "(I)J"⟩ yX5_number, .selects RX10 ⟨"NeededLists$LazyList", "number", "(I)J"⟩ yX5_number, .fieldLink RX5 19 "NeededLists$LazyList" "marks" "[B", .methodLink RX5 66 ⟨"NeededLists$LazyList", "isWorked", "(I)Z"⟩, .sameMethod "NeededLists$LazyList" "NeededLists$LazyList" "isWorked" "(I)Z", .instanceMethod yX5_isWorked, .code yX5_isWorked cX5_isWorked 3 (some .boolean), .selects RX0 ⟨"NeededLists$LazyList", "isWorked", "(I)Z"⟩ yX5_isWorked, .selects RX1 ⟨"NeededLists$LazyList", "isWorked", "(I)Z"⟩ yX5_isWorked, .selects RX2 ⟨"NeededLists$LazyList", "isWorked", "(I)Z"⟩ yX5_isWorked, .selects RX3 ⟨"NeededLists$LazyList", "isWorked", "(I)Z"⟩ yX5_isWorked, .selects RX4 ⟨"NeededLists$LazyList", "isWorked", "(I)Z"⟩ yX5_isWorked, .selects RX7 ⟨"NeededLists$LazyList", "isWorked", "(I)Z"⟩ yX5_isWorked, .selects RX8 ⟨"NeededLists$LazyList", "isWorked", "(I)Z"⟩ yX5_isWorked, .selects RX9 ⟨"NeededLists$LazyList", "isWorked", "(I)Z"⟩ yX5_isWorked, .selects RX10 ⟨"NeededLists$LazyList", "isWorked", "(I)Z"⟩ yX5_isWorked, .code yX11_dividesByNone cX11_dividesByNone 3 (some .boolean), .initialized RX11]
def WC_k3 : List Cond := [.static yX11_dividesByNone, .code yX11_reckon cX11_reckon 5 (some .long), .static yX11_reckon, .methodLink RX5 82 ⟨"NeededLists$LazyList", "tell", "(IJ)I"⟩, .sameMethod "NeededLists$LazyList" "NeededLists$LazyList" "tell" "(IJ)I", .instanceMethod yX5_tell, .code yX5_tell cX5_tell 4 (some .int), .selects RX0 ⟨"NeededLists$LazyList", "tell", "(IJ)I"⟩ yX5_tell, .selects RX1 ⟨"NeededLists$LazyList", "tell", "(IJ)I"⟩ yX5_tell, .selects RX2 ⟨"NeededLists$LazyList", "tell", "(IJ)I"⟩ yX5_tell, .selects RX3 ⟨"NeededLists$LazyList", "tell", "(IJ)I"⟩ yX5_tell, .selects RX4 ⟨"NeededLists$LazyList", "tell", "(IJ)I"⟩ yX5_tell, .selects RX7 ⟨"NeededLists$LazyList", "tell", "(IJ)I"⟩ yX5_tell, .selects RX8 ⟨"NeededLists$LazyList", "tell", "(IJ)I"⟩ yX5_tell, .selects RX9 ⟨"NeededLists$LazyList", "tell", "(IJ)I"⟩ yX5_tell, .selects RX10 ⟨"NeededLists$LazyList", "tell", "(IJ)I"⟩ yX5_tell, .fieldLink RX10 15 "NeededLists$Sieve" "cond" "I", .fieldLink RX10 19 "NeededLists$Sieve" "c" "J", .code yX11_meets cX11_meets 5 (some .boolean), .static yX11_meets, .methodLink RX10 46 ⟨"NeededLists$Sieve", "number", "(I)J"⟩, .sameMethod "NeededLists$Sieve" "NeededLists$LazyList" "number" "(I)J", .selects RX10 ⟨"NeededLists$Sieve", "number", "(I)J"⟩ yX5_number, .methodLink RX7 37 ⟨"NeededLists$LazyList", "number", "(I)J"⟩, .methodLink RX5 50 ⟨"NeededLists$LazyList", "reach", "(I)I"⟩, .sameMethod "NeededLists$LazyList" "NeededLists$LazyList" "reach" "(I)I", .instanceMethod yX5_reach, .code yX5_reach cX5_reach 5 (some .int), .selects RX0 ⟨"NeededLists$LazyList", "reach", "(I)I"⟩ yX5_reach, .selects RX1 ⟨"NeededLists$LazyList", "reach", "(I)I"⟩ yX5_reach, .selects RX2 ⟨"NeededLists$LazyList", "reach", "(I)I"⟩ yX5_reach, .selects RX3 ⟨"NeededLists$LazyList", "reach", "(I)I"⟩ yX5_reach, .selects RX4 ⟨"NeededLists$LazyList", "reach", "(I)I"⟩ yX5_reach, .selects RX7 ⟨"NeededLists$LazyList", "reach", "(I)I"⟩ yX5_reach, .selects RX8 ⟨"NeededLists$LazyList", "reach", "(I)I"⟩ yX5_reach, .selects RX9 ⟨"NeededLists$LazyList", "reach", "(I)I"⟩ yX5_reach, .selects RX10 ⟨"NeededLists$LazyList", "reach", "(I)I"⟩ yX5_reach, .methodLink RX8 30 ⟨"NeededLists$LazyList", "reach", "(I)I"⟩, .methodLink RX8 34 ⟨"NeededLists$LazyList", "work", "(I)I"⟩, .sameMethod "NeededLists$LazyList" "NeededLists$LazyList" "work" "(I)I"]
def WC_k4 : List Cond := [.instanceMethod yX5_work, .code yX5_work cX5_work 4 (some .int), .selects RX0 ⟨"NeededLists$LazyList", "work", "(I)I"⟩ yX5_work, .selects RX1 ⟨"NeededLists$LazyList", "work", "(I)I"⟩ yX5_work, .selects RX2 ⟨"NeededLists$LazyList", "work", "(I)I"⟩ yX5_work, .selects RX3 ⟨"NeededLists$LazyList", "work", "(I)I"⟩ yX5_work, .selects RX4 ⟨"NeededLists$LazyList", "work", "(I)I"⟩ yX5_work, .selects RX7 ⟨"NeededLists$LazyList", "work", "(I)I"⟩ yX5_work, .selects RX8 ⟨"NeededLists$LazyList", "work", "(I)I"⟩ yX5_work, .selects RX9 ⟨"NeededLists$LazyList", "work", "(I)I"⟩ yX5_work, .selects RX10 ⟨"NeededLists$LazyList", "work", "(I)I"⟩ yX5_work, .fieldLink RX8 19 "NeededLists$Rest" "cond" "I", .methodLink RX8 37 ⟨"NeededLists$LazyList", "number", "(I)J"⟩, .fieldLink RX8 22 "NeededLists$Rest" "c" "J", .fieldLink RX9 9 "NeededLists$Runs" "of" "LNeededLists$LazyList;", .methodLink RX9 34 ⟨"NeededLists$LazyList", "work", "(I)I"⟩, .methodLink RX9 37 ⟨"NeededLists$LazyList", "number", "(I)J"⟩, .fieldLink RX9 26 "NeededLists$Runs" "runEnd" "I", .methodLink RX9 19 ⟨"NeededLists$LazyList", "reach", "(I)I"⟩, .methodLink RX0 49 ⟨"NeededLists$Chained", "isWorked", "(I)Z"⟩, .sameMethod "NeededLists$Chained" "NeededLists$LazyList" "isWorked" "(I)Z", .selects RX0 ⟨"NeededLists$Chained", "isWorked", "(I)Z"⟩ yX5_isWorked, .methodLink RX0 53 ⟨"NeededLists$Chained", "work", "(I)I"⟩, .sameMethod "NeededLists$Chained" "NeededLists$LazyList" "work" "(I)I", .selects RX0 ⟨"NeededLists$Chained", "work", "(I)I"⟩ yX5_work, .methodLink RX7 29 ⟨"NeededLists$LazyList", "work", "(I)I"⟩, .methodLink RX7 33 yX7_insertPlace, .instanceMethod yX7_insertPlace, .selects RX7 yX7_insertPlace yX7_insertPlace, .code yX7_insertPlace cX7_insertPlace 5 none, .fieldLink RX0 9 "NeededLists$Chained" "of" "LNeededLists$LazyList;", .methodLink RX0 26 ⟨"NeededLists$LazyList", "reach", "(I)I"⟩, .fieldLink RX1 9 "NeededLists$Combined" "left" "LNeededLists$LazyList;", .methodLink RX1 26 ⟨"NeededLists$LazyList", "reach", "(I)I"⟩, .fieldLink RX1 15 "NeededLists$Combined" "right" "LNeededLists$LazyList;", .fieldLink RX2 15 "NeededLists$Front" "limit" "I", .methodLink RX2 26 ⟨"NeededLists$LazyList", "reach", "(I)I"⟩, .fieldLink RX2 19 "NeededLists$Front" "cond" "I", .methodLink RX2 30 ⟨"NeededLists$LazyList", "work", "(I)I"⟩, .methodLink RX2 33 ⟨"NeededLists$LazyList", "number", "(I)J"⟩]
def WC_k5 : List Cond := [.fieldLink RX2 22 "NeededLists$Front" "c" "J", .fieldLink RX3 9 "NeededLists$Given" "fates" "[B", .fieldLink RX3 15 "NeededLists$Given" "behind" "I", .methodLink RX4 18 ⟨"NeededLists$LazyList", "reach", "(I)I"⟩, .methodLink RX7 19 ⟨"NeededLists$LazyList", "reachAll", "()I"⟩, .sameMethod "NeededLists$LazyList" "NeededLists$LazyList" "reachAll" "()I", .instanceMethod yX5_reachAll, .code yX5_reachAll cX5_reachAll 1 (some .int), .selects RX0 ⟨"NeededLists$LazyList", "reachAll", "()I"⟩ yX5_reachAll, .selects RX1 ⟨"NeededLists$LazyList", "reachAll", "()I"⟩ yX5_reachAll, .selects RX2 ⟨"NeededLists$LazyList", "reachAll", "()I"⟩ yX5_reachAll, .selects RX3 ⟨"NeededLists$LazyList", "reachAll", "()I"⟩ yX5_reachAll, .selects RX4 ⟨"NeededLists$LazyList", "reachAll", "()I"⟩ yX5_reachAll, .selects RX7 ⟨"NeededLists$LazyList", "reachAll", "()I"⟩ yX5_reachAll, .selects RX8 ⟨"NeededLists$LazyList", "reachAll", "()I"⟩ yX5_reachAll, .selects RX9 ⟨"NeededLists$LazyList", "reachAll", "()I"⟩ yX5_reachAll, .selects RX10 ⟨"NeededLists$LazyList", "reachAll", "()I"⟩ yX5_reachAll, .methodLink RX7 23 yX7_sortPlaces, .instanceMethod yX7_sortPlaces, .selects RX7 yX7_sortPlaces yX7_sortPlaces, .code yX7_sortPlaces cX7_sortPlaces 4 (some .int), .methodLink RX8 26 yX8_findStart, .instanceMethod yX8_findStart, .selects RX8 yX8_findStart yX8_findStart, .code yX8_findStart cX8_findStart 4 (some .int), .fieldLink RX9 15 "NeededLists$Runs" "starts" "[I", .methodLink RX9 23 yX9_lookThrough, .instanceMethod yX9_lookThrough, .selects RX9 yX9_lookThrough yX9_lookThrough, .initialized RX9, .code yX9_lookThrough cX9_lookThrough 7 (some .int), .methodLink RX10 27 ⟨"NeededLists$LazyList", "reach", "(I)I"⟩, .methodLink RX10 31 ⟨"NeededLists$LazyList", "work", "(I)I"⟩, .methodLink RX10 34 ⟨"NeededLists$LazyList", "number", "(I)J"⟩, .methodLink RX10 38 yX10_lets, .instanceMethod yX10_lets, .selects RX10 yX10_lets yX10_lets, .code yX10_lets cX10_lets 5 (some .boolean), .fieldLink RX0 15 "NeededLists$Chained" "op" "I", .fieldLink RX0 19 "NeededLists$Chained" "c" "J"]
def WC_k6 : List Cond := [.methodLink RX0 45 ⟨"NeededLists$Chained", "tellOp", "(IIJJ)I"⟩, .sameMethod "NeededLists$Chained" "NeededLists$LazyList" "tellOp" "(IIJJ)I", .selects RX0 ⟨"NeededLists$Chained", "tellOp", "(IIJJ)I"⟩ yX5_tellOp, .instanceMethod yX5_tellOp, .code yX5_tellOp cX5_tellOp 7 (some .int), .methodLink RX0 41 ⟨"NeededLists$LazyList", "work", "(I)I"⟩, .methodLink RX0 44 ⟨"NeededLists$LazyList", "number", "(I)J"⟩, .methodLink RX0 34 yX0_workAhead, .instanceMethod yX0_workAhead, .selects RX0 yX0_workAhead yX0_workAhead, .initialized RX0, .code yX0_workAhead cX0_workAhead 5 (some .int), .methodLink RX0 37 ⟨"NeededLists$Chained", "number", "(I)J"⟩, .sameMethod "NeededLists$Chained" "NeededLists$LazyList" "number" "(I)J", .selects RX0 ⟨"NeededLists$Chained", "number", "(I)J"⟩ yX5_number, .fieldLink RX0 23 "NeededLists$Chained" "start" "J", .methodLink RX0 30 ⟨"NeededLists$Chained", "tell", "(IJ)I"⟩, .sameMethod "NeededLists$Chained" "NeededLists$LazyList" "tell" "(IJ)I", .selects RX0 ⟨"NeededLists$Chained", "tell", "(IJ)I"⟩ yX5_tell, .fieldLink RX1 18 "NeededLists$Combined" "op" "I", .fieldLink RX1 22 "NeededLists$Combined" "c" "J", .methodLink RX1 37 ⟨"NeededLists$Combined", "tellOp", "(IIJJ)I"⟩, .sameMethod "NeededLists$Combined" "NeededLists$LazyList" "tellOp" "(IIJJ)I", .selects RX1 ⟨"NeededLists$Combined", "tellOp", "(IIJJ)I"⟩ yX5_tellOp, .methodLink RX1 30 ⟨"NeededLists$LazyList", "work", "(I)I"⟩, .methodLink RX1 33 ⟨"NeededLists$LazyList", "number", "(I)J"⟩, .methodLink RX9 30 ⟨"NeededLists$Runs", "tell", "(IJ)I"⟩, .sameMethod "NeededLists$Runs" "NeededLists$LazyList" "tell" "(IJ)I", .selects RX9 ⟨"NeededLists$Runs", "tell", "(IJ)I"⟩ yX5_tell, .methodLink RX5 36 ⟨"NeededLists$LazyList", "seek", "(I)I"⟩, .sameMethod "NeededLists$LazyList" "NeededLists$LazyList" "seek" "(I)I", .selects RX0 ⟨"NeededLists$LazyList", "seek", "(I)I"⟩ yX0_seek, .instanceMethod yX0_seek, .code yX0_seek cX0_seek 2 (some .int), .selects RX1 ⟨"NeededLists$LazyList", "seek", "(I)I"⟩ yX1_seek, .instanceMethod yX1_seek, .initialized RX1, .code yX1_seek cX1_seek 3 (some .int), .selects RX2 ⟨"NeededLists$LazyList", "seek", "(I)I"⟩ yX2_seek, .instanceMethod yX2_seek]
def WC_k7 : List Cond := [.code yX2_seek cX2_seek 4 (some .int), .selects RX3 ⟨"NeededLists$LazyList", "seek", "(I)I"⟩ yX3_seek, .instanceMethod yX3_seek, .initialized RX3, .code yX3_seek cX3_seek 2 (some .int), .selects RX4 ⟨"NeededLists$LazyList", "seek", "(I)I"⟩ yX4_seek, .instanceMethod yX4_seek, .code yX4_seek cX4_seek 3 (some .int), .selects RX7 ⟨"NeededLists$LazyList", "seek", "(I)I"⟩ yX7_seek, .instanceMethod yX7_seek, .code yX7_seek cX7_seek 4 (some .int), .selects RX8 ⟨"NeededLists$LazyList", "seek", "(I)I"⟩ yX8_seek, .instanceMethod yX8_seek, .code yX8_seek cX8_seek 2 (some .int), .selects RX9 ⟨"NeededLists$LazyList", "seek", "(I)I"⟩ yX9_seek, .instanceMethod yX9_seek, .code yX9_seek cX9_seek 3 (some .int), .selects RX10 ⟨"NeededLists$LazyList", "seek", "(I)I"⟩ yX10_seek, .instanceMethod yX10_seek, .code yX10_seek cX10_seek 5 (some .int), .methodLink RX5 63 ⟨"NeededLists$LazyList", "form", "(I)I"⟩, .sameMethod "NeededLists$LazyList" "NeededLists$LazyList" "form" "(I)I", .selects RX0 ⟨"NeededLists$LazyList", "form", "(I)I"⟩ yX0_form, .instanceMethod yX0_form, .code yX0_form cX0_form 7 (some .int), .code yX5_form cX5_form 2 (some .int), .instanceMethod yX5_form, .selects RX1 ⟨"NeededLists$LazyList", "form", "(I)I"⟩ yX1_form, .instanceMethod yX1_form, .code yX1_form cX1_form 7 (some .int), .selects RX2 ⟨"NeededLists$LazyList", "form", "(I)I"⟩ yX5_form, .selects RX3 ⟨"NeededLists$LazyList", "form", "(I)I"⟩ yX3_form, .instanceMethod yX3_form, .code yX3_form cX3_form 2 (some .int), .selects RX4 ⟨"NeededLists$LazyList", "form", "(I)I"⟩ yX5_form, .selects RX7 ⟨"NeededLists$LazyList", "form", "(I)I"⟩ yX5_form, .selects RX8 ⟨"NeededLists$LazyList", "form", "(I)I"⟩ yX5_form, .selects RX9 ⟨"NeededLists$LazyList", "form", "(I)I"⟩ yX9_form, .instanceMethod yX9_form, .code yX9_form cX9_form 3 (some .int)]
def WC_k8 : List Cond := [.selects RX10 ⟨"NeededLists$LazyList", "form", "(I)I"⟩ yX5_form, .code yJ9_min_7cf53 cJ9_min_7cf53 2 (some .int), .methodLink RX5 30 yJ9_min_7cf53, .static yJ9_min_7cf53, .methodLink RX5 46 ⟨"NeededLists$LazyList", "there", "()I"⟩, .fieldLink RX5 9 "NeededLists$LazyList" "meter" "LNeededLists$Meter;", .methodLink RX5 40 yX6_spend, .instanceMethod yX6_spend, .selects RX6 yX6_spend yX6_spend, .initialized RX6, .code yX6_spend cX6_spend 1 (some .boolean), .methodLink RX5 60 ⟨"NeededLists$LazyList", "work", "(I)I"⟩, .arrayClass .long, .methodLink RJ7 304 yJ9_min_7cf53, .methodLink RJ7 150 arraycopyName, .native arraycopyName, .static arraycopyName, .initialized "java/lang/System", .methodLink RJ7 319 ⟨"[J", "clone", "()Ljava/lang/Object;"⟩, .sameMethod "[J" "java/lang/Object" "clone" "()Ljava/lang/Object;", .native ⟨"java/lang/Object", "clone", "()Ljava/lang/Object;"⟩, .instanceMethod ⟨"java/lang/Object", "clone", "()Ljava/lang/Object;"⟩, .selects "[J" ⟨"[J", "clone", "()Ljava/lang/Object;"⟩ ⟨"java/lang/Object", "clone", "()Ljava/lang/Object;"⟩, .classLink RJ7 320 "[J", .arrayClass .byte, .methodLink RJ7 310 ⟨"[B", "clone", "()Ljava/lang/Object;"⟩, .sameMethod "[B" "java/lang/Object" "clone" "()Ljava/lang/Object;", .selects "[B" ⟨"[B", "clone", "()Ljava/lang/Object;"⟩ ⟨"java/lang/Object", "clone", "()Ljava/lang/Object;"⟩, .classLink RJ7 311 "[B", .methodLink RX6 1 objectInit, .instanceMethod objectInit, .code objectInit ⟨#[0xb1]⟩ 1 none, .methodLink RX5 3 objectInit, .code yX5_init cX5_init 3 none, .methodLink RX0 3 yX5_init, .instanceMethod yX5_init, .methodLink RX1 3 yX5_init, .methodLink RX2 3 yX5_init, .methodLink RX3 3 yX5_init, .methodLink RX4 3 yX5_init]
def WC_k9 : List Cond := [.methodLink RX7 3 yX5_init, .arrayClass .int, .methodLink RX8 3 yX5_init, .methodLink RX9 3 yX5_init, .methodLink RX10 3 yX5_init, .fieldLink RX11 136 "NeededLists" "madeCount" "I", .classLink RX11 48 "java/lang/UnsupportedOperationException", .initialized "java/lang/UnsupportedOperationException", .classLink RX11 198 "java/lang/IndexOutOfBoundsException", .initialized "java/lang/IndexOutOfBoundsException", .fieldLink RX11 18 "NeededLists" "made" "[LNeededLists$LazyList;", .classLink RX11 38 "java/lang/IllegalArgumentException", .initialized "java/lang/IllegalArgumentException", .fieldLink RX11 45 "NeededLists" "rowLength" "I", .fieldLink RX11 22 "NeededLists" "rowNumbers" "[J", .fieldLink RX11 26 "NeededLists" "rowFates" "[B", .code yX11_addToRow cX11_addToRow 4 (some .int), .methodLink RX11 34 yX11_addToRow, .instanceMethod yX11_addToRow, .selects RX11 yX11_addToRow yX11_addToRow, .fieldLink RX11 30 "NeededLists" "stepsOfAsk" "I", .classLink RX11 115 RX4, .instantiable RX4 7, .fieldLink RX11 12 "NeededLists" "meter" "LNeededLists$Meter;", .code yX4_init cX4_init 4 none, .methodLink RX11 117 yX4_init, .instanceMethod yX4_init, .classLink RX11 126 RX7, .instantiable RX7 7, .code yX7_init cX7_init 4 none, .methodLink RX11 128 yX7_init, .instanceMethod yX7_init, .classLink RX11 110 RX10, .instantiable RX10 9, .code yX10_init cX10_init 6 none, .methodLink RX11 112 yX10_init, .instanceMethod yX10_init, .classLink RX11 131 RX9, .instantiable RX9 8, .code yX9_init cX9_init 3 none]
def WC_k10 : List Cond := [.methodLink RX11 133 yX9_init, .instanceMethod yX9_init, .fieldLink RX11 185 "NeededLists" "latestError" "I", .fieldLink RX11 182 "NeededLists" "latestOutcome" "I", .code yX11_checkRoom cX11_checkRoom 1 none, .methodLink RX11 53 yX11_checkRoom, .instanceMethod yX11_checkRoom, .selects RX11 yX11_checkRoom yX11_checkRoom, .code yJ7_copyOf_c38d5 cJ7_copyOf_c38d5 3 (some (.array .long)), .methodLink RX11 56 yJ7_copyOf_c38d5, .static yJ7_copyOf_c38d5, .initialized RJ7, .code yJ7_copyOf_9075b cJ7_copyOf_9075b 3 (some (.array .byte)), .methodLink RX11 62 yJ7_copyOf_9075b, .static yJ7_copyOf_9075b, .classLink RX11 65 RX3, .instantiable RX3 7, .code yX3_init cX3_init 5 none, .methodLink RX11 67 yX3_init, .instanceMethod yX3_init, .code yX11_addList cX11_addList 3 (some .int), .methodLink RX11 70 yX11_addList, .instanceMethod yX11_addList, .selects RX11 yX11_addList yX11_addList, .code yJ7_fill_031fb cJ7_fill_031fb 4 none, .methodLink RX11 74 yJ7_fill_031fb, .static yJ7_fill_031fb, .code yX11_checkOp cX11_checkOp 1 none, .methodLink RX11 78 yX11_checkOp, .static yX11_checkOp, .classLink RX11 82 RX0, .instantiable RX0 9, .code yX0_init cX0_init 8 none, .methodLink RX11 84 yX0_init, .instanceMethod yX0_init, .code yX11_listOf cX11_listOf 3 (some (.object "NeededLists$LazyList")), .methodLink RX11 87 yX11_listOf, .instanceMethod yX11_listOf, .selects RX11 yX11_listOf yX11_listOf, .classLink RX11 91 RX1]
def WC_k11 : List Cond := [.instantiable RX1 9, .code yX1_init cX1_init 7 none, .methodLink RX11 93 yX1_init, .instanceMethod yX1_init, .code yX11_checkLength cX11_checkLength 1 none, .methodLink RX11 96 yX11_checkLength, .static yX11_checkLength, .classLink RX11 99 RX2, .instantiable RX2 9, .code yX2_init cX2_init 7 none, .methodLink RX11 101 yX2_init, .instanceMethod yX2_init, .classLink RX11 104 RX8, .instantiable RX8 9, .code yX8_init cX8_init 7 none, .methodLink RX11 106 yX8_init, .instanceMethod yX8_init, .code yX11_checkCond cX11_checkCond 1 none, .methodLink RX11 107 yX11_checkCond, .static yX11_checkCond, .code yX11_otherList cX11_otherList 3 (some (.object "NeededLists$LazyList")), .methodLink RX11 122 yX11_otherList, .instanceMethod yX11_otherList, .selects RX11 yX11_otherList yX11_otherList, .methodLink RX11 143 yX6_begin, .instanceMethod yX6_begin, .selects RX6 yX6_begin yX6_begin, .code yX6_begin cX6_begin 2 none, .methodLink RX11 146 ⟨"NeededLists$LazyList", "reach", "(I)I"⟩, .methodLink RX11 154 ⟨"NeededLists$LazyList", "work", "(I)I"⟩, .methodLink RX11 157 ⟨"NeededLists$LazyList", "number", "(I)J"⟩, .code yX11_finish cX11_finish 4 (some .long), .methodLink RX11 150 yX11_finish, .instanceMethod yX11_finish, .selects RX11 yX11_finish yX11_finish, .methodLink RX11 161 ⟨"NeededLists$LazyList", "reachAll", "()I"⟩, .methodLink RX11 165 ⟨"NeededLists$LazyList", "there", "()I"⟩, .methodLink RX11 172 yX11_reckon, .methodLink RX11 168 yX11_dividesByNone, .methodLink RX11 178 yX11_meets]
def WC_k12 : List Cond := [.constantLong RX11 176 (-1), .methodLink RX11 194 ⟨"NeededLists$LazyList", "isWorked", "(I)Z"⟩]
def WC0 : List Cond := WC_k0 ++ (WC_k1 ++ (WC_k2 ++ (WC_k3 ++ (WC_k4 ++ (WC_k5 ++ (WC_k6 ++ (WC_k7 ++ (WC_k8 ++ (WC_k9 ++ (WC_k10 ++ (WC_k11 ++ (WC_k12))))))))))))
def WC : List Cond := WC0 ++ (wsX00 ++ (wsX10 ++ (wsX20 ++ (wsX30 ++ (wsX40 ++ (wsX60 ++ (wsX70 ++ (wsX80 ++ (wsX90 ++ (wsX100 ++ (wsX110 ++ (WE_IAE ++ (WE_UOE ++ WE_IOO)))))))))))))
theorem WC_in0 {w : Cond} (h : w ∈ WC_k0) : w ∈ WC := List.mem_append_left _ (List.mem_append_left _ h)
theorem WC_in1 {w : Cond} (h : w ∈ WC_k1) : w ∈ WC := List.mem_append_left _ (List.mem_append_right _ (List.mem_append_left _ h))
theorem WC_in2 {w : Cond} (h : w ∈ WC_k2) : w ∈ WC := List.mem_append_left _ (List.mem_append_right _ (List.mem_append_right _ (List.mem_append_left _ h)))
theorem WC_in3 {w : Cond} (h : w ∈ WC_k3) : w ∈ WC := List.mem_append_left _ (List.mem_append_right _ (List.mem_append_right _ (List.mem_append_right _ (List.mem_append_left _ h))))
theorem WC_in4 {w : Cond} (h : w ∈ WC_k4) : w ∈ WC := List.mem_append_left _ (List.mem_append_right _ (List.mem_append_right _ (List.mem_append_right _ (List.mem_append_right _ (List.mem_append_left _ h)))))
theorem WC_in5 {w : Cond} (h : w ∈ WC_k5) : w ∈ WC := List.mem_append_left _ (List.mem_append_right _ (List.mem_append_right _ (List.mem_append_right _ (List.mem_append_right _ (List.mem_append_right _ (List.mem_append_left _ h))))))
theorem WC_in6 {w : Cond} (h : w ∈ WC_k6) : w ∈ WC := List.mem_append_left _ (List.mem_append_right _ (List.mem_append_right _ (List.mem_append_right _ (List.mem_append_right _ (List.mem_append_right _ (List.mem_append_right _ (List.mem_append_left _ h)))))))
theorem WC_in7 {w : Cond} (h : w ∈ WC_k7) : w ∈ WC := List.mem_append_left _ (List.mem_append_right _ (List.mem_append_right _ (List.mem_append_right _ (List.mem_append_right _ (List.mem_append_right _ (List.mem_append_right _ (List.mem_append_right _ (List.mem_append_left _ h))))))))
theorem WC_in8 {w : Cond} (h : w ∈ WC_k8) : w ∈ WC := List.mem_append_left _ (List.mem_append_right _ (List.mem_append_right _ (List.mem_append_right _ (List.mem_append_right _ (List.mem_append_right _ (List.mem_append_right _ (List.mem_append_right _ (List.mem_append_right _ (List.mem_append_left _ h)))))))))
theorem WC_in9 {w : Cond} (h : w ∈ WC_k9) : w ∈ WC := List.mem_append_left _ (List.mem_append_right _ (List.mem_append_right _ (List.mem_append_right _ (List.mem_append_right _ (List.mem_append_right _ (List.mem_append_right _ (List.mem_append_right _ (List.mem_append_right _ (List.mem_append_right _ (List.mem_append_left _ h))))))))))
theorem WC_in10 {w : Cond} (h : w ∈ WC_k10) : w ∈ WC := List.mem_append_left _ (List.mem_append_right _ (List.mem_append_right _ (List.mem_append_right _ (List.mem_append_right _ (List.mem_append_right _ (List.mem_append_right _ (List.mem_append_right _ (List.mem_append_right _ (List.mem_append_right _ (List.mem_append_right _ (List.mem_append_left _ h)))))))))))
theorem WC_in11 {w : Cond} (h : w ∈ WC_k11) : w ∈ WC := List.mem_append_left _ (List.mem_append_right _ (List.mem_append_right _ (List.mem_append_right _ (List.mem_append_right _ (List.mem_append_right _ (List.mem_append_right _ (List.mem_append_right _ (List.mem_append_right _ (List.mem_append_right _ (List.mem_append_right _ (List.mem_append_right _ (List.mem_append_left _ h))))))))))))
theorem WC_in12 {w : Cond} (h : w ∈ WC_k12) : w ∈ WC := List.mem_append_left _ (List.mem_append_right _ (List.mem_append_right _ (List.mem_append_right _ (List.mem_append_right _ (List.mem_append_right _ (List.mem_append_right _ (List.mem_append_right _ (List.mem_append_right _ (List.mem_append_right _ (List.mem_append_right _ (List.mem_append_right _ (List.mem_append_right _ (h)))))))))))))
theorem mwC_0 : (.code yJ9_floorDiv_f86c9 cJ9_floorDiv_f86c9 6 (some .long) : Cond) ∈ WC := WC_in0 (List.mem_of_getElem? (i := 0) rfl)
theorem mwC_1 : (.methodLink RX11 211 yJ9_floorDiv_f86c9 : Cond) ∈ WC := WC_in0 (List.mem_of_getElem? (i := 1) rfl)
theorem mwC_2 : (.static yJ9_floorDiv_f86c9 : Cond) ∈ WC := WC_in0 (List.mem_of_getElem? (i := 2) rfl)
theorem mwC_3 : (.initialized RJ9 : Cond) ∈ WC := WC_in0 (List.mem_of_getElem? (i := 3) rfl)
theorem mwC_4 : (.code yJ9_floorMod_f86c9 cJ9_floorMod_f86c9 6 (some .long) : Cond) ∈ WC := WC_in0 (List.mem_of_getElem? (i := 4) rfl)
theorem mwC_5 : (.methodLink RX11 217 yJ9_floorMod_f86c9 : Cond) ∈ WC := WC_in0 (List.mem_of_getElem? (i := 5) rfl)
theorem mwC_6 : (.static yJ9_floorMod_f86c9 : Cond) ∈ WC := WC_in0 (List.mem_of_getElem? (i := 6) rfl)
theorem mwC_7 : (.code yJ9_min_f86c9 cJ9_min_f86c9 4 (some .long) : Cond) ∈ WC := WC_in0 (List.mem_of_getElem? (i := 7) rfl)
theorem mwC_8 : (.methodLink RX11 220 yJ9_min_f86c9 : Cond) ∈ WC := WC_in0 (List.mem_of_getElem? (i := 8) rfl)
theorem mwC_9 : (.static yJ9_min_f86c9 : Cond) ∈ WC := WC_in0 (List.mem_of_getElem? (i := 9) rfl)
theorem mwC_10 : (.code yJ9_max_f86c9 cJ9_max_f86c9 4 (some .long) : Cond) ∈ WC := WC_in0 (List.mem_of_getElem? (i := 10) rfl)
theorem mwC_11 : (.methodLink RX11 223 yJ9_max_f86c9 : Cond) ∈ WC := WC_in0 (List.mem_of_getElem? (i := 11) rfl)
theorem mwC_12 : (.static yJ9_max_f86c9 : Cond) ∈ WC := WC_in0 (List.mem_of_getElem? (i := 12) rfl)
theorem mwC_13 : (.fieldLink RX6 7 "NeededLists$Meter" "left" "I" : Cond) ∈ WC := WC_in0 (List.mem_of_getElem? (i := 13) rfl)
theorem mwC_14 : (.fieldLink RX6 13 "NeededLists$Meter" "used" "I" : Cond) ∈ WC := WC_in0 (List.mem_of_getElem? (i := 14) rfl)
theorem mwC_15 : (.fieldLink RX5 23 "NeededLists$LazyList" "close" "I" : Cond) ∈ WC := WC_in0 (List.mem_of_getElem? (i := 15) rfl)
theorem mwC_16 : (.fieldLink RX5 27 "NeededLists$LazyList" "met" "I" : Cond) ∈ WC := WC_in0 (List.mem_of_getElem? (i := 16) rfl)
theorem mwC_17 : (.fieldLink RX2 9 "NeededLists$Front" "of" "LNeededLists$LazyList;" : Cond) ∈ WC := WC_in0 (List.mem_of_getElem? (i := 17) rfl)
theorem mwC_18 : (.fieldLink RX4 9 "NeededLists$Joined" "left" "LNeededLists$LazyList;" : Cond) ∈ WC := WC_in0 (List.mem_of_getElem? (i := 18) rfl)
theorem mwC_19 : (.methodLink RX4 22 ⟨"NeededLists$LazyList", "there", "()I"⟩ : Cond) ∈ WC := WC_in0 (List.mem_of_getElem? (i := 19) rfl)
theorem mwC_20 : (.sameMethod "NeededLists$LazyList" "NeededLists$LazyList" "there" "()I" : Cond) ∈ WC := WC_in0 (List.mem_of_getElem? (i := 20) rfl)
theorem mwC_21 : (.instanceMethod yX5_there : Cond) ∈ WC := WC_in0 (List.mem_of_getElem? (i := 21) rfl)
theorem mwC_22 : (.initialized RX5 : Cond) ∈ WC := WC_in0 (List.mem_of_getElem? (i := 22) rfl)
theorem mwC_23 : (.code yX5_there cX5_there 1 (some .int) : Cond) ∈ WC := WC_in0 (List.mem_of_getElem? (i := 23) rfl)
theorem mwC_24 : (.selects RX0 ⟨"NeededLists$LazyList", "there", "()I"⟩ yX5_there : Cond) ∈ WC := WC_in0 (List.mem_of_getElem? (i := 24) rfl)
theorem mwC_25 : (.selects RX1 ⟨"NeededLists$LazyList", "there", "()I"⟩ yX5_there : Cond) ∈ WC := WC_in0 (List.mem_of_getElem? (i := 25) rfl)
theorem mwC_26 : (.selects RX2 ⟨"NeededLists$LazyList", "there", "()I"⟩ yX5_there : Cond) ∈ WC := WC_in0 (List.mem_of_getElem? (i := 26) rfl)
theorem mwC_27 : (.selects RX3 ⟨"NeededLists$LazyList", "there", "()I"⟩ yX5_there : Cond) ∈ WC := WC_in0 (List.mem_of_getElem? (i := 27) rfl)
theorem mwC_28 : (.selects RX4 ⟨"NeededLists$LazyList", "there", "()I"⟩ yX5_there : Cond) ∈ WC := WC_in0 (List.mem_of_getElem? (i := 28) rfl)
theorem mwC_29 : (.selects RX7 ⟨"NeededLists$LazyList", "there", "()I"⟩ yX5_there : Cond) ∈ WC := WC_in0 (List.mem_of_getElem? (i := 29) rfl)
theorem mwC_30 : (.selects RX8 ⟨"NeededLists$LazyList", "there", "()I"⟩ yX5_there : Cond) ∈ WC := WC_in0 (List.mem_of_getElem? (i := 30) rfl)
theorem mwC_31 : (.selects RX9 ⟨"NeededLists$LazyList", "there", "()I"⟩ yX5_there : Cond) ∈ WC := WC_in0 (List.mem_of_getElem? (i := 31) rfl)
theorem mwC_32 : (.selects RX10 ⟨"NeededLists$LazyList", "there", "()I"⟩ yX5_there : Cond) ∈ WC := WC_in0 (List.mem_of_getElem? (i := 32) rfl)
theorem mwC_33 : (.fieldLink RX4 15 "NeededLists$Joined" "right" "LNeededLists$LazyList;" : Cond) ∈ WC := WC_in0 (List.mem_of_getElem? (i := 33) rfl)
theorem mwC_34 : (.fieldLink RX7 9 "NeededLists$Ordered" "of" "LNeededLists$LazyList;" : Cond) ∈ WC := WC_in0 (List.mem_of_getElem? (i := 34) rfl)
theorem mwC_35 : (.fieldLink RX8 9 "NeededLists$Rest" "of" "LNeededLists$LazyList;" : Cond) ∈ WC := WC_in0 (List.mem_of_getElem? (i := 35) rfl)
theorem mwC_36 : (.fieldLink RX10 9 "NeededLists$Sieve" "of" "LNeededLists$LazyList;" : Cond) ∈ WC := WC_in0 (List.mem_of_getElem? (i := 36) rfl)
theorem mwC_37 : (.fieldLink RX7 15 "NeededLists$Ordered" "places" "[I" : Cond) ∈ WC := WC_in0 (List.mem_of_getElem? (i := 37) rfl)
theorem mwC_38 : (.methodLink RX7 26 ⟨"NeededLists$LazyList", "there", "()I"⟩ : Cond) ∈ WC := WC_in0 (List.mem_of_getElem? (i := 38) rfl)
theorem mwC_39 : (.fieldLink RX8 15 "NeededLists$Rest" "start" "I" : Cond) ∈ WC := WC_in0 (List.mem_of_getElem? (i := 39) rfl)
theorem mwC_40 : (.fieldLink RX10 23 "NeededLists$Sieve" "places" "[I" : Cond) ∈ WC := WC_in1 (List.mem_of_getElem? (i := 0) rfl)
theorem mwC_41 : (.methodLink RX5 53 ⟨"NeededLists$LazyList", "source", "(I)LNeededLists$LazyList;"⟩ : Cond) ∈ WC := WC_in1 (List.mem_of_getElem? (i := 1) rfl)
theorem mwC_42 : (.sameMethod "NeededLists$LazyList" "NeededLists$LazyList" "source" "(I)LNeededLists$LazyList;" : Cond) ∈ WC := WC_in1 (List.mem_of_getElem? (i := 2) rfl)
theorem mwC_43 : (.selects RX0 ⟨"NeededLists$LazyList", "source", "(I)LNeededLists$LazyList;"⟩ yX5_source : Cond) ∈ WC := WC_in1 (List.mem_of_getElem? (i := 3) rfl)
theorem mwC_44 : (.instanceMethod yX5_source : Cond) ∈ WC := WC_in1 (List.mem_of_getElem? (i := 4) rfl)
theorem mwC_45 : (.code yX5_source cX5_source 2 (some (.object "NeededLists$LazyList")) : Cond) ∈ WC := WC_in1 (List.mem_of_getElem? (i := 5) rfl)
theorem mwC_46 : (.selects RX1 ⟨"NeededLists$LazyList", "source", "(I)LNeededLists$LazyList;"⟩ yX5_source : Cond) ∈ WC := WC_in1 (List.mem_of_getElem? (i := 6) rfl)
theorem mwC_47 : (.selects RX2 ⟨"NeededLists$LazyList", "source", "(I)LNeededLists$LazyList;"⟩ yX2_source : Cond) ∈ WC := WC_in1 (List.mem_of_getElem? (i := 7) rfl)
theorem mwC_48 : (.instanceMethod yX2_source : Cond) ∈ WC := WC_in1 (List.mem_of_getElem? (i := 8) rfl)
theorem mwC_49 : (.initialized RX2 : Cond) ∈ WC := WC_in1 (List.mem_of_getElem? (i := 9) rfl)
theorem mwC_50 : (.code yX2_source cX2_source 2 (some (.object "NeededLists$LazyList")) : Cond) ∈ WC := WC_in1 (List.mem_of_getElem? (i := 10) rfl)
theorem mwC_51 : (.selects RX3 ⟨"NeededLists$LazyList", "source", "(I)LNeededLists$LazyList;"⟩ yX5_source : Cond) ∈ WC := WC_in1 (List.mem_of_getElem? (i := 11) rfl)
theorem mwC_52 : (.selects RX4 ⟨"NeededLists$LazyList", "source", "(I)LNeededLists$LazyList;"⟩ yX4_source : Cond) ∈ WC := WC_in1 (List.mem_of_getElem? (i := 12) rfl)
theorem mwC_53 : (.instanceMethod yX4_source : Cond) ∈ WC := WC_in1 (List.mem_of_getElem? (i := 13) rfl)
theorem mwC_54 : (.initialized RX4 : Cond) ∈ WC := WC_in1 (List.mem_of_getElem? (i := 14) rfl)
theorem mwC_55 : (.code yX4_source cX4_source 2 (some (.object "NeededLists$LazyList")) : Cond) ∈ WC := WC_in1 (List.mem_of_getElem? (i := 15) rfl)
theorem mwC_56 : (.selects RX7 ⟨"NeededLists$LazyList", "source", "(I)LNeededLists$LazyList;"⟩ yX7_source : Cond) ∈ WC := WC_in1 (List.mem_of_getElem? (i := 16) rfl)
theorem mwC_57 : (.instanceMethod yX7_source : Cond) ∈ WC := WC_in1 (List.mem_of_getElem? (i := 17) rfl)
theorem mwC_58 : (.initialized RX7 : Cond) ∈ WC := WC_in1 (List.mem_of_getElem? (i := 18) rfl)
theorem mwC_59 : (.code yX7_source cX7_source 2 (some (.object "NeededLists$LazyList")) : Cond) ∈ WC := WC_in1 (List.mem_of_getElem? (i := 19) rfl)
theorem mwC_60 : (.selects RX8 ⟨"NeededLists$LazyList", "source", "(I)LNeededLists$LazyList;"⟩ yX8_source : Cond) ∈ WC := WC_in1 (List.mem_of_getElem? (i := 20) rfl)
theorem mwC_61 : (.instanceMethod yX8_source : Cond) ∈ WC := WC_in1 (List.mem_of_getElem? (i := 21) rfl)
theorem mwC_62 : (.initialized RX8 : Cond) ∈ WC := WC_in1 (List.mem_of_getElem? (i := 22) rfl)
theorem mwC_63 : (.code yX8_source cX8_source 2 (some (.object "NeededLists$LazyList")) : Cond) ∈ WC := WC_in1 (List.mem_of_getElem? (i := 23) rfl)
theorem mwC_64 : (.selects RX9 ⟨"NeededLists$LazyList", "source", "(I)LNeededLists$LazyList;"⟩ yX5_source : Cond) ∈ WC := WC_in1 (List.mem_of_getElem? (i := 24) rfl)
theorem mwC_65 : (.selects RX10 ⟨"NeededLists$LazyList", "source", "(I)LNeededLists$LazyList;"⟩ yX10_source : Cond) ∈ WC := WC_in1 (List.mem_of_getElem? (i := 25) rfl)
theorem mwC_66 : (.instanceMethod yX10_source : Cond) ∈ WC := WC_in1 (List.mem_of_getElem? (i := 26) rfl)
theorem mwC_67 : (.initialized RX10 : Cond) ∈ WC := WC_in1 (List.mem_of_getElem? (i := 27) rfl)
theorem mwC_68 : (.code yX10_source cX10_source 2 (some (.object "NeededLists$LazyList")) : Cond) ∈ WC := WC_in1 (List.mem_of_getElem? (i := 28) rfl)
theorem mwC_69 : (.methodLink RX5 57 ⟨"NeededLists$LazyList", "place", "(I)I"⟩ : Cond) ∈ WC := WC_in1 (List.mem_of_getElem? (i := 29) rfl)
theorem mwC_70 : (.sameMethod "NeededLists$LazyList" "NeededLists$LazyList" "place" "(I)I" : Cond) ∈ WC := WC_in1 (List.mem_of_getElem? (i := 30) rfl)
theorem mwC_71 : (.selects RX0 ⟨"NeededLists$LazyList", "place", "(I)I"⟩ yX5_place : Cond) ∈ WC := WC_in1 (List.mem_of_getElem? (i := 31) rfl)
theorem mwC_72 : (.instanceMethod yX5_place : Cond) ∈ WC := WC_in1 (List.mem_of_getElem? (i := 32) rfl)
theorem mwC_73 : (.code yX5_place cX5_place 2 (some .int) : Cond) ∈ WC := WC_in1 (List.mem_of_getElem? (i := 33) rfl)
theorem mwC_74 : (.selects RX1 ⟨"NeededLists$LazyList", "place", "(I)I"⟩ yX5_place : Cond) ∈ WC := WC_in1 (List.mem_of_getElem? (i := 34) rfl)
theorem mwC_75 : (.selects RX2 ⟨"NeededLists$LazyList", "place", "(I)I"⟩ yX5_place : Cond) ∈ WC := WC_in1 (List.mem_of_getElem? (i := 35) rfl)
theorem mwC_76 : (.selects RX3 ⟨"NeededLists$LazyList", "place", "(I)I"⟩ yX5_place : Cond) ∈ WC := WC_in1 (List.mem_of_getElem? (i := 36) rfl)
theorem mwC_77 : (.selects RX4 ⟨"NeededLists$LazyList", "place", "(I)I"⟩ yX4_place : Cond) ∈ WC := WC_in1 (List.mem_of_getElem? (i := 37) rfl)
theorem mwC_78 : (.instanceMethod yX4_place : Cond) ∈ WC := WC_in1 (List.mem_of_getElem? (i := 38) rfl)
theorem mwC_79 : (.code yX4_place cX4_place 3 (some .int) : Cond) ∈ WC := WC_in1 (List.mem_of_getElem? (i := 39) rfl)
theorem mwC_80 : (.selects RX7 ⟨"NeededLists$LazyList", "place", "(I)I"⟩ yX7_place : Cond) ∈ WC := WC_in2 (List.mem_of_getElem? (i := 0) rfl)
theorem mwC_81 : (.instanceMethod yX7_place : Cond) ∈ WC := WC_in2 (List.mem_of_getElem? (i := 1) rfl)
theorem mwC_82 : (.code yX7_place cX7_place 2 (some .int) : Cond) ∈ WC := WC_in2 (List.mem_of_getElem? (i := 2) rfl)
theorem mwC_83 : (.selects RX8 ⟨"NeededLists$LazyList", "place", "(I)I"⟩ yX8_place : Cond) ∈ WC := WC_in2 (List.mem_of_getElem? (i := 3) rfl)
theorem mwC_84 : (.instanceMethod yX8_place : Cond) ∈ WC := WC_in2 (List.mem_of_getElem? (i := 4) rfl)
theorem mwC_85 : (.code yX8_place cX8_place 2 (some .int) : Cond) ∈ WC := WC_in2 (List.mem_of_getElem? (i := 5) rfl)
theorem mwC_86 : (.selects RX9 ⟨"NeededLists$LazyList", "place", "(I)I"⟩ yX5_place : Cond) ∈ WC := WC_in2 (List.mem_of_getElem? (i := 6) rfl)
theorem mwC_87 : (.selects RX10 ⟨"NeededLists$LazyList", "place", "(I)I"⟩ yX10_place : Cond) ∈ WC := WC_in2 (List.mem_of_getElem? (i := 7) rfl)
theorem mwC_88 : (.instanceMethod yX10_place : Cond) ∈ WC := WC_in2 (List.mem_of_getElem? (i := 8) rfl)
theorem mwC_89 : (.code yX10_place cX10_place 2 (some .int) : Cond) ∈ WC := WC_in2 (List.mem_of_getElem? (i := 9) rfl)
theorem mwC_90 : (.fieldLink RX5 15 "NeededLists$LazyList" "numbers" "[J" : Cond) ∈ WC := WC_in2 (List.mem_of_getElem? (i := 10) rfl)
theorem mwC_91 : (.methodLink RX5 70 ⟨"NeededLists$LazyList", "number", "(I)J"⟩ : Cond) ∈ WC := WC_in2 (List.mem_of_getElem? (i := 11) rfl)
theorem mwC_92 : (.sameMethod "NeededLists$LazyList" "NeededLists$LazyList" "number" "(I)J" : Cond) ∈ WC := WC_in2 (List.mem_of_getElem? (i := 12) rfl)
theorem mwC_93 : (.instanceMethod yX5_number : Cond) ∈ WC := WC_in2 (List.mem_of_getElem? (i := 13) rfl)
theorem mwC_94 : (.code yX5_number cX5_number 3 (some .long) : Cond) ∈ WC := WC_in2 (List.mem_of_getElem? (i := 14) rfl)
theorem mwC_95 : (.selects RX0 ⟨"NeededLists$LazyList", "number", "(I)J"⟩ yX5_number : Cond) ∈ WC := WC_in2 (List.mem_of_getElem? (i := 15) rfl)
theorem mwC_96 : (.selects RX1 ⟨"NeededLists$LazyList", "number", "(I)J"⟩ yX5_number : Cond) ∈ WC := WC_in2 (List.mem_of_getElem? (i := 16) rfl)
theorem mwC_97 : (.selects RX2 ⟨"NeededLists$LazyList", "number", "(I)J"⟩ yX5_number : Cond) ∈ WC := WC_in2 (List.mem_of_getElem? (i := 17) rfl)
theorem mwC_98 : (.selects RX3 ⟨"NeededLists$LazyList", "number", "(I)J"⟩ yX5_number : Cond) ∈ WC := WC_in2 (List.mem_of_getElem? (i := 18) rfl)
theorem mwC_99 : (.selects RX4 ⟨"NeededLists$LazyList", "number", "(I)J"⟩ yX5_number : Cond) ∈ WC := WC_in2 (List.mem_of_getElem? (i := 19) rfl)
theorem mwC_100 : (.selects RX7 ⟨"NeededLists$LazyList", "number", "(I)J"⟩ yX5_number : Cond) ∈ WC := WC_in2 (List.mem_of_getElem? (i := 20) rfl)
theorem mwC_101 : (.selects RX8 ⟨"NeededLists$LazyList", "number", "(I)J"⟩ yX5_number : Cond) ∈ WC := WC_in2 (List.mem_of_getElem? (i := 21) rfl)
theorem mwC_102 : (.selects RX9 ⟨"NeededLists$LazyList", "number", "(I)J"⟩ yX5_number : Cond) ∈ WC := WC_in2 (List.mem_of_getElem? (i := 22) rfl)
theorem mwC_103 : (.selects RX10 ⟨"NeededLists$LazyList", "number", "(I)J"⟩ yX5_number : Cond) ∈ WC := WC_in2 (List.mem_of_getElem? (i := 23) rfl)
theorem mwC_104 : (.fieldLink RX5 19 "NeededLists$LazyList" "marks" "[B" : Cond) ∈ WC := WC_in2 (List.mem_of_getElem? (i := 24) rfl)
theorem mwC_105 : (.methodLink RX5 66 ⟨"NeededLists$LazyList", "isWorked", "(I)Z"⟩ : Cond) ∈ WC := WC_in2 (List.mem_of_getElem? (i := 25) rfl)
theorem mwC_106 : (.sameMethod "NeededLists$LazyList" "NeededLists$LazyList" "isWorked" "(I)Z" : Cond) ∈ WC := WC_in2 (List.mem_of_getElem? (i := 26) rfl)
theorem mwC_107 : (.instanceMethod yX5_isWorked : Cond) ∈ WC := WC_in2 (List.mem_of_getElem? (i := 27) rfl)
theorem mwC_108 : (.code yX5_isWorked cX5_isWorked 3 (some .boolean) : Cond) ∈ WC := WC_in2 (List.mem_of_getElem? (i := 28) rfl)
theorem mwC_109 : (.selects RX0 ⟨"NeededLists$LazyList", "isWorked", "(I)Z"⟩ yX5_isWorked : Cond) ∈ WC := WC_in2 (List.mem_of_getElem? (i := 29) rfl)
theorem mwC_110 : (.selects RX1 ⟨"NeededLists$LazyList", "isWorked", "(I)Z"⟩ yX5_isWorked : Cond) ∈ WC := WC_in2 (List.mem_of_getElem? (i := 30) rfl)
theorem mwC_111 : (.selects RX2 ⟨"NeededLists$LazyList", "isWorked", "(I)Z"⟩ yX5_isWorked : Cond) ∈ WC := WC_in2 (List.mem_of_getElem? (i := 31) rfl)
theorem mwC_112 : (.selects RX3 ⟨"NeededLists$LazyList", "isWorked", "(I)Z"⟩ yX5_isWorked : Cond) ∈ WC := WC_in2 (List.mem_of_getElem? (i := 32) rfl)
theorem mwC_113 : (.selects RX4 ⟨"NeededLists$LazyList", "isWorked", "(I)Z"⟩ yX5_isWorked : Cond) ∈ WC := WC_in2 (List.mem_of_getElem? (i := 33) rfl)
theorem mwC_114 : (.selects RX7 ⟨"NeededLists$LazyList", "isWorked", "(I)Z"⟩ yX5_isWorked : Cond) ∈ WC := WC_in2 (List.mem_of_getElem? (i := 34) rfl)
theorem mwC_115 : (.selects RX8 ⟨"NeededLists$LazyList", "isWorked", "(I)Z"⟩ yX5_isWorked : Cond) ∈ WC := WC_in2 (List.mem_of_getElem? (i := 35) rfl)
theorem mwC_116 : (.selects RX9 ⟨"NeededLists$LazyList", "isWorked", "(I)Z"⟩ yX5_isWorked : Cond) ∈ WC := WC_in2 (List.mem_of_getElem? (i := 36) rfl)
theorem mwC_117 : (.selects RX10 ⟨"NeededLists$LazyList", "isWorked", "(I)Z"⟩ yX5_isWorked : Cond) ∈ WC := WC_in2 (List.mem_of_getElem? (i := 37) rfl)
theorem mwC_118 : (.code yX11_dividesByNone cX11_dividesByNone 3 (some .boolean) : Cond) ∈ WC := WC_in2 (List.mem_of_getElem? (i := 38) rfl)
theorem mwC_119 : (.initialized RX11 : Cond) ∈ WC := WC_in2 (List.mem_of_getElem? (i := 39) rfl)
theorem mwC_120 : (.static yX11_dividesByNone : Cond) ∈ WC := WC_in3 (List.mem_of_getElem? (i := 0) rfl)
theorem mwC_121 : (.code yX11_reckon cX11_reckon 5 (some .long) : Cond) ∈ WC := WC_in3 (List.mem_of_getElem? (i := 1) rfl)
theorem mwC_122 : (.static yX11_reckon : Cond) ∈ WC := WC_in3 (List.mem_of_getElem? (i := 2) rfl)
theorem mwC_123 : (.methodLink RX5 82 ⟨"NeededLists$LazyList", "tell", "(IJ)I"⟩ : Cond) ∈ WC := WC_in3 (List.mem_of_getElem? (i := 3) rfl)
theorem mwC_124 : (.sameMethod "NeededLists$LazyList" "NeededLists$LazyList" "tell" "(IJ)I" : Cond) ∈ WC := WC_in3 (List.mem_of_getElem? (i := 4) rfl)
theorem mwC_125 : (.instanceMethod yX5_tell : Cond) ∈ WC := WC_in3 (List.mem_of_getElem? (i := 5) rfl)
theorem mwC_126 : (.code yX5_tell cX5_tell 4 (some .int) : Cond) ∈ WC := WC_in3 (List.mem_of_getElem? (i := 6) rfl)
theorem mwC_127 : (.selects RX0 ⟨"NeededLists$LazyList", "tell", "(IJ)I"⟩ yX5_tell : Cond) ∈ WC := WC_in3 (List.mem_of_getElem? (i := 7) rfl)
theorem mwC_128 : (.selects RX1 ⟨"NeededLists$LazyList", "tell", "(IJ)I"⟩ yX5_tell : Cond) ∈ WC := WC_in3 (List.mem_of_getElem? (i := 8) rfl)
theorem mwC_129 : (.selects RX2 ⟨"NeededLists$LazyList", "tell", "(IJ)I"⟩ yX5_tell : Cond) ∈ WC := WC_in3 (List.mem_of_getElem? (i := 9) rfl)
theorem mwC_130 : (.selects RX3 ⟨"NeededLists$LazyList", "tell", "(IJ)I"⟩ yX5_tell : Cond) ∈ WC := WC_in3 (List.mem_of_getElem? (i := 10) rfl)
theorem mwC_131 : (.selects RX4 ⟨"NeededLists$LazyList", "tell", "(IJ)I"⟩ yX5_tell : Cond) ∈ WC := WC_in3 (List.mem_of_getElem? (i := 11) rfl)
theorem mwC_132 : (.selects RX7 ⟨"NeededLists$LazyList", "tell", "(IJ)I"⟩ yX5_tell : Cond) ∈ WC := WC_in3 (List.mem_of_getElem? (i := 12) rfl)
theorem mwC_133 : (.selects RX8 ⟨"NeededLists$LazyList", "tell", "(IJ)I"⟩ yX5_tell : Cond) ∈ WC := WC_in3 (List.mem_of_getElem? (i := 13) rfl)
theorem mwC_134 : (.selects RX9 ⟨"NeededLists$LazyList", "tell", "(IJ)I"⟩ yX5_tell : Cond) ∈ WC := WC_in3 (List.mem_of_getElem? (i := 14) rfl)
theorem mwC_135 : (.selects RX10 ⟨"NeededLists$LazyList", "tell", "(IJ)I"⟩ yX5_tell : Cond) ∈ WC := WC_in3 (List.mem_of_getElem? (i := 15) rfl)
theorem mwC_136 : (.fieldLink RX10 15 "NeededLists$Sieve" "cond" "I" : Cond) ∈ WC := WC_in3 (List.mem_of_getElem? (i := 16) rfl)
theorem mwC_137 : (.fieldLink RX10 19 "NeededLists$Sieve" "c" "J" : Cond) ∈ WC := WC_in3 (List.mem_of_getElem? (i := 17) rfl)
theorem mwC_138 : (.code yX11_meets cX11_meets 5 (some .boolean) : Cond) ∈ WC := WC_in3 (List.mem_of_getElem? (i := 18) rfl)
theorem mwC_139 : (.static yX11_meets : Cond) ∈ WC := WC_in3 (List.mem_of_getElem? (i := 19) rfl)
theorem mwC_140 : (.methodLink RX10 46 ⟨"NeededLists$Sieve", "number", "(I)J"⟩ : Cond) ∈ WC := WC_in3 (List.mem_of_getElem? (i := 20) rfl)
theorem mwC_141 : (.sameMethod "NeededLists$Sieve" "NeededLists$LazyList" "number" "(I)J" : Cond) ∈ WC := WC_in3 (List.mem_of_getElem? (i := 21) rfl)
theorem mwC_142 : (.selects RX10 ⟨"NeededLists$Sieve", "number", "(I)J"⟩ yX5_number : Cond) ∈ WC := WC_in3 (List.mem_of_getElem? (i := 22) rfl)
theorem mwC_143 : (.methodLink RX7 37 ⟨"NeededLists$LazyList", "number", "(I)J"⟩ : Cond) ∈ WC := WC_in3 (List.mem_of_getElem? (i := 23) rfl)
theorem mwC_144 : (.methodLink RX5 50 ⟨"NeededLists$LazyList", "reach", "(I)I"⟩ : Cond) ∈ WC := WC_in3 (List.mem_of_getElem? (i := 24) rfl)
theorem mwC_145 : (.sameMethod "NeededLists$LazyList" "NeededLists$LazyList" "reach" "(I)I" : Cond) ∈ WC := WC_in3 (List.mem_of_getElem? (i := 25) rfl)
theorem mwC_146 : (.instanceMethod yX5_reach : Cond) ∈ WC := WC_in3 (List.mem_of_getElem? (i := 26) rfl)
theorem mwC_147 : (.code yX5_reach cX5_reach 5 (some .int) : Cond) ∈ WC := WC_in3 (List.mem_of_getElem? (i := 27) rfl)
theorem mwC_148 : (.selects RX0 ⟨"NeededLists$LazyList", "reach", "(I)I"⟩ yX5_reach : Cond) ∈ WC := WC_in3 (List.mem_of_getElem? (i := 28) rfl)
theorem mwC_149 : (.selects RX1 ⟨"NeededLists$LazyList", "reach", "(I)I"⟩ yX5_reach : Cond) ∈ WC := WC_in3 (List.mem_of_getElem? (i := 29) rfl)
theorem mwC_150 : (.selects RX2 ⟨"NeededLists$LazyList", "reach", "(I)I"⟩ yX5_reach : Cond) ∈ WC := WC_in3 (List.mem_of_getElem? (i := 30) rfl)
theorem mwC_151 : (.selects RX3 ⟨"NeededLists$LazyList", "reach", "(I)I"⟩ yX5_reach : Cond) ∈ WC := WC_in3 (List.mem_of_getElem? (i := 31) rfl)
theorem mwC_152 : (.selects RX4 ⟨"NeededLists$LazyList", "reach", "(I)I"⟩ yX5_reach : Cond) ∈ WC := WC_in3 (List.mem_of_getElem? (i := 32) rfl)
theorem mwC_153 : (.selects RX7 ⟨"NeededLists$LazyList", "reach", "(I)I"⟩ yX5_reach : Cond) ∈ WC := WC_in3 (List.mem_of_getElem? (i := 33) rfl)
theorem mwC_154 : (.selects RX8 ⟨"NeededLists$LazyList", "reach", "(I)I"⟩ yX5_reach : Cond) ∈ WC := WC_in3 (List.mem_of_getElem? (i := 34) rfl)
theorem mwC_155 : (.selects RX9 ⟨"NeededLists$LazyList", "reach", "(I)I"⟩ yX5_reach : Cond) ∈ WC := WC_in3 (List.mem_of_getElem? (i := 35) rfl)
theorem mwC_156 : (.selects RX10 ⟨"NeededLists$LazyList", "reach", "(I)I"⟩ yX5_reach : Cond) ∈ WC := WC_in3 (List.mem_of_getElem? (i := 36) rfl)
theorem mwC_157 : (.methodLink RX8 30 ⟨"NeededLists$LazyList", "reach", "(I)I"⟩ : Cond) ∈ WC := WC_in3 (List.mem_of_getElem? (i := 37) rfl)
theorem mwC_158 : (.methodLink RX8 34 ⟨"NeededLists$LazyList", "work", "(I)I"⟩ : Cond) ∈ WC := WC_in3 (List.mem_of_getElem? (i := 38) rfl)
theorem mwC_159 : (.sameMethod "NeededLists$LazyList" "NeededLists$LazyList" "work" "(I)I" : Cond) ∈ WC := WC_in3 (List.mem_of_getElem? (i := 39) rfl)
theorem mwC_160 : (.instanceMethod yX5_work : Cond) ∈ WC := WC_in4 (List.mem_of_getElem? (i := 0) rfl)
theorem mwC_161 : (.code yX5_work cX5_work 4 (some .int) : Cond) ∈ WC := WC_in4 (List.mem_of_getElem? (i := 1) rfl)
theorem mwC_162 : (.selects RX0 ⟨"NeededLists$LazyList", "work", "(I)I"⟩ yX5_work : Cond) ∈ WC := WC_in4 (List.mem_of_getElem? (i := 2) rfl)
theorem mwC_163 : (.selects RX1 ⟨"NeededLists$LazyList", "work", "(I)I"⟩ yX5_work : Cond) ∈ WC := WC_in4 (List.mem_of_getElem? (i := 3) rfl)
theorem mwC_164 : (.selects RX2 ⟨"NeededLists$LazyList", "work", "(I)I"⟩ yX5_work : Cond) ∈ WC := WC_in4 (List.mem_of_getElem? (i := 4) rfl)
theorem mwC_165 : (.selects RX3 ⟨"NeededLists$LazyList", "work", "(I)I"⟩ yX5_work : Cond) ∈ WC := WC_in4 (List.mem_of_getElem? (i := 5) rfl)
theorem mwC_166 : (.selects RX4 ⟨"NeededLists$LazyList", "work", "(I)I"⟩ yX5_work : Cond) ∈ WC := WC_in4 (List.mem_of_getElem? (i := 6) rfl)
theorem mwC_167 : (.selects RX7 ⟨"NeededLists$LazyList", "work", "(I)I"⟩ yX5_work : Cond) ∈ WC := WC_in4 (List.mem_of_getElem? (i := 7) rfl)
theorem mwC_168 : (.selects RX8 ⟨"NeededLists$LazyList", "work", "(I)I"⟩ yX5_work : Cond) ∈ WC := WC_in4 (List.mem_of_getElem? (i := 8) rfl)
theorem mwC_169 : (.selects RX9 ⟨"NeededLists$LazyList", "work", "(I)I"⟩ yX5_work : Cond) ∈ WC := WC_in4 (List.mem_of_getElem? (i := 9) rfl)
theorem mwC_170 : (.selects RX10 ⟨"NeededLists$LazyList", "work", "(I)I"⟩ yX5_work : Cond) ∈ WC := WC_in4 (List.mem_of_getElem? (i := 10) rfl)
theorem mwC_171 : (.fieldLink RX8 19 "NeededLists$Rest" "cond" "I" : Cond) ∈ WC := WC_in4 (List.mem_of_getElem? (i := 11) rfl)
theorem mwC_172 : (.methodLink RX8 37 ⟨"NeededLists$LazyList", "number", "(I)J"⟩ : Cond) ∈ WC := WC_in4 (List.mem_of_getElem? (i := 12) rfl)
theorem mwC_173 : (.fieldLink RX8 22 "NeededLists$Rest" "c" "J" : Cond) ∈ WC := WC_in4 (List.mem_of_getElem? (i := 13) rfl)
theorem mwC_174 : (.fieldLink RX9 9 "NeededLists$Runs" "of" "LNeededLists$LazyList;" : Cond) ∈ WC := WC_in4 (List.mem_of_getElem? (i := 14) rfl)
theorem mwC_175 : (.methodLink RX9 34 ⟨"NeededLists$LazyList", "work", "(I)I"⟩ : Cond) ∈ WC := WC_in4 (List.mem_of_getElem? (i := 15) rfl)
theorem mwC_176 : (.methodLink RX9 37 ⟨"NeededLists$LazyList", "number", "(I)J"⟩ : Cond) ∈ WC := WC_in4 (List.mem_of_getElem? (i := 16) rfl)
theorem mwC_177 : (.fieldLink RX9 26 "NeededLists$Runs" "runEnd" "I" : Cond) ∈ WC := WC_in4 (List.mem_of_getElem? (i := 17) rfl)
theorem mwC_178 : (.methodLink RX9 19 ⟨"NeededLists$LazyList", "reach", "(I)I"⟩ : Cond) ∈ WC := WC_in4 (List.mem_of_getElem? (i := 18) rfl)
theorem mwC_179 : (.methodLink RX0 49 ⟨"NeededLists$Chained", "isWorked", "(I)Z"⟩ : Cond) ∈ WC := WC_in4 (List.mem_of_getElem? (i := 19) rfl)
theorem mwC_180 : (.sameMethod "NeededLists$Chained" "NeededLists$LazyList" "isWorked" "(I)Z" : Cond) ∈ WC := WC_in4 (List.mem_of_getElem? (i := 20) rfl)
theorem mwC_181 : (.selects RX0 ⟨"NeededLists$Chained", "isWorked", "(I)Z"⟩ yX5_isWorked : Cond) ∈ WC := WC_in4 (List.mem_of_getElem? (i := 21) rfl)
theorem mwC_182 : (.methodLink RX0 53 ⟨"NeededLists$Chained", "work", "(I)I"⟩ : Cond) ∈ WC := WC_in4 (List.mem_of_getElem? (i := 22) rfl)
theorem mwC_183 : (.sameMethod "NeededLists$Chained" "NeededLists$LazyList" "work" "(I)I" : Cond) ∈ WC := WC_in4 (List.mem_of_getElem? (i := 23) rfl)
theorem mwC_184 : (.selects RX0 ⟨"NeededLists$Chained", "work", "(I)I"⟩ yX5_work : Cond) ∈ WC := WC_in4 (List.mem_of_getElem? (i := 24) rfl)
theorem mwC_185 : (.methodLink RX7 29 ⟨"NeededLists$LazyList", "work", "(I)I"⟩ : Cond) ∈ WC := WC_in4 (List.mem_of_getElem? (i := 25) rfl)
theorem mwC_186 : (.methodLink RX7 33 yX7_insertPlace : Cond) ∈ WC := WC_in4 (List.mem_of_getElem? (i := 26) rfl)
theorem mwC_187 : (.instanceMethod yX7_insertPlace : Cond) ∈ WC := WC_in4 (List.mem_of_getElem? (i := 27) rfl)
theorem mwC_188 : (.selects RX7 yX7_insertPlace yX7_insertPlace : Cond) ∈ WC := WC_in4 (List.mem_of_getElem? (i := 28) rfl)
theorem mwC_189 : (.code yX7_insertPlace cX7_insertPlace 5 none : Cond) ∈ WC := WC_in4 (List.mem_of_getElem? (i := 29) rfl)
theorem mwC_190 : (.fieldLink RX0 9 "NeededLists$Chained" "of" "LNeededLists$LazyList;" : Cond) ∈ WC := WC_in4 (List.mem_of_getElem? (i := 30) rfl)
theorem mwC_191 : (.methodLink RX0 26 ⟨"NeededLists$LazyList", "reach", "(I)I"⟩ : Cond) ∈ WC := WC_in4 (List.mem_of_getElem? (i := 31) rfl)
theorem mwC_192 : (.fieldLink RX1 9 "NeededLists$Combined" "left" "LNeededLists$LazyList;" : Cond) ∈ WC := WC_in4 (List.mem_of_getElem? (i := 32) rfl)
theorem mwC_193 : (.methodLink RX1 26 ⟨"NeededLists$LazyList", "reach", "(I)I"⟩ : Cond) ∈ WC := WC_in4 (List.mem_of_getElem? (i := 33) rfl)
theorem mwC_194 : (.fieldLink RX1 15 "NeededLists$Combined" "right" "LNeededLists$LazyList;" : Cond) ∈ WC := WC_in4 (List.mem_of_getElem? (i := 34) rfl)
theorem mwC_195 : (.fieldLink RX2 15 "NeededLists$Front" "limit" "I" : Cond) ∈ WC := WC_in4 (List.mem_of_getElem? (i := 35) rfl)
theorem mwC_196 : (.methodLink RX2 26 ⟨"NeededLists$LazyList", "reach", "(I)I"⟩ : Cond) ∈ WC := WC_in4 (List.mem_of_getElem? (i := 36) rfl)
theorem mwC_197 : (.fieldLink RX2 19 "NeededLists$Front" "cond" "I" : Cond) ∈ WC := WC_in4 (List.mem_of_getElem? (i := 37) rfl)
theorem mwC_198 : (.methodLink RX2 30 ⟨"NeededLists$LazyList", "work", "(I)I"⟩ : Cond) ∈ WC := WC_in4 (List.mem_of_getElem? (i := 38) rfl)
theorem mwC_199 : (.methodLink RX2 33 ⟨"NeededLists$LazyList", "number", "(I)J"⟩ : Cond) ∈ WC := WC_in4 (List.mem_of_getElem? (i := 39) rfl)
theorem mwC_200 : (.fieldLink RX2 22 "NeededLists$Front" "c" "J" : Cond) ∈ WC := WC_in5 (List.mem_of_getElem? (i := 0) rfl)
theorem mwC_201 : (.fieldLink RX3 9 "NeededLists$Given" "fates" "[B" : Cond) ∈ WC := WC_in5 (List.mem_of_getElem? (i := 1) rfl)
theorem mwC_202 : (.fieldLink RX3 15 "NeededLists$Given" "behind" "I" : Cond) ∈ WC := WC_in5 (List.mem_of_getElem? (i := 2) rfl)
theorem mwC_203 : (.methodLink RX4 18 ⟨"NeededLists$LazyList", "reach", "(I)I"⟩ : Cond) ∈ WC := WC_in5 (List.mem_of_getElem? (i := 3) rfl)
theorem mwC_204 : (.methodLink RX7 19 ⟨"NeededLists$LazyList", "reachAll", "()I"⟩ : Cond) ∈ WC := WC_in5 (List.mem_of_getElem? (i := 4) rfl)
theorem mwC_205 : (.sameMethod "NeededLists$LazyList" "NeededLists$LazyList" "reachAll" "()I" : Cond) ∈ WC := WC_in5 (List.mem_of_getElem? (i := 5) rfl)
theorem mwC_206 : (.instanceMethod yX5_reachAll : Cond) ∈ WC := WC_in5 (List.mem_of_getElem? (i := 6) rfl)
theorem mwC_207 : (.code yX5_reachAll cX5_reachAll 1 (some .int) : Cond) ∈ WC := WC_in5 (List.mem_of_getElem? (i := 7) rfl)
theorem mwC_208 : (.selects RX0 ⟨"NeededLists$LazyList", "reachAll", "()I"⟩ yX5_reachAll : Cond) ∈ WC := WC_in5 (List.mem_of_getElem? (i := 8) rfl)
theorem mwC_209 : (.selects RX1 ⟨"NeededLists$LazyList", "reachAll", "()I"⟩ yX5_reachAll : Cond) ∈ WC := WC_in5 (List.mem_of_getElem? (i := 9) rfl)
theorem mwC_210 : (.selects RX2 ⟨"NeededLists$LazyList", "reachAll", "()I"⟩ yX5_reachAll : Cond) ∈ WC := WC_in5 (List.mem_of_getElem? (i := 10) rfl)
theorem mwC_211 : (.selects RX3 ⟨"NeededLists$LazyList", "reachAll", "()I"⟩ yX5_reachAll : Cond) ∈ WC := WC_in5 (List.mem_of_getElem? (i := 11) rfl)
theorem mwC_212 : (.selects RX4 ⟨"NeededLists$LazyList", "reachAll", "()I"⟩ yX5_reachAll : Cond) ∈ WC := WC_in5 (List.mem_of_getElem? (i := 12) rfl)
theorem mwC_213 : (.selects RX7 ⟨"NeededLists$LazyList", "reachAll", "()I"⟩ yX5_reachAll : Cond) ∈ WC := WC_in5 (List.mem_of_getElem? (i := 13) rfl)
theorem mwC_214 : (.selects RX8 ⟨"NeededLists$LazyList", "reachAll", "()I"⟩ yX5_reachAll : Cond) ∈ WC := WC_in5 (List.mem_of_getElem? (i := 14) rfl)
theorem mwC_215 : (.selects RX9 ⟨"NeededLists$LazyList", "reachAll", "()I"⟩ yX5_reachAll : Cond) ∈ WC := WC_in5 (List.mem_of_getElem? (i := 15) rfl)
theorem mwC_216 : (.selects RX10 ⟨"NeededLists$LazyList", "reachAll", "()I"⟩ yX5_reachAll : Cond) ∈ WC := WC_in5 (List.mem_of_getElem? (i := 16) rfl)
theorem mwC_217 : (.methodLink RX7 23 yX7_sortPlaces : Cond) ∈ WC := WC_in5 (List.mem_of_getElem? (i := 17) rfl)
theorem mwC_218 : (.instanceMethod yX7_sortPlaces : Cond) ∈ WC := WC_in5 (List.mem_of_getElem? (i := 18) rfl)
theorem mwC_219 : (.selects RX7 yX7_sortPlaces yX7_sortPlaces : Cond) ∈ WC := WC_in5 (List.mem_of_getElem? (i := 19) rfl)
theorem mwC_220 : (.code yX7_sortPlaces cX7_sortPlaces 4 (some .int) : Cond) ∈ WC := WC_in5 (List.mem_of_getElem? (i := 20) rfl)
theorem mwC_221 : (.methodLink RX8 26 yX8_findStart : Cond) ∈ WC := WC_in5 (List.mem_of_getElem? (i := 21) rfl)
theorem mwC_222 : (.instanceMethod yX8_findStart : Cond) ∈ WC := WC_in5 (List.mem_of_getElem? (i := 22) rfl)
theorem mwC_223 : (.selects RX8 yX8_findStart yX8_findStart : Cond) ∈ WC := WC_in5 (List.mem_of_getElem? (i := 23) rfl)
theorem mwC_224 : (.code yX8_findStart cX8_findStart 4 (some .int) : Cond) ∈ WC := WC_in5 (List.mem_of_getElem? (i := 24) rfl)
theorem mwC_225 : (.fieldLink RX9 15 "NeededLists$Runs" "starts" "[I" : Cond) ∈ WC := WC_in5 (List.mem_of_getElem? (i := 25) rfl)
theorem mwC_226 : (.methodLink RX9 23 yX9_lookThrough : Cond) ∈ WC := WC_in5 (List.mem_of_getElem? (i := 26) rfl)
theorem mwC_227 : (.instanceMethod yX9_lookThrough : Cond) ∈ WC := WC_in5 (List.mem_of_getElem? (i := 27) rfl)
theorem mwC_228 : (.selects RX9 yX9_lookThrough yX9_lookThrough : Cond) ∈ WC := WC_in5 (List.mem_of_getElem? (i := 28) rfl)
theorem mwC_229 : (.initialized RX9 : Cond) ∈ WC := WC_in5 (List.mem_of_getElem? (i := 29) rfl)
theorem mwC_230 : (.code yX9_lookThrough cX9_lookThrough 7 (some .int) : Cond) ∈ WC := WC_in5 (List.mem_of_getElem? (i := 30) rfl)
theorem mwC_231 : (.methodLink RX10 27 ⟨"NeededLists$LazyList", "reach", "(I)I"⟩ : Cond) ∈ WC := WC_in5 (List.mem_of_getElem? (i := 31) rfl)
theorem mwC_232 : (.methodLink RX10 31 ⟨"NeededLists$LazyList", "work", "(I)I"⟩ : Cond) ∈ WC := WC_in5 (List.mem_of_getElem? (i := 32) rfl)
theorem mwC_233 : (.methodLink RX10 34 ⟨"NeededLists$LazyList", "number", "(I)J"⟩ : Cond) ∈ WC := WC_in5 (List.mem_of_getElem? (i := 33) rfl)
theorem mwC_234 : (.methodLink RX10 38 yX10_lets : Cond) ∈ WC := WC_in5 (List.mem_of_getElem? (i := 34) rfl)
theorem mwC_235 : (.instanceMethod yX10_lets : Cond) ∈ WC := WC_in5 (List.mem_of_getElem? (i := 35) rfl)
theorem mwC_236 : (.selects RX10 yX10_lets yX10_lets : Cond) ∈ WC := WC_in5 (List.mem_of_getElem? (i := 36) rfl)
theorem mwC_237 : (.code yX10_lets cX10_lets 5 (some .boolean) : Cond) ∈ WC := WC_in5 (List.mem_of_getElem? (i := 37) rfl)
theorem mwC_238 : (.fieldLink RX0 15 "NeededLists$Chained" "op" "I" : Cond) ∈ WC := WC_in5 (List.mem_of_getElem? (i := 38) rfl)
theorem mwC_239 : (.fieldLink RX0 19 "NeededLists$Chained" "c" "J" : Cond) ∈ WC := WC_in5 (List.mem_of_getElem? (i := 39) rfl)
theorem mwC_240 : (.methodLink RX0 45 ⟨"NeededLists$Chained", "tellOp", "(IIJJ)I"⟩ : Cond) ∈ WC := WC_in6 (List.mem_of_getElem? (i := 0) rfl)
theorem mwC_241 : (.sameMethod "NeededLists$Chained" "NeededLists$LazyList" "tellOp" "(IIJJ)I" : Cond) ∈ WC := WC_in6 (List.mem_of_getElem? (i := 1) rfl)
theorem mwC_242 : (.selects RX0 ⟨"NeededLists$Chained", "tellOp", "(IIJJ)I"⟩ yX5_tellOp : Cond) ∈ WC := WC_in6 (List.mem_of_getElem? (i := 2) rfl)
theorem mwC_243 : (.instanceMethod yX5_tellOp : Cond) ∈ WC := WC_in6 (List.mem_of_getElem? (i := 3) rfl)
theorem mwC_244 : (.code yX5_tellOp cX5_tellOp 7 (some .int) : Cond) ∈ WC := WC_in6 (List.mem_of_getElem? (i := 4) rfl)
theorem mwC_245 : (.methodLink RX0 41 ⟨"NeededLists$LazyList", "work", "(I)I"⟩ : Cond) ∈ WC := WC_in6 (List.mem_of_getElem? (i := 5) rfl)
theorem mwC_246 : (.methodLink RX0 44 ⟨"NeededLists$LazyList", "number", "(I)J"⟩ : Cond) ∈ WC := WC_in6 (List.mem_of_getElem? (i := 6) rfl)
theorem mwC_247 : (.methodLink RX0 34 yX0_workAhead : Cond) ∈ WC := WC_in6 (List.mem_of_getElem? (i := 7) rfl)
theorem mwC_248 : (.instanceMethod yX0_workAhead : Cond) ∈ WC := WC_in6 (List.mem_of_getElem? (i := 8) rfl)
theorem mwC_249 : (.selects RX0 yX0_workAhead yX0_workAhead : Cond) ∈ WC := WC_in6 (List.mem_of_getElem? (i := 9) rfl)
theorem mwC_250 : (.initialized RX0 : Cond) ∈ WC := WC_in6 (List.mem_of_getElem? (i := 10) rfl)
theorem mwC_251 : (.code yX0_workAhead cX0_workAhead 5 (some .int) : Cond) ∈ WC := WC_in6 (List.mem_of_getElem? (i := 11) rfl)
theorem mwC_252 : (.methodLink RX0 37 ⟨"NeededLists$Chained", "number", "(I)J"⟩ : Cond) ∈ WC := WC_in6 (List.mem_of_getElem? (i := 12) rfl)
theorem mwC_253 : (.sameMethod "NeededLists$Chained" "NeededLists$LazyList" "number" "(I)J" : Cond) ∈ WC := WC_in6 (List.mem_of_getElem? (i := 13) rfl)
theorem mwC_254 : (.selects RX0 ⟨"NeededLists$Chained", "number", "(I)J"⟩ yX5_number : Cond) ∈ WC := WC_in6 (List.mem_of_getElem? (i := 14) rfl)
theorem mwC_255 : (.fieldLink RX0 23 "NeededLists$Chained" "start" "J" : Cond) ∈ WC := WC_in6 (List.mem_of_getElem? (i := 15) rfl)
theorem mwC_256 : (.methodLink RX0 30 ⟨"NeededLists$Chained", "tell", "(IJ)I"⟩ : Cond) ∈ WC := WC_in6 (List.mem_of_getElem? (i := 16) rfl)
theorem mwC_257 : (.sameMethod "NeededLists$Chained" "NeededLists$LazyList" "tell" "(IJ)I" : Cond) ∈ WC := WC_in6 (List.mem_of_getElem? (i := 17) rfl)
theorem mwC_258 : (.selects RX0 ⟨"NeededLists$Chained", "tell", "(IJ)I"⟩ yX5_tell : Cond) ∈ WC := WC_in6 (List.mem_of_getElem? (i := 18) rfl)
theorem mwC_259 : (.fieldLink RX1 18 "NeededLists$Combined" "op" "I" : Cond) ∈ WC := WC_in6 (List.mem_of_getElem? (i := 19) rfl)
theorem mwC_260 : (.fieldLink RX1 22 "NeededLists$Combined" "c" "J" : Cond) ∈ WC := WC_in6 (List.mem_of_getElem? (i := 20) rfl)
theorem mwC_261 : (.methodLink RX1 37 ⟨"NeededLists$Combined", "tellOp", "(IIJJ)I"⟩ : Cond) ∈ WC := WC_in6 (List.mem_of_getElem? (i := 21) rfl)
theorem mwC_262 : (.sameMethod "NeededLists$Combined" "NeededLists$LazyList" "tellOp" "(IIJJ)I" : Cond) ∈ WC := WC_in6 (List.mem_of_getElem? (i := 22) rfl)
theorem mwC_263 : (.selects RX1 ⟨"NeededLists$Combined", "tellOp", "(IIJJ)I"⟩ yX5_tellOp : Cond) ∈ WC := WC_in6 (List.mem_of_getElem? (i := 23) rfl)
theorem mwC_264 : (.methodLink RX1 30 ⟨"NeededLists$LazyList", "work", "(I)I"⟩ : Cond) ∈ WC := WC_in6 (List.mem_of_getElem? (i := 24) rfl)
theorem mwC_265 : (.methodLink RX1 33 ⟨"NeededLists$LazyList", "number", "(I)J"⟩ : Cond) ∈ WC := WC_in6 (List.mem_of_getElem? (i := 25) rfl)
theorem mwC_266 : (.methodLink RX9 30 ⟨"NeededLists$Runs", "tell", "(IJ)I"⟩ : Cond) ∈ WC := WC_in6 (List.mem_of_getElem? (i := 26) rfl)
theorem mwC_267 : (.sameMethod "NeededLists$Runs" "NeededLists$LazyList" "tell" "(IJ)I" : Cond) ∈ WC := WC_in6 (List.mem_of_getElem? (i := 27) rfl)
theorem mwC_268 : (.selects RX9 ⟨"NeededLists$Runs", "tell", "(IJ)I"⟩ yX5_tell : Cond) ∈ WC := WC_in6 (List.mem_of_getElem? (i := 28) rfl)
theorem mwC_269 : (.methodLink RX5 36 ⟨"NeededLists$LazyList", "seek", "(I)I"⟩ : Cond) ∈ WC := WC_in6 (List.mem_of_getElem? (i := 29) rfl)
theorem mwC_270 : (.sameMethod "NeededLists$LazyList" "NeededLists$LazyList" "seek" "(I)I" : Cond) ∈ WC := WC_in6 (List.mem_of_getElem? (i := 30) rfl)
theorem mwC_271 : (.selects RX0 ⟨"NeededLists$LazyList", "seek", "(I)I"⟩ yX0_seek : Cond) ∈ WC := WC_in6 (List.mem_of_getElem? (i := 31) rfl)
theorem mwC_272 : (.instanceMethod yX0_seek : Cond) ∈ WC := WC_in6 (List.mem_of_getElem? (i := 32) rfl)
theorem mwC_273 : (.code yX0_seek cX0_seek 2 (some .int) : Cond) ∈ WC := WC_in6 (List.mem_of_getElem? (i := 33) rfl)
theorem mwC_274 : (.selects RX1 ⟨"NeededLists$LazyList", "seek", "(I)I"⟩ yX1_seek : Cond) ∈ WC := WC_in6 (List.mem_of_getElem? (i := 34) rfl)
theorem mwC_275 : (.instanceMethod yX1_seek : Cond) ∈ WC := WC_in6 (List.mem_of_getElem? (i := 35) rfl)
theorem mwC_276 : (.initialized RX1 : Cond) ∈ WC := WC_in6 (List.mem_of_getElem? (i := 36) rfl)
theorem mwC_277 : (.code yX1_seek cX1_seek 3 (some .int) : Cond) ∈ WC := WC_in6 (List.mem_of_getElem? (i := 37) rfl)
theorem mwC_278 : (.selects RX2 ⟨"NeededLists$LazyList", "seek", "(I)I"⟩ yX2_seek : Cond) ∈ WC := WC_in6 (List.mem_of_getElem? (i := 38) rfl)
theorem mwC_279 : (.instanceMethod yX2_seek : Cond) ∈ WC := WC_in6 (List.mem_of_getElem? (i := 39) rfl)
theorem mwC_280 : (.code yX2_seek cX2_seek 4 (some .int) : Cond) ∈ WC := WC_in7 (List.mem_of_getElem? (i := 0) rfl)
theorem mwC_281 : (.selects RX3 ⟨"NeededLists$LazyList", "seek", "(I)I"⟩ yX3_seek : Cond) ∈ WC := WC_in7 (List.mem_of_getElem? (i := 1) rfl)
theorem mwC_282 : (.instanceMethod yX3_seek : Cond) ∈ WC := WC_in7 (List.mem_of_getElem? (i := 2) rfl)
theorem mwC_283 : (.initialized RX3 : Cond) ∈ WC := WC_in7 (List.mem_of_getElem? (i := 3) rfl)
theorem mwC_284 : (.code yX3_seek cX3_seek 2 (some .int) : Cond) ∈ WC := WC_in7 (List.mem_of_getElem? (i := 4) rfl)
theorem mwC_285 : (.selects RX4 ⟨"NeededLists$LazyList", "seek", "(I)I"⟩ yX4_seek : Cond) ∈ WC := WC_in7 (List.mem_of_getElem? (i := 5) rfl)
theorem mwC_286 : (.instanceMethod yX4_seek : Cond) ∈ WC := WC_in7 (List.mem_of_getElem? (i := 6) rfl)
theorem mwC_287 : (.code yX4_seek cX4_seek 3 (some .int) : Cond) ∈ WC := WC_in7 (List.mem_of_getElem? (i := 7) rfl)
theorem mwC_288 : (.selects RX7 ⟨"NeededLists$LazyList", "seek", "(I)I"⟩ yX7_seek : Cond) ∈ WC := WC_in7 (List.mem_of_getElem? (i := 8) rfl)
theorem mwC_289 : (.instanceMethod yX7_seek : Cond) ∈ WC := WC_in7 (List.mem_of_getElem? (i := 9) rfl)
theorem mwC_290 : (.code yX7_seek cX7_seek 4 (some .int) : Cond) ∈ WC := WC_in7 (List.mem_of_getElem? (i := 10) rfl)
theorem mwC_291 : (.selects RX8 ⟨"NeededLists$LazyList", "seek", "(I)I"⟩ yX8_seek : Cond) ∈ WC := WC_in7 (List.mem_of_getElem? (i := 11) rfl)
theorem mwC_292 : (.instanceMethod yX8_seek : Cond) ∈ WC := WC_in7 (List.mem_of_getElem? (i := 12) rfl)
theorem mwC_293 : (.code yX8_seek cX8_seek 2 (some .int) : Cond) ∈ WC := WC_in7 (List.mem_of_getElem? (i := 13) rfl)
theorem mwC_294 : (.selects RX9 ⟨"NeededLists$LazyList", "seek", "(I)I"⟩ yX9_seek : Cond) ∈ WC := WC_in7 (List.mem_of_getElem? (i := 14) rfl)
theorem mwC_295 : (.instanceMethod yX9_seek : Cond) ∈ WC := WC_in7 (List.mem_of_getElem? (i := 15) rfl)
theorem mwC_296 : (.code yX9_seek cX9_seek 3 (some .int) : Cond) ∈ WC := WC_in7 (List.mem_of_getElem? (i := 16) rfl)
theorem mwC_297 : (.selects RX10 ⟨"NeededLists$LazyList", "seek", "(I)I"⟩ yX10_seek : Cond) ∈ WC := WC_in7 (List.mem_of_getElem? (i := 17) rfl)
theorem mwC_298 : (.instanceMethod yX10_seek : Cond) ∈ WC := WC_in7 (List.mem_of_getElem? (i := 18) rfl)
theorem mwC_299 : (.code yX10_seek cX10_seek 5 (some .int) : Cond) ∈ WC := WC_in7 (List.mem_of_getElem? (i := 19) rfl)
theorem mwC_300 : (.methodLink RX5 63 ⟨"NeededLists$LazyList", "form", "(I)I"⟩ : Cond) ∈ WC := WC_in7 (List.mem_of_getElem? (i := 20) rfl)
theorem mwC_301 : (.sameMethod "NeededLists$LazyList" "NeededLists$LazyList" "form" "(I)I" : Cond) ∈ WC := WC_in7 (List.mem_of_getElem? (i := 21) rfl)
theorem mwC_302 : (.selects RX0 ⟨"NeededLists$LazyList", "form", "(I)I"⟩ yX0_form : Cond) ∈ WC := WC_in7 (List.mem_of_getElem? (i := 22) rfl)
theorem mwC_303 : (.instanceMethod yX0_form : Cond) ∈ WC := WC_in7 (List.mem_of_getElem? (i := 23) rfl)
theorem mwC_304 : (.code yX0_form cX0_form 7 (some .int) : Cond) ∈ WC := WC_in7 (List.mem_of_getElem? (i := 24) rfl)
theorem mwC_305 : (.code yX5_form cX5_form 2 (some .int) : Cond) ∈ WC := WC_in7 (List.mem_of_getElem? (i := 25) rfl)
theorem mwC_306 : (.instanceMethod yX5_form : Cond) ∈ WC := WC_in7 (List.mem_of_getElem? (i := 26) rfl)
theorem mwC_307 : (.selects RX1 ⟨"NeededLists$LazyList", "form", "(I)I"⟩ yX1_form : Cond) ∈ WC := WC_in7 (List.mem_of_getElem? (i := 27) rfl)
theorem mwC_308 : (.instanceMethod yX1_form : Cond) ∈ WC := WC_in7 (List.mem_of_getElem? (i := 28) rfl)
theorem mwC_309 : (.code yX1_form cX1_form 7 (some .int) : Cond) ∈ WC := WC_in7 (List.mem_of_getElem? (i := 29) rfl)
theorem mwC_310 : (.selects RX2 ⟨"NeededLists$LazyList", "form", "(I)I"⟩ yX5_form : Cond) ∈ WC := WC_in7 (List.mem_of_getElem? (i := 30) rfl)
theorem mwC_311 : (.selects RX3 ⟨"NeededLists$LazyList", "form", "(I)I"⟩ yX3_form : Cond) ∈ WC := WC_in7 (List.mem_of_getElem? (i := 31) rfl)
theorem mwC_312 : (.instanceMethod yX3_form : Cond) ∈ WC := WC_in7 (List.mem_of_getElem? (i := 32) rfl)
theorem mwC_313 : (.code yX3_form cX3_form 2 (some .int) : Cond) ∈ WC := WC_in7 (List.mem_of_getElem? (i := 33) rfl)
theorem mwC_314 : (.selects RX4 ⟨"NeededLists$LazyList", "form", "(I)I"⟩ yX5_form : Cond) ∈ WC := WC_in7 (List.mem_of_getElem? (i := 34) rfl)
theorem mwC_315 : (.selects RX7 ⟨"NeededLists$LazyList", "form", "(I)I"⟩ yX5_form : Cond) ∈ WC := WC_in7 (List.mem_of_getElem? (i := 35) rfl)
theorem mwC_316 : (.selects RX8 ⟨"NeededLists$LazyList", "form", "(I)I"⟩ yX5_form : Cond) ∈ WC := WC_in7 (List.mem_of_getElem? (i := 36) rfl)
theorem mwC_317 : (.selects RX9 ⟨"NeededLists$LazyList", "form", "(I)I"⟩ yX9_form : Cond) ∈ WC := WC_in7 (List.mem_of_getElem? (i := 37) rfl)
theorem mwC_318 : (.instanceMethod yX9_form : Cond) ∈ WC := WC_in7 (List.mem_of_getElem? (i := 38) rfl)
theorem mwC_319 : (.code yX9_form cX9_form 3 (some .int) : Cond) ∈ WC := WC_in7 (List.mem_of_getElem? (i := 39) rfl)
theorem mwC_320 : (.selects RX10 ⟨"NeededLists$LazyList", "form", "(I)I"⟩ yX5_form : Cond) ∈ WC := WC_in8 (List.mem_of_getElem? (i := 0) rfl)
theorem mwC_321 : (.code yJ9_min_7cf53 cJ9_min_7cf53 2 (some .int) : Cond) ∈ WC := WC_in8 (List.mem_of_getElem? (i := 1) rfl)
theorem mwC_322 : (.methodLink RX5 30 yJ9_min_7cf53 : Cond) ∈ WC := WC_in8 (List.mem_of_getElem? (i := 2) rfl)
theorem mwC_323 : (.static yJ9_min_7cf53 : Cond) ∈ WC := WC_in8 (List.mem_of_getElem? (i := 3) rfl)
theorem mwC_324 : (.methodLink RX5 46 ⟨"NeededLists$LazyList", "there", "()I"⟩ : Cond) ∈ WC := WC_in8 (List.mem_of_getElem? (i := 4) rfl)
theorem mwC_325 : (.fieldLink RX5 9 "NeededLists$LazyList" "meter" "LNeededLists$Meter;" : Cond) ∈ WC := WC_in8 (List.mem_of_getElem? (i := 5) rfl)
theorem mwC_326 : (.methodLink RX5 40 yX6_spend : Cond) ∈ WC := WC_in8 (List.mem_of_getElem? (i := 6) rfl)
theorem mwC_327 : (.instanceMethod yX6_spend : Cond) ∈ WC := WC_in8 (List.mem_of_getElem? (i := 7) rfl)
theorem mwC_328 : (.selects RX6 yX6_spend yX6_spend : Cond) ∈ WC := WC_in8 (List.mem_of_getElem? (i := 8) rfl)
theorem mwC_329 : (.initialized RX6 : Cond) ∈ WC := WC_in8 (List.mem_of_getElem? (i := 9) rfl)
theorem mwC_330 : (.code yX6_spend cX6_spend 1 (some .boolean) : Cond) ∈ WC := WC_in8 (List.mem_of_getElem? (i := 10) rfl)
theorem mwC_331 : (.methodLink RX5 60 ⟨"NeededLists$LazyList", "work", "(I)I"⟩ : Cond) ∈ WC := WC_in8 (List.mem_of_getElem? (i := 11) rfl)
theorem mwC_332 : (.arrayClass .long : Cond) ∈ WC := WC_in8 (List.mem_of_getElem? (i := 12) rfl)
theorem mwC_333 : (.methodLink RJ7 304 yJ9_min_7cf53 : Cond) ∈ WC := WC_in8 (List.mem_of_getElem? (i := 13) rfl)
theorem mwC_334 : (.methodLink RJ7 150 arraycopyName : Cond) ∈ WC := WC_in8 (List.mem_of_getElem? (i := 14) rfl)
theorem mwC_335 : (.native arraycopyName : Cond) ∈ WC := WC_in8 (List.mem_of_getElem? (i := 15) rfl)
theorem mwC_336 : (.static arraycopyName : Cond) ∈ WC := WC_in8 (List.mem_of_getElem? (i := 16) rfl)
theorem mwC_337 : (.initialized "java/lang/System" : Cond) ∈ WC := WC_in8 (List.mem_of_getElem? (i := 17) rfl)
theorem mwC_338 : (.methodLink RJ7 319 ⟨"[J", "clone", "()Ljava/lang/Object;"⟩ : Cond) ∈ WC := WC_in8 (List.mem_of_getElem? (i := 18) rfl)
theorem mwC_339 : (.sameMethod "[J" "java/lang/Object" "clone" "()Ljava/lang/Object;" : Cond) ∈ WC := WC_in8 (List.mem_of_getElem? (i := 19) rfl)
theorem mwC_340 : (.native ⟨"java/lang/Object", "clone", "()Ljava/lang/Object;"⟩ : Cond) ∈ WC := WC_in8 (List.mem_of_getElem? (i := 20) rfl)
theorem mwC_341 : (.instanceMethod ⟨"java/lang/Object", "clone", "()Ljava/lang/Object;"⟩ : Cond) ∈ WC := WC_in8 (List.mem_of_getElem? (i := 21) rfl)
theorem mwC_342 : (.selects "[J" ⟨"[J", "clone", "()Ljava/lang/Object;"⟩ ⟨"java/lang/Object", "clone", "()Ljava/lang/Object;"⟩ : Cond) ∈ WC := WC_in8 (List.mem_of_getElem? (i := 22) rfl)
theorem mwC_343 : (.classLink RJ7 320 "[J" : Cond) ∈ WC := WC_in8 (List.mem_of_getElem? (i := 23) rfl)
theorem mwC_344 : (.arrayClass .byte : Cond) ∈ WC := WC_in8 (List.mem_of_getElem? (i := 24) rfl)
theorem mwC_345 : (.methodLink RJ7 310 ⟨"[B", "clone", "()Ljava/lang/Object;"⟩ : Cond) ∈ WC := WC_in8 (List.mem_of_getElem? (i := 25) rfl)
theorem mwC_346 : (.sameMethod "[B" "java/lang/Object" "clone" "()Ljava/lang/Object;" : Cond) ∈ WC := WC_in8 (List.mem_of_getElem? (i := 26) rfl)
theorem mwC_347 : (.selects "[B" ⟨"[B", "clone", "()Ljava/lang/Object;"⟩ ⟨"java/lang/Object", "clone", "()Ljava/lang/Object;"⟩ : Cond) ∈ WC := WC_in8 (List.mem_of_getElem? (i := 27) rfl)
theorem mwC_348 : (.classLink RJ7 311 "[B" : Cond) ∈ WC := WC_in8 (List.mem_of_getElem? (i := 28) rfl)
theorem mwC_349 : (.methodLink RX6 1 objectInit : Cond) ∈ WC := WC_in8 (List.mem_of_getElem? (i := 29) rfl)
theorem mwC_350 : (.instanceMethod objectInit : Cond) ∈ WC := WC_in8 (List.mem_of_getElem? (i := 30) rfl)
theorem mwC_351 : (.code objectInit ⟨#[0xb1]⟩ 1 none : Cond) ∈ WC := WC_in8 (List.mem_of_getElem? (i := 31) rfl)
theorem mwC_352 : (.methodLink RX5 3 objectInit : Cond) ∈ WC := WC_in8 (List.mem_of_getElem? (i := 32) rfl)
theorem mwC_353 : (.code yX5_init cX5_init 3 none : Cond) ∈ WC := WC_in8 (List.mem_of_getElem? (i := 33) rfl)
theorem mwC_354 : (.methodLink RX0 3 yX5_init : Cond) ∈ WC := WC_in8 (List.mem_of_getElem? (i := 34) rfl)
theorem mwC_355 : (.instanceMethod yX5_init : Cond) ∈ WC := WC_in8 (List.mem_of_getElem? (i := 35) rfl)
theorem mwC_356 : (.methodLink RX1 3 yX5_init : Cond) ∈ WC := WC_in8 (List.mem_of_getElem? (i := 36) rfl)
theorem mwC_357 : (.methodLink RX2 3 yX5_init : Cond) ∈ WC := WC_in8 (List.mem_of_getElem? (i := 37) rfl)
theorem mwC_358 : (.methodLink RX3 3 yX5_init : Cond) ∈ WC := WC_in8 (List.mem_of_getElem? (i := 38) rfl)
theorem mwC_359 : (.methodLink RX4 3 yX5_init : Cond) ∈ WC := WC_in8 (List.mem_of_getElem? (i := 39) rfl)
theorem mwC_360 : (.methodLink RX7 3 yX5_init : Cond) ∈ WC := WC_in9 (List.mem_of_getElem? (i := 0) rfl)
theorem mwC_361 : (.arrayClass .int : Cond) ∈ WC := WC_in9 (List.mem_of_getElem? (i := 1) rfl)
theorem mwC_362 : (.methodLink RX8 3 yX5_init : Cond) ∈ WC := WC_in9 (List.mem_of_getElem? (i := 2) rfl)
theorem mwC_363 : (.methodLink RX9 3 yX5_init : Cond) ∈ WC := WC_in9 (List.mem_of_getElem? (i := 3) rfl)
theorem mwC_364 : (.methodLink RX10 3 yX5_init : Cond) ∈ WC := WC_in9 (List.mem_of_getElem? (i := 4) rfl)
theorem mwC_365 : (.fieldLink RX11 136 "NeededLists" "madeCount" "I" : Cond) ∈ WC := WC_in9 (List.mem_of_getElem? (i := 5) rfl)
theorem mwC_366 : (.classLink RX11 48 "java/lang/UnsupportedOperationException" : Cond) ∈ WC := WC_in9 (List.mem_of_getElem? (i := 6) rfl)
theorem mwC_367 : (.initialized "java/lang/UnsupportedOperationException" : Cond) ∈ WC := WC_in9 (List.mem_of_getElem? (i := 7) rfl)
theorem mwC_368 : (.classLink RX11 198 "java/lang/IndexOutOfBoundsException" : Cond) ∈ WC := WC_in9 (List.mem_of_getElem? (i := 8) rfl)
theorem mwC_369 : (.initialized "java/lang/IndexOutOfBoundsException" : Cond) ∈ WC := WC_in9 (List.mem_of_getElem? (i := 9) rfl)
theorem mwC_370 : (.fieldLink RX11 18 "NeededLists" "made" "[LNeededLists$LazyList;" : Cond) ∈ WC := WC_in9 (List.mem_of_getElem? (i := 10) rfl)
theorem mwC_371 : (.classLink RX11 38 "java/lang/IllegalArgumentException" : Cond) ∈ WC := WC_in9 (List.mem_of_getElem? (i := 11) rfl)
theorem mwC_372 : (.initialized "java/lang/IllegalArgumentException" : Cond) ∈ WC := WC_in9 (List.mem_of_getElem? (i := 12) rfl)
theorem mwC_373 : (.fieldLink RX11 45 "NeededLists" "rowLength" "I" : Cond) ∈ WC := WC_in9 (List.mem_of_getElem? (i := 13) rfl)
theorem mwC_374 : (.fieldLink RX11 22 "NeededLists" "rowNumbers" "[J" : Cond) ∈ WC := WC_in9 (List.mem_of_getElem? (i := 14) rfl)
theorem mwC_375 : (.fieldLink RX11 26 "NeededLists" "rowFates" "[B" : Cond) ∈ WC := WC_in9 (List.mem_of_getElem? (i := 15) rfl)
theorem mwC_376 : (.code yX11_addToRow cX11_addToRow 4 (some .int) : Cond) ∈ WC := WC_in9 (List.mem_of_getElem? (i := 16) rfl)
theorem mwC_377 : (.methodLink RX11 34 yX11_addToRow : Cond) ∈ WC := WC_in9 (List.mem_of_getElem? (i := 17) rfl)
theorem mwC_378 : (.instanceMethod yX11_addToRow : Cond) ∈ WC := WC_in9 (List.mem_of_getElem? (i := 18) rfl)
theorem mwC_379 : (.selects RX11 yX11_addToRow yX11_addToRow : Cond) ∈ WC := WC_in9 (List.mem_of_getElem? (i := 19) rfl)
theorem mwC_380 : (.fieldLink RX11 30 "NeededLists" "stepsOfAsk" "I" : Cond) ∈ WC := WC_in9 (List.mem_of_getElem? (i := 20) rfl)
theorem mwC_381 : (.classLink RX11 115 RX4 : Cond) ∈ WC := WC_in9 (List.mem_of_getElem? (i := 21) rfl)
theorem mwC_382 : (.instantiable RX4 7 : Cond) ∈ WC := WC_in9 (List.mem_of_getElem? (i := 22) rfl)
theorem mwC_383 : (.fieldLink RX11 12 "NeededLists" "meter" "LNeededLists$Meter;" : Cond) ∈ WC := WC_in9 (List.mem_of_getElem? (i := 23) rfl)
theorem mwC_384 : (.code yX4_init cX4_init 4 none : Cond) ∈ WC := WC_in9 (List.mem_of_getElem? (i := 24) rfl)
theorem mwC_385 : (.methodLink RX11 117 yX4_init : Cond) ∈ WC := WC_in9 (List.mem_of_getElem? (i := 25) rfl)
theorem mwC_386 : (.instanceMethod yX4_init : Cond) ∈ WC := WC_in9 (List.mem_of_getElem? (i := 26) rfl)
theorem mwC_387 : (.classLink RX11 126 RX7 : Cond) ∈ WC := WC_in9 (List.mem_of_getElem? (i := 27) rfl)
theorem mwC_388 : (.instantiable RX7 7 : Cond) ∈ WC := WC_in9 (List.mem_of_getElem? (i := 28) rfl)
theorem mwC_389 : (.code yX7_init cX7_init 4 none : Cond) ∈ WC := WC_in9 (List.mem_of_getElem? (i := 29) rfl)
theorem mwC_390 : (.methodLink RX11 128 yX7_init : Cond) ∈ WC := WC_in9 (List.mem_of_getElem? (i := 30) rfl)
theorem mwC_391 : (.instanceMethod yX7_init : Cond) ∈ WC := WC_in9 (List.mem_of_getElem? (i := 31) rfl)
theorem mwC_392 : (.classLink RX11 110 RX10 : Cond) ∈ WC := WC_in9 (List.mem_of_getElem? (i := 32) rfl)
theorem mwC_393 : (.instantiable RX10 9 : Cond) ∈ WC := WC_in9 (List.mem_of_getElem? (i := 33) rfl)
theorem mwC_394 : (.code yX10_init cX10_init 6 none : Cond) ∈ WC := WC_in9 (List.mem_of_getElem? (i := 34) rfl)
theorem mwC_395 : (.methodLink RX11 112 yX10_init : Cond) ∈ WC := WC_in9 (List.mem_of_getElem? (i := 35) rfl)
theorem mwC_396 : (.instanceMethod yX10_init : Cond) ∈ WC := WC_in9 (List.mem_of_getElem? (i := 36) rfl)
theorem mwC_397 : (.classLink RX11 131 RX9 : Cond) ∈ WC := WC_in9 (List.mem_of_getElem? (i := 37) rfl)
theorem mwC_398 : (.instantiable RX9 8 : Cond) ∈ WC := WC_in9 (List.mem_of_getElem? (i := 38) rfl)
theorem mwC_399 : (.code yX9_init cX9_init 3 none : Cond) ∈ WC := WC_in9 (List.mem_of_getElem? (i := 39) rfl)
theorem mwC_400 : (.methodLink RX11 133 yX9_init : Cond) ∈ WC := WC_in10 (List.mem_of_getElem? (i := 0) rfl)
theorem mwC_401 : (.instanceMethod yX9_init : Cond) ∈ WC := WC_in10 (List.mem_of_getElem? (i := 1) rfl)
theorem mwC_402 : (.fieldLink RX11 185 "NeededLists" "latestError" "I" : Cond) ∈ WC := WC_in10 (List.mem_of_getElem? (i := 2) rfl)
theorem mwC_403 : (.fieldLink RX11 182 "NeededLists" "latestOutcome" "I" : Cond) ∈ WC := WC_in10 (List.mem_of_getElem? (i := 3) rfl)
theorem mwC_404 : (.code yX11_checkRoom cX11_checkRoom 1 none : Cond) ∈ WC := WC_in10 (List.mem_of_getElem? (i := 4) rfl)
theorem mwC_405 : (.methodLink RX11 53 yX11_checkRoom : Cond) ∈ WC := WC_in10 (List.mem_of_getElem? (i := 5) rfl)
theorem mwC_406 : (.instanceMethod yX11_checkRoom : Cond) ∈ WC := WC_in10 (List.mem_of_getElem? (i := 6) rfl)
theorem mwC_407 : (.selects RX11 yX11_checkRoom yX11_checkRoom : Cond) ∈ WC := WC_in10 (List.mem_of_getElem? (i := 7) rfl)
theorem mwC_408 : (.code yJ7_copyOf_c38d5 cJ7_copyOf_c38d5 3 (some (.array .long)) : Cond) ∈ WC := WC_in10 (List.mem_of_getElem? (i := 8) rfl)
theorem mwC_409 : (.methodLink RX11 56 yJ7_copyOf_c38d5 : Cond) ∈ WC := WC_in10 (List.mem_of_getElem? (i := 9) rfl)
theorem mwC_410 : (.static yJ7_copyOf_c38d5 : Cond) ∈ WC := WC_in10 (List.mem_of_getElem? (i := 10) rfl)
theorem mwC_411 : (.initialized RJ7 : Cond) ∈ WC := WC_in10 (List.mem_of_getElem? (i := 11) rfl)
theorem mwC_412 : (.code yJ7_copyOf_9075b cJ7_copyOf_9075b 3 (some (.array .byte)) : Cond) ∈ WC := WC_in10 (List.mem_of_getElem? (i := 12) rfl)
theorem mwC_413 : (.methodLink RX11 62 yJ7_copyOf_9075b : Cond) ∈ WC := WC_in10 (List.mem_of_getElem? (i := 13) rfl)
theorem mwC_414 : (.static yJ7_copyOf_9075b : Cond) ∈ WC := WC_in10 (List.mem_of_getElem? (i := 14) rfl)
theorem mwC_415 : (.classLink RX11 65 RX3 : Cond) ∈ WC := WC_in10 (List.mem_of_getElem? (i := 15) rfl)
theorem mwC_416 : (.instantiable RX3 7 : Cond) ∈ WC := WC_in10 (List.mem_of_getElem? (i := 16) rfl)
theorem mwC_417 : (.code yX3_init cX3_init 5 none : Cond) ∈ WC := WC_in10 (List.mem_of_getElem? (i := 17) rfl)
theorem mwC_418 : (.methodLink RX11 67 yX3_init : Cond) ∈ WC := WC_in10 (List.mem_of_getElem? (i := 18) rfl)
theorem mwC_419 : (.instanceMethod yX3_init : Cond) ∈ WC := WC_in10 (List.mem_of_getElem? (i := 19) rfl)
theorem mwC_420 : (.code yX11_addList cX11_addList 3 (some .int) : Cond) ∈ WC := WC_in10 (List.mem_of_getElem? (i := 20) rfl)
theorem mwC_421 : (.methodLink RX11 70 yX11_addList : Cond) ∈ WC := WC_in10 (List.mem_of_getElem? (i := 21) rfl)
theorem mwC_422 : (.instanceMethod yX11_addList : Cond) ∈ WC := WC_in10 (List.mem_of_getElem? (i := 22) rfl)
theorem mwC_423 : (.selects RX11 yX11_addList yX11_addList : Cond) ∈ WC := WC_in10 (List.mem_of_getElem? (i := 23) rfl)
theorem mwC_424 : (.code yJ7_fill_031fb cJ7_fill_031fb 4 none : Cond) ∈ WC := WC_in10 (List.mem_of_getElem? (i := 24) rfl)
theorem mwC_425 : (.methodLink RX11 74 yJ7_fill_031fb : Cond) ∈ WC := WC_in10 (List.mem_of_getElem? (i := 25) rfl)
theorem mwC_426 : (.static yJ7_fill_031fb : Cond) ∈ WC := WC_in10 (List.mem_of_getElem? (i := 26) rfl)
theorem mwC_427 : (.code yX11_checkOp cX11_checkOp 1 none : Cond) ∈ WC := WC_in10 (List.mem_of_getElem? (i := 27) rfl)
theorem mwC_428 : (.methodLink RX11 78 yX11_checkOp : Cond) ∈ WC := WC_in10 (List.mem_of_getElem? (i := 28) rfl)
theorem mwC_429 : (.static yX11_checkOp : Cond) ∈ WC := WC_in10 (List.mem_of_getElem? (i := 29) rfl)
theorem mwC_430 : (.classLink RX11 82 RX0 : Cond) ∈ WC := WC_in10 (List.mem_of_getElem? (i := 30) rfl)
theorem mwC_431 : (.instantiable RX0 9 : Cond) ∈ WC := WC_in10 (List.mem_of_getElem? (i := 31) rfl)
theorem mwC_432 : (.code yX0_init cX0_init 8 none : Cond) ∈ WC := WC_in10 (List.mem_of_getElem? (i := 32) rfl)
theorem mwC_433 : (.methodLink RX11 84 yX0_init : Cond) ∈ WC := WC_in10 (List.mem_of_getElem? (i := 33) rfl)
theorem mwC_434 : (.instanceMethod yX0_init : Cond) ∈ WC := WC_in10 (List.mem_of_getElem? (i := 34) rfl)
theorem mwC_435 : (.code yX11_listOf cX11_listOf 3 (some (.object "NeededLists$LazyList")) : Cond) ∈ WC := WC_in10 (List.mem_of_getElem? (i := 35) rfl)
theorem mwC_436 : (.methodLink RX11 87 yX11_listOf : Cond) ∈ WC := WC_in10 (List.mem_of_getElem? (i := 36) rfl)
theorem mwC_437 : (.instanceMethod yX11_listOf : Cond) ∈ WC := WC_in10 (List.mem_of_getElem? (i := 37) rfl)
theorem mwC_438 : (.selects RX11 yX11_listOf yX11_listOf : Cond) ∈ WC := WC_in10 (List.mem_of_getElem? (i := 38) rfl)
theorem mwC_439 : (.classLink RX11 91 RX1 : Cond) ∈ WC := WC_in10 (List.mem_of_getElem? (i := 39) rfl)
theorem mwC_440 : (.instantiable RX1 9 : Cond) ∈ WC := WC_in11 (List.mem_of_getElem? (i := 0) rfl)
theorem mwC_441 : (.code yX1_init cX1_init 7 none : Cond) ∈ WC := WC_in11 (List.mem_of_getElem? (i := 1) rfl)
theorem mwC_442 : (.methodLink RX11 93 yX1_init : Cond) ∈ WC := WC_in11 (List.mem_of_getElem? (i := 2) rfl)
theorem mwC_443 : (.instanceMethod yX1_init : Cond) ∈ WC := WC_in11 (List.mem_of_getElem? (i := 3) rfl)
theorem mwC_444 : (.code yX11_checkLength cX11_checkLength 1 none : Cond) ∈ WC := WC_in11 (List.mem_of_getElem? (i := 4) rfl)
theorem mwC_445 : (.methodLink RX11 96 yX11_checkLength : Cond) ∈ WC := WC_in11 (List.mem_of_getElem? (i := 5) rfl)
theorem mwC_446 : (.static yX11_checkLength : Cond) ∈ WC := WC_in11 (List.mem_of_getElem? (i := 6) rfl)
theorem mwC_447 : (.classLink RX11 99 RX2 : Cond) ∈ WC := WC_in11 (List.mem_of_getElem? (i := 7) rfl)
theorem mwC_448 : (.instantiable RX2 9 : Cond) ∈ WC := WC_in11 (List.mem_of_getElem? (i := 8) rfl)
theorem mwC_449 : (.code yX2_init cX2_init 7 none : Cond) ∈ WC := WC_in11 (List.mem_of_getElem? (i := 9) rfl)
theorem mwC_450 : (.methodLink RX11 101 yX2_init : Cond) ∈ WC := WC_in11 (List.mem_of_getElem? (i := 10) rfl)
theorem mwC_451 : (.instanceMethod yX2_init : Cond) ∈ WC := WC_in11 (List.mem_of_getElem? (i := 11) rfl)
theorem mwC_452 : (.classLink RX11 104 RX8 : Cond) ∈ WC := WC_in11 (List.mem_of_getElem? (i := 12) rfl)
theorem mwC_453 : (.instantiable RX8 9 : Cond) ∈ WC := WC_in11 (List.mem_of_getElem? (i := 13) rfl)
theorem mwC_454 : (.code yX8_init cX8_init 7 none : Cond) ∈ WC := WC_in11 (List.mem_of_getElem? (i := 14) rfl)
theorem mwC_455 : (.methodLink RX11 106 yX8_init : Cond) ∈ WC := WC_in11 (List.mem_of_getElem? (i := 15) rfl)
theorem mwC_456 : (.instanceMethod yX8_init : Cond) ∈ WC := WC_in11 (List.mem_of_getElem? (i := 16) rfl)
theorem mwC_457 : (.code yX11_checkCond cX11_checkCond 1 none : Cond) ∈ WC := WC_in11 (List.mem_of_getElem? (i := 17) rfl)
theorem mwC_458 : (.methodLink RX11 107 yX11_checkCond : Cond) ∈ WC := WC_in11 (List.mem_of_getElem? (i := 18) rfl)
theorem mwC_459 : (.static yX11_checkCond : Cond) ∈ WC := WC_in11 (List.mem_of_getElem? (i := 19) rfl)
theorem mwC_460 : (.code yX11_otherList cX11_otherList 3 (some (.object "NeededLists$LazyList")) : Cond) ∈ WC := WC_in11 (List.mem_of_getElem? (i := 20) rfl)
theorem mwC_461 : (.methodLink RX11 122 yX11_otherList : Cond) ∈ WC := WC_in11 (List.mem_of_getElem? (i := 21) rfl)
theorem mwC_462 : (.instanceMethod yX11_otherList : Cond) ∈ WC := WC_in11 (List.mem_of_getElem? (i := 22) rfl)
theorem mwC_463 : (.selects RX11 yX11_otherList yX11_otherList : Cond) ∈ WC := WC_in11 (List.mem_of_getElem? (i := 23) rfl)
theorem mwC_464 : (.methodLink RX11 143 yX6_begin : Cond) ∈ WC := WC_in11 (List.mem_of_getElem? (i := 24) rfl)
theorem mwC_465 : (.instanceMethod yX6_begin : Cond) ∈ WC := WC_in11 (List.mem_of_getElem? (i := 25) rfl)
theorem mwC_466 : (.selects RX6 yX6_begin yX6_begin : Cond) ∈ WC := WC_in11 (List.mem_of_getElem? (i := 26) rfl)
theorem mwC_467 : (.code yX6_begin cX6_begin 2 none : Cond) ∈ WC := WC_in11 (List.mem_of_getElem? (i := 27) rfl)
theorem mwC_468 : (.methodLink RX11 146 ⟨"NeededLists$LazyList", "reach", "(I)I"⟩ : Cond) ∈ WC := WC_in11 (List.mem_of_getElem? (i := 28) rfl)
theorem mwC_469 : (.methodLink RX11 154 ⟨"NeededLists$LazyList", "work", "(I)I"⟩ : Cond) ∈ WC := WC_in11 (List.mem_of_getElem? (i := 29) rfl)
theorem mwC_470 : (.methodLink RX11 157 ⟨"NeededLists$LazyList", "number", "(I)J"⟩ : Cond) ∈ WC := WC_in11 (List.mem_of_getElem? (i := 30) rfl)
theorem mwC_471 : (.code yX11_finish cX11_finish 4 (some .long) : Cond) ∈ WC := WC_in11 (List.mem_of_getElem? (i := 31) rfl)
theorem mwC_472 : (.methodLink RX11 150 yX11_finish : Cond) ∈ WC := WC_in11 (List.mem_of_getElem? (i := 32) rfl)
theorem mwC_473 : (.instanceMethod yX11_finish : Cond) ∈ WC := WC_in11 (List.mem_of_getElem? (i := 33) rfl)
theorem mwC_474 : (.selects RX11 yX11_finish yX11_finish : Cond) ∈ WC := WC_in11 (List.mem_of_getElem? (i := 34) rfl)
theorem mwC_475 : (.methodLink RX11 161 ⟨"NeededLists$LazyList", "reachAll", "()I"⟩ : Cond) ∈ WC := WC_in11 (List.mem_of_getElem? (i := 35) rfl)
theorem mwC_476 : (.methodLink RX11 165 ⟨"NeededLists$LazyList", "there", "()I"⟩ : Cond) ∈ WC := WC_in11 (List.mem_of_getElem? (i := 36) rfl)
theorem mwC_477 : (.methodLink RX11 172 yX11_reckon : Cond) ∈ WC := WC_in11 (List.mem_of_getElem? (i := 37) rfl)
theorem mwC_478 : (.methodLink RX11 168 yX11_dividesByNone : Cond) ∈ WC := WC_in11 (List.mem_of_getElem? (i := 38) rfl)
theorem mwC_479 : (.methodLink RX11 178 yX11_meets : Cond) ∈ WC := WC_in11 (List.mem_of_getElem? (i := 39) rfl)
theorem mwC_480 : (.constantLong RX11 176 (-1) : Cond) ∈ WC := WC_in12 (List.mem_of_getElem? (i := 0) rfl)
theorem mwC_481 : (.methodLink RX11 194 ⟨"NeededLists$LazyList", "isWorked", "(I)Z"⟩ : Cond) ∈ WC := WC_in12 (List.mem_of_getElem? (i := 1) rfl)
theorem gdC : GoodIn WC WC := goodIn_sub (fun w h => h) (by decide +kernel)
theorem hinX0 : ∀ w ∈ u_ws RX0 TX0 9, w ∈ WC := fun w h => List.mem_append_right _ (List.mem_append_left _ h)
theorem hinX1 : ∀ w ∈ u_ws RX1 TX1 9, w ∈ WC := fun w h => List.mem_append_right _ (List.mem_append_right _ (List.mem_append_left _ h))
theorem hinX2 : ∀ w ∈ u_ws RX2 TX2 9, w ∈ WC := fun w h => List.mem_append_right _ (List.mem_append_right _ (List.mem_append_right _ (List.mem_append_left _ h)))
theorem hinX3 : ∀ w ∈ u_ws RX3 TX3 7, w ∈ WC := fun w h => List.mem_append_right _ (List.mem_append_right _ (List.mem_append_right _ (List.mem_append_right _ (List.mem_append_left _ h))))
theorem hinX4 : ∀ w ∈ u_ws RX4 TX4 7, w ∈ WC := fun w h => List.mem_append_right _ (List.mem_append_right _ (List.mem_append_right _ (List.mem_append_right _ (List.mem_append_right _ (List.mem_append_left _ h)))))
theorem hinX6 : ∀ w ∈ u_ws RX6 TX6 2, w ∈ WC := fun w h => List.mem_append_right _ (List.mem_append_right _ (List.mem_append_right _ (List.mem_append_right _ (List.mem_append_right _ (List.mem_append_right _ (List.mem_append_left _ h))))))
theorem hinX7 : ∀ w ∈ u_ws RX7 TX7 7, w ∈ WC := fun w h => List.mem_append_right _ (List.mem_append_right _ (List.mem_append_right _ (List.mem_append_right _ (List.mem_append_right _ (List.mem_append_right _ (List.mem_append_right _ (List.mem_append_left _ h)))))))
theorem hinX8 : ∀ w ∈ u_ws RX8 TX8 9, w ∈ WC := fun w h => List.mem_append_right _ (List.mem_append_right _ (List.mem_append_right _ (List.mem_append_right _ (List.mem_append_right _ (List.mem_append_right _ (List.mem_append_right _ (List.mem_append_right _ (List.mem_append_left _ h))))))))
theorem hinX9 : ∀ w ∈ u_ws RX9 TX9 8, w ∈ WC := fun w h => List.mem_append_right _ (List.mem_append_right _ (List.mem_append_right _ (List.mem_append_right _ (List.mem_append_right _ (List.mem_append_right _ (List.mem_append_right _ (List.mem_append_right _ (List.mem_append_right _ (List.mem_append_left _ h)))))))))
theorem hinX10 : ∀ w ∈ u_ws RX10 TX10 9, w ∈ WC := fun w h => List.mem_append_right _ (List.mem_append_right _ (List.mem_append_right _ (List.mem_append_right _ (List.mem_append_right _ (List.mem_append_right _ (List.mem_append_right _ (List.mem_append_right _ (List.mem_append_right _ (List.mem_append_right _ (List.mem_append_left _ h))))))))))
theorem hinX11 : ∀ w ∈ u_ws RX11 TX11 9, w ∈ WC := fun w h => List.mem_append_right _ (List.mem_append_right _ (List.mem_append_right _ (List.mem_append_right _ (List.mem_append_right _ (List.mem_append_right _ (List.mem_append_right _ (List.mem_append_right _ (List.mem_append_right _ (List.mem_append_right _ (List.mem_append_right _ (List.mem_append_left _ h)))))))))))
theorem xat_IAE : ∀ w ∈ WE_IAE, w ∈ WC := fun w h => List.mem_append_right _ (List.mem_append_right _ (List.mem_append_right _ (List.mem_append_right _ (List.mem_append_right _ (List.mem_append_right _ (List.mem_append_right _ (List.mem_append_right _ (List.mem_append_right _ (List.mem_append_right _ (List.mem_append_right _ (List.mem_append_right _ (List.mem_append_left _ h))))))))))))
theorem xat_UOE : ∀ w ∈ WE_UOE, w ∈ WC := fun w h => List.mem_append_right _ (List.mem_append_right _ (List.mem_append_right _ (List.mem_append_right _ (List.mem_append_right _ (List.mem_append_right _ (List.mem_append_right _ (List.mem_append_right _ (List.mem_append_right _ (List.mem_append_right _ (List.mem_append_right _ (List.mem_append_right _ (List.mem_append_right _ (List.mem_append_left _ h)))))))))))))
theorem xat_IOO : ∀ w ∈ WE_IOO, w ∈ WC := fun w h => List.mem_append_right _ (List.mem_append_right _ (List.mem_append_right _ (List.mem_append_right _ (List.mem_append_right _ (List.mem_append_right _ (List.mem_append_right _ (List.mem_append_right _ (List.mem_append_right _ (List.mem_append_right _ (List.mem_append_right _ (List.mem_append_right _ (List.mem_append_right _ (List.mem_append_right _ h)))))))))))))
