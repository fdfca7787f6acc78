def RX0 : String := "NeededLists$Chained"
def TX0 : u_T := fun k => match k with
  | 0 => ("NeededLists$LazyList", "meter", "LNeededLists$Meter;", true)
  | 1 => ("NeededLists$LazyList", "numbers", "[J", true)
  | 2 => ("NeededLists$LazyList", "marks", "[B", true)
  | 3 => ("NeededLists$LazyList", "met", "I", false)
  | 4 => ("NeededLists$LazyList", "close", "I", false)
  | 5 => ("NeededLists$Chained", "of", "LNeededLists$LazyList;", true)
  | 6 => ("NeededLists$Chained", "op", "I", true)
  | 7 => ("NeededLists$Chained", "c", "J", true)
  | _ => ("NeededLists$Chained", "start", "J", true)
def tyX0 : Nat → FieldType := fun k => match k with
  | 0 => .object "NeededLists$Meter"
  | 1 => .array .long
  | 2 => .array .byte
  | 3 => .int
  | 4 => .int
  | 5 => .object "NeededLists$LazyList"
  | 6 => .int
  | 7 => .long
  | _ => .long
abbrev wsX00 : List Cond := u_ws RX0 TX0 9
theorem nmX0 : ∀ a, a < 9 → ∀ b, b < 9 → a ≠ b → (TX0 a).2.1 ≠ (TX0 b).2.1 := by decide +kernel
theorem tyX0_ok : ∀ k, k < 9 → parseFieldDescriptor (TX0 k).2.2.1 = some (tyX0 k) := by decide +kernel
abbrev cX0_init : ByteArray := prog_2_method_1_code
def yX0_init : MethodName := ⟨RX0, "<init>", "(LNeededLists$Meter;LNeededLists$LazyList;IJJ)V"⟩
def RX1 : String := "NeededLists$Combined"
def TX1 : u_T := fun k => match k with
  | 0 => ("NeededLists$LazyList", "meter", "LNeededLists$Meter;", true)
  | 1 => ("NeededLists$LazyList", "numbers", "[J", true)
  | 2 => ("NeededLists$LazyList", "marks", "[B", true)
  | 3 => ("NeededLists$LazyList", "met", "I", false)
  | 4 => ("NeededLists$LazyList", "close", "I", false)
  | 5 => ("NeededLists$Combined", "left", "LNeededLists$LazyList;", true)
  | 6 => ("NeededLists$Combined", "right", "LNeededLists$LazyList;", true)
  | 7 => ("NeededLists$Combined", "op", "I", true)
  | _ => ("NeededLists$Combined", "c", "J", true)
abbrev wsX10 : List Cond := u_ws RX1 TX1 9
def RX2 : String := "NeededLists$Front"
def TX2 : u_T := fun k => match k with
  | 0 => ("NeededLists$LazyList", "meter", "LNeededLists$Meter;", true)
  | 1 => ("NeededLists$LazyList", "numbers", "[J", true)
  | 2 => ("NeededLists$LazyList", "marks", "[B", true)
  | 3 => ("NeededLists$LazyList", "met", "I", false)
  | 4 => ("NeededLists$LazyList", "close", "I", false)
  | 5 => ("NeededLists$Front", "of", "LNeededLists$LazyList;", true)
  | 6 => ("NeededLists$Front", "limit", "I", true)
  | 7 => ("NeededLists$Front", "cond", "I", true)
  | _ => ("NeededLists$Front", "c", "J", true)
abbrev wsX20 : List Cond := u_ws RX2 TX2 9
def RX3 : String := "NeededLists$Given"
def TX3 : u_T := fun k => match k with
  | 0 => ("NeededLists$LazyList", "meter", "LNeededLists$Meter;", true)
  | 1 => ("NeededLists$LazyList", "numbers", "[J", true)
  | 2 => ("NeededLists$LazyList", "marks", "[B", true)
  | 3 => ("NeededLists$LazyList", "met", "I", false)
  | 4 => ("NeededLists$LazyList", "close", "I", false)
  | 5 => ("NeededLists$Given", "fates", "[B", true)
  | _ => ("NeededLists$Given", "behind", "I", true)
def tyX3 : Nat → FieldType := fun k => match k with
  | 0 => .object "NeededLists$Meter"
  | 1 => .array .long
  | 2 => .array .byte
  | 3 => .int
  | 4 => .int
  | 5 => .array .byte
  | _ => .int
abbrev wsX30 : List Cond := u_ws RX3 TX3 7
theorem nmX3 : ∀ a, a < 7 → ∀ b, b < 7 → a ≠ b → (TX3 a).2.1 ≠ (TX3 b).2.1 := by decide +kernel
theorem tyX3_ok : ∀ k, k < 7 → parseFieldDescriptor (TX3 k).2.2.1 = some (tyX3 k) := by decide +kernel
abbrev cX3_init : ByteArray := prog_5_method_1_code
def yX3_init : MethodName := ⟨RX3, "<init>", "(LNeededLists$Meter;[J[BI)V"⟩
def RX4 : String := "NeededLists$Joined"
def TX4 : u_T := fun k => match k with
  | 0 => ("NeededLists$LazyList", "meter", "LNeededLists$Meter;", true)
  | 1 => ("NeededLists$LazyList", "numbers", "[J", true)
  | 2 => ("NeededLists$LazyList", "marks", "[B", true)
  | 3 => ("NeededLists$LazyList", "met", "I", false)
  | 4 => ("NeededLists$LazyList", "close", "I", false)
  | 5 => ("NeededLists$Joined", "left", "LNeededLists$LazyList;", true)
  | _ => ("NeededLists$Joined", "right", "LNeededLists$LazyList;", true)
abbrev wsX40 : List Cond := u_ws RX4 TX4 7
def RX5 : String := "NeededLists$LazyList"
abbrev cX5_init : ByteArray := prog_7_method_1_code
def yX5_init : MethodName := ⟨RX5, "<init>", "(LNeededLists$Meter;[J)V"⟩
def RX6 : String := "NeededLists$Meter"
def TX6 : u_T := fun k => match k with
  | 0 => ("NeededLists$Meter", "left", "I", false)
  | _ => ("NeededLists$Meter", "used", "I", false)
def tyX6 : Nat → FieldType := fun k => match k with
  | 0 => .int
  | _ => .int
abbrev wsX60 : List Cond := u_ws RX6 TX6 2
theorem tyX6_ok : ∀ k, k < 2 → parseFieldDescriptor (TX6 k).2.2.1 = some (tyX6 k) := by decide +kernel
abbrev cX6_init : ByteArray := prog_8_method_1_code
def yX6_init : MethodName := ⟨RX6, "<init>", "()V"⟩
def RX7 : String := "NeededLists$Ordered"
def TX7 : u_T := fun k => match k with
  | 0 => ("NeededLists$LazyList", "meter", "LNeededLists$Meter;", true)
  | 1 => ("NeededLists$LazyList", "numbers", "[J", true)
  | 2 => ("NeededLists$LazyList", "marks", "[B", true)
  | 3 => ("NeededLists$LazyList", "met", "I", false)
  | 4 => ("NeededLists$LazyList", "close", "I", false)
  | 5 => ("NeededLists$Ordered", "of", "LNeededLists$LazyList;", true)
  | _ => ("NeededLists$Ordered", "places", "[I", true)
abbrev wsX70 : List Cond := u_ws RX7 TX7 7
def RX8 : String := "NeededLists$Rest"
def TX8 : u_T := fun k => match k with
  | 0 => ("NeededLists$LazyList", "meter", "LNeededLists$Meter;", true)
  | 1 => ("NeededLists$LazyList", "numbers", "[J", true)
  | 2 => ("NeededLists$LazyList", "marks", "[B", true)
  | 3 => ("NeededLists$LazyList", "met", "I", false)
  | 4 => ("NeededLists$LazyList", "close", "I", false)
  | 5 => ("NeededLists$Rest", "of", "LNeededLists$LazyList;", true)
  | 6 => ("NeededLists$Rest", "cond", "I", true)
  | 7 => ("NeededLists$Rest", "c", "J", true)
  | _ => ("NeededLists$Rest", "start", "I", false)
abbrev wsX80 : List Cond := u_ws RX8 TX8 9
def RX9 : String := "NeededLists$Runs"
def TX9 : u_T := fun k => match k with
  | 0 => ("NeededLists$LazyList", "meter", "LNeededLists$Meter;", true)
  | 1 => ("NeededLists$LazyList", "numbers", "[J", true)
  | 2 => ("NeededLists$LazyList", "marks", "[B", true)
  | 3 => ("NeededLists$LazyList", "met", "I", false)
  | 4 => ("NeededLists$LazyList", "close", "I", false)
  | 5 => ("NeededLists$Runs", "of", "LNeededLists$LazyList;", true)
  | 6 => ("NeededLists$Runs", "starts", "[I", true)
  | _ => ("NeededLists$Runs", "runEnd", "I", false)
abbrev wsX90 : List Cond := u_ws RX9 TX9 8
def RX10 : String := "NeededLists$Sieve"
def TX10 : u_T := fun k => match k with
  | 0 => ("NeededLists$LazyList", "meter", "LNeededLists$Meter;", true)
  | 1 => ("NeededLists$LazyList", "numbers", "[J", true)
  | 2 => ("NeededLists$LazyList", "marks", "[B", true)
  | 3 => ("NeededLists$LazyList", "met", "I", false)
  | 4 => ("NeededLists$LazyList", "close", "I", false)
  | 5 => ("NeededLists$Sieve", "of", "LNeededLists$LazyList;", true)
  | 6 => ("NeededLists$Sieve", "cond", "I", true)
  | 7 => ("NeededLists$Sieve", "c", "J", true)
  | _ => ("NeededLists$Sieve", "places", "[I", true)
abbrev wsX100 : List Cond := u_ws RX10 TX10 9
def RX11 : String := "NeededLists"
def TX11 : u_T := fun k => match k with
  | 0 => ("NeededLists", "meter", "LNeededLists$Meter;", true)
  | 1 => ("NeededLists", "made", "[LNeededLists$LazyList;", true)
  | 2 => ("NeededLists", "rowNumbers", "[J", true)
  | 3 => ("NeededLists", "rowFates", "[B", true)
  | 4 => ("NeededLists", "madeCount", "I", false)
  | 5 => ("NeededLists", "rowLength", "I", false)
  | 6 => ("NeededLists", "stepsOfAsk", "I", false)
  | 7 => ("NeededLists", "latestOutcome", "I", false)
  | _ => ("NeededLists", "latestError", "I", false)
def tyX11 : Nat → FieldType := fun k => match k with
  | 0 => .object "NeededLists$Meter"
  | 1 => .array (.object "NeededLists$LazyList")
  | 2 => .array .long
  | 3 => .array .byte
  | 4 => .int
  | 5 => .int
  | 6 => .int
  | 7 => .int
  | _ => .int
abbrev wsX110 : List Cond := u_ws RX11 TX11 9
theorem nmX11 : ∀ a, a < 9 → ∀ b, b < 9 → a ≠ b → (TX11 a).2.1 ≠ (TX11 b).2.1 := by decide +kernel
theorem tyX11_ok : ∀ k, k < 9 → parseFieldDescriptor (TX11 k).2.2.1 = some (tyX11 k) := by decide +kernel
abbrev cX11_init : ByteArray := prog_1_method_1_code
def yX11_init : MethodName := ⟨RX11, "<init>", "()V"⟩
abbrev cX11_put : ByteArray := prog_1_method_2_code
def yX11_put : MethodName := ⟨RX11, "put", "(J)I"⟩
abbrev cX11_hole : ByteArray := prog_1_method_3_code
def yX11_hole : MethodName := ⟨RX11, "hole", "(I)I"⟩
abbrev cX11_addToRow : ByteArray := prog_1_method_4_code
def yX11_addToRow : MethodName := ⟨RX11, "addToRow", "(JI)I"⟩
abbrev cX11_given : ByteArray := prog_1_method_5_code
def yX11_given : MethodName := ⟨RX11, "given", "(Z)I"⟩
abbrev cX11_count : ByteArray := prog_1_method_6_code
def yX11_count : MethodName := ⟨RX11, "count", "(JJ)I"⟩
abbrev cX11_iterate : ByteArray := prog_1_method_7_code
def yX11_iterate : MethodName := ⟨RX11, "iterate", "(IJJ)I"⟩
abbrev cX11_map : ByteArray := prog_1_method_8_code
def yX11_map : MethodName := ⟨RX11, "map", "(IIJ)I"⟩
abbrev cX11_both : ByteArray := prog_1_method_9_code
def yX11_both : MethodName := ⟨RX11, "both", "(III)I"⟩
abbrev cX11_scan : ByteArray := prog_1_method_10_code
def yX11_scan : MethodName := ⟨RX11, "scan", "(IIJ)I"⟩
abbrev cX11_take : ByteArray := prog_1_method_11_code
def yX11_take : MethodName := ⟨RX11, "take", "(II)I"⟩
abbrev cX11_drop : ByteArray := prog_1_method_12_code
def yX11_drop : MethodName := ⟨RX11, "drop", "(II)I"⟩
abbrev cX11_keep : ByteArray := prog_1_method_13_code
def yX11_keep : MethodName := ⟨RX11, "keep", "(IIJ)I"⟩
abbrev cX11_during : ByteArray := prog_1_method_14_code
def yX11_during : MethodName := ⟨RX11, "during", "(IIJ)I"⟩
abbrev cX11_after : ByteArray := prog_1_method_15_code
def yX11_after : MethodName := ⟨RX11, "after", "(IIJ)I"⟩
abbrev cX11_join : ByteArray := prog_1_method_16_code
def yX11_join : MethodName := ⟨RX11, "join", "(II)I"⟩
abbrev cX11_other : ByteArray := prog_1_method_17_code
def yX11_other : MethodName := ⟨RX11, "other", "(II)I"⟩
abbrev cX11_addList : ByteArray := prog_1_method_19_code
def yX11_addList : MethodName := ⟨RX11, "addList", "(LNeededLists$LazyList;)I"⟩
abbrev cX11_steps : ByteArray := prog_1_method_20_code
def yX11_steps : MethodName := ⟨RX11, "steps", "(I)I"⟩
abbrev cX11_at : ByteArray := prog_1_method_21_code
def yX11_at : MethodName := ⟨RX11, "at", "(II)J"⟩
abbrev cX11_size : ByteArray := prog_1_method_22_code
def yX11_size : MethodName := ⟨RX11, "size", "(I)J"⟩
abbrev cX11_fold : ByteArray := prog_1_method_23_code
def yX11_fold : MethodName := ⟨RX11, "fold", "(IIJ)J"⟩
abbrev cX11_find : ByteArray := prog_1_method_24_code
def yX11_find : MethodName := ⟨RX11, "find", "(IIJ)J"⟩
abbrev cX11_last : ByteArray := prog_1_method_25_code
def yX11_last : MethodName := ⟨RX11, "last", "(I)J"⟩
abbrev cX11_outcome : ByteArray := prog_1_method_26_code
def yX11_outcome : MethodName := ⟨RX11, "outcome", "()I"⟩
abbrev cX11_error : ByteArray := prog_1_method_27_code
def yX11_error : MethodName := ⟨RX11, "error", "()I"⟩
abbrev cX11_spent : ByteArray := prog_1_method_28_code
def yX11_spent : MethodName := ⟨RX11, "spent", "()I"⟩
abbrev cX11_reached : ByteArray := prog_1_method_30_code
def yX11_reached : MethodName := ⟨RX11, "reached", "(I)I"⟩
abbrev cX11_worked : ByteArray := prog_1_method_31_code
def yX11_worked : MethodName := ⟨RX11, "worked", "(II)Z"⟩
abbrev cX11_lists : ByteArray := prog_1_method_32_code
def yX11_lists : MethodName := ⟨RX11, "lists", "()I"⟩
abbrev cX11_listOf : ByteArray := prog_1_method_33_code
def yX11_listOf : MethodName := ⟨RX11, "listOf", "(I)LNeededLists$LazyList;"⟩
abbrev cX11_checkRoom : ByteArray := prog_1_method_34_code
def yX11_checkRoom : MethodName := ⟨RX11, "checkRoom", "()V"⟩
abbrev cX11_checkOp : ByteArray := prog_1_method_35_code
def yX11_checkOp : MethodName := ⟨RX11, "checkOp", "(I)V"⟩
def RX12 : String := "NeededListsModel"
def TX12 : u_T := fun k => match k with
  | 0 => ("NeededListsModel", "lists", "I", false)
  | 1 => ("NeededListsModel", "sort", "[I", true)
  | 2 => ("NeededListsModel", "first", "[I", true)
  | 3 => ("NeededListsModel", "second", "[I", true)
  | 4 => ("NeededListsModel", "code", "[I", true)
  | 5 => ("NeededListsModel", "number", "[J", true)
  | 6 => ("NeededListsModel", "other", "[J", true)
  | 7 => ("NeededListsModel", "cell", "[I", true)
  | 8 => ("NeededListsModel", "item", "[I", true)
  | 9 => ("NeededListsModel", "value", "[J", true)
  | 10 => ("NeededListsModel", "shareList", "[I", true)
  | 11 => ("NeededListsModel", "shareCell", "[I", true)
  | 12 => ("NeededListsModel", "many", "I", false)
  | 13 => ("NeededListsModel", "rowItem", "[I", true)
  | 14 => ("NeededListsModel", "rowValue", "[J", true)
  | 15 => ("NeededListsModel", "purse", "I", false)
  | 16 => ("NeededListsModel", "spent", "I", false)
  | 17 => ("NeededListsModel", "outcome", "I", false)
  | 18 => ("NeededListsModel", "error", "I", false)
  | 19 => ("NeededListsModel", "thrown", "I", false)
  | 20 => ("NeededListsModel", "givenItem", "[I", true)
  | 21 => ("NeededListsModel", "givenValue", "[J", true)
  | 22 => ("NeededListsModel", "opValue", "J", false)
  | 23 => ("NeededListsModel", "got", "I", false)
  | 24 => ("NeededListsModel", "gotAt", "I", false)
  | 25 => ("NeededListsModel", "gotValue", "J", false)
  | 26 => ("NeededListsModel", "becomes", "I", false)
  | 27 => ("NeededListsModel", "becomesList", "I", false)
  | 28 => ("NeededListsModel", "becomesCell", "I", false)
  | 29 => ("NeededListsModel", "runSize", "I", false)
  | 30 => ("NeededListsModel", "becomesValue", "J", false)
  | _ => ("NeededListsModel", "pile", "[I", true)
def tyX12 : Nat → FieldType := fun k => match k with
  | 0 => .int
  | 1 => .array .int
  | 2 => .array .int
  | 3 => .array .int
  | 4 => .array .int
  | 5 => .array .long
  | 6 => .array .long
  | 7 => .array .int
  | 8 => .array .int
  | 9 => .array .long
  | 10 => .array .int
  | 11 => .array .int
  | 12 => .int
  | 13 => .array .int
  | 14 => .array .long
  | 15 => .int
  | 16 => .int
  | 17 => .int
  | 18 => .int
  | 19 => .int
  | 20 => .array .int
  | 21 => .array .long
  | 22 => .long
  | 23 => .int
  | 24 => .int
  | 25 => .long
  | 26 => .int
  | 27 => .int
  | 28 => .int
  | 29 => .int
  | 30 => .long
  | _ => .array .int
abbrev wsX120 : List Cond := u_ws RX12 TX12 32
theorem nmX12 : ∀ a, a < 32 → ∀ b, b < 32 → a ≠ b → (TX12 a).2.1 ≠ (TX12 b).2.1 := by decide +kernel
theorem tyX12_ok : ∀ k, k < 32 → parseFieldDescriptor (TX12 k).2.2.1 = some (tyX12 k) := by decide +kernel
abbrev cX12_init : ByteArray := prog_14_method_1_code
def yX12_init : MethodName := ⟨RX12, "<init>", "()V"⟩
abbrev cX12_thrown : ByteArray := prog_14_method_2_code
def yX12_thrown : MethodName := ⟨RX12, "thrown", "()I"⟩
abbrev cX12_fail : ByteArray := prog_14_method_3_code
def yX12_fail : MethodName := ⟨RX12, "fail", "(I)I"⟩
abbrev cX12_isList : ByteArray := prog_14_method_4_code
def yX12_isList : MethodName := ⟨RX12, "isList", "(I)Z"⟩
abbrev cX12_made : ByteArray := prog_14_method_5_code
def yX12_made : MethodName := ⟨RX12, "made", "(IIIIJJ)I"⟩
abbrev cX12_put : ByteArray := prog_14_method_6_code
def yX12_put : MethodName := ⟨RX12, "put", "(J)I"⟩
abbrev cX12_hole : ByteArray := prog_14_method_7_code
def yX12_hole : MethodName := ⟨RX12, "hole", "(I)I"⟩
abbrev cX12_given : ByteArray := prog_14_method_8_code
def yX12_given : MethodName := ⟨RX12, "given", "(Z)I"⟩
abbrev cX12_count : ByteArray := prog_14_method_9_code
def yX12_count : MethodName := ⟨RX12, "count", "(JJ)I"⟩
abbrev cX12_isOp : ByteArray := prog_14_method_10_code
def yX12_isOp : MethodName := ⟨RX12, "isOp", "(I)Z"⟩
abbrev cX12_isCond : ByteArray := prog_14_method_11_code
def yX12_isCond : MethodName := ⟨RX12, "isCond", "(I)Z"⟩
abbrev cX12_iterate : ByteArray := prog_14_method_12_code
def yX12_iterate : MethodName := ⟨RX12, "iterate", "(IJJ)I"⟩
abbrev cX12_map : ByteArray := prog_14_method_13_code
def yX12_map : MethodName := ⟨RX12, "map", "(IIJ)I"⟩
abbrev cX12_both : ByteArray := prog_14_method_14_code
def yX12_both : MethodName := ⟨RX12, "both", "(III)I"⟩
abbrev cX12_scan : ByteArray := prog_14_method_15_code
def yX12_scan : MethodName := ⟨RX12, "scan", "(IIJ)I"⟩
abbrev cX12_some : ByteArray := prog_14_method_16_code
def yX12_some : MethodName := ⟨RX12, "some", "(III)I"⟩
abbrev cX12_take : ByteArray := prog_14_method_17_code
def yX12_take : MethodName := ⟨RX12, "take", "(II)I"⟩
abbrev cX12_drop : ByteArray := prog_14_method_18_code
def yX12_drop : MethodName := ⟨RX12, "drop", "(II)I"⟩
abbrev cX12_by : ByteArray := prog_14_method_19_code
def yX12_by : MethodName := ⟨RX12, "by", "(IIIJ)I"⟩
abbrev cX12_keep : ByteArray := prog_14_method_20_code
def yX12_keep : MethodName := ⟨RX12, "keep", "(IIJ)I"⟩
abbrev cX12_during : ByteArray := prog_14_method_21_code
def yX12_during : MethodName := ⟨RX12, "during", "(IIJ)I"⟩
abbrev cX12_after : ByteArray := prog_14_method_22_code
def yX12_after : MethodName := ⟨RX12, "after", "(IIJ)I"⟩
abbrev cX12_join : ByteArray := prog_14_method_23_code
def yX12_join : MethodName := ⟨RX12, "join", "(II)I"⟩
abbrev cX12_other : ByteArray := prog_14_method_24_code
def yX12_other : MethodName := ⟨RX12, "other", "(II)I"⟩
abbrev cX12_steps : ByteArray := prog_14_method_48_code
def yX12_steps : MethodName := ⟨RX12, "steps", "(I)I"⟩
abbrev cX12_at : ByteArray := prog_14_method_55_code
def yX12_at : MethodName := ⟨RX12, "at", "(II)J"⟩
abbrev cX12_size : ByteArray := prog_14_method_56_code
def yX12_size : MethodName := ⟨RX12, "size", "(I)J"⟩
abbrev cX12_fold : ByteArray := prog_14_method_57_code
def yX12_fold : MethodName := ⟨RX12, "fold", "(IIJ)J"⟩
abbrev cX12_find : ByteArray := prog_14_method_58_code
def yX12_find : MethodName := ⟨RX12, "find", "(IIJ)J"⟩
abbrev cX12_last : ByteArray := prog_14_method_59_code
def yX12_last : MethodName := ⟨RX12, "last", "(I)J"⟩
abbrev cX12_outcome : ByteArray := prog_14_method_60_code
def yX12_outcome : MethodName := ⟨RX12, "outcome", "()I"⟩
abbrev cX12_error : ByteArray := prog_14_method_61_code
def yX12_error : MethodName := ⟨RX12, "error", "()I"⟩
abbrev cX12_spent : ByteArray := prog_14_method_62_code
def yX12_spent : MethodName := ⟨RX12, "spent", "()I"⟩
abbrev cX12_reached : ByteArray := prog_14_method_63_code
def yX12_reached : MethodName := ⟨RX12, "reached", "(I)I"⟩
abbrev cX12_worked : ByteArray := prog_14_method_64_code
def yX12_worked : MethodName := ⟨RX12, "worked", "(II)Z"⟩
abbrev cX12_lists : ByteArray := prog_14_method_65_code
def yX12_lists : MethodName := ⟨RX12, "lists", "()I"⟩
def RJ7 : String := "java/util/Arrays"
abbrev cJ7_fill_031fb : ByteArray := prog_25_method_109_code
def yJ7_fill_031fb : MethodName := ⟨RJ7, "fill", "([BB)V"⟩
abbrev cJ7_copyOf_9075b : ByteArray := prog_25_method_121_code
def yJ7_copyOf_9075b : MethodName := ⟨RJ7, "copyOf", "([BI)[B"⟩
abbrev cJ7_copyOf_c38d5 : ByteArray := prog_25_method_124_code
def yJ7_copyOf_c38d5 : MethodName := ⟨RJ7, "copyOf", "([JI)[J"⟩
def RL : String := "NeededListsLaw"
abbrev cL_put : ByteArray := method_3_code
def yL_put : MethodName := ⟨RL, "put", "(LNeededLists;J[J)I"⟩
abbrev cL_hole : ByteArray := method_4_code
def yL_hole : MethodName := ⟨RL, "hole", "(LNeededLists;I[J)I"⟩
abbrev cL_given : ByteArray := method_5_code
def yL_given : MethodName := ⟨RL, "given", "(LNeededLists;Z[J)I"⟩
abbrev cL_count : ByteArray := method_6_code
def yL_count : MethodName := ⟨RL, "count", "(LNeededLists;JJ[J)I"⟩
abbrev cL_iterate : ByteArray := method_7_code
def yL_iterate : MethodName := ⟨RL, "iterate", "(LNeededLists;IJJ[J)I"⟩
abbrev cL_map : ByteArray := method_8_code
def yL_map : MethodName := ⟨RL, "map", "(LNeededLists;IIJ[J)I"⟩
abbrev cL_both : ByteArray := method_9_code
def yL_both : MethodName := ⟨RL, "both", "(LNeededLists;III[J)I"⟩
abbrev cL_scan : ByteArray := method_10_code
def yL_scan : MethodName := ⟨RL, "scan", "(LNeededLists;IIJ[J)I"⟩
abbrev cL_take : ByteArray := method_11_code
def yL_take : MethodName := ⟨RL, "take", "(LNeededLists;II[J)I"⟩
abbrev cL_drop : ByteArray := method_12_code
def yL_drop : MethodName := ⟨RL, "drop", "(LNeededLists;II[J)I"⟩
abbrev cL_keep : ByteArray := method_13_code
def yL_keep : MethodName := ⟨RL, "keep", "(LNeededLists;IIJ[J)I"⟩
abbrev cL_during : ByteArray := method_14_code
def yL_during : MethodName := ⟨RL, "during", "(LNeededLists;IIJ[J)I"⟩
abbrev cL_after : ByteArray := method_15_code
def yL_after : MethodName := ⟨RL, "after", "(LNeededLists;IIJ[J)I"⟩
abbrev cL_join : ByteArray := method_16_code
def yL_join : MethodName := ⟨RL, "join", "(LNeededLists;II[J)I"⟩
abbrev cL_other : ByteArray := method_17_code
def yL_other : MethodName := ⟨RL, "other", "(LNeededLists;II[J)I"⟩
abbrev cL_steps : ByteArray := method_18_code
def yL_steps : MethodName := ⟨RL, "steps", "(LNeededLists;I[J)I"⟩
abbrev cL_at : ByteArray := method_19_code
def yL_at : MethodName := ⟨RL, "at", "(LNeededLists;II[J)I"⟩
abbrev cL_size : ByteArray := method_20_code
def yL_size : MethodName := ⟨RL, "size", "(LNeededLists;I[J)I"⟩
abbrev cL_fold : ByteArray := method_21_code
def yL_fold : MethodName := ⟨RL, "fold", "(LNeededLists;IIJ[J)I"⟩
abbrev cL_find : ByteArray := method_22_code
def yL_find : MethodName := ⟨RL, "find", "(LNeededLists;IIJ[J)I"⟩
abbrev cL_last : ByteArray := method_23_code
def yL_last : MethodName := ⟨RL, "last", "(LNeededLists;I[J)I"⟩
abbrev cL_reached : ByteArray := method_24_code
def yL_reached : MethodName := ⟨RL, "reached", "(LNeededLists;I[J)I"⟩
abbrev cL_worked : ByteArray := method_25_code
def yL_worked : MethodName := ⟨RL, "worked", "(LNeededLists;II[J)I"⟩
def wsX5_init : List Cond := .code yX5_init cX5_init 3 none :: ([.methodLink RX5 3 objectInit, .instanceMethod objectInit, .code objectInit ⟨#[0xb1]⟩ 1 none, .fieldLink RX5 9 "NeededLists$LazyList" "meter" "LNeededLists$Meter;", .fieldLink RX5 15 "NeededLists$LazyList" "numbers" "[J", .arrayClass .byte, .fieldLink RX5 19 "NeededLists$LazyList" "marks" "[B"] ++ wsX00 ++ wsX10 ++ wsX20 ++ wsX30 ++ wsX40 ++ wsX70 ++ wsX80 ++ wsX90 ++ wsX100)
def wsX0_init : List Cond := .code yX0_init cX0_init 8 none :: ([.arrayClass .long, .fieldLink RX0 9 "NeededLists$Chained" "of" "LNeededLists$LazyList;", .fieldLink RX0 15 "NeededLists$Chained" "op" "I", .fieldLink RX0 19 "NeededLists$Chained" "c" "J", .fieldLink RX0 23 "NeededLists$Chained" "start" "J", .methodLink RX0 3 yX5_init, .instanceMethod yX5_init, .initialized RX5, .code yX5_init cX5_init 3 none, .methodLink RX5 3 objectInit, .instanceMethod objectInit, .code objectInit ⟨#[0xb1]⟩ 1 none, .fieldLink RX5 9 "NeededLists$LazyList" "meter" "LNeededLists$Meter;", .fieldLink RX5 15 "NeededLists$LazyList" "numbers" "[J", .arrayClass .byte, .fieldLink RX5 19 "NeededLists$LazyList" "marks" "[B"] ++ wsX00 ++ wsX10 ++ wsX20 ++ wsX30 ++ wsX40 ++ wsX70 ++ wsX80 ++ wsX90 ++ wsX100)
def wsX3_init : List Cond := .code yX3_init cX3_init 5 none :: ([.fieldLink RX3 9 "NeededLists$Given" "fates" "[B", .fieldLink RX3 15 "NeededLists$Given" "behind" "I", .methodLink RX3 3 yX5_init, .instanceMethod yX5_init, .initialized RX5, .code yX5_init cX5_init 3 none, .methodLink RX5 3 objectInit, .instanceMethod objectInit, .code objectInit ⟨#[0xb1]⟩ 1 none, .fieldLink RX5 9 "NeededLists$LazyList" "meter" "LNeededLists$Meter;", .fieldLink RX5 15 "NeededLists$LazyList" "numbers" "[J", .arrayClass .byte, .fieldLink RX5 19 "NeededLists$LazyList" "marks" "[B"] ++ wsX30 ++ wsX00 ++ wsX10 ++ wsX20 ++ wsX40 ++ wsX70 ++ wsX80 ++ wsX90 ++ wsX100)
def wsX6_init : List Cond := .code yX6_init cX6_init 1 none :: ([.methodLink RX6 1 objectInit, .instanceMethod objectInit, .code objectInit ⟨#[0xb1]⟩ 1 none])
def wsX11_init : List Cond := .code yX11_init cX11_init 1 none :: ([.methodLink RX11 3 objectInit, .instanceMethod objectInit, .code objectInit ⟨#[0xb1]⟩ 1 none, .classLink RX11 9 RX6, .instantiable RX6 2, .initialized RX6, .fieldLink RX11 12 "NeededLists" "meter" "LNeededLists$Meter;", .classLink RX11 16 RX5, .fieldLink RX11 18 "NeededLists" "made" "[LNeededLists$LazyList;", .arrayClass .long, .fieldLink RX11 22 "NeededLists" "rowNumbers" "[J", .arrayClass .byte, .fieldLink RX11 26 "NeededLists" "rowFates" "[B", .fieldLink RX11 30 "NeededLists" "stepsOfAsk" "I", .instanceMethod yX6_init, .code yX6_init cX6_init 1 none, .methodLink RX6 1 objectInit] ++ wsX60 ++ wsX110)
def wsX11_addToRow : List Cond := .code yX11_addToRow cX11_addToRow 4 (some .int) :: ([.classLink RX11 48 "java/lang/UnsupportedOperationException", .initialized "java/lang/UnsupportedOperationException", .fieldLink RX11 45 "NeededLists" "rowLength" "I", .fieldLink RX11 22 "NeededLists" "rowNumbers" "[J", .fieldLink RX11 26 "NeededLists" "rowFates" "[B"] ++ wsX110 ++ (vx_atS RX11 52 "java/lang/UnsupportedOperationException" ["java/lang/RuntimeException", "java/lang/Exception"]).filter goodWord)
def wsX11_put : List Cond := .code yX11_put cX11_put 3 (some .int) :: ([.methodLink RX11 34 yX11_addToRow, .instanceMethod yX11_addToRow, .selects RX11 yX11_addToRow yX11_addToRow, .initialized RX11, .code yX11_addToRow cX11_addToRow 4 (some .int), .classLink RX11 48 "java/lang/UnsupportedOperationException", .initialized "java/lang/UnsupportedOperationException", .fieldLink RX11 45 "NeededLists" "rowLength" "I", .fieldLink RX11 22 "NeededLists" "rowNumbers" "[J", .fieldLink RX11 26 "NeededLists" "rowFates" "[B"] ++ wsX110 ++ (vx_atS RX11 52 "java/lang/UnsupportedOperationException" ["java/lang/RuntimeException", "java/lang/Exception"]).filter goodWord)
def wsX11_hole : List Cond := .code yX11_hole cX11_hole 2 (some .int) :: ([.classLink RX11 38 "java/lang/IllegalArgumentException", .initialized "java/lang/IllegalArgumentException", .methodLink RX11 34 yX11_addToRow, .instanceMethod yX11_addToRow, .selects RX11 yX11_addToRow yX11_addToRow, .initialized RX11, .code yX11_addToRow cX11_addToRow 4 (some .int), .classLink RX11 48 "java/lang/UnsupportedOperationException", .initialized "java/lang/UnsupportedOperationException", .fieldLink RX11 45 "NeededLists" "rowLength" "I", .fieldLink RX11 22 "NeededLists" "rowNumbers" "[J", .fieldLink RX11 26 "NeededLists" "rowFates" "[B"] ++ wsX110 ++ (vx_atS RX11 42 "java/lang/IllegalArgumentException" ["java/lang/RuntimeException", "java/lang/Exception"]).filter goodWord ++ (vx_atS RX11 52 "java/lang/UnsupportedOperationException" ["java/lang/RuntimeException", "java/lang/Exception"]).filter goodWord)
def wsX11_checkRoom : List Cond := .code yX11_checkRoom cX11_checkRoom 1 none :: ([.classLink RX11 48 "java/lang/UnsupportedOperationException", .initialized "java/lang/UnsupportedOperationException", .fieldLink RX11 136 "NeededLists" "madeCount" "I"] ++ wsX110 ++ (vx_atS RX11 52 "java/lang/UnsupportedOperationException" ["java/lang/RuntimeException", "java/lang/Exception"]).filter goodWord)
def wsJ7_copyOf_c38d5 : List Cond := .code yJ7_copyOf_c38d5 cJ7_copyOf_c38d5 3 (some (.array .long)) :: ([.methodLink RJ7 319 ⟨"[J", "clone", "()Ljava/lang/Object;"⟩, .sameMethod "[J" "java/lang/Object" "clone" "()Ljava/lang/Object;", .native ⟨"java/lang/Object", "clone", "()Ljava/lang/Object;"⟩, .instanceMethod ⟨"java/lang/Object", "clone", "()Ljava/lang/Object;"⟩, .selects "[J" ⟨"[J", "clone", "()Ljava/lang/Object;"⟩ ⟨"java/lang/Object", "clone", "()Ljava/lang/Object;"⟩, .classLink RJ7 320 "[J", .arrayClass .long, .methodLink RJ7 304 Lib.Math.min.name, .static Lib.Math.min.name, .initialized "java/lang/Math", .code Lib.Math.min.name Lib.Math.min.code 2 (some .int), .methodLink RJ7 150 arraycopyName, .native arraycopyName, .static arraycopyName, .initialized "java/lang/System"])
def wsJ7_copyOf_9075b : List Cond := .code yJ7_copyOf_9075b cJ7_copyOf_9075b 3 (some (.array .byte)) :: ([.methodLink RJ7 310 ⟨"[B", "clone", "()Ljava/lang/Object;"⟩, .sameMethod "[B" "java/lang/Object" "clone" "()Ljava/lang/Object;", .native ⟨"java/lang/Object", "clone", "()Ljava/lang/Object;"⟩, .instanceMethod ⟨"java/lang/Object", "clone", "()Ljava/lang/Object;"⟩, .selects "[B" ⟨"[B", "clone", "()Ljava/lang/Object;"⟩ ⟨"java/lang/Object", "clone", "()Ljava/lang/Object;"⟩, .classLink RJ7 311 "[B", .arrayClass .byte, .methodLink RJ7 304 Lib.Math.min.name, .static Lib.Math.min.name, .initialized "java/lang/Math", .code Lib.Math.min.name Lib.Math.min.code 2 (some .int), .methodLink RJ7 150 arraycopyName, .native arraycopyName, .static arraycopyName, .initialized "java/lang/System"])
def wsX11_addList : List Cond := .code yX11_addList cX11_addList 3 (some .int) :: ([.fieldLink RX11 136 "NeededLists" "madeCount" "I", .fieldLink RX11 18 "NeededLists" "made" "[LNeededLists$LazyList;"] ++ wsX110)
def wsX11_given_r1 : List Cond := [Cond.fieldLink RX11 22 "NeededLists" "rowNumbers" "[J", Cond.fieldLink RX11 45 "NeededLists" "rowLength" "I", Cond.fieldLink RX11 26 "NeededLists" "rowFates" "[B", Cond.classLink RX11 65 RX3, Cond.instantiable RX3 7, Cond.initialized RX3, Cond.fieldLink RX11 12 "NeededLists" "meter" "LNeededLists$Meter;", Cond.methodLink RX11 53 yX11_checkRoom, Cond.instanceMethod yX11_checkRoom, Cond.selects RX11 yX11_checkRoom yX11_checkRoom, Cond.initialized RX11, Cond.code yX11_checkRoom cX11_checkRoom 1 none, Cond.classLink RX11 48 "java/lang/UnsupportedOperationException", Cond.initialized "java/lang/UnsupportedOperationException", Cond.fieldLink RX11 136 "NeededLists" "madeCount" "I", Cond.methodLink RX11 56 yJ7_copyOf_c38d5, Cond.static yJ7_copyOf_c38d5, Cond.initialized RJ7, Cond.code yJ7_copyOf_c38d5 cJ7_copyOf_c38d5 3 (some (.array .long)), Cond.methodLink RJ7 319 ⟨"[J", "clone", "()Ljava/lang/Object;"⟩, Cond.sameMethod "[J" "java/lang/Object" "clone" "()Ljava/lang/Object;", Cond.native ⟨"java/lang/Object", "clone", "()Ljava/lang/Object;"⟩, Cond.instanceMethod ⟨"java/lang/Object", "clone", "()Ljava/lang/Object;"⟩, Cond.selects "[J" ⟨"[J", "clone", "()Ljava/lang/Object;"⟩ ⟨"java/lang/Object", "clone", "()Ljava/lang/Object;"⟩]
def wsX11_given_r2 : List Cond := [Cond.classLink RJ7 320 "[J", Cond.arrayClass .long, Cond.methodLink RJ7 304 Lib.Math.min.name, Cond.static Lib.Math.min.name, Cond.initialized "java/lang/Math", Cond.code Lib.Math.min.name Lib.Math.min.code 2 (some .int), Cond.methodLink RJ7 150 arraycopyName, Cond.native arraycopyName, Cond.static arraycopyName, Cond.initialized "java/lang/System", Cond.methodLink RX11 62 yJ7_copyOf_9075b, Cond.static yJ7_copyOf_9075b, Cond.code yJ7_copyOf_9075b cJ7_copyOf_9075b 3 (some (.array .byte)), Cond.methodLink RJ7 310 ⟨"[B", "clone", "()Ljava/lang/Object;"⟩, Cond.sameMethod "[B" "java/lang/Object" "clone" "()Ljava/lang/Object;", Cond.selects "[B" ⟨"[B", "clone", "()Ljava/lang/Object;"⟩ ⟨"java/lang/Object", "clone", "()Ljava/lang/Object;"⟩, Cond.classLink RJ7 311 "[B", Cond.arrayClass .byte, Cond.methodLink RX11 67 yX3_init, Cond.instanceMethod yX3_init, Cond.code yX3_init cX3_init 5 none, Cond.fieldLink RX3 9 "NeededLists$Given" "fates" "[B", Cond.fieldLink RX3 15 "NeededLists$Given" "behind" "I", Cond.methodLink RX3 3 yX5_init]
def wsX11_given_r3 : List Cond := [Cond.instanceMethod yX5_init, Cond.initialized RX5, Cond.code yX5_init cX5_init 3 none, Cond.methodLink RX5 3 objectInit, Cond.instanceMethod objectInit, Cond.code objectInit ⟨#[0xb1]⟩ 1 none, Cond.fieldLink RX5 9 "NeededLists$LazyList" "meter" "LNeededLists$Meter;", Cond.fieldLink RX5 15 "NeededLists$LazyList" "numbers" "[J", Cond.fieldLink RX5 19 "NeededLists$LazyList" "marks" "[B", Cond.methodLink RX11 70 yX11_addList, Cond.instanceMethod yX11_addList, Cond.selects RX11 yX11_addList yX11_addList, Cond.code yX11_addList cX11_addList 3 (some .int), Cond.fieldLink RX11 18 "NeededLists" "made" "[LNeededLists$LazyList;"]
def wsX11_given : List Cond := .code yX11_given cX11_given 4 (some .int) :: ((wsX11_given_r1 ++ (wsX11_given_r2 ++ wsX11_given_r3)) ++ wsX110 ++ wsX30 ++ wsX00 ++ wsX10 ++ wsX20 ++ wsX40 ++ wsX70 ++ wsX80 ++ wsX90 ++ wsX100 ++ (vx_atS RX11 52 "java/lang/UnsupportedOperationException" ["java/lang/RuntimeException", "java/lang/Exception"]).filter goodWord)
def wsJ7_fill_031fb : List Cond := .code yJ7_fill_031fb cJ7_fill_031fb 4 none :: ([])
def wsX11_count_r1 : List Cond := [Cond.arrayClass .long, Cond.arrayClass .byte, Cond.classLink RX11 65 RX3, Cond.instantiable RX3 7, Cond.initialized RX3, Cond.fieldLink RX11 12 "NeededLists" "meter" "LNeededLists$Meter;", Cond.methodLink RX11 53 yX11_checkRoom, Cond.instanceMethod yX11_checkRoom, Cond.selects RX11 yX11_checkRoom yX11_checkRoom, Cond.initialized RX11, Cond.code yX11_checkRoom cX11_checkRoom 1 none, Cond.classLink RX11 48 "java/lang/UnsupportedOperationException", Cond.initialized "java/lang/UnsupportedOperationException", Cond.fieldLink RX11 136 "NeededLists" "madeCount" "I", Cond.methodLink RX11 74 yJ7_fill_031fb, Cond.static yJ7_fill_031fb, Cond.initialized RJ7, Cond.code yJ7_fill_031fb cJ7_fill_031fb 4 none, Cond.methodLink RX11 67 yX3_init, Cond.instanceMethod yX3_init, Cond.code yX3_init cX3_init 5 none, Cond.fieldLink RX3 9 "NeededLists$Given" "fates" "[B", Cond.fieldLink RX3 15 "NeededLists$Given" "behind" "I", Cond.methodLink RX3 3 yX5_init]
def wsX11_count_r2 : List Cond := [Cond.instanceMethod yX5_init, Cond.initialized RX5, Cond.code yX5_init cX5_init 3 none, Cond.methodLink RX5 3 objectInit, Cond.instanceMethod objectInit, Cond.code objectInit ⟨#[0xb1]⟩ 1 none, Cond.fieldLink RX5 9 "NeededLists$LazyList" "meter" "LNeededLists$Meter;", Cond.fieldLink RX5 15 "NeededLists$LazyList" "numbers" "[J", Cond.fieldLink RX5 19 "NeededLists$LazyList" "marks" "[B", Cond.methodLink RX11 70 yX11_addList, Cond.instanceMethod yX11_addList, Cond.selects RX11 yX11_addList yX11_addList, Cond.code yX11_addList cX11_addList 3 (some .int), Cond.fieldLink RX11 18 "NeededLists" "made" "[LNeededLists$LazyList;"]
def wsX11_count : List Cond := .code yX11_count cX11_count 7 (some .int) :: ((wsX11_count_r1 ++ wsX11_count_r2) ++ wsX30 ++ wsX110 ++ wsX00 ++ wsX10 ++ wsX20 ++ wsX40 ++ wsX70 ++ wsX80 ++ wsX90 ++ wsX100 ++ (vx_atS RX11 52 "java/lang/UnsupportedOperationException" ["java/lang/RuntimeException", "java/lang/Exception"]).filter goodWord)
def wsX11_checkOp : List Cond := .code yX11_checkOp cX11_checkOp 1 none :: ([.classLink RX11 38 "java/lang/IllegalArgumentException", .initialized "java/lang/IllegalArgumentException"] ++ (vx_atS RX11 42 "java/lang/IllegalArgumentException" ["java/lang/RuntimeException", "java/lang/Exception"]).filter goodWord)
def wsX11_iterate_r1 : List Cond := [Cond.classLink RX11 82 RX0, Cond.instantiable RX0 9, Cond.initialized RX0, Cond.fieldLink RX11 12 "NeededLists" "meter" "LNeededLists$Meter;", Cond.methodLink RX11 78 yX11_checkOp, Cond.static yX11_checkOp, Cond.initialized RX11, Cond.code yX11_checkOp cX11_checkOp 1 none, Cond.classLink RX11 38 "java/lang/IllegalArgumentException", Cond.initialized "java/lang/IllegalArgumentException", Cond.methodLink RX11 53 yX11_checkRoom, Cond.instanceMethod yX11_checkRoom, Cond.selects RX11 yX11_checkRoom yX11_checkRoom, Cond.code yX11_checkRoom cX11_checkRoom 1 none, Cond.classLink RX11 48 "java/lang/UnsupportedOperationException", Cond.initialized "java/lang/UnsupportedOperationException", Cond.fieldLink RX11 136 "NeededLists" "madeCount" "I", Cond.methodLink RX11 84 yX0_init, Cond.instanceMethod yX0_init, Cond.code yX0_init cX0_init 8 none, Cond.arrayClass .long, Cond.fieldLink RX0 9 "NeededLists$Chained" "of" "LNeededLists$LazyList;", Cond.fieldLink RX0 15 "NeededLists$Chained" "op" "I", Cond.fieldLink RX0 19 "NeededLists$Chained" "c" "J"]
def wsX11_iterate_r2 : List Cond := [Cond.fieldLink RX0 23 "NeededLists$Chained" "start" "J", Cond.methodLink RX0 3 yX5_init, Cond.instanceMethod yX5_init, Cond.initialized RX5, Cond.code yX5_init cX5_init 3 none, Cond.methodLink RX5 3 objectInit, Cond.instanceMethod objectInit, Cond.code objectInit ⟨#[0xb1]⟩ 1 none, Cond.fieldLink RX5 9 "NeededLists$LazyList" "meter" "LNeededLists$Meter;", Cond.fieldLink RX5 15 "NeededLists$LazyList" "numbers" "[J", Cond.arrayClass .byte, Cond.fieldLink RX5 19 "NeededLists$LazyList" "marks" "[B", Cond.methodLink RX11 70 yX11_addList, Cond.instanceMethod yX11_addList, Cond.selects RX11 yX11_addList yX11_addList, Cond.code yX11_addList cX11_addList 3 (some .int), Cond.fieldLink RX11 18 "NeededLists" "made" "[LNeededLists$LazyList;"]
def wsX11_iterate : List Cond := .code yX11_iterate cX11_iterate 6 (some .int) :: ((wsX11_iterate_r1 ++ wsX11_iterate_r2) ++ wsX00 ++ wsX110 ++ wsX10 ++ wsX20 ++ wsX30 ++ wsX40 ++ wsX70 ++ wsX80 ++ wsX90 ++ wsX100 ++ (vx_atS RX11 42 "java/lang/IllegalArgumentException" ["java/lang/RuntimeException", "java/lang/Exception"]).filter goodWord ++ (vx_atS RX11 52 "java/lang/UnsupportedOperationException" ["java/lang/RuntimeException", "java/lang/Exception"]).filter goodWord)
def wsX11_listOf : List Cond := .code yX11_listOf cX11_listOf 3 (some (.object "NeededLists$LazyList")) :: ([.classLink RX11 198 "java/lang/IndexOutOfBoundsException", .initialized "java/lang/IndexOutOfBoundsException", .fieldLink RX11 136 "NeededLists" "madeCount" "I", .fieldLink RX11 18 "NeededLists" "made" "[LNeededLists$LazyList;"] ++ wsX110 ++ (vx_atS RX11 202 "java/lang/IndexOutOfBoundsException" ["java/lang/RuntimeException", "java/lang/Exception"]).filter goodWord)
def wsX11_steps : List Cond := .code yX11_steps cX11_steps 3 (some .int) :: ([.classLink RX11 38 "java/lang/IllegalArgumentException", .initialized "java/lang/IllegalArgumentException", .fieldLink RX11 30 "NeededLists" "stepsOfAsk" "I"] ++ wsX110 ++ (vx_atS RX11 42 "java/lang/IllegalArgumentException" ["java/lang/RuntimeException", "java/lang/Exception"]).filter goodWord)
def wsX11_outcome : List Cond := .code yX11_outcome cX11_outcome 1 (some .int) :: ([.fieldLink RX11 182 "NeededLists" "latestOutcome" "I"] ++ wsX110)
def wsX11_error : List Cond := .code yX11_error cX11_error 1 (some .int) :: ([.fieldLink RX11 185 "NeededLists" "latestError" "I"] ++ wsX110)
def wsX11_spent : List Cond := .code yX11_spent cX11_spent 1 (some .int) :: ([.fieldLink RX11 12 "NeededLists" "meter" "LNeededLists$Meter;"] ++ wsX110 ++ wsX60)
def wsX11_lists : List Cond := .code yX11_lists cX11_lists 1 (some .int) :: ([.fieldLink RX11 136 "NeededLists" "madeCount" "I"] ++ wsX110)
def wsX12_init : List Cond := .code yX12_init cX12_init 1 none :: ([.methodLink RX12 1 objectInit, .instanceMethod objectInit, .code objectInit ⟨#[0xb1]⟩ 1 none, .arrayClass .int, .fieldLink RX12 7 "NeededListsModel" "sort" "[I", .fieldLink RX12 13 "NeededListsModel" "first" "[I", .fieldLink RX12 16 "NeededListsModel" "second" "[I", .fieldLink RX12 19 "NeededListsModel" "code" "[I", .arrayClass .long, .fieldLink RX12 22 "NeededListsModel" "number" "[J", .fieldLink RX12 26 "NeededListsModel" "other" "[J", .fieldLink RX12 29 "NeededListsModel" "cell" "[I", .fieldLink RX12 32 "NeededListsModel" "item" "[I", .fieldLink RX12 35 "NeededListsModel" "value" "[J", .fieldLink RX12 38 "NeededListsModel" "shareList" "[I", .fieldLink RX12 41 "NeededListsModel" "shareCell" "[I", .fieldLink RX12 44 "NeededListsModel" "rowItem" "[I", .fieldLink RX12 47 "NeededListsModel" "rowValue" "[J", .fieldLink RX12 50 "NeededListsModel" "purse" "I", .fieldLink RX12 54 "NeededListsModel" "givenItem" "[I", .fieldLink RX12 57 "NeededListsModel" "givenValue" "[J", .fieldLink RX12 60 "NeededListsModel" "pile" "[I"] ++ wsX120)
def wsX12_thrown : List Cond := .code yX12_thrown cX12_thrown 1 (some .int) :: ([.fieldLink RX12 63 "NeededListsModel" "thrown" "I"] ++ wsX120)
def wsX12_fail : List Cond := .code yX12_fail cX12_fail 2 (some .int) :: ([.fieldLink RX12 63 "NeededListsModel" "thrown" "I"] ++ wsX120)
def wsX12_isList : List Cond := .code yX12_isList cX12_isList 2 (some .boolean) :: ([.fieldLink RX12 66 "NeededListsModel" "lists" "I"] ++ wsX120)
def wsX12_made : List Cond := .code yX12_made cX12_made 9 (some .int) :: ([.fieldLink RX12 7 "NeededListsModel" "sort" "[I", .fieldLink RX12 66 "NeededListsModel" "lists" "I", .fieldLink RX12 13 "NeededListsModel" "first" "[I", .fieldLink RX12 16 "NeededListsModel" "second" "[I", .fieldLink RX12 19 "NeededListsModel" "code" "[I", .fieldLink RX12 22 "NeededListsModel" "number" "[J", .fieldLink RX12 26 "NeededListsModel" "other" "[J"] ++ wsX120)
def wsX12_put : List Cond := .code yX12_put cX12_put 3 (some .int) :: ([.fieldLink RX12 63 "NeededListsModel" "thrown" "I", .fieldLink RX12 69 "NeededListsModel" "many" "I", .fieldLink RX12 44 "NeededListsModel" "rowItem" "[I", .fieldLink RX12 47 "NeededListsModel" "rowValue" "[J", .methodLink RX12 72 yX12_fail, .instanceMethod yX12_fail, .selects RX12 yX12_fail yX12_fail, .initialized RX12, .code yX12_fail cX12_fail 2 (some .int)] ++ wsX120)
def wsX12_hole : List Cond := .code yX12_hole cX12_hole 2 (some .int) :: ([.fieldLink RX12 63 "NeededListsModel" "thrown" "I", .fieldLink RX12 69 "NeededListsModel" "many" "I", .fieldLink RX12 44 "NeededListsModel" "rowItem" "[I", .methodLink RX12 72 yX12_fail, .instanceMethod yX12_fail, .selects RX12 yX12_fail yX12_fail, .initialized RX12, .code yX12_fail cX12_fail 2 (some .int)] ++ wsX120)
def wsX12_given : List Cond := .code yX12_given cX12_given 3 (some .int) :: ([.fieldLink RX12 63 "NeededListsModel" "thrown" "I", .fieldLink RX12 66 "NeededListsModel" "lists" "I", .fieldLink RX12 69 "NeededListsModel" "many" "I", .fieldLink RX12 54 "NeededListsModel" "givenItem" "[I", .fieldLink RX12 44 "NeededListsModel" "rowItem" "[I", .fieldLink RX12 57 "NeededListsModel" "givenValue" "[J", .fieldLink RX12 47 "NeededListsModel" "rowValue" "[J", .methodLink RX12 72 yX12_fail, .instanceMethod yX12_fail, .selects RX12 yX12_fail yX12_fail, .initialized RX12, .code yX12_fail cX12_fail 2 (some .int), .methodLink RX12 76 yX12_made, .instanceMethod yX12_made, .selects RX12 yX12_made yX12_made, .code yX12_made cX12_made 9 (some .int), .fieldLink RX12 7 "NeededListsModel" "sort" "[I", .fieldLink RX12 13 "NeededListsModel" "first" "[I", .fieldLink RX12 16 "NeededListsModel" "second" "[I", .fieldLink RX12 19 "NeededListsModel" "code" "[I", .fieldLink RX12 22 "NeededListsModel" "number" "[J", .fieldLink RX12 26 "NeededListsModel" "other" "[J"] ++ wsX120)
def wsX12_count : List Cond := .code yX12_count cX12_count 5 (some .int) :: ([.fieldLink RX12 63 "NeededListsModel" "thrown" "I", .fieldLink RX12 66 "NeededListsModel" "lists" "I", .methodLink RX12 72 yX12_fail, .instanceMethod yX12_fail, .selects RX12 yX12_fail yX12_fail, .initialized RX12, .code yX12_fail cX12_fail 2 (some .int), .methodLink RX12 76 yX12_made, .instanceMethod yX12_made, .selects RX12 yX12_made yX12_made, .code yX12_made cX12_made 9 (some .int), .fieldLink RX12 7 "NeededListsModel" "sort" "[I", .fieldLink RX12 13 "NeededListsModel" "first" "[I", .fieldLink RX12 16 "NeededListsModel" "second" "[I", .fieldLink RX12 19 "NeededListsModel" "code" "[I", .fieldLink RX12 22 "NeededListsModel" "number" "[J", .fieldLink RX12 26 "NeededListsModel" "other" "[J"] ++ wsX120)
def wsX12_isOp : List Cond := .code yX12_isOp cX12_isOp 1 (some .boolean) :: ([])
def wsX12_iterate : List Cond := .code yX12_iterate cX12_iterate 6 (some .int) :: ([.fieldLink RX12 63 "NeededListsModel" "thrown" "I", .fieldLink RX12 66 "NeededListsModel" "lists" "I", .methodLink RX12 80 yX12_isOp, .static yX12_isOp, .initialized RX12, .code yX12_isOp cX12_isOp 1 (some .boolean), .methodLink RX12 72 yX12_fail, .instanceMethod yX12_fail, .selects RX12 yX12_fail yX12_fail, .code yX12_fail cX12_fail 2 (some .int), .methodLink RX12 76 yX12_made, .instanceMethod yX12_made, .selects RX12 yX12_made yX12_made, .code yX12_made cX12_made 9 (some .int), .fieldLink RX12 7 "NeededListsModel" "sort" "[I", .fieldLink RX12 13 "NeededListsModel" "first" "[I", .fieldLink RX12 16 "NeededListsModel" "second" "[I", .fieldLink RX12 19 "NeededListsModel" "code" "[I", .fieldLink RX12 22 "NeededListsModel" "number" "[J", .fieldLink RX12 26 "NeededListsModel" "other" "[J"] ++ wsX120)
def wsX12_map : List Cond := .code yX12_map cX12_map 5 (some .int) :: ([.fieldLink RX12 63 "NeededListsModel" "thrown" "I", .fieldLink RX12 66 "NeededListsModel" "lists" "I", .methodLink RX12 84 yX12_isList, .instanceMethod yX12_isList, .selects RX12 yX12_isList yX12_isList, .initialized RX12, .code yX12_isList cX12_isList 2 (some .boolean), .methodLink RX12 72 yX12_fail, .instanceMethod yX12_fail, .selects RX12 yX12_fail yX12_fail, .code yX12_fail cX12_fail 2 (some .int), .methodLink RX12 80 yX12_isOp, .static yX12_isOp, .code yX12_isOp cX12_isOp 1 (some .boolean), .methodLink RX12 76 yX12_made, .instanceMethod yX12_made, .selects RX12 yX12_made yX12_made, .code yX12_made cX12_made 9 (some .int), .fieldLink RX12 7 "NeededListsModel" "sort" "[I", .fieldLink RX12 13 "NeededListsModel" "first" "[I", .fieldLink RX12 16 "NeededListsModel" "second" "[I", .fieldLink RX12 19 "NeededListsModel" "code" "[I", .fieldLink RX12 22 "NeededListsModel" "number" "[J", .fieldLink RX12 26 "NeededListsModel" "other" "[J"] ++ wsX120)
def wsX12_both : List Cond := .code yX12_both cX12_both 4 (some .int) :: ([.fieldLink RX12 63 "NeededListsModel" "thrown" "I", .fieldLink RX12 66 "NeededListsModel" "lists" "I", .methodLink RX12 84 yX12_isList, .instanceMethod yX12_isList, .selects RX12 yX12_isList yX12_isList, .initialized RX12, .code yX12_isList cX12_isList 2 (some .boolean), .methodLink RX12 72 yX12_fail, .instanceMethod yX12_fail, .selects RX12 yX12_fail yX12_fail, .code yX12_fail cX12_fail 2 (some .int), .methodLink RX12 80 yX12_isOp, .static yX12_isOp, .code yX12_isOp cX12_isOp 1 (some .boolean), .methodLink RX12 76 yX12_made, .instanceMethod yX12_made, .selects RX12 yX12_made yX12_made, .code yX12_made cX12_made 9 (some .int), .fieldLink RX12 7 "NeededListsModel" "sort" "[I", .fieldLink RX12 13 "NeededListsModel" "first" "[I", .fieldLink RX12 16 "NeededListsModel" "second" "[I", .fieldLink RX12 19 "NeededListsModel" "code" "[I", .fieldLink RX12 22 "NeededListsModel" "number" "[J", .fieldLink RX12 26 "NeededListsModel" "other" "[J"] ++ wsX120)
def wsX12_scan : List Cond := .code yX12_scan cX12_scan 5 (some .int) :: ([.fieldLink RX12 63 "NeededListsModel" "thrown" "I", .fieldLink RX12 66 "NeededListsModel" "lists" "I", .methodLink RX12 84 yX12_isList, .instanceMethod yX12_isList, .selects RX12 yX12_isList yX12_isList, .initialized RX12, .code yX12_isList cX12_isList 2 (some .boolean), .methodLink RX12 72 yX12_fail, .instanceMethod yX12_fail, .selects RX12 yX12_fail yX12_fail, .code yX12_fail cX12_fail 2 (some .int), .methodLink RX12 80 yX12_isOp, .static yX12_isOp, .code yX12_isOp cX12_isOp 1 (some .boolean), .methodLink RX12 76 yX12_made, .instanceMethod yX12_made, .selects RX12 yX12_made yX12_made, .code yX12_made cX12_made 9 (some .int), .fieldLink RX12 7 "NeededListsModel" "sort" "[I", .fieldLink RX12 13 "NeededListsModel" "first" "[I", .fieldLink RX12 16 "NeededListsModel" "second" "[I", .fieldLink RX12 19 "NeededListsModel" "code" "[I", .fieldLink RX12 22 "NeededListsModel" "number" "[J", .fieldLink RX12 26 "NeededListsModel" "other" "[J"] ++ wsX120)
def wsX12_some : List Cond := .code yX12_some cX12_some 4 (some .int) :: ([.fieldLink RX12 66 "NeededListsModel" "lists" "I", .methodLink RX12 84 yX12_isList, .instanceMethod yX12_isList, .selects RX12 yX12_isList yX12_isList, .initialized RX12, .code yX12_isList cX12_isList 2 (some .boolean), .methodLink RX12 72 yX12_fail, .instanceMethod yX12_fail, .selects RX12 yX12_fail yX12_fail, .code yX12_fail cX12_fail 2 (some .int), .fieldLink RX12 63 "NeededListsModel" "thrown" "I", .methodLink RX12 76 yX12_made, .instanceMethod yX12_made, .selects RX12 yX12_made yX12_made, .code yX12_made cX12_made 9 (some .int), .fieldLink RX12 7 "NeededListsModel" "sort" "[I", .fieldLink RX12 13 "NeededListsModel" "first" "[I", .fieldLink RX12 16 "NeededListsModel" "second" "[I", .fieldLink RX12 19 "NeededListsModel" "code" "[I", .fieldLink RX12 22 "NeededListsModel" "number" "[J", .fieldLink RX12 26 "NeededListsModel" "other" "[J"] ++ wsX120)
def wsX12_take_r1 : List Cond := [Cond.fieldLink RX12 63 "NeededListsModel" "thrown" "I", Cond.methodLink RX12 87 yX12_some, Cond.instanceMethod yX12_some, Cond.selects RX12 yX12_some yX12_some, Cond.initialized RX12, Cond.code yX12_some cX12_some 4 (some .int), Cond.fieldLink RX12 66 "NeededListsModel" "lists" "I", Cond.methodLink RX12 84 yX12_isList, Cond.instanceMethod yX12_isList, Cond.selects RX12 yX12_isList yX12_isList, Cond.code yX12_isList cX12_isList 2 (some .boolean), Cond.methodLink RX12 72 yX12_fail, Cond.instanceMethod yX12_fail, Cond.selects RX12 yX12_fail yX12_fail, Cond.code yX12_fail cX12_fail 2 (some .int), Cond.methodLink RX12 76 yX12_made, Cond.instanceMethod yX12_made, Cond.selects RX12 yX12_made yX12_made, Cond.code yX12_made cX12_made 9 (some .int), Cond.fieldLink RX12 7 "NeededListsModel" "sort" "[I", Cond.fieldLink RX12 13 "NeededListsModel" "first" "[I", Cond.fieldLink RX12 16 "NeededListsModel" "second" "[I", Cond.fieldLink RX12 19 "NeededListsModel" "code" "[I", Cond.fieldLink RX12 22 "NeededListsModel" "number" "[J"]
def wsX12_take_r2 : List Cond := [Cond.fieldLink RX12 26 "NeededListsModel" "other" "[J"]
def wsX12_take : List Cond := .code yX12_take cX12_take 3 (some .int) :: ((wsX12_take_r1 ++ wsX12_take_r2) ++ wsX120)
def wsX12_drop_r1 : List Cond := [Cond.fieldLink RX12 63 "NeededListsModel" "thrown" "I", Cond.methodLink RX12 87 yX12_some, Cond.instanceMethod yX12_some, Cond.selects RX12 yX12_some yX12_some, Cond.initialized RX12, Cond.code yX12_some cX12_some 4 (some .int), Cond.fieldLink RX12 66 "NeededListsModel" "lists" "I", Cond.methodLink RX12 84 yX12_isList, Cond.instanceMethod yX12_isList, Cond.selects RX12 yX12_isList yX12_isList, Cond.code yX12_isList cX12_isList 2 (some .boolean), Cond.methodLink RX12 72 yX12_fail, Cond.instanceMethod yX12_fail, Cond.selects RX12 yX12_fail yX12_fail, Cond.code yX12_fail cX12_fail 2 (some .int), Cond.methodLink RX12 76 yX12_made, Cond.instanceMethod yX12_made, Cond.selects RX12 yX12_made yX12_made, Cond.code yX12_made cX12_made 9 (some .int), Cond.fieldLink RX12 7 "NeededListsModel" "sort" "[I", Cond.fieldLink RX12 13 "NeededListsModel" "first" "[I", Cond.fieldLink RX12 16 "NeededListsModel" "second" "[I", Cond.fieldLink RX12 19 "NeededListsModel" "code" "[I", Cond.fieldLink RX12 22 "NeededListsModel" "number" "[J"]
def wsX12_drop_r2 : List Cond := [Cond.fieldLink RX12 26 "NeededListsModel" "other" "[J"]
def wsX12_drop : List Cond := .code yX12_drop cX12_drop 3 (some .int) :: ((wsX12_drop_r1 ++ wsX12_drop_r2) ++ wsX120)
def wsX12_by : List Cond := .code yX12_by cX12_by 6 (some .int) :: ([.fieldLink RX12 66 "NeededListsModel" "lists" "I", .methodLink RX12 84 yX12_isList, .instanceMethod yX12_isList, .selects RX12 yX12_isList yX12_isList, .initialized RX12, .code yX12_isList cX12_isList 2 (some .boolean), .methodLink RX12 72 yX12_fail, .instanceMethod yX12_fail, .selects RX12 yX12_fail yX12_fail, .code yX12_fail cX12_fail 2 (some .int), .fieldLink RX12 63 "NeededListsModel" "thrown" "I", .methodLink RX12 91 yX12_isCond, .static yX12_isCond, .code yX12_isCond cX12_isCond 1 (some .boolean), .methodLink RX12 76 yX12_made, .instanceMethod yX12_made, .selects RX12 yX12_made yX12_made, .code yX12_made cX12_made 9 (some .int), .fieldLink RX12 7 "NeededListsModel" "sort" "[I", .fieldLink RX12 13 "NeededListsModel" "first" "[I", .fieldLink RX12 16 "NeededListsModel" "second" "[I", .fieldLink RX12 19 "NeededListsModel" "code" "[I", .fieldLink RX12 22 "NeededListsModel" "number" "[J", .fieldLink RX12 26 "NeededListsModel" "other" "[J"] ++ wsX120)
def wsX12_keep_r1 : List Cond := [Cond.fieldLink RX12 63 "NeededListsModel" "thrown" "I", Cond.methodLink RX12 94 yX12_by, Cond.instanceMethod yX12_by, Cond.selects RX12 yX12_by yX12_by, Cond.initialized RX12, Cond.code yX12_by cX12_by 6 (some .int), Cond.fieldLink RX12 66 "NeededListsModel" "lists" "I", Cond.methodLink RX12 84 yX12_isList, Cond.instanceMethod yX12_isList, Cond.selects RX12 yX12_isList yX12_isList, Cond.code yX12_isList cX12_isList 2 (some .boolean), Cond.methodLink RX12 72 yX12_fail, Cond.instanceMethod yX12_fail, Cond.selects RX12 yX12_fail yX12_fail, Cond.code yX12_fail cX12_fail 2 (some .int), Cond.methodLink RX12 91 yX12_isCond, Cond.static yX12_isCond, Cond.code yX12_isCond cX12_isCond 1 (some .boolean), Cond.methodLink RX12 76 yX12_made, Cond.instanceMethod yX12_made, Cond.selects RX12 yX12_made yX12_made, Cond.code yX12_made cX12_made 9 (some .int), Cond.fieldLink RX12 7 "NeededListsModel" "sort" "[I", Cond.fieldLink RX12 13 "NeededListsModel" "first" "[I"]
def wsX12_keep_r2 : List Cond := [Cond.fieldLink RX12 16 "NeededListsModel" "second" "[I", Cond.fieldLink RX12 19 "NeededListsModel" "code" "[I", Cond.fieldLink RX12 22 "NeededListsModel" "number" "[J", Cond.fieldLink RX12 26 "NeededListsModel" "other" "[J"]
def wsX12_keep : List Cond := .code yX12_keep cX12_keep 5 (some .int) :: ((wsX12_keep_r1 ++ wsX12_keep_r2) ++ wsX120)
def wsX12_during_r1 : List Cond := [Cond.fieldLink RX12 63 "NeededListsModel" "thrown" "I", Cond.methodLink RX12 94 yX12_by, Cond.instanceMethod yX12_by, Cond.selects RX12 yX12_by yX12_by, Cond.initialized RX12, Cond.code yX12_by cX12_by 6 (some .int), Cond.fieldLink RX12 66 "NeededListsModel" "lists" "I", Cond.methodLink RX12 84 yX12_isList, Cond.instanceMethod yX12_isList, Cond.selects RX12 yX12_isList yX12_isList, Cond.code yX12_isList cX12_isList 2 (some .boolean), Cond.methodLink RX12 72 yX12_fail, Cond.instanceMethod yX12_fail, Cond.selects RX12 yX12_fail yX12_fail, Cond.code yX12_fail cX12_fail 2 (some .int), Cond.methodLink RX12 91 yX12_isCond, Cond.static yX12_isCond, Cond.code yX12_isCond cX12_isCond 1 (some .boolean), Cond.methodLink RX12 76 yX12_made, Cond.instanceMethod yX12_made, Cond.selects RX12 yX12_made yX12_made, Cond.code yX12_made cX12_made 9 (some .int), Cond.fieldLink RX12 7 "NeededListsModel" "sort" "[I", Cond.fieldLink RX12 13 "NeededListsModel" "first" "[I"]
def wsX12_during_r2 : List Cond := [Cond.fieldLink RX12 16 "NeededListsModel" "second" "[I", Cond.fieldLink RX12 19 "NeededListsModel" "code" "[I", Cond.fieldLink RX12 22 "NeededListsModel" "number" "[J", Cond.fieldLink RX12 26 "NeededListsModel" "other" "[J"]
def wsX12_during : List Cond := .code yX12_during cX12_during 5 (some .int) :: ((wsX12_during_r1 ++ wsX12_during_r2) ++ wsX120)
def wsX12_after_r1 : List Cond := [Cond.fieldLink RX12 63 "NeededListsModel" "thrown" "I", Cond.methodLink RX12 94 yX12_by, Cond.instanceMethod yX12_by, Cond.selects RX12 yX12_by yX12_by, Cond.initialized RX12, Cond.code yX12_by cX12_by 6 (some .int), Cond.fieldLink RX12 66 "NeededListsModel" "lists" "I", Cond.methodLink RX12 84 yX12_isList, Cond.instanceMethod yX12_isList, Cond.selects RX12 yX12_isList yX12_isList, Cond.code yX12_isList cX12_isList 2 (some .boolean), Cond.methodLink RX12 72 yX12_fail, Cond.instanceMethod yX12_fail, Cond.selects RX12 yX12_fail yX12_fail, Cond.code yX12_fail cX12_fail 2 (some .int), Cond.methodLink RX12 91 yX12_isCond, Cond.static yX12_isCond, Cond.code yX12_isCond cX12_isCond 1 (some .boolean), Cond.methodLink RX12 76 yX12_made, Cond.instanceMethod yX12_made, Cond.selects RX12 yX12_made yX12_made, Cond.code yX12_made cX12_made 9 (some .int), Cond.fieldLink RX12 7 "NeededListsModel" "sort" "[I", Cond.fieldLink RX12 13 "NeededListsModel" "first" "[I"]
def wsX12_after_r2 : List Cond := [Cond.fieldLink RX12 16 "NeededListsModel" "second" "[I", Cond.fieldLink RX12 19 "NeededListsModel" "code" "[I", Cond.fieldLink RX12 22 "NeededListsModel" "number" "[J", Cond.fieldLink RX12 26 "NeededListsModel" "other" "[J"]
def wsX12_after : List Cond := .code yX12_after cX12_after 5 (some .int) :: ((wsX12_after_r1 ++ wsX12_after_r2) ++ wsX120)
def wsX12_join : List Cond := .code yX12_join cX12_join 3 (some .int) :: ([.fieldLink RX12 63 "NeededListsModel" "thrown" "I", .fieldLink RX12 66 "NeededListsModel" "lists" "I", .methodLink RX12 84 yX12_isList, .instanceMethod yX12_isList, .selects RX12 yX12_isList yX12_isList, .initialized RX12, .code yX12_isList cX12_isList 2 (some .boolean), .methodLink RX12 72 yX12_fail, .instanceMethod yX12_fail, .selects RX12 yX12_fail yX12_fail, .code yX12_fail cX12_fail 2 (some .int), .methodLink RX12 76 yX12_made, .instanceMethod yX12_made, .selects RX12 yX12_made yX12_made, .code yX12_made cX12_made 9 (some .int), .fieldLink RX12 7 "NeededListsModel" "sort" "[I", .fieldLink RX12 13 "NeededListsModel" "first" "[I", .fieldLink RX12 16 "NeededListsModel" "second" "[I", .fieldLink RX12 19 "NeededListsModel" "code" "[I", .fieldLink RX12 22 "NeededListsModel" "number" "[J", .fieldLink RX12 26 "NeededListsModel" "other" "[J"] ++ wsX120)
def wsX12_other : List Cond := .code yX12_other cX12_other 3 (some .int) :: ([.fieldLink RX12 63 "NeededListsModel" "thrown" "I", .fieldLink RX12 66 "NeededListsModel" "lists" "I", .methodLink RX12 84 yX12_isList, .instanceMethod yX12_isList, .selects RX12 yX12_isList yX12_isList, .initialized RX12, .code yX12_isList cX12_isList 2 (some .boolean), .methodLink RX12 72 yX12_fail, .instanceMethod yX12_fail, .selects RX12 yX12_fail yX12_fail, .code yX12_fail cX12_fail 2 (some .int), .methodLink RX12 76 yX12_made, .instanceMethod yX12_made, .selects RX12 yX12_made yX12_made, .code yX12_made cX12_made 9 (some .int), .fieldLink RX12 7 "NeededListsModel" "sort" "[I", .fieldLink RX12 13 "NeededListsModel" "first" "[I", .fieldLink RX12 16 "NeededListsModel" "second" "[I", .fieldLink RX12 19 "NeededListsModel" "code" "[I", .fieldLink RX12 22 "NeededListsModel" "number" "[J", .fieldLink RX12 26 "NeededListsModel" "other" "[J"] ++ wsX120)
def wsX12_steps : List Cond := .code yX12_steps cX12_steps 3 (some .int) :: ([.fieldLink RX12 63 "NeededListsModel" "thrown" "I", .fieldLink RX12 50 "NeededListsModel" "purse" "I", .methodLink RX12 72 yX12_fail, .instanceMethod yX12_fail, .selects RX12 yX12_fail yX12_fail, .initialized RX12, .code yX12_fail cX12_fail 2 (some .int)] ++ wsX120)
def wsX12_outcome : List Cond := .code yX12_outcome cX12_outcome 1 (some .int) :: ([.fieldLink RX12 63 "NeededListsModel" "thrown" "I", .fieldLink RX12 203 "NeededListsModel" "outcome" "I"] ++ wsX120)
def wsX12_error : List Cond := .code yX12_error cX12_error 1 (some .int) :: ([.fieldLink RX12 63 "NeededListsModel" "thrown" "I", .fieldLink RX12 206 "NeededListsModel" "error" "I"] ++ wsX120)
def wsX12_spent : List Cond := .code yX12_spent cX12_spent 1 (some .int) :: ([.fieldLink RX12 63 "NeededListsModel" "thrown" "I", .fieldLink RX12 200 "NeededListsModel" "spent" "I"] ++ wsX120)
def wsX12_lists : List Cond := .code yX12_lists cX12_lists 1 (some .int) :: ([.fieldLink RX12 63 "NeededListsModel" "thrown" "I", .fieldLink RX12 66 "NeededListsModel" "lists" "I"] ++ wsX120)
def wsL_put : List Cond := .codeWith yL_put cL_put 5 (some .int) [(0, 9, 12, 13)] :: ([.classLink RL 13 "java/lang/UnsupportedOperationException", .methodLink RL 7 yX11_put, .instanceMethod yX11_put, .selects RX11 yX11_put yX11_put, .initialized RX11, .code yX11_put cX11_put 3 (some .int), .methodLink RX11 34 yX11_addToRow, .instanceMethod yX11_addToRow, .selects RX11 yX11_addToRow yX11_addToRow, .code yX11_addToRow cX11_addToRow 4 (some .int), .classLink RX11 48 "java/lang/UnsupportedOperationException", .initialized "java/lang/UnsupportedOperationException", .fieldLink RX11 45 "NeededLists" "rowLength" "I", .fieldLink RX11 22 "NeededLists" "rowNumbers" "[J", .fieldLink RX11 26 "NeededLists" "rowFates" "[B"] ++ wsX110 ++ (vx_atS RX11 52 "java/lang/UnsupportedOperationException" ["java/lang/RuntimeException", "java/lang/Exception"]).filter goodWord)
def wsL_hole : List Cond := .codeWith yL_hole cL_hole 4 (some .int) [(0, 9, 12, 19), (0, 9, 15, 13)] :: ([.classLink RL 19 "java/lang/IllegalArgumentException", .classLink RL 13 "java/lang/UnsupportedOperationException", .methodLink RL 15 yX11_hole, .instanceMethod yX11_hole, .selects RX11 yX11_hole yX11_hole, .initialized RX11, .code yX11_hole cX11_hole 2 (some .int), .classLink RX11 38 "java/lang/IllegalArgumentException", .initialized "java/lang/IllegalArgumentException", .methodLink RX11 34 yX11_addToRow, .instanceMethod yX11_addToRow, .selects RX11 yX11_addToRow yX11_addToRow, .code yX11_addToRow cX11_addToRow 4 (some .int), .classLink RX11 48 "java/lang/UnsupportedOperationException", .initialized "java/lang/UnsupportedOperationException", .fieldLink RX11 45 "NeededLists" "rowLength" "I", .fieldLink RX11 22 "NeededLists" "rowNumbers" "[J", .fieldLink RX11 26 "NeededLists" "rowFates" "[B"] ++ wsX110 ++ (vx_atS RX11 42 "java/lang/IllegalArgumentException" ["java/lang/RuntimeException", "java/lang/Exception"]).filter goodWord ++ (vx_atS RX11 52 "java/lang/UnsupportedOperationException" ["java/lang/RuntimeException", "java/lang/Exception"]).filter goodWord)
def wsL_given_r1 : List Cond := [Cond.classLink RL 13 "java/lang/UnsupportedOperationException", Cond.methodLink RL 21 yX11_given, Cond.instanceMethod yX11_given, Cond.selects RX11 yX11_given yX11_given, Cond.initialized RX11, Cond.code yX11_given cX11_given 4 (some .int), Cond.fieldLink RX11 22 "NeededLists" "rowNumbers" "[J", Cond.fieldLink RX11 45 "NeededLists" "rowLength" "I", Cond.fieldLink RX11 26 "NeededLists" "rowFates" "[B", Cond.classLink RX11 65 RX3, Cond.instantiable RX3 7, Cond.initialized RX3, Cond.fieldLink RX11 12 "NeededLists" "meter" "LNeededLists$Meter;", Cond.methodLink RX11 53 yX11_checkRoom, Cond.instanceMethod yX11_checkRoom, Cond.selects RX11 yX11_checkRoom yX11_checkRoom, Cond.code yX11_checkRoom cX11_checkRoom 1 none, Cond.classLink RX11 48 "java/lang/UnsupportedOperationException", Cond.initialized "java/lang/UnsupportedOperationException", Cond.fieldLink RX11 136 "NeededLists" "madeCount" "I", Cond.methodLink RX11 56 yJ7_copyOf_c38d5, Cond.static yJ7_copyOf_c38d5, Cond.initialized RJ7, Cond.code yJ7_copyOf_c38d5 cJ7_copyOf_c38d5 3 (some (.array .long))]
def wsL_given_r2 : List Cond := [Cond.methodLink RJ7 319 ⟨"[J", "clone", "()Ljava/lang/Object;"⟩, Cond.sameMethod "[J" "java/lang/Object" "clone" "()Ljava/lang/Object;", Cond.native ⟨"java/lang/Object", "clone", "()Ljava/lang/Object;"⟩, Cond.instanceMethod ⟨"java/lang/Object", "clone", "()Ljava/lang/Object;"⟩, Cond.selects "[J" ⟨"[J", "clone", "()Ljava/lang/Object;"⟩ ⟨"java/lang/Object", "clone", "()Ljava/lang/Object;"⟩, Cond.classLink RJ7 320 "[J", Cond.arrayClass .long, Cond.methodLink RJ7 304 Lib.Math.min.name, Cond.static Lib.Math.min.name, Cond.initialized "java/lang/Math", Cond.code Lib.Math.min.name Lib.Math.min.code 2 (some .int), Cond.methodLink RJ7 150 arraycopyName, Cond.native arraycopyName, Cond.static arraycopyName, Cond.initialized "java/lang/System", Cond.methodLink RX11 62 yJ7_copyOf_9075b, Cond.static yJ7_copyOf_9075b, Cond.code yJ7_copyOf_9075b cJ7_copyOf_9075b 3 (some (.array .byte)), Cond.methodLink RJ7 310 ⟨"[B", "clone", "()Ljava/lang/Object;"⟩, Cond.sameMethod "[B" "java/lang/Object" "clone" "()Ljava/lang/Object;", Cond.selects "[B" ⟨"[B", "clone", "()Ljava/lang/Object;"⟩ ⟨"java/lang/Object", "clone", "()Ljava/lang/Object;"⟩, Cond.classLink RJ7 311 "[B", Cond.arrayClass .byte, Cond.methodLink RX11 67 yX3_init]
def wsL_given_r3 : List Cond := [Cond.instanceMethod yX3_init, Cond.code yX3_init cX3_init 5 none, Cond.fieldLink RX3 9 "NeededLists$Given" "fates" "[B", Cond.fieldLink RX3 15 "NeededLists$Given" "behind" "I", Cond.methodLink RX3 3 yX5_init, Cond.instanceMethod yX5_init, Cond.initialized RX5, Cond.code yX5_init cX5_init 3 none, Cond.methodLink RX5 3 objectInit, Cond.instanceMethod objectInit, Cond.code objectInit ⟨#[0xb1]⟩ 1 none, Cond.fieldLink RX5 9 "NeededLists$LazyList" "meter" "LNeededLists$Meter;", Cond.fieldLink RX5 15 "NeededLists$LazyList" "numbers" "[J", Cond.fieldLink RX5 19 "NeededLists$LazyList" "marks" "[B", Cond.methodLink RX11 70 yX11_addList, Cond.instanceMethod yX11_addList, Cond.selects RX11 yX11_addList yX11_addList, Cond.code yX11_addList cX11_addList 3 (some .int), Cond.fieldLink RX11 18 "NeededLists" "made" "[LNeededLists$LazyList;"]
def wsL_given : List Cond := .codeWith yL_given cL_given 4 (some .int) [(0, 9, 12, 13)] :: ((wsL_given_r1 ++ (wsL_given_r2 ++ wsL_given_r3)) ++ wsX110 ++ wsX30 ++ wsX00 ++ wsX10 ++ wsX20 ++ wsX40 ++ wsX70 ++ wsX80 ++ wsX90 ++ wsX100 ++ (vx_atS RX11 52 "java/lang/UnsupportedOperationException" ["java/lang/RuntimeException", "java/lang/Exception"]).filter goodWord)
def wsL_count_r1 : List Cond := [Cond.classLink RL 13 "java/lang/UnsupportedOperationException", Cond.methodLink RL 25 yX11_count, Cond.instanceMethod yX11_count, Cond.selects RX11 yX11_count yX11_count, Cond.initialized RX11, Cond.code yX11_count cX11_count 7 (some .int), Cond.arrayClass .long, Cond.arrayClass .byte, Cond.classLink RX11 65 RX3, Cond.instantiable RX3 7, Cond.initialized RX3, Cond.fieldLink RX11 12 "NeededLists" "meter" "LNeededLists$Meter;", Cond.methodLink RX11 53 yX11_checkRoom, Cond.instanceMethod yX11_checkRoom, Cond.selects RX11 yX11_checkRoom yX11_checkRoom, Cond.code yX11_checkRoom cX11_checkRoom 1 none, Cond.classLink RX11 48 "java/lang/UnsupportedOperationException", Cond.initialized "java/lang/UnsupportedOperationException", Cond.fieldLink RX11 136 "NeededLists" "madeCount" "I", Cond.methodLink RX11 74 yJ7_fill_031fb, Cond.static yJ7_fill_031fb, Cond.initialized RJ7, Cond.code yJ7_fill_031fb cJ7_fill_031fb 4 none, Cond.methodLink RX11 67 yX3_init]
def wsL_count_r2 : List Cond := [Cond.instanceMethod yX3_init, Cond.code yX3_init cX3_init 5 none, Cond.fieldLink RX3 9 "NeededLists$Given" "fates" "[B", Cond.fieldLink RX3 15 "NeededLists$Given" "behind" "I", Cond.methodLink RX3 3 yX5_init, Cond.instanceMethod yX5_init, Cond.initialized RX5, Cond.code yX5_init cX5_init 3 none, Cond.methodLink RX5 3 objectInit, Cond.instanceMethod objectInit, Cond.code objectInit ⟨#[0xb1]⟩ 1 none, Cond.fieldLink RX5 9 "NeededLists$LazyList" "meter" "LNeededLists$Meter;", Cond.fieldLink RX5 15 "NeededLists$LazyList" "numbers" "[J", Cond.fieldLink RX5 19 "NeededLists$LazyList" "marks" "[B", Cond.methodLink RX11 70 yX11_addList, Cond.instanceMethod yX11_addList, Cond.selects RX11 yX11_addList yX11_addList, Cond.code yX11_addList cX11_addList 3 (some .int), Cond.fieldLink RX11 18 "NeededLists" "made" "[LNeededLists$LazyList;"]
def wsL_count : List Cond := .codeWith yL_count cL_count 7 (some .int) [(0, 11, 14, 13)] :: ((wsL_count_r1 ++ wsL_count_r2) ++ wsX30 ++ wsX110 ++ wsX00 ++ wsX10 ++ wsX20 ++ wsX40 ++ wsX70 ++ wsX80 ++ wsX90 ++ wsX100 ++ (vx_atS RX11 52 "java/lang/UnsupportedOperationException" ["java/lang/RuntimeException", "java/lang/Exception"]).filter goodWord)
def wsL_iterate_r1 : List Cond := [Cond.classLink RL 19 "java/lang/IllegalArgumentException", Cond.classLink RL 13 "java/lang/UnsupportedOperationException", Cond.methodLink RL 29 yX11_iterate, Cond.instanceMethod yX11_iterate, Cond.selects RX11 yX11_iterate yX11_iterate, Cond.initialized RX11, Cond.code yX11_iterate cX11_iterate 6 (some .int), Cond.classLink RX11 82 RX0, Cond.instantiable RX0 9, Cond.initialized RX0, Cond.fieldLink RX11 12 "NeededLists" "meter" "LNeededLists$Meter;", Cond.methodLink RX11 78 yX11_checkOp, Cond.static yX11_checkOp, Cond.code yX11_checkOp cX11_checkOp 1 none, Cond.classLink RX11 38 "java/lang/IllegalArgumentException", Cond.initialized "java/lang/IllegalArgumentException", Cond.methodLink RX11 53 yX11_checkRoom, Cond.instanceMethod yX11_checkRoom, Cond.selects RX11 yX11_checkRoom yX11_checkRoom, Cond.code yX11_checkRoom cX11_checkRoom 1 none, Cond.classLink RX11 48 "java/lang/UnsupportedOperationException", Cond.initialized "java/lang/UnsupportedOperationException", Cond.fieldLink RX11 136 "NeededLists" "madeCount" "I", Cond.methodLink RX11 84 yX0_init]
def wsL_iterate_r2 : List Cond := [Cond.instanceMethod yX0_init, Cond.code yX0_init cX0_init 8 none, Cond.arrayClass .long, Cond.fieldLink RX0 9 "NeededLists$Chained" "of" "LNeededLists$LazyList;", Cond.fieldLink RX0 15 "NeededLists$Chained" "op" "I", Cond.fieldLink RX0 19 "NeededLists$Chained" "c" "J", Cond.fieldLink RX0 23 "NeededLists$Chained" "start" "J", Cond.methodLink RX0 3 yX5_init, Cond.instanceMethod yX5_init, Cond.initialized RX5, Cond.code yX5_init cX5_init 3 none, Cond.methodLink RX5 3 objectInit, Cond.instanceMethod objectInit, Cond.code objectInit ⟨#[0xb1]⟩ 1 none, Cond.fieldLink RX5 9 "NeededLists$LazyList" "meter" "LNeededLists$Meter;", Cond.fieldLink RX5 15 "NeededLists$LazyList" "numbers" "[J", Cond.arrayClass .byte, Cond.fieldLink RX5 19 "NeededLists$LazyList" "marks" "[B", Cond.methodLink RX11 70 yX11_addList, Cond.instanceMethod yX11_addList, Cond.selects RX11 yX11_addList yX11_addList, Cond.code yX11_addList cX11_addList 3 (some .int), Cond.fieldLink RX11 18 "NeededLists" "made" "[LNeededLists$LazyList;"]
def wsL_iterate : List Cond := .codeWith yL_iterate cL_iterate 8 (some .int) [(0, 13, 16, 19), (0, 13, 20, 13)] :: ((wsL_iterate_r1 ++ wsL_iterate_r2) ++ wsX00 ++ wsX110 ++ wsX10 ++ wsX20 ++ wsX30 ++ wsX40 ++ wsX70 ++ wsX80 ++ wsX90 ++ wsX100 ++ (vx_atS RX11 42 "java/lang/IllegalArgumentException" ["java/lang/RuntimeException", "java/lang/Exception"]).filter goodWord ++ (vx_atS RX11 52 "java/lang/UnsupportedOperationException" ["java/lang/RuntimeException", "java/lang/Exception"]).filter goodWord)
def wsL_steps : List Cond := .codeWith yL_steps cL_steps 4 (some .int) [(0, 9, 12, 19)] :: ([.classLink RL 19 "java/lang/IllegalArgumentException", .methodLink RL 68 yX11_steps, .instanceMethod yX11_steps, .selects RX11 yX11_steps yX11_steps, .initialized RX11, .code yX11_steps cX11_steps 3 (some .int), .classLink RX11 38 "java/lang/IllegalArgumentException", .initialized "java/lang/IllegalArgumentException", .fieldLink RX11 30 "NeededLists" "stepsOfAsk" "I"] ++ wsX110 ++ (vx_atS RX11 42 "java/lang/IllegalArgumentException" ["java/lang/RuntimeException", "java/lang/Exception"]).filter goodWord)
set_option maxRecDepth 20000 in
theorem ggX0_init_X5_init : GoodIn wsX0_init wsX5_init := goodIn_r _ [9, 10, 11, 12, 13, 14, 15, 16, 17, 18, 19, 20, 21, 22, 23, 24, 25, 26, 27, 28, 29, 30, 31, 32, 33, 34, 35, 36, 37, 38, 39, 40, 41, 42, 43, 44, 45, 46, 47, 48, 49, 50, 51, 52, 53, 54, 55, 56, 57, 58, 59, 60, 61, 62, 63, 64, 65, 66, 67, 68, 69, 70, 71, 72, 73, 74, 75, 76, 77, 78, 79, 80, 81, 82, 83, 84, 85, 86, 87, 88, 89, 90] (by decide +kernel) (by decide +kernel)
set_option maxRecDepth 20000 in
theorem gX0_init_X5_init : GoodIn wsX0_init (wsX5_init) := ggX0_init_X5_init
theorem dX0_init_0 : decode cX0_init 0 = .ok (.aload_n 0, 1) := by decide +kernel
theorem dX0_init_1 : decode cX0_init 1 = .ok (.aload_n 1, 1) := by decide +kernel
theorem dX0_init_2 : decode cX0_init 2 = .ok (.sipush 400, 3) := by decide +kernel
theorem dX0_init_5 : decode cX0_init 5 = .ok (.newarray .long, 2) := by decide +kernel
theorem dX0_init_7 : decode cX0_init 7 = .ok (.invokespecial 3, 3) := by decide +kernel
theorem dX0_init_10 : decode cX0_init 10 = .ok (.aload_n 0, 1) := by decide +kernel
theorem dX0_init_11 : decode cX0_init 11 = .ok (.aload_n 2, 1) := by decide +kernel
theorem dX0_init_12 : decode cX0_init 12 = .ok (.putfield 9, 3) := by decide +kernel
theorem dX0_init_15 : decode cX0_init 15 = .ok (.aload_n 0, 1) := by decide +kernel
theorem dX0_init_16 : decode cX0_init 16 = .ok (.iload_n 3, 1) := by decide +kernel
theorem dX0_init_17 : decode cX0_init 17 = .ok (.putfield 15, 3) := by decide +kernel
theorem dX0_init_20 : decode cX0_init 20 = .ok (.aload_n 0, 1) := by decide +kernel
theorem dX0_init_21 : decode cX0_init 21 = .ok (.lload 4, 2) := by decide +kernel
theorem dX0_init_23 : decode cX0_init 23 = .ok (.putfield 19, 3) := by decide +kernel
theorem dX0_init_26 : decode cX0_init 26 = .ok (.aload_n 0, 1) := by decide +kernel
theorem dX0_init_27 : decode cX0_init 27 = .ok (.lload 6, 2) := by decide +kernel
theorem dX0_init_29 : decode cX0_init 29 = .ok (.putfield 23, 3) := by decide +kernel
theorem dX0_init_32 : decode cX0_init 32 = .ok (.return_, 1) := by decide +kernel
set_option maxRecDepth 20000 in
theorem ggX3_init_X5_init : GoodIn wsX3_init wsX5_init := goodIn_r _ [6, 7, 8, 9, 10, 11, 12, 13, 21, 22, 23, 24, 25, 26, 27, 28, 29, 30, 31, 32, 33, 34, 35, 36, 37, 38, 39, 40, 41, 42, 43, 44, 45, 46, 47, 14, 15, 16, 17, 18, 19, 20, 48, 49, 50, 51, 52, 53, 54, 55, 56, 57, 58, 59, 60, 61, 62, 63, 64, 65, 66, 67, 68, 69, 70, 71, 72, 73, 74, 75, 76, 77, 78, 79, 80, 81, 82, 83, 84, 85, 86, 87] (by decide +kernel) (by decide +kernel)
set_option maxRecDepth 20000 in
theorem gX3_init_X5_init : GoodIn wsX3_init (wsX5_init) := ggX3_init_X5_init
theorem dX3_init_0 : decode cX3_init 0 = .ok (.aload_n 0, 1) := by decide +kernel
theorem dX3_init_1 : decode cX3_init 1 = .ok (.aload_n 1, 1) := by decide +kernel
theorem dX3_init_2 : decode cX3_init 2 = .ok (.aload_n 2, 1) := by decide +kernel
theorem dX3_init_3 : decode cX3_init 3 = .ok (.invokespecial 3, 3) := by decide +kernel
theorem dX3_init_6 : decode cX3_init 6 = .ok (.aload_n 0, 1) := by decide +kernel
theorem dX3_init_7 : decode cX3_init 7 = .ok (.aload_n 3, 1) := by decide +kernel
theorem dX3_init_8 : decode cX3_init 8 = .ok (.putfield 9, 3) := by decide +kernel
theorem dX3_init_11 : decode cX3_init 11 = .ok (.aload_n 0, 1) := by decide +kernel
theorem dX3_init_12 : decode cX3_init 12 = .ok (.iload 4, 2) := by decide +kernel
theorem dX3_init_14 : decode cX3_init 14 = .ok (.putfield 15, 3) := by decide +kernel
theorem dX3_init_17 : decode cX3_init 17 = .ok (.return_, 1) := by decide +kernel
theorem dX5_init_0 : decode cX5_init 0 = .ok (.aload_n 0, 1) := by decide +kernel
theorem dX5_init_1 : decode cX5_init 1 = .ok (.invokespecial 3, 3) := by decide +kernel
theorem dX5_init_4 : decode cX5_init 4 = .ok (.aload_n 0, 1) := by decide +kernel
theorem dX5_init_5 : decode cX5_init 5 = .ok (.aload_n 1, 1) := by decide +kernel
theorem dX5_init_6 : decode cX5_init 6 = .ok (.putfield 9, 3) := by decide +kernel
theorem dX5_init_9 : decode cX5_init 9 = .ok (.aload_n 0, 1) := by decide +kernel
theorem dX5_init_10 : decode cX5_init 10 = .ok (.aload_n 2, 1) := by decide +kernel
theorem dX5_init_11 : decode cX5_init 11 = .ok (.putfield 15, 3) := by decide +kernel
theorem dX5_init_14 : decode cX5_init 14 = .ok (.aload_n 0, 1) := by decide +kernel
theorem dX5_init_15 : decode cX5_init 15 = .ok (.aload_n 2, 1) := by decide +kernel
theorem dX5_init_16 : decode cX5_init 16 = .ok (.arraylength, 1) := by decide +kernel
theorem dX5_init_17 : decode cX5_init 17 = .ok (.newarray .byte, 2) := by decide +kernel
theorem dX5_init_19 : decode cX5_init 19 = .ok (.putfield 19, 3) := by decide +kernel
theorem dX5_init_22 : decode cX5_init 22 = .ok (.return_, 1) := by decide +kernel
theorem dX6_init_0 : decode cX6_init 0 = .ok (.aload_n 0, 1) := by decide +kernel
theorem dX6_init_1 : decode cX6_init 1 = .ok (.invokespecial 1, 3) := by decide +kernel
theorem dX6_init_4 : decode cX6_init 4 = .ok (.return_, 1) := by decide +kernel
set_option maxRecDepth 20000 in
theorem ggX11_init_X6_init : GoodIn wsX11_init wsX6_init := goodIn_r _ [16, 17, 2, 3] (by decide +kernel) (by decide +kernel)
theorem dX11_init_0 : decode cX11_init 0 = .ok (.aload_n 0, 1) := by decide +kernel
theorem dX11_init_1 : decode cX11_init 1 = .ok (.invokespecial 3, 3) := by decide +kernel
theorem dX11_init_4 : decode cX11_init 4 = .ok (.aload_n 0, 1) := by decide +kernel
theorem dX11_init_5 : decode cX11_init 5 = .ok (.new 9, 3) := by decide +kernel
theorem dX11_init_8 : decode cX11_init 8 = .ok (.dup, 1) := by decide +kernel
theorem dX11_init_9 : decode cX11_init 9 = .ok (.invokespecial 11, 3) := by decide +kernel
theorem dX11_init_12 : decode cX11_init 12 = .ok (.putfield 12, 3) := by decide +kernel
theorem dX11_init_15 : decode cX11_init 15 = .ok (.aload_n 0, 1) := by decide +kernel
theorem dX11_init_16 : decode cX11_init 16 = .ok (.bipush 24, 2) := by decide +kernel
theorem dX11_init_18 : decode cX11_init 18 = .ok (.anewarray 16, 3) := by decide +kernel
theorem dX11_init_21 : decode cX11_init 21 = .ok (.putfield 18, 3) := by decide +kernel
theorem dX11_init_24 : decode cX11_init 24 = .ok (.aload_n 0, 1) := by decide +kernel
theorem dX11_init_25 : decode cX11_init 25 = .ok (.bipush 100, 2) := by decide +kernel
theorem dX11_init_27 : decode cX11_init 27 = .ok (.newarray .long, 2) := by decide +kernel
theorem dX11_init_29 : decode cX11_init 29 = .ok (.putfield 22, 3) := by decide +kernel
theorem dX11_init_32 : decode cX11_init 32 = .ok (.aload_n 0, 1) := by decide +kernel
theorem dX11_init_33 : decode cX11_init 33 = .ok (.bipush 100, 2) := by decide +kernel
theorem dX11_init_35 : decode cX11_init 35 = .ok (.newarray .byte, 2) := by decide +kernel
theorem dX11_init_37 : decode cX11_init 37 = .ok (.putfield 26, 3) := by decide +kernel
theorem dX11_init_40 : decode cX11_init 40 = .ok (.aload_n 0, 1) := by decide +kernel
theorem dX11_init_41 : decode cX11_init 41 = .ok (.sipush 1000, 3) := by decide +kernel
theorem dX11_init_44 : decode cX11_init 44 = .ok (.putfield 30, 3) := by decide +kernel
theorem dX11_init_47 : decode cX11_init 47 = .ok (.return_, 1) := by decide +kernel
set_option maxRecDepth 20000 in
theorem ggX11_put_X11_addToRow : GoodIn wsX11_put wsX11_addToRow := goodIn_ca (goodIn_r _ [5, 6, 7, 8, 9, 10, 11, 12, 13, 14, 15, 16, 17, 18, 19] (by decide +kernel) (by decide +kernel)) (goodIn_sub (fun _ h => List.mem_cons_of_mem _ (List.mem_append_right _ h)) (by decide +kernel))
set_option maxRecDepth 20000 in
theorem gX11_put_X11_addToRow : GoodIn wsX11_put (wsV RX11 34 RX11 yX11_addToRow wsX11_addToRow) := goodIn_app (goodIn_of _ (by decide +kernel)) ggX11_put_X11_addToRow
theorem dX11_put_0 : decode cX11_put 0 = .ok (.aload_n 0, 1) := by decide +kernel
theorem dX11_put_1 : decode cX11_put 1 = .ok (.lload_n 1, 1) := by decide +kernel
theorem dX11_put_2 : decode cX11_put 2 = .ok (.iconst 1, 1) := by decide +kernel
theorem dX11_put_3 : decode cX11_put 3 = .ok (.invokevirtual 34, 3) := by decide +kernel
theorem dX11_put_6 : decode cX11_put 6 = .ok (.ireturn, 1) := by decide +kernel
set_option maxRecDepth 20000 in
theorem ggX11_hole_X11_addToRow : GoodIn wsX11_hole wsX11_addToRow := goodIn_ca (goodIn_r _ [7, 8, 9, 10, 11, 12, 13, 14, 15, 16, 17, 18, 19, 20, 21] (by decide +kernel) (by decide +kernel)) (goodIn_sub (fun _ h => List.mem_cons_of_mem _ (List.mem_append_right _ h)) (by decide +kernel))
set_option maxRecDepth 20000 in
theorem gX11_hole_X11_addToRow : GoodIn wsX11_hole (wsV RX11 34 RX11 yX11_addToRow wsX11_addToRow) := goodIn_app (goodIn_of _ (by decide +kernel)) ggX11_hole_X11_addToRow
theorem dX11_hole_0 : decode cX11_hole 0 = .ok (.iload_n 1, 1) := by decide +kernel
theorem dX11_hole_1 : decode cX11_hole 1 = .ok (.ifCond .eq 18, 3) := by decide +kernel
theorem dX11_hole_4 : decode cX11_hole 4 = .ok (.iload_n 1, 1) := by decide +kernel
theorem dX11_hole_5 : decode cX11_hole 5 = .ok (.iconst 1, 1) := by decide +kernel
theorem dX11_hole_6 : decode cX11_hole 6 = .ok (.if_icmp .eq 13, 3) := by decide +kernel
theorem dX11_hole_9 : decode cX11_hole 9 = .ok (.new 38, 3) := by decide +kernel
theorem dX11_hole_12 : decode cX11_hole 12 = .ok (.dup, 1) := by decide +kernel
theorem dX11_hole_13 : decode cX11_hole 13 = .ok (.ldc 40, 2) := by decide +kernel
theorem dX11_hole_15 : decode cX11_hole 15 = .ok (.invokespecial 42, 3) := by decide +kernel
theorem dX11_hole_18 : decode cX11_hole 18 = .ok (.athrow, 1) := by decide +kernel
theorem dX11_hole_19 : decode cX11_hole 19 = .ok (.aload_n 0, 1) := by decide +kernel
theorem dX11_hole_20 : decode cX11_hole 20 = .ok (.lconst 0, 1) := by decide +kernel
theorem dX11_hole_21 : decode cX11_hole 21 = .ok (.iload_n 1, 1) := by decide +kernel
theorem dX11_hole_22 : decode cX11_hole 22 = .ok (.ifCond .ne 7, 3) := by decide +kernel
theorem dX11_hole_25 : decode cX11_hole 25 = .ok (.iconst 4, 1) := by decide +kernel
theorem dX11_hole_26 : decode cX11_hole 26 = .ok (.goto 5, 3) := by decide +kernel
theorem dX11_hole_29 : decode cX11_hole 29 = .ok (.bipush 8, 2) := by decide +kernel
theorem dX11_hole_31 : decode cX11_hole 31 = .ok (.invokevirtual 34, 3) := by decide +kernel
theorem dX11_hole_34 : decode cX11_hole 34 = .ok (.ireturn, 1) := by decide +kernel
theorem dX11_addToRow_0 : decode cX11_addToRow 0 = .ok (.aload_n 0, 1) := by decide +kernel
theorem dX11_addToRow_1 : decode cX11_addToRow 1 = .ok (.getfield 45, 3) := by decide +kernel
theorem dX11_addToRow_4 : decode cX11_addToRow 4 = .ok (.bipush 100, 2) := by decide +kernel
theorem dX11_addToRow_6 : decode cX11_addToRow 6 = .ok (.if_icmp .lt 13, 3) := by decide +kernel
theorem dX11_addToRow_19 : decode cX11_addToRow 19 = .ok (.aload_n 0, 1) := by decide +kernel
theorem dX11_addToRow_20 : decode cX11_addToRow 20 = .ok (.getfield 22, 3) := by decide +kernel
theorem dX11_addToRow_23 : decode cX11_addToRow 23 = .ok (.aload_n 0, 1) := by decide +kernel
theorem dX11_addToRow_24 : decode cX11_addToRow 24 = .ok (.getfield 45, 3) := by decide +kernel
theorem dX11_addToRow_27 : decode cX11_addToRow 27 = .ok (.lload_n 1, 1) := by decide +kernel
theorem dX11_addToRow_28 : decode cX11_addToRow 28 = .ok (.lastore, 1) := by decide +kernel
theorem dX11_addToRow_29 : decode cX11_addToRow 29 = .ok (.aload_n 0, 1) := by decide +kernel
theorem dX11_addToRow_30 : decode cX11_addToRow 30 = .ok (.getfield 26, 3) := by decide +kernel
theorem dX11_addToRow_33 : decode cX11_addToRow 33 = .ok (.aload_n 0, 1) := by decide +kernel
theorem dX11_addToRow_34 : decode cX11_addToRow 34 = .ok (.getfield 45, 3) := by decide +kernel
theorem dX11_addToRow_37 : decode cX11_addToRow 37 = .ok (.iload_n 3, 1) := by decide +kernel
theorem dX11_addToRow_38 : decode cX11_addToRow 38 = .ok (.i2b, 1) := by decide +kernel
theorem dX11_addToRow_39 : decode cX11_addToRow 39 = .ok (.bastore, 1) := by decide +kernel
theorem dX11_addToRow_40 : decode cX11_addToRow 40 = .ok (.aload_n 0, 1) := by decide +kernel
theorem dX11_addToRow_41 : decode cX11_addToRow 41 = .ok (.dup, 1) := by decide +kernel
theorem dX11_addToRow_42 : decode cX11_addToRow 42 = .ok (.getfield 45, 3) := by decide +kernel
theorem dX11_addToRow_45 : decode cX11_addToRow 45 = .ok (.iconst 1, 1) := by decide +kernel
theorem dX11_addToRow_46 : decode cX11_addToRow 46 = .ok (.iadd, 1) := by decide +kernel
theorem dX11_addToRow_47 : decode cX11_addToRow 47 = .ok (.putfield 45, 3) := by decide +kernel
theorem dX11_addToRow_50 : decode cX11_addToRow 50 = .ok (.aload_n 0, 1) := by decide +kernel
theorem dX11_addToRow_51 : decode cX11_addToRow 51 = .ok (.getfield 45, 3) := by decide +kernel
theorem dX11_addToRow_54 : decode cX11_addToRow 54 = .ok (.ireturn, 1) := by decide +kernel
set_option maxRecDepth 20000 in
theorem ggX11_given_X11_checkRoom : GoodIn wsX11_given wsX11_checkRoom := goodIn_ca (goodIn_r _ [12, 13, 14, 15, 63, 64, 65, 66, 67, 68, 69, 70, 71] (by decide +kernel) (by decide +kernel)) (goodIn_sub (fun _ h => List.mem_cons_of_mem _ (List.mem_append_right _ h)) (by decide +kernel))
set_option maxRecDepth 20000 in
theorem gX11_given_X11_checkRoom : GoodIn wsX11_given (wsV RX11 53 RX11 yX11_checkRoom wsX11_checkRoom) := goodIn_app (goodIn_of _ (by decide +kernel)) ggX11_given_X11_checkRoom
set_option maxRecDepth 20000 in
theorem ggX11_given_J7_copyOf_c38d5 : GoodIn wsX11_given wsJ7_copyOf_c38d5 := goodIn_r _ [19, 20, 21, 22, 23, 24, 25, 26, 27, 28, 29, 30, 31, 32, 33, 34] (by decide +kernel) (by decide +kernel)
set_option maxRecDepth 20000 in
theorem gX11_given_J7_copyOf_c38d5 : GoodIn wsX11_given (va_wsS RX11 56 yJ7_copyOf_c38d5 wsJ7_copyOf_c38d5) := goodIn_app (goodIn_of _ (by decide +kernel)) ggX11_given_J7_copyOf_c38d5
set_option maxRecDepth 20000 in
theorem ggX11_given_J7_copyOf_9075b : GoodIn wsX11_given wsJ7_copyOf_9075b := goodIn_r _ [37, 38, 39, 22, 23, 40, 41, 42, 27, 28, 29, 30, 31, 32, 33, 34] (by decide +kernel) (by decide +kernel)
set_option maxRecDepth 20000 in
theorem gX11_given_J7_copyOf_9075b : GoodIn wsX11_given (va_wsS RX11 62 yJ7_copyOf_9075b wsJ7_copyOf_9075b) := goodIn_app (goodIn_of _ (by decide +kernel)) ggX11_given_J7_copyOf_9075b
set_option maxRecDepth 20000 in
theorem ggX11_given_X3_init : GoodIn wsX11_given wsX3_init := goodIn_r _ [45, 46, 47, 48, 49, 50, 51, 52, 53, 54, 55, 56, 42, 57, 72, 73, 74, 75, 76, 77, 78, 79, 80, 81, 82, 83, 84, 85, 86, 87, 88, 89, 90, 91, 92, 93, 94, 95, 96, 97, 98, 99, 100, 101, 102, 103, 104, 105, 106, 107, 108, 109, 110, 111, 112, 113, 114, 115, 116, 117, 118, 119, 120, 121, 122, 123, 124, 125, 126, 127, 128, 129, 130, 131, 132, 133, 134, 135, 136, 137, 138, 139, 140, 141, 142, 143, 144, 145] (by decide +kernel) (by decide +kernel)
set_option maxRecDepth 20000 in
theorem gX11_given_X3_init : GoodIn wsX11_given (wsX3_init) := ggX11_given_X3_init
set_option maxRecDepth 20000 in
theorem ggX11_given_X11_addList : GoodIn wsX11_given wsX11_addList := goodIn_r _ [61, 15, 62, 63, 64, 65, 66, 67, 68, 69, 70, 71] (by decide +kernel) (by decide +kernel)
set_option maxRecDepth 20000 in
theorem gX11_given_X11_addList : GoodIn wsX11_given (wsV RX11 70 RX11 yX11_addList wsX11_addList) := goodIn_app (goodIn_of _ (by decide +kernel)) ggX11_given_X11_addList
theorem dX11_given_0 : decode cX11_given 0 = .ok (.aload_n 0, 1) := by decide +kernel
theorem dX11_given_1 : decode cX11_given 1 = .ok (.invokevirtual 53, 3) := by decide +kernel
theorem dX11_given_4 : decode cX11_given 4 = .ok (.aload_n 0, 1) := by decide +kernel
theorem dX11_given_5 : decode cX11_given 5 = .ok (.getfield 22, 3) := by decide +kernel
theorem dX11_given_8 : decode cX11_given 8 = .ok (.aload_n 0, 1) := by decide +kernel
theorem dX11_given_9 : decode cX11_given 9 = .ok (.getfield 45, 3) := by decide +kernel
theorem dX11_given_12 : decode cX11_given 12 = .ok (.invokestatic 56, 3) := by decide +kernel
theorem dX11_given_15 : decode cX11_given 15 = .ok (.astore_n 2, 1) := by decide +kernel
theorem dX11_given_16 : decode cX11_given 16 = .ok (.aload_n 0, 1) := by decide +kernel
theorem dX11_given_17 : decode cX11_given 17 = .ok (.getfield 26, 3) := by decide +kernel
theorem dX11_given_20 : decode cX11_given 20 = .ok (.aload_n 0, 1) := by decide +kernel
theorem dX11_given_21 : decode cX11_given 21 = .ok (.getfield 45, 3) := by decide +kernel
theorem dX11_given_24 : decode cX11_given 24 = .ok (.invokestatic 62, 3) := by decide +kernel
theorem dX11_given_27 : decode cX11_given 27 = .ok (.astore_n 3, 1) := by decide +kernel
theorem dX11_given_28 : decode cX11_given 28 = .ok (.aload_n 0, 1) := by decide +kernel
theorem dX11_given_29 : decode cX11_given 29 = .ok (.iconst 0, 1) := by decide +kernel
theorem dX11_given_30 : decode cX11_given 30 = .ok (.putfield 45, 3) := by decide +kernel
theorem dX11_given_33 : decode cX11_given 33 = .ok (.aload_n 0, 1) := by decide +kernel
theorem dX11_given_34 : decode cX11_given 34 = .ok (.new 65, 3) := by decide +kernel
theorem dX11_given_37 : decode cX11_given 37 = .ok (.dup, 1) := by decide +kernel
theorem dX11_given_38 : decode cX11_given 38 = .ok (.aload_n 0, 1) := by decide +kernel
theorem dX11_given_39 : decode cX11_given 39 = .ok (.getfield 12, 3) := by decide +kernel
theorem dX11_given_42 : decode cX11_given 42 = .ok (.aload_n 2, 1) := by decide +kernel
theorem dX11_given_43 : decode cX11_given 43 = .ok (.aload_n 3, 1) := by decide +kernel
theorem dX11_given_44 : decode cX11_given 44 = .ok (.iload_n 1, 1) := by decide +kernel
theorem dX11_given_45 : decode cX11_given 45 = .ok (.ifCond .eq 7, 3) := by decide +kernel
theorem dX11_given_48 : decode cX11_given 48 = .ok (.iconst 4, 1) := by decide +kernel
theorem dX11_given_49 : decode cX11_given 49 = .ok (.goto 4, 3) := by decide +kernel
theorem dX11_given_52 : decode cX11_given 52 = .ok (.iconst 2, 1) := by decide +kernel
theorem dX11_given_53 : decode cX11_given 53 = .ok (.invokespecial 67, 3) := by decide +kernel
theorem dX11_given_56 : decode cX11_given 56 = .ok (.invokevirtual 70, 3) := by decide +kernel
theorem dX11_given_59 : decode cX11_given 59 = .ok (.ireturn, 1) := by decide +kernel
set_option maxRecDepth 20000 in
theorem ggX11_count_X11_checkRoom : GoodIn wsX11_count wsX11_checkRoom := goodIn_ca (goodIn_r _ [11, 12, 13, 14, 46, 47, 48, 49, 50, 51, 52, 53, 54] (by decide +kernel) (by decide +kernel)) (goodIn_sub (fun _ h => List.mem_cons_of_mem _ (List.mem_append_right _ h)) (by decide +kernel))
set_option maxRecDepth 20000 in
theorem gX11_count_X11_checkRoom : GoodIn wsX11_count (wsV RX11 53 RX11 yX11_checkRoom wsX11_checkRoom) := goodIn_app (goodIn_of _ (by decide +kernel)) ggX11_count_X11_checkRoom
set_option maxRecDepth 20000 in
theorem ggX11_count_J7_fill_031fb : GoodIn wsX11_count wsJ7_fill_031fb := goodIn_r _ [18] (by decide +kernel) (by decide +kernel)
set_option maxRecDepth 20000 in
theorem gX11_count_J7_fill_031fb : GoodIn wsX11_count (va_wsS RX11 74 yJ7_fill_031fb wsJ7_fill_031fb) := goodIn_app (goodIn_of _ (by decide +kernel)) ggX11_count_J7_fill_031fb
set_option maxRecDepth 20000 in
theorem ggX11_count_X3_init : GoodIn wsX11_count wsX3_init := goodIn_r _ [21, 22, 23, 24, 25, 26, 27, 28, 29, 30, 31, 32, 2, 33, 39, 40, 41, 42, 43, 44, 45, 55, 56, 57, 58, 59, 60, 61, 62, 63, 64, 65, 66, 67, 68, 69, 70, 71, 72, 73, 74, 75, 76, 77, 78, 79, 80, 81, 82, 83, 84, 85, 86, 87, 88, 89, 90, 91, 92, 93, 94, 95, 96, 97, 98, 99, 100, 101, 102, 103, 104, 105, 106, 107, 108, 109, 110, 111, 112, 113, 114, 115, 116, 117, 118, 119, 120, 121] (by decide +kernel) (by decide +kernel)
set_option maxRecDepth 20000 in
theorem gX11_count_X3_init : GoodIn wsX11_count (wsX3_init) := ggX11_count_X3_init
set_option maxRecDepth 20000 in
theorem ggX11_count_X11_addList : GoodIn wsX11_count wsX11_addList := goodIn_r _ [37, 14, 38, 46, 47, 48, 49, 50, 51, 52, 53, 54] (by decide +kernel) (by decide +kernel)
set_option maxRecDepth 20000 in
theorem gX11_count_X11_addList : GoodIn wsX11_count (wsV RX11 70 RX11 yX11_addList wsX11_addList) := goodIn_app (goodIn_of _ (by decide +kernel)) ggX11_count_X11_addList
theorem dX11_count_0 : decode cX11_count 0 = .ok (.aload_n 0, 1) := by decide +kernel
theorem dX11_count_1 : decode cX11_count 1 = .ok (.invokevirtual 53, 3) := by decide +kernel
theorem dX11_count_4 : decode cX11_count 4 = .ok (.sipush 400, 3) := by decide +kernel
theorem dX11_count_7 : decode cX11_count 7 = .ok (.newarray .long, 2) := by decide +kernel
theorem dX11_count_9 : decode cX11_count 9 = .ok (.astore 5, 2) := by decide +kernel
theorem dX11_count_11 : decode cX11_count 11 = .ok (.iconst 0, 1) := by decide +kernel
theorem dX11_count_12 : decode cX11_count 12 = .ok (.istore 6, 2) := by decide +kernel
theorem dX11_count_14 : decode cX11_count 14 = .ok (.iload 6, 2) := by decide +kernel
theorem dX11_count_16 : decode cX11_count 16 = .ok (.sipush 400, 3) := by decide +kernel
theorem dX11_count_19 : decode cX11_count 19 = .ok (.if_icmp .ge 21, 3) := by decide +kernel
theorem dX11_count_22 : decode cX11_count 22 = .ok (.aload 5, 2) := by decide +kernel
theorem dX11_count_24 : decode cX11_count 24 = .ok (.iload 6, 2) := by decide +kernel
theorem dX11_count_26 : decode cX11_count 26 = .ok (.lload_n 1, 1) := by decide +kernel
theorem dX11_count_27 : decode cX11_count 27 = .ok (.iload 6, 2) := by decide +kernel
theorem dX11_count_29 : decode cX11_count 29 = .ok (.i2l, 1) := by decide +kernel
theorem dX11_count_30 : decode cX11_count 30 = .ok (.lload_n 3, 1) := by decide +kernel
theorem dX11_count_31 : decode cX11_count 31 = .ok (.lmul, 1) := by decide +kernel
theorem dX11_count_32 : decode cX11_count 32 = .ok (.ladd, 1) := by decide +kernel
theorem dX11_count_33 : decode cX11_count 33 = .ok (.lastore, 1) := by decide +kernel
theorem dX11_count_34 : decode cX11_count 34 = .ok (.iinc 6 1, 3) := by decide +kernel
theorem dX11_count_37 : decode cX11_count 37 = .ok (.goto (-23), 3) := by decide +kernel
theorem dX11_count_40 : decode cX11_count 40 = .ok (.sipush 400, 3) := by decide +kernel
theorem dX11_count_43 : decode cX11_count 43 = .ok (.newarray .byte, 2) := by decide +kernel
theorem dX11_count_45 : decode cX11_count 45 = .ok (.astore 6, 2) := by decide +kernel
theorem dX11_count_47 : decode cX11_count 47 = .ok (.aload 6, 2) := by decide +kernel
theorem dX11_count_49 : decode cX11_count 49 = .ok (.iconst 1, 1) := by decide +kernel
theorem dX11_count_50 : decode cX11_count 50 = .ok (.invokestatic 74, 3) := by decide +kernel
theorem dX11_count_53 : decode cX11_count 53 = .ok (.aload_n 0, 1) := by decide +kernel
theorem dX11_count_54 : decode cX11_count 54 = .ok (.new 65, 3) := by decide +kernel
theorem dX11_count_57 : decode cX11_count 57 = .ok (.dup, 1) := by decide +kernel
theorem dX11_count_58 : decode cX11_count 58 = .ok (.aload_n 0, 1) := by decide +kernel
theorem dX11_count_59 : decode cX11_count 59 = .ok (.getfield 12, 3) := by decide +kernel
theorem dX11_count_62 : decode cX11_count 62 = .ok (.aload 5, 2) := by decide +kernel
theorem dX11_count_64 : decode cX11_count 64 = .ok (.aload 6, 2) := by decide +kernel
theorem dX11_count_66 : decode cX11_count 66 = .ok (.iconst 3, 1) := by decide +kernel
theorem dX11_count_67 : decode cX11_count 67 = .ok (.invokespecial 67, 3) := by decide +kernel
theorem dX11_count_70 : decode cX11_count 70 = .ok (.invokevirtual 70, 3) := by decide +kernel
theorem dX11_count_73 : decode cX11_count 73 = .ok (.ireturn, 1) := by decide +kernel
set_option maxRecDepth 20000 in
theorem ggX11_iterate_X11_checkOp : GoodIn wsX11_iterate wsX11_checkOp := goodIn_ca (goodIn_r _ [8, 9, 10] (by decide +kernel) (by decide +kernel)) (goodIn_sub (fun _ h => List.mem_cons_of_mem _ (List.mem_append_left _ (List.mem_append_right _ h))) (by decide +kernel))
set_option maxRecDepth 20000 in
theorem gX11_iterate_X11_checkOp : GoodIn wsX11_iterate (va_wsS RX11 78 yX11_checkOp wsX11_checkOp) := goodIn_app (goodIn_of _ (by decide +kernel)) ggX11_iterate_X11_checkOp
set_option maxRecDepth 20000 in
theorem ggX11_iterate_X11_checkRoom : GoodIn wsX11_iterate wsX11_checkRoom := goodIn_ca (goodIn_r _ [14, 15, 16, 17, 51, 52, 53, 54, 55, 56, 57, 58, 59] (by decide +kernel) (by decide +kernel)) (goodIn_sub (fun _ h => List.mem_cons_of_mem _ (List.mem_append_right _ h)) (by decide +kernel))
set_option maxRecDepth 20000 in
theorem gX11_iterate_X11_checkRoom : GoodIn wsX11_iterate (wsV RX11 53 RX11 yX11_checkRoom wsX11_checkRoom) := goodIn_app (goodIn_of _ (by decide +kernel)) ggX11_iterate_X11_checkRoom
set_option maxRecDepth 20000 in
theorem ggX11_iterate_X0_init : GoodIn wsX11_iterate wsX0_init := goodIn_r _ [20, 21, 22, 23, 24, 25, 26, 27, 28, 29, 30, 31, 32, 33, 34, 35, 36, 42, 43, 44, 45, 46, 47, 48, 49, 50, 60, 61, 62, 63, 64, 65, 66, 67, 68, 69, 70, 71, 72, 73, 74, 75, 76, 77, 78, 79, 80, 81, 82, 83, 84, 85, 86, 87, 88, 89, 90, 91, 92, 93, 94, 95, 96, 97, 98, 99, 100, 101, 102, 103, 104, 105, 106, 107, 108, 109, 110, 111, 112, 113, 114, 115, 116, 117, 118, 119, 120, 121, 122, 123, 124] (by decide +kernel) (by decide +kernel)
set_option maxRecDepth 20000 in
theorem gX11_iterate_X0_init : GoodIn wsX11_iterate (wsX0_init) := ggX11_iterate_X0_init
set_option maxRecDepth 20000 in
theorem ggX11_iterate_X11_addList : GoodIn wsX11_iterate wsX11_addList := goodIn_r _ [40, 17, 41, 51, 52, 53, 54, 55, 56, 57, 58, 59] (by decide +kernel) (by decide +kernel)
set_option maxRecDepth 20000 in
theorem gX11_iterate_X11_addList : GoodIn wsX11_iterate (wsV RX11 70 RX11 yX11_addList wsX11_addList) := goodIn_app (goodIn_of _ (by decide +kernel)) ggX11_iterate_X11_addList
theorem dX11_iterate_0 : decode cX11_iterate 0 = .ok (.iload_n 1, 1) := by decide +kernel
theorem dX11_iterate_1 : decode cX11_iterate 1 = .ok (.invokestatic 78, 3) := by decide +kernel
theorem dX11_iterate_4 : decode cX11_iterate 4 = .ok (.aload_n 0, 1) := by decide +kernel
theorem dX11_iterate_5 : decode cX11_iterate 5 = .ok (.invokevirtual 53, 3) := by decide +kernel
theorem dX11_iterate_8 : decode cX11_iterate 8 = .ok (.aload_n 0, 1) := by decide +kernel
theorem dX11_iterate_9 : decode cX11_iterate 9 = .ok (.new 82, 3) := by decide +kernel
theorem dX11_iterate_12 : decode cX11_iterate 12 = .ok (.dup, 1) := by decide +kernel
theorem dX11_iterate_13 : decode cX11_iterate 13 = .ok (.aload_n 0, 1) := by decide +kernel
theorem dX11_iterate_14 : decode cX11_iterate 14 = .ok (.getfield 12, 3) := by decide +kernel
theorem dX11_iterate_17 : decode cX11_iterate 17 = .ok (.aconst_null, 1) := by decide +kernel
theorem dX11_iterate_18 : decode cX11_iterate 18 = .ok (.iload_n 1, 1) := by decide +kernel
theorem dX11_iterate_19 : decode cX11_iterate 19 = .ok (.lload_n 2, 1) := by decide +kernel
theorem dX11_iterate_20 : decode cX11_iterate 20 = .ok (.lload 4, 2) := by decide +kernel
theorem dX11_iterate_22 : decode cX11_iterate 22 = .ok (.invokespecial 84, 3) := by decide +kernel
theorem dX11_iterate_25 : decode cX11_iterate 25 = .ok (.invokevirtual 70, 3) := by decide +kernel
theorem dX11_iterate_28 : decode cX11_iterate 28 = .ok (.ireturn, 1) := by decide +kernel
theorem dX11_map_0 : decode cX11_map 0 = .ok (.aload_n 0, 1) := by decide +kernel
theorem dX11_map_1 : decode cX11_map 1 = .ok (.iload_n 1, 1) := by decide +kernel
theorem dX11_map_2 : decode cX11_map 2 = .ok (.invokevirtual 87, 3) := by decide +kernel
theorem dX11_both_0 : decode cX11_both 0 = .ok (.aload_n 0, 1) := by decide +kernel
theorem dX11_both_1 : decode cX11_both 1 = .ok (.iload_n 1, 1) := by decide +kernel
theorem dX11_both_2 : decode cX11_both 2 = .ok (.invokevirtual 87, 3) := by decide +kernel
theorem dX11_scan_0 : decode cX11_scan 0 = .ok (.aload_n 0, 1) := by decide +kernel
theorem dX11_scan_1 : decode cX11_scan 1 = .ok (.iload_n 1, 1) := by decide +kernel
theorem dX11_scan_2 : decode cX11_scan 2 = .ok (.invokevirtual 87, 3) := by decide +kernel
theorem dX11_take_0 : decode cX11_take 0 = .ok (.aload_n 0, 1) := by decide +kernel
theorem dX11_take_1 : decode cX11_take 1 = .ok (.iload_n 1, 1) := by decide +kernel
theorem dX11_take_2 : decode cX11_take 2 = .ok (.invokevirtual 87, 3) := by decide +kernel
theorem dX11_drop_0 : decode cX11_drop 0 = .ok (.aload_n 0, 1) := by decide +kernel
theorem dX11_drop_1 : decode cX11_drop 1 = .ok (.iload_n 1, 1) := by decide +kernel
theorem dX11_drop_2 : decode cX11_drop 2 = .ok (.invokevirtual 87, 3) := by decide +kernel
theorem dX11_keep_0 : decode cX11_keep 0 = .ok (.aload_n 0, 1) := by decide +kernel
theorem dX11_keep_1 : decode cX11_keep 1 = .ok (.iload_n 1, 1) := by decide +kernel
theorem dX11_keep_2 : decode cX11_keep 2 = .ok (.invokevirtual 87, 3) := by decide +kernel
theorem dX11_during_0 : decode cX11_during 0 = .ok (.aload_n 0, 1) := by decide +kernel
theorem dX11_during_1 : decode cX11_during 1 = .ok (.iload_n 1, 1) := by decide +kernel
theorem dX11_during_2 : decode cX11_during 2 = .ok (.invokevirtual 87, 3) := by decide +kernel
theorem dX11_after_0 : decode cX11_after 0 = .ok (.aload_n 0, 1) := by decide +kernel
theorem dX11_after_1 : decode cX11_after 1 = .ok (.iload_n 1, 1) := by decide +kernel
theorem dX11_after_2 : decode cX11_after 2 = .ok (.invokevirtual 87, 3) := by decide +kernel
theorem dX11_join_0 : decode cX11_join 0 = .ok (.aload_n 0, 1) := by decide +kernel
theorem dX11_join_1 : decode cX11_join 1 = .ok (.iload_n 1, 1) := by decide +kernel
theorem dX11_join_2 : decode cX11_join 2 = .ok (.invokevirtual 87, 3) := by decide +kernel
theorem dX11_other_0 : decode cX11_other 0 = .ok (.aload_n 0, 1) := by decide +kernel
theorem dX11_other_1 : decode cX11_other 1 = .ok (.iload_n 1, 1) := by decide +kernel
theorem dX11_other_2 : decode cX11_other 2 = .ok (.invokevirtual 87, 3) := by decide +kernel
theorem dX11_addList_0 : decode cX11_addList 0 = .ok (.aload_n 0, 1) := by decide +kernel
theorem dX11_addList_1 : decode cX11_addList 1 = .ok (.getfield 136, 3) := by decide +kernel
theorem dX11_addList_4 : decode cX11_addList 4 = .ok (.istore_n 2, 1) := by decide +kernel
theorem dX11_addList_5 : decode cX11_addList 5 = .ok (.iload_n 2, 1) := by decide +kernel
theorem dX11_addList_6 : decode cX11_addList 6 = .ok (.aload_n 0, 1) := by decide +kernel
theorem dX11_addList_7 : decode cX11_addList 7 = .ok (.getfield 18, 3) := by decide +kernel
theorem dX11_addList_10 : decode cX11_addList 10 = .ok (.arraylength, 1) := by decide +kernel
theorem dX11_addList_11 : decode cX11_addList 11 = .ok (.if_icmp .ge 17, 3) := by decide +kernel
theorem dX11_addList_14 : decode cX11_addList 14 = .ok (.aload_n 0, 1) := by decide +kernel
theorem dX11_addList_15 : decode cX11_addList 15 = .ok (.getfield 18, 3) := by decide +kernel
theorem dX11_addList_18 : decode cX11_addList 18 = .ok (.iload_n 2, 1) := by decide +kernel
theorem dX11_addList_19 : decode cX11_addList 19 = .ok (.aload_n 1, 1) := by decide +kernel
theorem dX11_addList_20 : decode cX11_addList 20 = .ok (.aastore, 1) := by decide +kernel
theorem dX11_addList_21 : decode cX11_addList 21 = .ok (.aload_n 0, 1) := by decide +kernel
theorem dX11_addList_22 : decode cX11_addList 22 = .ok (.iload_n 2, 1) := by decide +kernel
theorem dX11_addList_23 : decode cX11_addList 23 = .ok (.iconst 1, 1) := by decide +kernel
theorem dX11_addList_24 : decode cX11_addList 24 = .ok (.iadd, 1) := by decide +kernel
theorem dX11_addList_25 : decode cX11_addList 25 = .ok (.putfield 136, 3) := by decide +kernel
theorem dX11_addList_28 : decode cX11_addList 28 = .ok (.iload_n 2, 1) := by decide +kernel
theorem dX11_addList_29 : decode cX11_addList 29 = .ok (.ireturn, 1) := by decide +kernel
theorem dX11_steps_0 : decode cX11_steps 0 = .ok (.iload_n 1, 1) := by decide +kernel
theorem dX11_steps_1 : decode cX11_steps 1 = .ok (.iconst 1, 1) := by decide +kernel
theorem dX11_steps_2 : decode cX11_steps 2 = .ok (.if_icmp .lt 10, 3) := by decide +kernel
theorem dX11_steps_5 : decode cX11_steps 5 = .ok (.iload_n 1, 1) := by decide +kernel
theorem dX11_steps_6 : decode cX11_steps 6 = .ok (.sipush 5000, 3) := by decide +kernel
theorem dX11_steps_9 : decode cX11_steps 9 = .ok (.if_icmp .le 13, 3) := by decide +kernel
theorem dX11_steps_12 : decode cX11_steps 12 = .ok (.new 38, 3) := by decide +kernel
theorem dX11_steps_15 : decode cX11_steps 15 = .ok (.dup, 1) := by decide +kernel
theorem dX11_steps_16 : decode cX11_steps 16 = .ok (.ldc 139, 2) := by decide +kernel
theorem dX11_steps_18 : decode cX11_steps 18 = .ok (.invokespecial 42, 3) := by decide +kernel
theorem dX11_steps_21 : decode cX11_steps 21 = .ok (.athrow, 1) := by decide +kernel
theorem dX11_steps_22 : decode cX11_steps 22 = .ok (.aload_n 0, 1) := by decide +kernel
theorem dX11_steps_23 : decode cX11_steps 23 = .ok (.getfield 30, 3) := by decide +kernel
theorem dX11_steps_26 : decode cX11_steps 26 = .ok (.istore_n 2, 1) := by decide +kernel
theorem dX11_steps_27 : decode cX11_steps 27 = .ok (.aload_n 0, 1) := by decide +kernel
theorem dX11_steps_28 : decode cX11_steps 28 = .ok (.iload_n 1, 1) := by decide +kernel
theorem dX11_steps_29 : decode cX11_steps 29 = .ok (.putfield 30, 3) := by decide +kernel
theorem dX11_steps_32 : decode cX11_steps 32 = .ok (.iload_n 2, 1) := by decide +kernel
theorem dX11_steps_33 : decode cX11_steps 33 = .ok (.ireturn, 1) := by decide +kernel
theorem dX11_at_0 : decode cX11_at 0 = .ok (.aload_n 0, 1) := by decide +kernel
theorem dX11_at_1 : decode cX11_at 1 = .ok (.iload_n 1, 1) := by decide +kernel
theorem dX11_at_2 : decode cX11_at 2 = .ok (.invokevirtual 87, 3) := by decide +kernel
theorem dX11_size_0 : decode cX11_size 0 = .ok (.aload_n 0, 1) := by decide +kernel
theorem dX11_size_1 : decode cX11_size 1 = .ok (.iload_n 1, 1) := by decide +kernel
theorem dX11_size_2 : decode cX11_size 2 = .ok (.invokevirtual 87, 3) := by decide +kernel
theorem dX11_fold_0 : decode cX11_fold 0 = .ok (.aload_n 0, 1) := by decide +kernel
theorem dX11_fold_1 : decode cX11_fold 1 = .ok (.iload_n 1, 1) := by decide +kernel
theorem dX11_fold_2 : decode cX11_fold 2 = .ok (.invokevirtual 87, 3) := by decide +kernel
theorem dX11_find_0 : decode cX11_find 0 = .ok (.aload_n 0, 1) := by decide +kernel
theorem dX11_find_1 : decode cX11_find 1 = .ok (.iload_n 1, 1) := by decide +kernel
theorem dX11_find_2 : decode cX11_find 2 = .ok (.invokevirtual 87, 3) := by decide +kernel
theorem dX11_last_0 : decode cX11_last 0 = .ok (.aload_n 0, 1) := by decide +kernel
theorem dX11_last_1 : decode cX11_last 1 = .ok (.iload_n 1, 1) := by decide +kernel
theorem dX11_last_2 : decode cX11_last 2 = .ok (.invokevirtual 87, 3) := by decide +kernel
theorem dX11_outcome_0 : decode cX11_outcome 0 = .ok (.aload_n 0, 1) := by decide +kernel
theorem dX11_outcome_1 : decode cX11_outcome 1 = .ok (.getfield 182, 3) := by decide +kernel
theorem dX11_outcome_4 : decode cX11_outcome 4 = .ok (.ireturn, 1) := by decide +kernel
theorem dX11_error_0 : decode cX11_error 0 = .ok (.aload_n 0, 1) := by decide +kernel
theorem dX11_error_1 : decode cX11_error 1 = .ok (.getfield 185, 3) := by decide +kernel
theorem dX11_error_4 : decode cX11_error 4 = .ok (.ireturn, 1) := by decide +kernel
theorem dX11_spent_0 : decode cX11_spent 0 = .ok (.aload_n 0, 1) := by decide +kernel
theorem dX11_spent_1 : decode cX11_spent 1 = .ok (.getfield 12, 3) := by decide +kernel
theorem dX11_spent_4 : decode cX11_spent 4 = .ok (.getfield 188, 3) := by decide +kernel
theorem dX11_spent_7 : decode cX11_spent 7 = .ok (.ireturn, 1) := by decide +kernel
theorem dX11_reached_0 : decode cX11_reached 0 = .ok (.aload_n 0, 1) := by decide +kernel
theorem dX11_reached_1 : decode cX11_reached 1 = .ok (.iload_n 1, 1) := by decide +kernel
theorem dX11_reached_2 : decode cX11_reached 2 = .ok (.invokevirtual 87, 3) := by decide +kernel
theorem dX11_worked_0 : decode cX11_worked 0 = .ok (.aload_n 0, 1) := by decide +kernel
theorem dX11_worked_1 : decode cX11_worked 1 = .ok (.iload_n 1, 1) := by decide +kernel
theorem dX11_worked_2 : decode cX11_worked 2 = .ok (.invokevirtual 87, 3) := by decide +kernel
theorem dX11_lists_0 : decode cX11_lists 0 = .ok (.aload_n 0, 1) := by decide +kernel
theorem dX11_lists_1 : decode cX11_lists 1 = .ok (.getfield 136, 3) := by decide +kernel
theorem dX11_lists_4 : decode cX11_lists 4 = .ok (.ireturn, 1) := by decide +kernel
theorem dX11_listOf_0 : decode cX11_listOf 0 = .ok (.iload_n 1, 1) := by decide +kernel
theorem dX11_listOf_1 : decode cX11_listOf 1 = .ok (.ifCond .lt 29, 3) := by decide +kernel
theorem dX11_listOf_4 : decode cX11_listOf 4 = .ok (.iload_n 1, 1) := by decide +kernel
theorem dX11_listOf_5 : decode cX11_listOf 5 = .ok (.aload_n 0, 1) := by decide +kernel
theorem dX11_listOf_6 : decode cX11_listOf 6 = .ok (.getfield 136, 3) := by decide +kernel
theorem dX11_listOf_9 : decode cX11_listOf 9 = .ok (.if_icmp .ge 21, 3) := by decide +kernel
theorem dX11_listOf_30 : decode cX11_listOf 30 = .ok (.aconst_null, 1) := by decide +kernel
theorem dX11_listOf_31 : decode cX11_listOf 31 = .ok (.astore_n 2, 1) := by decide +kernel
theorem dX11_listOf_32 : decode cX11_listOf 32 = .ok (.aload_n 2, 1) := by decide +kernel
theorem dX11_listOf_33 : decode cX11_listOf 33 = .ok (.ifnonnull 13, 3) := by decide +kernel
theorem dX11_listOf_36 : decode cX11_listOf 36 = .ok (.new 198, 3) := by decide +kernel
theorem dX11_listOf_39 : decode cX11_listOf 39 = .ok (.dup, 1) := by decide +kernel
theorem dX11_listOf_40 : decode cX11_listOf 40 = .ok (.ldc 200, 2) := by decide +kernel
theorem dX11_listOf_42 : decode cX11_listOf 42 = .ok (.invokespecial 202, 3) := by decide +kernel
theorem dX11_listOf_45 : decode cX11_listOf 45 = .ok (.athrow, 1) := by decide +kernel
theorem dX11_checkRoom_0 : decode cX11_checkRoom 0 = .ok (.aload_n 0, 1) := by decide +kernel
theorem dX11_checkRoom_1 : decode cX11_checkRoom 1 = .ok (.getfield 136, 3) := by decide +kernel
theorem dX11_checkRoom_4 : decode cX11_checkRoom 4 = .ok (.bipush 24, 2) := by decide +kernel
theorem dX11_checkRoom_6 : decode cX11_checkRoom 6 = .ok (.if_icmp .lt 13, 3) := by decide +kernel
theorem dX11_checkRoom_19 : decode cX11_checkRoom 19 = .ok (.return_, 1) := by decide +kernel
theorem dX11_checkOp_0 : decode cX11_checkOp 0 = .ok (.iload_n 0, 1) := by decide +kernel
theorem dX11_checkOp_1 : decode cX11_checkOp 1 = .ok (.ifCond .lt 9, 3) := by decide +kernel
theorem dX11_checkOp_4 : decode cX11_checkOp 4 = .ok (.iload_n 0, 1) := by decide +kernel
theorem dX11_checkOp_5 : decode cX11_checkOp 5 = .ok (.bipush 8, 2) := by decide +kernel
theorem dX11_checkOp_7 : decode cX11_checkOp 7 = .ok (.if_icmp .le 13, 3) := by decide +kernel
theorem dX11_checkOp_10 : decode cX11_checkOp 10 = .ok (.new 38, 3) := by decide +kernel
theorem dX11_checkOp_13 : decode cX11_checkOp 13 = .ok (.dup, 1) := by decide +kernel
theorem dX11_checkOp_14 : decode cX11_checkOp 14 = .ok (.ldc 205, 2) := by decide +kernel
theorem dX11_checkOp_16 : decode cX11_checkOp 16 = .ok (.invokespecial 42, 3) := by decide +kernel
theorem dX11_checkOp_19 : decode cX11_checkOp 19 = .ok (.athrow, 1) := by decide +kernel
theorem dX11_checkOp_20 : decode cX11_checkOp 20 = .ok (.return_, 1) := by decide +kernel
theorem dX12_init_0 : decode cX12_init 0 = .ok (.aload_n 0, 1) := by decide +kernel
theorem dX12_init_1 : decode cX12_init 1 = .ok (.invokespecial 1, 3) := by decide +kernel
theorem dX12_init_4 : decode cX12_init 4 = .ok (.aload_n 0, 1) := by decide +kernel
theorem dX12_init_5 : decode cX12_init 5 = .ok (.bipush 24, 2) := by decide +kernel
theorem dX12_init_7 : decode cX12_init 7 = .ok (.newarray .int, 2) := by decide +kernel
theorem dX12_init_9 : decode cX12_init 9 = .ok (.putfield 7, 3) := by decide +kernel
theorem dX12_init_12 : decode cX12_init 12 = .ok (.aload_n 0, 1) := by decide +kernel
theorem dX12_init_13 : decode cX12_init 13 = .ok (.bipush 24, 2) := by decide +kernel
theorem dX12_init_15 : decode cX12_init 15 = .ok (.newarray .int, 2) := by decide +kernel
theorem dX12_init_17 : decode cX12_init 17 = .ok (.putfield 13, 3) := by decide +kernel
theorem dX12_init_20 : decode cX12_init 20 = .ok (.aload_n 0, 1) := by decide +kernel
theorem dX12_init_21 : decode cX12_init 21 = .ok (.bipush 24, 2) := by decide +kernel
theorem dX12_init_23 : decode cX12_init 23 = .ok (.newarray .int, 2) := by decide +kernel
theorem dX12_init_25 : decode cX12_init 25 = .ok (.putfield 16, 3) := by decide +kernel
theorem dX12_init_28 : decode cX12_init 28 = .ok (.aload_n 0, 1) := by decide +kernel
theorem dX12_init_29 : decode cX12_init 29 = .ok (.bipush 24, 2) := by decide +kernel
theorem dX12_init_31 : decode cX12_init 31 = .ok (.newarray .int, 2) := by decide +kernel
theorem dX12_init_33 : decode cX12_init 33 = .ok (.putfield 19, 3) := by decide +kernel
theorem dX12_init_36 : decode cX12_init 36 = .ok (.aload_n 0, 1) := by decide +kernel
theorem dX12_init_37 : decode cX12_init 37 = .ok (.bipush 24, 2) := by decide +kernel
theorem dX12_init_39 : decode cX12_init 39 = .ok (.newarray .long, 2) := by decide +kernel
theorem dX12_init_41 : decode cX12_init 41 = .ok (.putfield 22, 3) := by decide +kernel
theorem dX12_init_44 : decode cX12_init 44 = .ok (.aload_n 0, 1) := by decide +kernel
theorem dX12_init_45 : decode cX12_init 45 = .ok (.bipush 24, 2) := by decide +kernel
theorem dX12_init_47 : decode cX12_init 47 = .ok (.newarray .long, 2) := by decide +kernel
theorem dX12_init_49 : decode cX12_init 49 = .ok (.putfield 26, 3) := by decide +kernel
theorem dX12_init_52 : decode cX12_init 52 = .ok (.aload_n 0, 1) := by decide +kernel
theorem dX12_init_53 : decode cX12_init 53 = .ok (.sipush 9600, 3) := by decide +kernel
theorem dX12_init_56 : decode cX12_init 56 = .ok (.newarray .int, 2) := by decide +kernel
theorem dX12_init_58 : decode cX12_init 58 = .ok (.putfield 29, 3) := by decide +kernel
theorem dX12_init_61 : decode cX12_init 61 = .ok (.aload_n 0, 1) := by decide +kernel
theorem dX12_init_62 : decode cX12_init 62 = .ok (.sipush 9600, 3) := by decide +kernel
theorem dX12_init_65 : decode cX12_init 65 = .ok (.newarray .int, 2) := by decide +kernel
theorem dX12_init_67 : decode cX12_init 67 = .ok (.putfield 32, 3) := by decide +kernel
theorem dX12_init_70 : decode cX12_init 70 = .ok (.aload_n 0, 1) := by decide +kernel
theorem dX12_init_71 : decode cX12_init 71 = .ok (.sipush 9600, 3) := by decide +kernel
theorem dX12_init_74 : decode cX12_init 74 = .ok (.newarray .long, 2) := by decide +kernel
theorem dX12_init_76 : decode cX12_init 76 = .ok (.putfield 35, 3) := by decide +kernel
theorem dX12_init_79 : decode cX12_init 79 = .ok (.aload_n 0, 1) := by decide +kernel
theorem dX12_init_80 : decode cX12_init 80 = .ok (.sipush 9600, 3) := by decide +kernel
theorem dX12_init_83 : decode cX12_init 83 = .ok (.newarray .int, 2) := by decide +kernel
theorem dX12_init_85 : decode cX12_init 85 = .ok (.putfield 38, 3) := by decide +kernel
theorem dX12_init_88 : decode cX12_init 88 = .ok (.aload_n 0, 1) := by decide +kernel
theorem dX12_init_89 : decode cX12_init 89 = .ok (.sipush 9600, 3) := by decide +kernel
theorem dX12_init_92 : decode cX12_init 92 = .ok (.newarray .int, 2) := by decide +kernel
theorem dX12_init_94 : decode cX12_init 94 = .ok (.putfield 41, 3) := by decide +kernel
theorem dX12_init_97 : decode cX12_init 97 = .ok (.aload_n 0, 1) := by decide +kernel
theorem dX12_init_98 : decode cX12_init 98 = .ok (.bipush 100, 2) := by decide +kernel
theorem dX12_init_100 : decode cX12_init 100 = .ok (.newarray .int, 2) := by decide +kernel
theorem dX12_init_102 : decode cX12_init 102 = .ok (.putfield 44, 3) := by decide +kernel
theorem dX12_init_105 : decode cX12_init 105 = .ok (.aload_n 0, 1) := by decide +kernel
theorem dX12_init_106 : decode cX12_init 106 = .ok (.bipush 100, 2) := by decide +kernel
theorem dX12_init_108 : decode cX12_init 108 = .ok (.newarray .long, 2) := by decide +kernel
theorem dX12_init_110 : decode cX12_init 110 = .ok (.putfield 47, 3) := by decide +kernel
theorem dX12_init_113 : decode cX12_init 113 = .ok (.aload_n 0, 1) := by decide +kernel
theorem dX12_init_114 : decode cX12_init 114 = .ok (.sipush 1000, 3) := by decide +kernel
theorem dX12_init_117 : decode cX12_init 117 = .ok (.putfield 50, 3) := by decide +kernel
theorem dX12_init_120 : decode cX12_init 120 = .ok (.aload_n 0, 1) := by decide +kernel
theorem dX12_init_121 : decode cX12_init 121 = .ok (.sipush 2400, 3) := by decide +kernel
theorem dX12_init_124 : decode cX12_init 124 = .ok (.newarray .int, 2) := by decide +kernel
theorem dX12_init_126 : decode cX12_init 126 = .ok (.putfield 54, 3) := by decide +kernel
theorem dX12_init_129 : decode cX12_init 129 = .ok (.aload_n 0, 1) := by decide +kernel
theorem dX12_init_130 : decode cX12_init 130 = .ok (.sipush 2400, 3) := by decide +kernel
theorem dX12_init_133 : decode cX12_init 133 = .ok (.newarray .long, 2) := by decide +kernel
theorem dX12_init_135 : decode cX12_init 135 = .ok (.putfield 57, 3) := by decide +kernel
theorem dX12_init_138 : decode cX12_init 138 = .ok (.aload_n 0, 1) := by decide +kernel
theorem dX12_init_139 : decode cX12_init 139 = .ok (.sipush 20000, 3) := by decide +kernel
theorem dX12_init_142 : decode cX12_init 142 = .ok (.newarray .int, 2) := by decide +kernel
theorem dX12_init_144 : decode cX12_init 144 = .ok (.putfield 60, 3) := by decide +kernel
theorem dX12_init_147 : decode cX12_init 147 = .ok (.return_, 1) := by decide +kernel
theorem dX12_thrown_0 : decode cX12_thrown 0 = .ok (.aload_n 0, 1) := by decide +kernel
theorem dX12_thrown_1 : decode cX12_thrown 1 = .ok (.getfield 63, 3) := by decide +kernel
theorem dX12_thrown_4 : decode cX12_thrown 4 = .ok (.ireturn, 1) := by decide +kernel
theorem dX12_fail_0 : decode cX12_fail 0 = .ok (.aload_n 0, 1) := by decide +kernel
theorem dX12_fail_1 : decode cX12_fail 1 = .ok (.iload_n 1, 1) := by decide +kernel
theorem dX12_fail_2 : decode cX12_fail 2 = .ok (.putfield 63, 3) := by decide +kernel
theorem dX12_fail_5 : decode cX12_fail 5 = .ok (.iconst 0, 1) := by decide +kernel
theorem dX12_fail_6 : decode cX12_fail 6 = .ok (.ireturn, 1) := by decide +kernel
theorem dX12_isList_0 : decode cX12_isList 0 = .ok (.iload_n 1, 1) := by decide +kernel
theorem dX12_isList_1 : decode cX12_isList 1 = .ok (.ifCond .lt 15, 3) := by decide +kernel
theorem dX12_isList_4 : decode cX12_isList 4 = .ok (.iload_n 1, 1) := by decide +kernel
theorem dX12_isList_5 : decode cX12_isList 5 = .ok (.aload_n 0, 1) := by decide +kernel
theorem dX12_isList_6 : decode cX12_isList 6 = .ok (.getfield 66, 3) := by decide +kernel
theorem dX12_isList_9 : decode cX12_isList 9 = .ok (.if_icmp .ge 7, 3) := by decide +kernel
theorem dX12_isList_16 : decode cX12_isList 16 = .ok (.iconst 0, 1) := by decide +kernel
theorem dX12_isList_17 : decode cX12_isList 17 = .ok (.ireturn, 1) := by decide +kernel
theorem dX12_made_0 : decode cX12_made 0 = .ok (.aload_n 0, 1) := by decide +kernel
theorem dX12_made_1 : decode cX12_made 1 = .ok (.getfield 7, 3) := by decide +kernel
theorem dX12_made_4 : decode cX12_made 4 = .ok (.aload_n 0, 1) := by decide +kernel
theorem dX12_made_5 : decode cX12_made 5 = .ok (.getfield 66, 3) := by decide +kernel
theorem dX12_made_8 : decode cX12_made 8 = .ok (.iload_n 1, 1) := by decide +kernel
theorem dX12_made_9 : decode cX12_made 9 = .ok (.iastore, 1) := by decide +kernel
theorem dX12_made_10 : decode cX12_made 10 = .ok (.aload_n 0, 1) := by decide +kernel
theorem dX12_made_11 : decode cX12_made 11 = .ok (.getfield 13, 3) := by decide +kernel
theorem dX12_made_14 : decode cX12_made 14 = .ok (.aload_n 0, 1) := by decide +kernel
theorem dX12_made_15 : decode cX12_made 15 = .ok (.getfield 66, 3) := by decide +kernel
theorem dX12_made_18 : decode cX12_made 18 = .ok (.iload_n 2, 1) := by decide +kernel
theorem dX12_made_19 : decode cX12_made 19 = .ok (.iastore, 1) := by decide +kernel
theorem dX12_made_20 : decode cX12_made 20 = .ok (.aload_n 0, 1) := by decide +kernel
theorem dX12_made_21 : decode cX12_made 21 = .ok (.getfield 16, 3) := by decide +kernel
theorem dX12_made_24 : decode cX12_made 24 = .ok (.aload_n 0, 1) := by decide +kernel
theorem dX12_made_25 : decode cX12_made 25 = .ok (.getfield 66, 3) := by decide +kernel
theorem dX12_made_28 : decode cX12_made 28 = .ok (.iload_n 3, 1) := by decide +kernel
theorem dX12_made_29 : decode cX12_made 29 = .ok (.iastore, 1) := by decide +kernel
theorem dX12_made_30 : decode cX12_made 30 = .ok (.aload_n 0, 1) := by decide +kernel
theorem dX12_made_31 : decode cX12_made 31 = .ok (.getfield 19, 3) := by decide +kernel
theorem dX12_made_34 : decode cX12_made 34 = .ok (.aload_n 0, 1) := by decide +kernel
theorem dX12_made_35 : decode cX12_made 35 = .ok (.getfield 66, 3) := by decide +kernel
theorem dX12_made_38 : decode cX12_made 38 = .ok (.iload 4, 2) := by decide +kernel
theorem dX12_made_40 : decode cX12_made 40 = .ok (.iastore, 1) := by decide +kernel
theorem dX12_made_41 : decode cX12_made 41 = .ok (.aload_n 0, 1) := by decide +kernel
theorem dX12_made_42 : decode cX12_made 42 = .ok (.getfield 22, 3) := by decide +kernel
theorem dX12_made_45 : decode cX12_made 45 = .ok (.aload_n 0, 1) := by decide +kernel
theorem dX12_made_46 : decode cX12_made 46 = .ok (.getfield 66, 3) := by decide +kernel
theorem dX12_made_49 : decode cX12_made 49 = .ok (.lload 5, 2) := by decide +kernel
theorem dX12_made_51 : decode cX12_made 51 = .ok (.lastore, 1) := by decide +kernel
theorem dX12_made_52 : decode cX12_made 52 = .ok (.aload_n 0, 1) := by decide +kernel
theorem dX12_made_53 : decode cX12_made 53 = .ok (.getfield 26, 3) := by decide +kernel
theorem dX12_made_56 : decode cX12_made 56 = .ok (.aload_n 0, 1) := by decide +kernel
theorem dX12_made_57 : decode cX12_made 57 = .ok (.getfield 66, 3) := by decide +kernel
theorem dX12_made_60 : decode cX12_made 60 = .ok (.lload 7, 2) := by decide +kernel
theorem dX12_made_62 : decode cX12_made 62 = .ok (.lastore, 1) := by decide +kernel
theorem dX12_made_63 : decode cX12_made 63 = .ok (.aload_n 0, 1) := by decide +kernel
theorem dX12_made_64 : decode cX12_made 64 = .ok (.dup, 1) := by decide +kernel
theorem dX12_made_65 : decode cX12_made 65 = .ok (.getfield 66, 3) := by decide +kernel
theorem dX12_made_68 : decode cX12_made 68 = .ok (.iconst 1, 1) := by decide +kernel
theorem dX12_made_69 : decode cX12_made 69 = .ok (.iadd, 1) := by decide +kernel
theorem dX12_made_70 : decode cX12_made 70 = .ok (.putfield 66, 3) := by decide +kernel
theorem dX12_made_73 : decode cX12_made 73 = .ok (.aload_n 0, 1) := by decide +kernel
theorem dX12_made_74 : decode cX12_made 74 = .ok (.getfield 66, 3) := by decide +kernel
theorem dX12_made_77 : decode cX12_made 77 = .ok (.iconst 1, 1) := by decide +kernel
theorem dX12_made_78 : decode cX12_made 78 = .ok (.isub, 1) := by decide +kernel
theorem dX12_made_79 : decode cX12_made 79 = .ok (.ireturn, 1) := by decide +kernel
theorem dX12_put_0 : decode cX12_put 0 = .ok (.aload_n 0, 1) := by decide +kernel
theorem dX12_put_1 : decode cX12_put 1 = .ok (.iconst 0, 1) := by decide +kernel
theorem dX12_put_2 : decode cX12_put 2 = .ok (.putfield 63, 3) := by decide +kernel
theorem dX12_put_5 : decode cX12_put 5 = .ok (.aload_n 0, 1) := by decide +kernel
theorem dX12_put_6 : decode cX12_put 6 = .ok (.getfield 69, 3) := by decide +kernel
theorem dX12_put_9 : decode cX12_put 9 = .ok (.bipush 100, 2) := by decide +kernel
theorem dX12_put_11 : decode cX12_put 11 = .ok (.if_icmp .ne 9, 3) := by decide +kernel
theorem dX12_put_20 : decode cX12_put 20 = .ok (.aload_n 0, 1) := by decide +kernel
theorem dX12_put_21 : decode cX12_put 21 = .ok (.getfield 44, 3) := by decide +kernel
theorem dX12_put_24 : decode cX12_put 24 = .ok (.aload_n 0, 1) := by decide +kernel
theorem dX12_put_25 : decode cX12_put 25 = .ok (.getfield 69, 3) := by decide +kernel
theorem dX12_put_28 : decode cX12_put 28 = .ok (.iconst 1, 1) := by decide +kernel
theorem dX12_put_29 : decode cX12_put 29 = .ok (.iastore, 1) := by decide +kernel
theorem dX12_put_30 : decode cX12_put 30 = .ok (.aload_n 0, 1) := by decide +kernel
theorem dX12_put_31 : decode cX12_put 31 = .ok (.getfield 47, 3) := by decide +kernel
theorem dX12_put_34 : decode cX12_put 34 = .ok (.aload_n 0, 1) := by decide +kernel
theorem dX12_put_35 : decode cX12_put 35 = .ok (.getfield 69, 3) := by decide +kernel
theorem dX12_put_38 : decode cX12_put 38 = .ok (.lload_n 1, 1) := by decide +kernel
theorem dX12_put_39 : decode cX12_put 39 = .ok (.lastore, 1) := by decide +kernel
theorem dX12_put_40 : decode cX12_put 40 = .ok (.aload_n 0, 1) := by decide +kernel
theorem dX12_put_41 : decode cX12_put 41 = .ok (.dup, 1) := by decide +kernel
theorem dX12_put_42 : decode cX12_put 42 = .ok (.getfield 69, 3) := by decide +kernel
theorem dX12_put_45 : decode cX12_put 45 = .ok (.iconst 1, 1) := by decide +kernel
theorem dX12_put_46 : decode cX12_put 46 = .ok (.iadd, 1) := by decide +kernel
theorem dX12_put_47 : decode cX12_put 47 = .ok (.putfield 69, 3) := by decide +kernel
theorem dX12_put_50 : decode cX12_put 50 = .ok (.aload_n 0, 1) := by decide +kernel
theorem dX12_put_51 : decode cX12_put 51 = .ok (.getfield 69, 3) := by decide +kernel
theorem dX12_put_54 : decode cX12_put 54 = .ok (.ireturn, 1) := by decide +kernel
set_option maxRecDepth 20000 in
theorem ggX12_hole_X12_fail : GoodIn wsX12_hole wsX12_fail := goodIn_r _ [8, 1, 9, 10, 11, 12, 13, 14, 15, 16, 17, 18, 19, 20, 21, 22, 23, 24, 25, 26, 27, 28, 29, 30, 31, 32, 33, 34, 35, 36, 37, 38, 39, 40] (by decide +kernel) (by decide +kernel)
set_option maxRecDepth 20000 in
theorem gX12_hole_X12_fail : GoodIn wsX12_hole (wsV RX12 72 RX12 yX12_fail wsX12_fail) := goodIn_app (goodIn_of _ (by decide +kernel)) ggX12_hole_X12_fail
theorem dX12_hole_0 : decode cX12_hole 0 = .ok (.aload_n 0, 1) := by decide +kernel
theorem dX12_hole_1 : decode cX12_hole 1 = .ok (.iconst 0, 1) := by decide +kernel
theorem dX12_hole_2 : decode cX12_hole 2 = .ok (.putfield 63, 3) := by decide +kernel
theorem dX12_hole_5 : decode cX12_hole 5 = .ok (.iload_n 1, 1) := by decide +kernel
theorem dX12_hole_6 : decode cX12_hole 6 = .ok (.ifCond .eq 14, 3) := by decide +kernel
theorem dX12_hole_9 : decode cX12_hole 9 = .ok (.iload_n 1, 1) := by decide +kernel
theorem dX12_hole_10 : decode cX12_hole 10 = .ok (.iconst 1, 1) := by decide +kernel
theorem dX12_hole_11 : decode cX12_hole 11 = .ok (.if_icmp .eq 9, 3) := by decide +kernel
theorem dX12_hole_14 : decode cX12_hole 14 = .ok (.aload_n 0, 1) := by decide +kernel
theorem dX12_hole_15 : decode cX12_hole 15 = .ok (.iconst 1, 1) := by decide +kernel
theorem dX12_hole_16 : decode cX12_hole 16 = .ok (.invokevirtual 72, 3) := by decide +kernel
theorem dX12_hole_19 : decode cX12_hole 19 = .ok (.ireturn, 1) := by decide +kernel
theorem dX12_hole_20 : decode cX12_hole 20 = .ok (.aload_n 0, 1) := by decide +kernel
theorem dX12_hole_21 : decode cX12_hole 21 = .ok (.getfield 69, 3) := by decide +kernel
theorem dX12_hole_24 : decode cX12_hole 24 = .ok (.bipush 100, 2) := by decide +kernel
theorem dX12_hole_26 : decode cX12_hole 26 = .ok (.if_icmp .ne 9, 3) := by decide +kernel
theorem dX12_hole_35 : decode cX12_hole 35 = .ok (.aload_n 0, 1) := by decide +kernel
theorem dX12_hole_36 : decode cX12_hole 36 = .ok (.getfield 44, 3) := by decide +kernel
theorem dX12_hole_39 : decode cX12_hole 39 = .ok (.aload_n 0, 1) := by decide +kernel
theorem dX12_hole_40 : decode cX12_hole 40 = .ok (.getfield 69, 3) := by decide +kernel
theorem dX12_hole_43 : decode cX12_hole 43 = .ok (.iload_n 1, 1) := by decide +kernel
theorem dX12_hole_44 : decode cX12_hole 44 = .ok (.ifCond .ne 7, 3) := by decide +kernel
theorem dX12_hole_47 : decode cX12_hole 47 = .ok (.iconst 3, 1) := by decide +kernel
theorem dX12_hole_48 : decode cX12_hole 48 = .ok (.goto 5, 3) := by decide +kernel
theorem dX12_hole_51 : decode cX12_hole 51 = .ok (.bipush 7, 2) := by decide +kernel
theorem dX12_hole_53 : decode cX12_hole 53 = .ok (.iastore, 1) := by decide +kernel
theorem dX12_hole_54 : decode cX12_hole 54 = .ok (.aload_n 0, 1) := by decide +kernel
theorem dX12_hole_55 : decode cX12_hole 55 = .ok (.dup, 1) := by decide +kernel
theorem dX12_hole_56 : decode cX12_hole 56 = .ok (.getfield 69, 3) := by decide +kernel
theorem dX12_hole_59 : decode cX12_hole 59 = .ok (.iconst 1, 1) := by decide +kernel
theorem dX12_hole_60 : decode cX12_hole 60 = .ok (.iadd, 1) := by decide +kernel
theorem dX12_hole_61 : decode cX12_hole 61 = .ok (.putfield 69, 3) := by decide +kernel
theorem dX12_hole_64 : decode cX12_hole 64 = .ok (.aload_n 0, 1) := by decide +kernel
theorem dX12_hole_65 : decode cX12_hole 65 = .ok (.getfield 69, 3) := by decide +kernel
theorem dX12_hole_68 : decode cX12_hole 68 = .ok (.ireturn, 1) := by decide +kernel
set_option maxRecDepth 20000 in
theorem ggX12_given_X12_made : GoodIn wsX12_given wsX12_made := goodIn_r _ [16, 17, 2, 18, 19, 20, 21, 22, 23, 24, 25, 26, 27, 28, 29, 30, 31, 32, 33, 34, 35, 36, 37, 38, 39, 40, 41, 42, 43, 44, 45, 46, 47, 48, 49, 50, 51, 52, 53, 54] (by decide +kernel) (by decide +kernel)
set_option maxRecDepth 20000 in
theorem gX12_given_X12_made : GoodIn wsX12_given (wsV RX12 76 RX12 yX12_made wsX12_made) := goodIn_app (goodIn_of _ (by decide +kernel)) ggX12_given_X12_made
theorem dX12_given_0 : decode cX12_given 0 = .ok (.aload_n 0, 1) := by decide +kernel
theorem dX12_given_1 : decode cX12_given 1 = .ok (.iconst 0, 1) := by decide +kernel
theorem dX12_given_2 : decode cX12_given 2 = .ok (.putfield 63, 3) := by decide +kernel
theorem dX12_given_5 : decode cX12_given 5 = .ok (.aload_n 0, 1) := by decide +kernel
theorem dX12_given_6 : decode cX12_given 6 = .ok (.getfield 66, 3) := by decide +kernel
theorem dX12_given_9 : decode cX12_given 9 = .ok (.bipush 24, 2) := by decide +kernel
theorem dX12_given_11 : decode cX12_given 11 = .ok (.if_icmp .ne 9, 3) := by decide +kernel
theorem dX12_given_20 : decode cX12_given 20 = .ok (.iconst 0, 1) := by decide +kernel
theorem dX12_given_21 : decode cX12_given 21 = .ok (.istore_n 2, 1) := by decide +kernel
theorem dX12_given_22 : decode cX12_given 22 = .ok (.iload_n 2, 1) := by decide +kernel
theorem dX12_given_23 : decode cX12_given 23 = .ok (.aload_n 0, 1) := by decide +kernel
theorem dX12_given_24 : decode cX12_given 24 = .ok (.getfield 69, 3) := by decide +kernel
theorem dX12_given_27 : decode cX12_given 27 = .ok (.if_icmp .ge 49, 3) := by decide +kernel
theorem dX12_given_76 : decode cX12_given 76 = .ok (.aload_n 0, 1) := by decide +kernel
theorem dX12_given_77 : decode cX12_given 77 = .ok (.getfield 69, 3) := by decide +kernel
theorem dX12_given_80 : decode cX12_given 80 = .ok (.istore_n 2, 1) := by decide +kernel
theorem dX12_given_81 : decode cX12_given 81 = .ok (.aload_n 0, 1) := by decide +kernel
theorem dX12_given_82 : decode cX12_given 82 = .ok (.iconst 0, 1) := by decide +kernel
theorem dX12_given_83 : decode cX12_given 83 = .ok (.putfield 69, 3) := by decide +kernel
theorem dX12_given_86 : decode cX12_given 86 = .ok (.aload_n 0, 1) := by decide +kernel
theorem dX12_given_87 : decode cX12_given 87 = .ok (.iconst 0, 1) := by decide +kernel
theorem dX12_given_88 : decode cX12_given 88 = .ok (.iload_n 2, 1) := by decide +kernel
theorem dX12_given_89 : decode cX12_given 89 = .ok (.iconst 0, 1) := by decide +kernel
theorem dX12_given_90 : decode cX12_given 90 = .ok (.iload_n 1, 1) := by decide +kernel
theorem dX12_given_91 : decode cX12_given 91 = .ok (.ifCond .eq 7, 3) := by decide +kernel
theorem dX12_given_94 : decode cX12_given 94 = .ok (.iconst 1, 1) := by decide +kernel
theorem dX12_given_95 : decode cX12_given 95 = .ok (.goto 4, 3) := by decide +kernel
theorem dX12_given_98 : decode cX12_given 98 = .ok (.iconst 0, 1) := by decide +kernel
theorem dX12_given_99 : decode cX12_given 99 = .ok (.lconst 0, 1) := by decide +kernel
theorem dX12_given_100 : decode cX12_given 100 = .ok (.lconst 0, 1) := by decide +kernel
theorem dX12_given_101 : decode cX12_given 101 = .ok (.invokevirtual 76, 3) := by decide +kernel
theorem dX12_given_104 : decode cX12_given 104 = .ok (.ireturn, 1) := by decide +kernel
set_option maxRecDepth 20000 in
theorem ggX12_count_X12_made : GoodIn wsX12_count wsX12_made := goodIn_r _ [11, 12, 2, 13, 14, 15, 16, 17, 18, 19, 20, 21, 22, 23, 24, 25, 26, 27, 28, 29, 30, 31, 32, 33, 34, 35, 36, 37, 38, 39, 40, 41, 42, 43, 44, 45, 46, 47, 48, 49] (by decide +kernel) (by decide +kernel)
set_option maxRecDepth 20000 in
theorem gX12_count_X12_made : GoodIn wsX12_count (wsV RX12 76 RX12 yX12_made wsX12_made) := goodIn_app (goodIn_of _ (by decide +kernel)) ggX12_count_X12_made
theorem dX12_count_0 : decode cX12_count 0 = .ok (.aload_n 0, 1) := by decide +kernel
theorem dX12_count_1 : decode cX12_count 1 = .ok (.iconst 0, 1) := by decide +kernel
theorem dX12_count_2 : decode cX12_count 2 = .ok (.putfield 63, 3) := by decide +kernel
theorem dX12_count_5 : decode cX12_count 5 = .ok (.aload_n 0, 1) := by decide +kernel
theorem dX12_count_6 : decode cX12_count 6 = .ok (.getfield 66, 3) := by decide +kernel
theorem dX12_count_9 : decode cX12_count 9 = .ok (.bipush 24, 2) := by decide +kernel
theorem dX12_count_11 : decode cX12_count 11 = .ok (.if_icmp .ne 11, 3) := by decide +kernel
theorem dX12_count_22 : decode cX12_count 22 = .ok (.aload_n 0, 1) := by decide +kernel
theorem dX12_count_23 : decode cX12_count 23 = .ok (.iconst 1, 1) := by decide +kernel
theorem dX12_count_24 : decode cX12_count 24 = .ok (.iconst 0, 1) := by decide +kernel
theorem dX12_count_25 : decode cX12_count 25 = .ok (.iconst 0, 1) := by decide +kernel
theorem dX12_count_26 : decode cX12_count 26 = .ok (.iconst 0, 1) := by decide +kernel
theorem dX12_count_27 : decode cX12_count 27 = .ok (.lload_n 1, 1) := by decide +kernel
theorem dX12_count_28 : decode cX12_count 28 = .ok (.lload_n 3, 1) := by decide +kernel
theorem dX12_count_29 : decode cX12_count 29 = .ok (.invokevirtual 76, 3) := by decide +kernel
theorem dX12_count_32 : decode cX12_count 32 = .ok (.ireturn, 1) := by decide +kernel
theorem dX12_isOp_0 : decode cX12_isOp 0 = .ok (.iload_n 0, 1) := by decide +kernel
theorem dX12_isOp_1 : decode cX12_isOp 1 = .ok (.ifCond .lt 13, 3) := by decide +kernel
theorem dX12_isOp_4 : decode cX12_isOp 4 = .ok (.iload_n 0, 1) := by decide +kernel
theorem dX12_isOp_5 : decode cX12_isOp 5 = .ok (.bipush 8, 2) := by decide +kernel
theorem dX12_isOp_7 : decode cX12_isOp 7 = .ok (.if_icmp .gt 7, 3) := by decide +kernel
theorem dX12_isOp_10 : decode cX12_isOp 10 = .ok (.iconst 1, 1) := by decide +kernel
theorem dX12_isOp_11 : decode cX12_isOp 11 = .ok (.goto 4, 3) := by decide +kernel
theorem dX12_isOp_14 : decode cX12_isOp 14 = .ok (.iconst 0, 1) := by decide +kernel
theorem dX12_isOp_15 : decode cX12_isOp 15 = .ok (.ireturn, 1) := by decide +kernel
set_option maxRecDepth 20000 in
theorem ggX12_iterate_X12_isOp : GoodIn wsX12_iterate wsX12_isOp := goodIn_r _ [6] (by decide +kernel) (by decide +kernel)
set_option maxRecDepth 20000 in
theorem gX12_iterate_X12_isOp : GoodIn wsX12_iterate (va_wsS RX12 80 yX12_isOp wsX12_isOp) := goodIn_app (goodIn_of _ (by decide +kernel)) ggX12_iterate_X12_isOp
set_option maxRecDepth 20000 in
theorem ggX12_iterate_X12_fail : GoodIn wsX12_iterate wsX12_fail := goodIn_r _ [10, 1, 21, 22, 23, 24, 25, 26, 27, 28, 29, 30, 31, 32, 33, 34, 35, 36, 37, 38, 39, 40, 41, 42, 43, 44, 45, 46, 47, 48, 49, 50, 51, 52] (by decide +kernel) (by decide +kernel)
set_option maxRecDepth 20000 in
theorem gX12_iterate_X12_fail : GoodIn wsX12_iterate (wsV RX12 72 RX12 yX12_fail wsX12_fail) := goodIn_app (goodIn_of _ (by decide +kernel)) ggX12_iterate_X12_fail
set_option maxRecDepth 20000 in
theorem ggX12_iterate_X12_made : GoodIn wsX12_iterate wsX12_made := goodIn_r _ [14, 15, 2, 16, 17, 18, 19, 20, 21, 22, 23, 24, 25, 26, 27, 28, 29, 30, 31, 32, 33, 34, 35, 36, 37, 38, 39, 40, 41, 42, 43, 44, 45, 46, 47, 48, 49, 50, 51, 52] (by decide +kernel) (by decide +kernel)
set_option maxRecDepth 20000 in
theorem gX12_iterate_X12_made : GoodIn wsX12_iterate (wsV RX12 76 RX12 yX12_made wsX12_made) := goodIn_app (goodIn_of _ (by decide +kernel)) ggX12_iterate_X12_made
theorem dX12_iterate_0 : decode cX12_iterate 0 = .ok (.aload_n 0, 1) := by decide +kernel
theorem dX12_iterate_1 : decode cX12_iterate 1 = .ok (.iconst 0, 1) := by decide +kernel
theorem dX12_iterate_2 : decode cX12_iterate 2 = .ok (.putfield 63, 3) := by decide +kernel
theorem dX12_iterate_5 : decode cX12_iterate 5 = .ok (.iload_n 1, 1) := by decide +kernel
theorem dX12_iterate_6 : decode cX12_iterate 6 = .ok (.invokestatic 80, 3) := by decide +kernel
theorem dX12_iterate_9 : decode cX12_iterate 9 = .ok (.ifCond .ne 9, 3) := by decide +kernel
theorem dX12_iterate_12 : decode cX12_iterate 12 = .ok (.aload_n 0, 1) := by decide +kernel
theorem dX12_iterate_13 : decode cX12_iterate 13 = .ok (.iconst 1, 1) := by decide +kernel
theorem dX12_iterate_14 : decode cX12_iterate 14 = .ok (.invokevirtual 72, 3) := by decide +kernel
theorem dX12_iterate_17 : decode cX12_iterate 17 = .ok (.ireturn, 1) := by decide +kernel
theorem dX12_iterate_18 : decode cX12_iterate 18 = .ok (.aload_n 0, 1) := by decide +kernel
theorem dX12_iterate_19 : decode cX12_iterate 19 = .ok (.getfield 66, 3) := by decide +kernel
theorem dX12_iterate_22 : decode cX12_iterate 22 = .ok (.bipush 24, 2) := by decide +kernel
theorem dX12_iterate_24 : decode cX12_iterate 24 = .ok (.if_icmp .ne 11, 3) := by decide +kernel
theorem dX12_iterate_35 : decode cX12_iterate 35 = .ok (.aload_n 0, 1) := by decide +kernel
theorem dX12_iterate_36 : decode cX12_iterate 36 = .ok (.iconst 2, 1) := by decide +kernel
theorem dX12_iterate_37 : decode cX12_iterate 37 = .ok (.iconst 0, 1) := by decide +kernel
theorem dX12_iterate_38 : decode cX12_iterate 38 = .ok (.iconst 0, 1) := by decide +kernel
theorem dX12_iterate_39 : decode cX12_iterate 39 = .ok (.iload_n 1, 1) := by decide +kernel
theorem dX12_iterate_40 : decode cX12_iterate 40 = .ok (.lload_n 2, 1) := by decide +kernel
theorem dX12_iterate_41 : decode cX12_iterate 41 = .ok (.lload 4, 2) := by decide +kernel
theorem dX12_iterate_43 : decode cX12_iterate 43 = .ok (.invokevirtual 76, 3) := by decide +kernel
theorem dX12_iterate_46 : decode cX12_iterate 46 = .ok (.ireturn, 1) := by decide +kernel
set_option maxRecDepth 20000 in
theorem ggX12_map_X12_isList : GoodIn wsX12_map wsX12_isList := goodIn_r _ [7, 2, 25, 26, 27, 28, 29, 30, 31, 32, 33, 34, 35, 36, 37, 38, 39, 40, 41, 42, 43, 44, 45, 46, 47, 48, 49, 50, 51, 52, 53, 54, 55, 56] (by decide +kernel) (by decide +kernel)
set_option maxRecDepth 20000 in
theorem gX12_map_X12_isList : GoodIn wsX12_map (wsV RX12 84 RX12 yX12_isList wsX12_isList) := goodIn_app (goodIn_of _ (by decide +kernel)) ggX12_map_X12_isList
set_option maxRecDepth 20000 in
theorem ggX12_map_X12_fail : GoodIn wsX12_map wsX12_fail := goodIn_r _ [11, 1, 25, 26, 27, 28, 29, 30, 31, 32, 33, 34, 35, 36, 37, 38, 39, 40, 41, 42, 43, 44, 45, 46, 47, 48, 49, 50, 51, 52, 53, 54, 55, 56] (by decide +kernel) (by decide +kernel)
set_option maxRecDepth 20000 in
theorem gX12_map_X12_fail : GoodIn wsX12_map (wsV RX12 72 RX12 yX12_fail wsX12_fail) := goodIn_app (goodIn_of _ (by decide +kernel)) ggX12_map_X12_fail
theorem dX12_map_0 : decode cX12_map 0 = .ok (.aload_n 0, 1) := by decide +kernel
theorem dX12_map_1 : decode cX12_map 1 = .ok (.iconst 0, 1) := by decide +kernel
theorem dX12_map_2 : decode cX12_map 2 = .ok (.putfield 63, 3) := by decide +kernel
theorem dX12_map_5 : decode cX12_map 5 = .ok (.aload_n 0, 1) := by decide +kernel
theorem dX12_map_6 : decode cX12_map 6 = .ok (.iload_n 1, 1) := by decide +kernel
theorem dX12_map_7 : decode cX12_map 7 = .ok (.invokevirtual 84, 3) := by decide +kernel
theorem dX12_map_10 : decode cX12_map 10 = .ok (.ifCond .ne 9, 3) := by decide +kernel
theorem dX12_map_13 : decode cX12_map 13 = .ok (.aload_n 0, 1) := by decide +kernel
theorem dX12_map_14 : decode cX12_map 14 = .ok (.iconst 1, 1) := by decide +kernel
theorem dX12_map_15 : decode cX12_map 15 = .ok (.invokevirtual 72, 3) := by decide +kernel
theorem dX12_map_18 : decode cX12_map 18 = .ok (.ireturn, 1) := by decide +kernel
set_option maxRecDepth 20000 in
theorem ggX12_both_X12_isList : GoodIn wsX12_both wsX12_isList := goodIn_r _ [7, 2, 25, 26, 27, 28, 29, 30, 31, 32, 33, 34, 35, 36, 37, 38, 39, 40, 41, 42, 43, 44, 45, 46, 47, 48, 49, 50, 51, 52, 53, 54, 55, 56] (by decide +kernel) (by decide +kernel)
set_option maxRecDepth 20000 in
theorem gX12_both_X12_isList : GoodIn wsX12_both (wsV RX12 84 RX12 yX12_isList wsX12_isList) := goodIn_app (goodIn_of _ (by decide +kernel)) ggX12_both_X12_isList
set_option maxRecDepth 20000 in
theorem ggX12_both_X12_fail : GoodIn wsX12_both wsX12_fail := goodIn_r _ [11, 1, 25, 26, 27, 28, 29, 30, 31, 32, 33, 34, 35, 36, 37, 38, 39, 40, 41, 42, 43, 44, 45, 46, 47, 48, 49, 50, 51, 52, 53, 54, 55, 56] (by decide +kernel) (by decide +kernel)
set_option maxRecDepth 20000 in
theorem gX12_both_X12_fail : GoodIn wsX12_both (wsV RX12 72 RX12 yX12_fail wsX12_fail) := goodIn_app (goodIn_of _ (by decide +kernel)) ggX12_both_X12_fail
theorem dX12_both_0 : decode cX12_both 0 = .ok (.aload_n 0, 1) := by decide +kernel
theorem dX12_both_1 : decode cX12_both 1 = .ok (.iconst 0, 1) := by decide +kernel
theorem dX12_both_2 : decode cX12_both 2 = .ok (.putfield 63, 3) := by decide +kernel
theorem dX12_both_5 : decode cX12_both 5 = .ok (.aload_n 0, 1) := by decide +kernel
theorem dX12_both_6 : decode cX12_both 6 = .ok (.iload_n 1, 1) := by decide +kernel
theorem dX12_both_7 : decode cX12_both 7 = .ok (.invokevirtual 84, 3) := by decide +kernel
theorem dX12_both_10 : decode cX12_both 10 = .ok (.ifCond .eq 11, 3) := by decide +kernel
theorem dX12_both_21 : decode cX12_both 21 = .ok (.aload_n 0, 1) := by decide +kernel
theorem dX12_both_22 : decode cX12_both 22 = .ok (.iconst 1, 1) := by decide +kernel
theorem dX12_both_23 : decode cX12_both 23 = .ok (.invokevirtual 72, 3) := by decide +kernel
theorem dX12_both_26 : decode cX12_both 26 = .ok (.ireturn, 1) := by decide +kernel
set_option maxRecDepth 20000 in
theorem ggX12_scan_X12_isList : GoodIn wsX12_scan wsX12_isList := goodIn_r _ [7, 2, 25, 26, 27, 28, 29, 30, 31, 32, 33, 34, 35, 36, 37, 38, 39, 40, 41, 42, 43, 44, 45, 46, 47, 48, 49, 50, 51, 52, 53, 54, 55, 56] (by decide +kernel) (by decide +kernel)
set_option maxRecDepth 20000 in
theorem gX12_scan_X12_isList : GoodIn wsX12_scan (wsV RX12 84 RX12 yX12_isList wsX12_isList) := goodIn_app (goodIn_of _ (by decide +kernel)) ggX12_scan_X12_isList
set_option maxRecDepth 20000 in
theorem ggX12_scan_X12_fail : GoodIn wsX12_scan wsX12_fail := goodIn_r _ [11, 1, 25, 26, 27, 28, 29, 30, 31, 32, 33, 34, 35, 36, 37, 38, 39, 40, 41, 42, 43, 44, 45, 46, 47, 48, 49, 50, 51, 52, 53, 54, 55, 56] (by decide +kernel) (by decide +kernel)
set_option maxRecDepth 20000 in
theorem gX12_scan_X12_fail : GoodIn wsX12_scan (wsV RX12 72 RX12 yX12_fail wsX12_fail) := goodIn_app (goodIn_of _ (by decide +kernel)) ggX12_scan_X12_fail
theorem dX12_scan_0 : decode cX12_scan 0 = .ok (.aload_n 0, 1) := by decide +kernel
theorem dX12_scan_1 : decode cX12_scan 1 = .ok (.iconst 0, 1) := by decide +kernel
theorem dX12_scan_2 : decode cX12_scan 2 = .ok (.putfield 63, 3) := by decide +kernel
theorem dX12_scan_5 : decode cX12_scan 5 = .ok (.aload_n 0, 1) := by decide +kernel
theorem dX12_scan_6 : decode cX12_scan 6 = .ok (.iload_n 1, 1) := by decide +kernel
theorem dX12_scan_7 : decode cX12_scan 7 = .ok (.invokevirtual 84, 3) := by decide +kernel
theorem dX12_scan_10 : decode cX12_scan 10 = .ok (.ifCond .ne 9, 3) := by decide +kernel
theorem dX12_scan_13 : decode cX12_scan 13 = .ok (.aload_n 0, 1) := by decide +kernel
theorem dX12_scan_14 : decode cX12_scan 14 = .ok (.iconst 1, 1) := by decide +kernel
theorem dX12_scan_15 : decode cX12_scan 15 = .ok (.invokevirtual 72, 3) := by decide +kernel
theorem dX12_scan_18 : decode cX12_scan 18 = .ok (.ireturn, 1) := by decide +kernel
set_option maxRecDepth 20000 in
theorem ggX12_some_X12_isList : GoodIn wsX12_some wsX12_isList := goodIn_r _ [6, 1, 22, 23, 24, 25, 26, 27, 28, 29, 30, 31, 32, 33, 34, 35, 36, 37, 38, 39, 40, 41, 42, 43, 44, 45, 46, 47, 48, 49, 50, 51, 52, 53] (by decide +kernel) (by decide +kernel)
set_option maxRecDepth 20000 in
theorem gX12_some_X12_isList : GoodIn wsX12_some (wsV RX12 84 RX12 yX12_isList wsX12_isList) := goodIn_app (goodIn_of _ (by decide +kernel)) ggX12_some_X12_isList
set_option maxRecDepth 20000 in
theorem ggX12_some_X12_fail : GoodIn wsX12_some wsX12_fail := goodIn_r _ [10, 11, 22, 23, 24, 25, 26, 27, 28, 29, 30, 31, 32, 33, 34, 35, 36, 37, 38, 39, 40, 41, 42, 43, 44, 45, 46, 47, 48, 49, 50, 51, 52, 53] (by decide +kernel) (by decide +kernel)
set_option maxRecDepth 20000 in
theorem gX12_some_X12_fail : GoodIn wsX12_some (wsV RX12 72 RX12 yX12_fail wsX12_fail) := goodIn_app (goodIn_of _ (by decide +kernel)) ggX12_some_X12_fail
theorem dX12_some_0 : decode cX12_some 0 = .ok (.aload_n 0, 1) := by decide +kernel
theorem dX12_some_1 : decode cX12_some 1 = .ok (.iload_n 2, 1) := by decide +kernel
theorem dX12_some_2 : decode cX12_some 2 = .ok (.invokevirtual 84, 3) := by decide +kernel
theorem dX12_some_5 : decode cX12_some 5 = .ok (.ifCond .ne 9, 3) := by decide +kernel
theorem dX12_some_8 : decode cX12_some 8 = .ok (.aload_n 0, 1) := by decide +kernel
theorem dX12_some_9 : decode cX12_some 9 = .ok (.iconst 1, 1) := by decide +kernel
theorem dX12_some_10 : decode cX12_some 10 = .ok (.invokevirtual 72, 3) := by decide +kernel
theorem dX12_some_13 : decode cX12_some 13 = .ok (.ireturn, 1) := by decide +kernel
set_option maxRecDepth 20000 in
theorem ggX12_take_X12_some : GoodIn wsX12_take wsX12_some := goodIn_r _ [6, 7, 8, 9, 10, 5, 11, 12, 13, 14, 15, 1, 16, 17, 18, 19, 20, 21, 22, 23, 24, 25, 26, 27, 28, 29, 30, 31, 32, 33, 34, 35, 36, 37, 38, 39, 40, 41, 42, 43, 44, 45, 46, 47, 48, 49, 50, 51, 52, 53, 54, 55, 56, 57] (by decide +kernel) (by decide +kernel)
set_option maxRecDepth 20000 in
theorem gX12_take_X12_some : GoodIn wsX12_take (wsV RX12 87 RX12 yX12_some wsX12_some) := goodIn_app (goodIn_of _ (by decide +kernel)) ggX12_take_X12_some
theorem dX12_take_0 : decode cX12_take 0 = .ok (.aload_n 0, 1) := by decide +kernel
theorem dX12_take_1 : decode cX12_take 1 = .ok (.iconst 0, 1) := by decide +kernel
theorem dX12_take_2 : decode cX12_take 2 = .ok (.putfield 63, 3) := by decide +kernel
theorem dX12_take_5 : decode cX12_take 5 = .ok (.aload_n 0, 1) := by decide +kernel
theorem dX12_take_6 : decode cX12_take 6 = .ok (.bipush 6, 2) := by decide +kernel
theorem dX12_take_8 : decode cX12_take 8 = .ok (.iload_n 1, 1) := by decide +kernel
theorem dX12_take_9 : decode cX12_take 9 = .ok (.iload_n 2, 1) := by decide +kernel
theorem dX12_take_10 : decode cX12_take 10 = .ok (.invokevirtual 87, 3) := by decide +kernel
theorem dX12_take_13 : decode cX12_take 13 = .ok (.ireturn, 1) := by decide +kernel
set_option maxRecDepth 20000 in
theorem ggX12_drop_X12_some : GoodIn wsX12_drop wsX12_some := goodIn_r _ [6, 7, 8, 9, 10, 5, 11, 12, 13, 14, 15, 1, 16, 17, 18, 19, 20, 21, 22, 23, 24, 25, 26, 27, 28, 29, 30, 31, 32, 33, 34, 35, 36, 37, 38, 39, 40, 41, 42, 43, 44, 45, 46, 47, 48, 49, 50, 51, 52, 53, 54, 55, 56, 57] (by decide +kernel) (by decide +kernel)
set_option maxRecDepth 20000 in
theorem gX12_drop_X12_some : GoodIn wsX12_drop (wsV RX12 87 RX12 yX12_some wsX12_some) := goodIn_app (goodIn_of _ (by decide +kernel)) ggX12_drop_X12_some
theorem dX12_drop_0 : decode cX12_drop 0 = .ok (.aload_n 0, 1) := by decide +kernel
theorem dX12_drop_1 : decode cX12_drop 1 = .ok (.iconst 0, 1) := by decide +kernel
theorem dX12_drop_2 : decode cX12_drop 2 = .ok (.putfield 63, 3) := by decide +kernel
theorem dX12_drop_5 : decode cX12_drop 5 = .ok (.aload_n 0, 1) := by decide +kernel
theorem dX12_drop_6 : decode cX12_drop 6 = .ok (.bipush 7, 2) := by decide +kernel
theorem dX12_drop_8 : decode cX12_drop 8 = .ok (.iload_n 1, 1) := by decide +kernel
theorem dX12_drop_9 : decode cX12_drop 9 = .ok (.iload_n 2, 1) := by decide +kernel
theorem dX12_drop_10 : decode cX12_drop 10 = .ok (.invokevirtual 87, 3) := by decide +kernel
theorem dX12_drop_13 : decode cX12_drop 13 = .ok (.ireturn, 1) := by decide +kernel
set_option maxRecDepth 20000 in
theorem ggX12_by_X12_isList : GoodIn wsX12_by wsX12_isList := goodIn_r _ [6, 1, 25, 26, 27, 28, 29, 30, 31, 32, 33, 34, 35, 36, 37, 38, 39, 40, 41, 42, 43, 44, 45, 46, 47, 48, 49, 50, 51, 52, 53, 54, 55, 56] (by decide +kernel) (by decide +kernel)
set_option maxRecDepth 20000 in
theorem gX12_by_X12_isList : GoodIn wsX12_by (wsV RX12 84 RX12 yX12_isList wsX12_isList) := goodIn_app (goodIn_of _ (by decide +kernel)) ggX12_by_X12_isList
set_option maxRecDepth 20000 in
theorem ggX12_by_X12_fail : GoodIn wsX12_by wsX12_fail := goodIn_r _ [10, 11, 25, 26, 27, 28, 29, 30, 31, 32, 33, 34, 35, 36, 37, 38, 39, 40, 41, 42, 43, 44, 45, 46, 47, 48, 49, 50, 51, 52, 53, 54, 55, 56] (by decide +kernel) (by decide +kernel)
set_option maxRecDepth 20000 in
theorem gX12_by_X12_fail : GoodIn wsX12_by (wsV RX12 72 RX12 yX12_fail wsX12_fail) := goodIn_app (goodIn_of _ (by decide +kernel)) ggX12_by_X12_fail
theorem dX12_by_0 : decode cX12_by 0 = .ok (.aload_n 0, 1) := by decide +kernel
theorem dX12_by_1 : decode cX12_by 1 = .ok (.iload_n 2, 1) := by decide +kernel
theorem dX12_by_2 : decode cX12_by 2 = .ok (.invokevirtual 84, 3) := by decide +kernel
theorem dX12_by_5 : decode cX12_by 5 = .ok (.ifCond .ne 9, 3) := by decide +kernel
theorem dX12_by_8 : decode cX12_by 8 = .ok (.aload_n 0, 1) := by decide +kernel
theorem dX12_by_9 : decode cX12_by 9 = .ok (.iconst 1, 1) := by decide +kernel
theorem dX12_by_10 : decode cX12_by 10 = .ok (.invokevirtual 72, 3) := by decide +kernel
theorem dX12_by_13 : decode cX12_by 13 = .ok (.ireturn, 1) := by decide +kernel
set_option maxRecDepth 20000 in
theorem ggX12_keep_X12_by : GoodIn wsX12_keep wsX12_by := goodIn_r _ [6, 7, 8, 9, 10, 5, 11, 12, 13, 14, 15, 1, 16, 17, 18, 19, 20, 21, 22, 23, 24, 25, 26, 27, 28, 29, 30, 31, 32, 33, 34, 35, 36, 37, 38, 39, 40, 41, 42, 43, 44, 45, 46, 47, 48, 49, 50, 51, 52, 53, 54, 55, 56, 57, 58, 59, 60] (by decide +kernel) (by decide +kernel)
set_option maxRecDepth 20000 in
theorem gX12_keep_X12_by : GoodIn wsX12_keep (wsV RX12 94 RX12 yX12_by wsX12_by) := goodIn_app (goodIn_of _ (by decide +kernel)) ggX12_keep_X12_by
theorem dX12_keep_0 : decode cX12_keep 0 = .ok (.aload_n 0, 1) := by decide +kernel
theorem dX12_keep_1 : decode cX12_keep 1 = .ok (.iconst 0, 1) := by decide +kernel
theorem dX12_keep_2 : decode cX12_keep 2 = .ok (.putfield 63, 3) := by decide +kernel
theorem dX12_keep_5 : decode cX12_keep 5 = .ok (.aload_n 0, 1) := by decide +kernel
theorem dX12_keep_6 : decode cX12_keep 6 = .ok (.bipush 8, 2) := by decide +kernel
theorem dX12_keep_8 : decode cX12_keep 8 = .ok (.iload_n 1, 1) := by decide +kernel
theorem dX12_keep_9 : decode cX12_keep 9 = .ok (.iload_n 2, 1) := by decide +kernel
theorem dX12_keep_10 : decode cX12_keep 10 = .ok (.lload_n 3, 1) := by decide +kernel
theorem dX12_keep_11 : decode cX12_keep 11 = .ok (.invokevirtual 94, 3) := by decide +kernel
theorem dX12_keep_14 : decode cX12_keep 14 = .ok (.ireturn, 1) := by decide +kernel
set_option maxRecDepth 20000 in
theorem ggX12_during_X12_by : GoodIn wsX12_during wsX12_by := goodIn_r _ [6, 7, 8, 9, 10, 5, 11, 12, 13, 14, 15, 1, 16, 17, 18, 19, 20, 21, 22, 23, 24, 25, 26, 27, 28, 29, 30, 31, 32, 33, 34, 35, 36, 37, 38, 39, 40, 41, 42, 43, 44, 45, 46, 47, 48, 49, 50, 51, 52, 53, 54, 55, 56, 57, 58, 59, 60] (by decide +kernel) (by decide +kernel)
set_option maxRecDepth 20000 in
theorem gX12_during_X12_by : GoodIn wsX12_during (wsV RX12 94 RX12 yX12_by wsX12_by) := goodIn_app (goodIn_of _ (by decide +kernel)) ggX12_during_X12_by
theorem dX12_during_0 : decode cX12_during 0 = .ok (.aload_n 0, 1) := by decide +kernel
theorem dX12_during_1 : decode cX12_during 1 = .ok (.iconst 0, 1) := by decide +kernel
theorem dX12_during_2 : decode cX12_during 2 = .ok (.putfield 63, 3) := by decide +kernel
theorem dX12_during_5 : decode cX12_during 5 = .ok (.aload_n 0, 1) := by decide +kernel
theorem dX12_during_6 : decode cX12_during 6 = .ok (.bipush 9, 2) := by decide +kernel
theorem dX12_during_8 : decode cX12_during 8 = .ok (.iload_n 1, 1) := by decide +kernel
theorem dX12_during_9 : decode cX12_during 9 = .ok (.iload_n 2, 1) := by decide +kernel
theorem dX12_during_10 : decode cX12_during 10 = .ok (.lload_n 3, 1) := by decide +kernel
theorem dX12_during_11 : decode cX12_during 11 = .ok (.invokevirtual 94, 3) := by decide +kernel
theorem dX12_during_14 : decode cX12_during 14 = .ok (.ireturn, 1) := by decide +kernel
set_option maxRecDepth 20000 in
theorem ggX12_after_X12_by : GoodIn wsX12_after wsX12_by := goodIn_r _ [6, 7, 8, 9, 10, 5, 11, 12, 13, 14, 15, 1, 16, 17, 18, 19, 20, 21, 22, 23, 24, 25, 26, 27, 28, 29, 30, 31, 32, 33, 34, 35, 36, 37, 38, 39, 40, 41, 42, 43, 44, 45, 46, 47, 48, 49, 50, 51, 52, 53, 54, 55, 56, 57, 58, 59, 60] (by decide +kernel) (by decide +kernel)
set_option maxRecDepth 20000 in
theorem gX12_after_X12_by : GoodIn wsX12_after (wsV RX12 94 RX12 yX12_by wsX12_by) := goodIn_app (goodIn_of _ (by decide +kernel)) ggX12_after_X12_by
theorem dX12_after_0 : decode cX12_after 0 = .ok (.aload_n 0, 1) := by decide +kernel
theorem dX12_after_1 : decode cX12_after 1 = .ok (.iconst 0, 1) := by decide +kernel
theorem dX12_after_2 : decode cX12_after 2 = .ok (.putfield 63, 3) := by decide +kernel
theorem dX12_after_5 : decode cX12_after 5 = .ok (.aload_n 0, 1) := by decide +kernel
theorem dX12_after_6 : decode cX12_after 6 = .ok (.bipush 10, 2) := by decide +kernel
theorem dX12_after_8 : decode cX12_after 8 = .ok (.iload_n 1, 1) := by decide +kernel
theorem dX12_after_9 : decode cX12_after 9 = .ok (.iload_n 2, 1) := by decide +kernel
theorem dX12_after_10 : decode cX12_after 10 = .ok (.lload_n 3, 1) := by decide +kernel
theorem dX12_after_11 : decode cX12_after 11 = .ok (.invokevirtual 94, 3) := by decide +kernel
theorem dX12_after_14 : decode cX12_after 14 = .ok (.ireturn, 1) := by decide +kernel
set_option maxRecDepth 20000 in
theorem ggX12_join_X12_isList : GoodIn wsX12_join wsX12_isList := goodIn_r _ [7, 2, 22, 23, 24, 25, 26, 27, 28, 29, 30, 31, 32, 33, 34, 35, 36, 37, 38, 39, 40, 41, 42, 43, 44, 45, 46, 47, 48, 49, 50, 51, 52, 53] (by decide +kernel) (by decide +kernel)
set_option maxRecDepth 20000 in
theorem gX12_join_X12_isList : GoodIn wsX12_join (wsV RX12 84 RX12 yX12_isList wsX12_isList) := goodIn_app (goodIn_of _ (by decide +kernel)) ggX12_join_X12_isList
set_option maxRecDepth 20000 in
theorem ggX12_join_X12_fail : GoodIn wsX12_join wsX12_fail := goodIn_r _ [11, 1, 22, 23, 24, 25, 26, 27, 28, 29, 30, 31, 32, 33, 34, 35, 36, 37, 38, 39, 40, 41, 42, 43, 44, 45, 46, 47, 48, 49, 50, 51, 52, 53] (by decide +kernel) (by decide +kernel)
set_option maxRecDepth 20000 in
theorem gX12_join_X12_fail : GoodIn wsX12_join (wsV RX12 72 RX12 yX12_fail wsX12_fail) := goodIn_app (goodIn_of _ (by decide +kernel)) ggX12_join_X12_fail
theorem dX12_join_0 : decode cX12_join 0 = .ok (.aload_n 0, 1) := by decide +kernel
theorem dX12_join_1 : decode cX12_join 1 = .ok (.iconst 0, 1) := by decide +kernel
theorem dX12_join_2 : decode cX12_join 2 = .ok (.putfield 63, 3) := by decide +kernel
theorem dX12_join_5 : decode cX12_join 5 = .ok (.aload_n 0, 1) := by decide +kernel
theorem dX12_join_6 : decode cX12_join 6 = .ok (.iload_n 1, 1) := by decide +kernel
theorem dX12_join_7 : decode cX12_join 7 = .ok (.invokevirtual 84, 3) := by decide +kernel
theorem dX12_join_10 : decode cX12_join 10 = .ok (.ifCond .eq 11, 3) := by decide +kernel
theorem dX12_join_21 : decode cX12_join 21 = .ok (.aload_n 0, 1) := by decide +kernel
theorem dX12_join_22 : decode cX12_join 22 = .ok (.iconst 1, 1) := by decide +kernel
theorem dX12_join_23 : decode cX12_join 23 = .ok (.invokevirtual 72, 3) := by decide +kernel
theorem dX12_join_26 : decode cX12_join 26 = .ok (.ireturn, 1) := by decide +kernel
set_option maxRecDepth 20000 in
theorem ggX12_other_X12_isList : GoodIn wsX12_other wsX12_isList := goodIn_r _ [7, 2, 22, 23, 24, 25, 26, 27, 28, 29, 30, 31, 32, 33, 34, 35, 36, 37, 38, 39, 40, 41, 42, 43, 44, 45, 46, 47, 48, 49, 50, 51, 52, 53] (by decide +kernel) (by decide +kernel)
set_option maxRecDepth 20000 in
theorem gX12_other_X12_isList : GoodIn wsX12_other (wsV RX12 84 RX12 yX12_isList wsX12_isList) := goodIn_app (goodIn_of _ (by decide +kernel)) ggX12_other_X12_isList
set_option maxRecDepth 20000 in
theorem ggX12_other_X12_fail : GoodIn wsX12_other wsX12_fail := goodIn_r _ [11, 1, 22, 23, 24, 25, 26, 27, 28, 29, 30, 31, 32, 33, 34, 35, 36, 37, 38, 39, 40, 41, 42, 43, 44, 45, 46, 47, 48, 49, 50, 51, 52, 53] (by decide +kernel) (by decide +kernel)
set_option maxRecDepth 20000 in
theorem gX12_other_X12_fail : GoodIn wsX12_other (wsV RX12 72 RX12 yX12_fail wsX12_fail) := goodIn_app (goodIn_of _ (by decide +kernel)) ggX12_other_X12_fail
theorem dX12_other_0 : decode cX12_other 0 = .ok (.aload_n 0, 1) := by decide +kernel
theorem dX12_other_1 : decode cX12_other 1 = .ok (.iconst 0, 1) := by decide +kernel
theorem dX12_other_2 : decode cX12_other 2 = .ok (.putfield 63, 3) := by decide +kernel
theorem dX12_other_5 : decode cX12_other 5 = .ok (.aload_n 0, 1) := by decide +kernel
theorem dX12_other_6 : decode cX12_other 6 = .ok (.iload_n 1, 1) := by decide +kernel
theorem dX12_other_7 : decode cX12_other 7 = .ok (.invokevirtual 84, 3) := by decide +kernel
theorem dX12_other_10 : decode cX12_other 10 = .ok (.ifCond .ne 9, 3) := by decide +kernel
theorem dX12_other_13 : decode cX12_other 13 = .ok (.aload_n 0, 1) := by decide +kernel
theorem dX12_other_14 : decode cX12_other 14 = .ok (.iconst 1, 1) := by decide +kernel
theorem dX12_other_15 : decode cX12_other 15 = .ok (.invokevirtual 72, 3) := by decide +kernel
theorem dX12_other_18 : decode cX12_other 18 = .ok (.ireturn, 1) := by decide +kernel
set_option maxRecDepth 20000 in
theorem ggX12_steps_X12_fail : GoodIn wsX12_steps wsX12_fail := goodIn_r _ [7, 1, 8, 9, 10, 11, 12, 13, 14, 15, 16, 17, 18, 19, 20, 21, 22, 23, 24, 25, 26, 27, 28, 29, 30, 31, 32, 33, 34, 35, 36, 37, 38, 39] (by decide +kernel) (by decide +kernel)
set_option maxRecDepth 20000 in
theorem gX12_steps_X12_fail : GoodIn wsX12_steps (wsV RX12 72 RX12 yX12_fail wsX12_fail) := goodIn_app (goodIn_of _ (by decide +kernel)) ggX12_steps_X12_fail
theorem dX12_steps_0 : decode cX12_steps 0 = .ok (.aload_n 0, 1) := by decide +kernel
theorem dX12_steps_1 : decode cX12_steps 1 = .ok (.iconst 0, 1) := by decide +kernel
theorem dX12_steps_2 : decode cX12_steps 2 = .ok (.putfield 63, 3) := by decide +kernel
theorem dX12_steps_5 : decode cX12_steps 5 = .ok (.iload_n 1, 1) := by decide +kernel
theorem dX12_steps_6 : decode cX12_steps 6 = .ok (.iconst 1, 1) := by decide +kernel
theorem dX12_steps_7 : decode cX12_steps 7 = .ok (.if_icmp .lt 10, 3) := by decide +kernel
theorem dX12_steps_10 : decode cX12_steps 10 = .ok (.iload_n 1, 1) := by decide +kernel
theorem dX12_steps_11 : decode cX12_steps 11 = .ok (.sipush 5000, 3) := by decide +kernel
theorem dX12_steps_14 : decode cX12_steps 14 = .ok (.if_icmp .le 9, 3) := by decide +kernel
theorem dX12_steps_17 : decode cX12_steps 17 = .ok (.aload_n 0, 1) := by decide +kernel
theorem dX12_steps_18 : decode cX12_steps 18 = .ok (.iconst 1, 1) := by decide +kernel
theorem dX12_steps_19 : decode cX12_steps 19 = .ok (.invokevirtual 72, 3) := by decide +kernel
theorem dX12_steps_22 : decode cX12_steps 22 = .ok (.ireturn, 1) := by decide +kernel
theorem dX12_steps_23 : decode cX12_steps 23 = .ok (.aload_n 0, 1) := by decide +kernel
theorem dX12_steps_24 : decode cX12_steps 24 = .ok (.getfield 50, 3) := by decide +kernel
theorem dX12_steps_27 : decode cX12_steps 27 = .ok (.istore_n 2, 1) := by decide +kernel
theorem dX12_steps_28 : decode cX12_steps 28 = .ok (.aload_n 0, 1) := by decide +kernel
theorem dX12_steps_29 : decode cX12_steps 29 = .ok (.iload_n 1, 1) := by decide +kernel
theorem dX12_steps_30 : decode cX12_steps 30 = .ok (.putfield 50, 3) := by decide +kernel
theorem dX12_steps_33 : decode cX12_steps 33 = .ok (.iload_n 2, 1) := by decide +kernel
theorem dX12_steps_34 : decode cX12_steps 34 = .ok (.ireturn, 1) := by decide +kernel
theorem dX12_at_0 : decode cX12_at 0 = .ok (.aload_n 0, 1) := by decide +kernel
theorem dX12_at_1 : decode cX12_at 1 = .ok (.iconst 0, 1) := by decide +kernel
theorem dX12_at_2 : decode cX12_at 2 = .ok (.putfield 63, 3) := by decide +kernel
theorem dX12_at_5 : decode cX12_at 5 = .ok (.aload_n 0, 1) := by decide +kernel
theorem dX12_at_6 : decode cX12_at 6 = .ok (.iload_n 1, 1) := by decide +kernel
theorem dX12_at_7 : decode cX12_at 7 = .ok (.invokevirtual 84, 3) := by decide +kernel
theorem dX12_at_10 : decode cX12_at 10 = .ok (.ifCond .ne 10, 3) := by decide +kernel
theorem dX12_at_13 : decode cX12_at 13 = .ok (.aload_n 0, 1) := by decide +kernel
theorem dX12_at_14 : decode cX12_at 14 = .ok (.iconst 1, 1) := by decide +kernel
theorem dX12_at_15 : decode cX12_at 15 = .ok (.invokevirtual 72, 3) := by decide +kernel
theorem dX12_at_18 : decode cX12_at 18 = .ok (.i2l, 1) := by decide +kernel
theorem dX12_at_19 : decode cX12_at 19 = .ok (.lreturn, 1) := by decide +kernel
theorem dX12_size_0 : decode cX12_size 0 = .ok (.aload_n 0, 1) := by decide +kernel
theorem dX12_size_1 : decode cX12_size 1 = .ok (.iconst 0, 1) := by decide +kernel
theorem dX12_size_2 : decode cX12_size 2 = .ok (.putfield 63, 3) := by decide +kernel
theorem dX12_size_5 : decode cX12_size 5 = .ok (.aload_n 0, 1) := by decide +kernel
theorem dX12_size_6 : decode cX12_size 6 = .ok (.iload_n 1, 1) := by decide +kernel
theorem dX12_size_7 : decode cX12_size 7 = .ok (.invokevirtual 84, 3) := by decide +kernel
theorem dX12_size_10 : decode cX12_size 10 = .ok (.ifCond .ne 10, 3) := by decide +kernel
theorem dX12_size_13 : decode cX12_size 13 = .ok (.aload_n 0, 1) := by decide +kernel
theorem dX12_size_14 : decode cX12_size 14 = .ok (.iconst 1, 1) := by decide +kernel
theorem dX12_size_15 : decode cX12_size 15 = .ok (.invokevirtual 72, 3) := by decide +kernel
theorem dX12_size_18 : decode cX12_size 18 = .ok (.i2l, 1) := by decide +kernel
theorem dX12_size_19 : decode cX12_size 19 = .ok (.lreturn, 1) := by decide +kernel
theorem dX12_fold_0 : decode cX12_fold 0 = .ok (.aload_n 0, 1) := by decide +kernel
theorem dX12_fold_1 : decode cX12_fold 1 = .ok (.iconst 0, 1) := by decide +kernel
theorem dX12_fold_2 : decode cX12_fold 2 = .ok (.putfield 63, 3) := by decide +kernel
theorem dX12_fold_5 : decode cX12_fold 5 = .ok (.aload_n 0, 1) := by decide +kernel
theorem dX12_fold_6 : decode cX12_fold 6 = .ok (.iload_n 1, 1) := by decide +kernel
theorem dX12_fold_7 : decode cX12_fold 7 = .ok (.invokevirtual 84, 3) := by decide +kernel
theorem dX12_fold_10 : decode cX12_fold 10 = .ok (.ifCond .ne 10, 3) := by decide +kernel
theorem dX12_fold_13 : decode cX12_fold 13 = .ok (.aload_n 0, 1) := by decide +kernel
theorem dX12_fold_14 : decode cX12_fold 14 = .ok (.iconst 1, 1) := by decide +kernel
theorem dX12_fold_15 : decode cX12_fold 15 = .ok (.invokevirtual 72, 3) := by decide +kernel
theorem dX12_fold_18 : decode cX12_fold 18 = .ok (.i2l, 1) := by decide +kernel
theorem dX12_fold_19 : decode cX12_fold 19 = .ok (.lreturn, 1) := by decide +kernel
theorem dX12_find_0 : decode cX12_find 0 = .ok (.aload_n 0, 1) := by decide +kernel
theorem dX12_find_1 : decode cX12_find 1 = .ok (.iconst 0, 1) := by decide +kernel
theorem dX12_find_2 : decode cX12_find 2 = .ok (.putfield 63, 3) := by decide +kernel
theorem dX12_find_5 : decode cX12_find 5 = .ok (.aload_n 0, 1) := by decide +kernel
theorem dX12_find_6 : decode cX12_find 6 = .ok (.iload_n 1, 1) := by decide +kernel
theorem dX12_find_7 : decode cX12_find 7 = .ok (.invokevirtual 84, 3) := by decide +kernel
theorem dX12_find_10 : decode cX12_find 10 = .ok (.ifCond .ne 10, 3) := by decide +kernel
theorem dX12_find_13 : decode cX12_find 13 = .ok (.aload_n 0, 1) := by decide +kernel
theorem dX12_find_14 : decode cX12_find 14 = .ok (.iconst 1, 1) := by decide +kernel
theorem dX12_find_15 : decode cX12_find 15 = .ok (.invokevirtual 72, 3) := by decide +kernel
theorem dX12_find_18 : decode cX12_find 18 = .ok (.i2l, 1) := by decide +kernel
theorem dX12_find_19 : decode cX12_find 19 = .ok (.lreturn, 1) := by decide +kernel
theorem dX12_last_0 : decode cX12_last 0 = .ok (.aload_n 0, 1) := by decide +kernel
theorem dX12_last_1 : decode cX12_last 1 = .ok (.iconst 0, 1) := by decide +kernel
theorem dX12_last_2 : decode cX12_last 2 = .ok (.putfield 63, 3) := by decide +kernel
theorem dX12_last_5 : decode cX12_last 5 = .ok (.aload_n 0, 1) := by decide +kernel
theorem dX12_last_6 : decode cX12_last 6 = .ok (.iload_n 1, 1) := by decide +kernel
theorem dX12_last_7 : decode cX12_last 7 = .ok (.invokevirtual 84, 3) := by decide +kernel
theorem dX12_last_10 : decode cX12_last 10 = .ok (.ifCond .ne 10, 3) := by decide +kernel
theorem dX12_last_13 : decode cX12_last 13 = .ok (.aload_n 0, 1) := by decide +kernel
theorem dX12_last_14 : decode cX12_last 14 = .ok (.iconst 1, 1) := by decide +kernel
theorem dX12_last_15 : decode cX12_last 15 = .ok (.invokevirtual 72, 3) := by decide +kernel
theorem dX12_last_18 : decode cX12_last 18 = .ok (.i2l, 1) := by decide +kernel
theorem dX12_last_19 : decode cX12_last 19 = .ok (.lreturn, 1) := by decide +kernel
theorem dX12_outcome_0 : decode cX12_outcome 0 = .ok (.aload_n 0, 1) := by decide +kernel
theorem dX12_outcome_1 : decode cX12_outcome 1 = .ok (.iconst 0, 1) := by decide +kernel
theorem dX12_outcome_2 : decode cX12_outcome 2 = .ok (.putfield 63, 3) := by decide +kernel
theorem dX12_outcome_5 : decode cX12_outcome 5 = .ok (.aload_n 0, 1) := by decide +kernel
theorem dX12_outcome_6 : decode cX12_outcome 6 = .ok (.getfield 203, 3) := by decide +kernel
theorem dX12_outcome_9 : decode cX12_outcome 9 = .ok (.ireturn, 1) := by decide +kernel
theorem dX12_error_0 : decode cX12_error 0 = .ok (.aload_n 0, 1) := by decide +kernel
theorem dX12_error_1 : decode cX12_error 1 = .ok (.iconst 0, 1) := by decide +kernel
theorem dX12_error_2 : decode cX12_error 2 = .ok (.putfield 63, 3) := by decide +kernel
theorem dX12_error_5 : decode cX12_error 5 = .ok (.aload_n 0, 1) := by decide +kernel
theorem dX12_error_6 : decode cX12_error 6 = .ok (.getfield 206, 3) := by decide +kernel
theorem dX12_error_9 : decode cX12_error 9 = .ok (.ireturn, 1) := by decide +kernel
theorem dX12_spent_0 : decode cX12_spent 0 = .ok (.aload_n 0, 1) := by decide +kernel
theorem dX12_spent_1 : decode cX12_spent 1 = .ok (.iconst 0, 1) := by decide +kernel
theorem dX12_spent_2 : decode cX12_spent 2 = .ok (.putfield 63, 3) := by decide +kernel
theorem dX12_spent_5 : decode cX12_spent 5 = .ok (.aload_n 0, 1) := by decide +kernel
theorem dX12_spent_6 : decode cX12_spent 6 = .ok (.getfield 200, 3) := by decide +kernel
theorem dX12_spent_9 : decode cX12_spent 9 = .ok (.ireturn, 1) := by decide +kernel
theorem dX12_reached_0 : decode cX12_reached 0 = .ok (.aload_n 0, 1) := by decide +kernel
theorem dX12_reached_1 : decode cX12_reached 1 = .ok (.iconst 0, 1) := by decide +kernel
theorem dX12_reached_2 : decode cX12_reached 2 = .ok (.putfield 63, 3) := by decide +kernel
theorem dX12_reached_5 : decode cX12_reached 5 = .ok (.aload_n 0, 1) := by decide +kernel
theorem dX12_reached_6 : decode cX12_reached 6 = .ok (.iload_n 1, 1) := by decide +kernel
theorem dX12_reached_7 : decode cX12_reached 7 = .ok (.invokevirtual 84, 3) := by decide +kernel
theorem dX12_reached_10 : decode cX12_reached 10 = .ok (.ifCond .ne 9, 3) := by decide +kernel
theorem dX12_reached_13 : decode cX12_reached 13 = .ok (.aload_n 0, 1) := by decide +kernel
theorem dX12_reached_14 : decode cX12_reached 14 = .ok (.iconst 1, 1) := by decide +kernel
theorem dX12_reached_15 : decode cX12_reached 15 = .ok (.invokevirtual 72, 3) := by decide +kernel
theorem dX12_reached_18 : decode cX12_reached 18 = .ok (.ireturn, 1) := by decide +kernel
theorem dX12_worked_0 : decode cX12_worked 0 = .ok (.aload_n 0, 1) := by decide +kernel
theorem dX12_worked_1 : decode cX12_worked 1 = .ok (.iconst 0, 1) := by decide +kernel
theorem dX12_worked_2 : decode cX12_worked 2 = .ok (.putfield 63, 3) := by decide +kernel
theorem dX12_worked_5 : decode cX12_worked 5 = .ok (.aload_n 0, 1) := by decide +kernel
theorem dX12_worked_6 : decode cX12_worked 6 = .ok (.iload_n 1, 1) := by decide +kernel
theorem dX12_worked_7 : decode cX12_worked 7 = .ok (.invokevirtual 84, 3) := by decide +kernel
theorem dX12_worked_10 : decode cX12_worked 10 = .ok (.ifCond .ne 17, 3) := by decide +kernel
theorem dX12_worked_13 : decode cX12_worked 13 = .ok (.aload_n 0, 1) := by decide +kernel
theorem dX12_worked_14 : decode cX12_worked 14 = .ok (.iconst 1, 1) := by decide +kernel
theorem dX12_worked_15 : decode cX12_worked 15 = .ok (.invokevirtual 72, 3) := by decide +kernel
theorem dX12_worked_18 : decode cX12_worked 18 = .ok (.ifCond .le 7, 3) := by decide +kernel
theorem dX12_worked_25 : decode cX12_worked 25 = .ok (.iconst 0, 1) := by decide +kernel
theorem dX12_worked_26 : decode cX12_worked 26 = .ok (.ireturn, 1) := by decide +kernel
theorem dX12_lists_0 : decode cX12_lists 0 = .ok (.aload_n 0, 1) := by decide +kernel
theorem dX12_lists_1 : decode cX12_lists 1 = .ok (.iconst 0, 1) := by decide +kernel
theorem dX12_lists_2 : decode cX12_lists 2 = .ok (.putfield 63, 3) := by decide +kernel
theorem dX12_lists_5 : decode cX12_lists 5 = .ok (.aload_n 0, 1) := by decide +kernel
theorem dX12_lists_6 : decode cX12_lists 6 = .ok (.getfield 66, 3) := by decide +kernel
theorem dX12_lists_9 : decode cX12_lists 9 = .ok (.ireturn, 1) := by decide +kernel
theorem dJ7_fill_031fb_0 : decode cJ7_fill_031fb 0 = .ok (.iconst 0, 1) := by decide +kernel
theorem dJ7_fill_031fb_1 : decode cJ7_fill_031fb 1 = .ok (.istore_n 2, 1) := by decide +kernel
theorem dJ7_fill_031fb_2 : decode cJ7_fill_031fb 2 = .ok (.aload_n 0, 1) := by decide +kernel
theorem dJ7_fill_031fb_3 : decode cJ7_fill_031fb 3 = .ok (.arraylength, 1) := by decide +kernel
theorem dJ7_fill_031fb_4 : decode cJ7_fill_031fb 4 = .ok (.istore_n 3, 1) := by decide +kernel
theorem dJ7_fill_031fb_5 : decode cJ7_fill_031fb 5 = .ok (.iload_n 2, 1) := by decide +kernel
theorem dJ7_fill_031fb_6 : decode cJ7_fill_031fb 6 = .ok (.iload_n 3, 1) := by decide +kernel
theorem dJ7_fill_031fb_7 : decode cJ7_fill_031fb 7 = .ok (.if_icmp .ge 13, 3) := by decide +kernel
theorem dJ7_fill_031fb_10 : decode cJ7_fill_031fb 10 = .ok (.aload_n 0, 1) := by decide +kernel
theorem dJ7_fill_031fb_11 : decode cJ7_fill_031fb 11 = .ok (.iload_n 2, 1) := by decide +kernel
theorem dJ7_fill_031fb_12 : decode cJ7_fill_031fb 12 = .ok (.iload_n 1, 1) := by decide +kernel
theorem dJ7_fill_031fb_13 : decode cJ7_fill_031fb 13 = .ok (.bastore, 1) := by decide +kernel
theorem dJ7_fill_031fb_14 : decode cJ7_fill_031fb 14 = .ok (.iinc 2 1, 3) := by decide +kernel
theorem dJ7_fill_031fb_17 : decode cJ7_fill_031fb 17 = .ok (.goto (-12), 3) := by decide +kernel
theorem dJ7_fill_031fb_20 : decode cJ7_fill_031fb 20 = .ok (.return_, 1) := by decide +kernel
theorem dJ7_copyOf_9075b_0 : decode cJ7_copyOf_9075b 0 = .ok (.iload_n 1, 1) := by decide +kernel
theorem dJ7_copyOf_9075b_1 : decode cJ7_copyOf_9075b 1 = .ok (.aload_n 0, 1) := by decide +kernel
theorem dJ7_copyOf_9075b_2 : decode cJ7_copyOf_9075b 2 = .ok (.arraylength, 1) := by decide +kernel
theorem dJ7_copyOf_9075b_3 : decode cJ7_copyOf_9075b 3 = .ok (.if_icmp .ne 11, 3) := by decide +kernel
theorem dJ7_copyOf_9075b_14 : decode cJ7_copyOf_9075b 14 = .ok (.iload_n 1, 1) := by decide +kernel
theorem dJ7_copyOf_9075b_15 : decode cJ7_copyOf_9075b 15 = .ok (.newarray .byte, 2) := by decide +kernel
theorem dJ7_copyOf_9075b_17 : decode cJ7_copyOf_9075b 17 = .ok (.astore_n 2, 1) := by decide +kernel
theorem dJ7_copyOf_9075b_18 : decode cJ7_copyOf_9075b 18 = .ok (.aload_n 0, 1) := by decide +kernel
theorem dJ7_copyOf_9075b_19 : decode cJ7_copyOf_9075b 19 = .ok (.iconst 0, 1) := by decide +kernel
theorem dJ7_copyOf_9075b_20 : decode cJ7_copyOf_9075b 20 = .ok (.aload_n 2, 1) := by decide +kernel
theorem dJ7_copyOf_9075b_21 : decode cJ7_copyOf_9075b 21 = .ok (.iconst 0, 1) := by decide +kernel
theorem dJ7_copyOf_9075b_22 : decode cJ7_copyOf_9075b 22 = .ok (.aload_n 0, 1) := by decide +kernel
theorem dJ7_copyOf_9075b_23 : decode cJ7_copyOf_9075b 23 = .ok (.arraylength, 1) := by decide +kernel
theorem dJ7_copyOf_9075b_24 : decode cJ7_copyOf_9075b 24 = .ok (.iload_n 1, 1) := by decide +kernel
theorem dJ7_copyOf_9075b_25 : decode cJ7_copyOf_9075b 25 = .ok (.invokestatic 304, 3) := by decide +kernel
theorem dJ7_copyOf_9075b_28 : decode cJ7_copyOf_9075b 28 = .ok (.invokestatic 150, 3) := by decide +kernel
theorem dJ7_copyOf_9075b_31 : decode cJ7_copyOf_9075b 31 = .ok (.aload_n 2, 1) := by decide +kernel
theorem dJ7_copyOf_9075b_32 : decode cJ7_copyOf_9075b 32 = .ok (.areturn, 1) := by decide +kernel
theorem dJ7_copyOf_c38d5_0 : decode cJ7_copyOf_c38d5 0 = .ok (.iload_n 1, 1) := by decide +kernel
theorem dJ7_copyOf_c38d5_1 : decode cJ7_copyOf_c38d5 1 = .ok (.aload_n 0, 1) := by decide +kernel
theorem dJ7_copyOf_c38d5_2 : decode cJ7_copyOf_c38d5 2 = .ok (.arraylength, 1) := by decide +kernel
theorem dJ7_copyOf_c38d5_3 : decode cJ7_copyOf_c38d5 3 = .ok (.if_icmp .ne 11, 3) := by decide +kernel
theorem dJ7_copyOf_c38d5_14 : decode cJ7_copyOf_c38d5 14 = .ok (.iload_n 1, 1) := by decide +kernel
theorem dJ7_copyOf_c38d5_15 : decode cJ7_copyOf_c38d5 15 = .ok (.newarray .long, 2) := by decide +kernel
theorem dJ7_copyOf_c38d5_17 : decode cJ7_copyOf_c38d5 17 = .ok (.astore_n 2, 1) := by decide +kernel
theorem dJ7_copyOf_c38d5_18 : decode cJ7_copyOf_c38d5 18 = .ok (.aload_n 0, 1) := by decide +kernel
theorem dJ7_copyOf_c38d5_19 : decode cJ7_copyOf_c38d5 19 = .ok (.iconst 0, 1) := by decide +kernel
theorem dJ7_copyOf_c38d5_20 : decode cJ7_copyOf_c38d5 20 = .ok (.aload_n 2, 1) := by decide +kernel
theorem dJ7_copyOf_c38d5_21 : decode cJ7_copyOf_c38d5 21 = .ok (.iconst 0, 1) := by decide +kernel
theorem dJ7_copyOf_c38d5_22 : decode cJ7_copyOf_c38d5 22 = .ok (.aload_n 0, 1) := by decide +kernel
theorem dJ7_copyOf_c38d5_23 : decode cJ7_copyOf_c38d5 23 = .ok (.arraylength, 1) := by decide +kernel
theorem dJ7_copyOf_c38d5_24 : decode cJ7_copyOf_c38d5 24 = .ok (.iload_n 1, 1) := by decide +kernel
theorem dJ7_copyOf_c38d5_25 : decode cJ7_copyOf_c38d5 25 = .ok (.invokestatic 304, 3) := by decide +kernel
theorem dJ7_copyOf_c38d5_28 : decode cJ7_copyOf_c38d5 28 = .ok (.invokestatic 150, 3) := by decide +kernel
theorem dJ7_copyOf_c38d5_31 : decode cJ7_copyOf_c38d5 31 = .ok (.aload_n 2, 1) := by decide +kernel
theorem dJ7_copyOf_c38d5_32 : decode cJ7_copyOf_c38d5 32 = .ok (.areturn, 1) := by decide +kernel
set_option maxRecDepth 20000 in
theorem ggL_put_X11_put : GoodIn wsL_put wsX11_put := goodIn_ca (goodIn_r _ [6, 7, 8, 9, 5, 10, 11, 12, 13, 14, 15, 16, 17, 18, 19, 20, 21, 22, 23, 24] (by decide +kernel) (by decide +kernel)) (goodIn_sub (fun _ h => List.mem_cons_of_mem _ (List.mem_append_right _ h)) (by decide +kernel))
set_option maxRecDepth 20000 in
theorem gL_put_X11_put : GoodIn wsL_put (wsV RL 7 RX11 yX11_put wsX11_put) := goodIn_app (goodIn_of _ (by decide +kernel)) ggL_put_X11_put
theorem dL_put_0 : decode cL_put 0 = .ok (.aload_n 3, 1) := by decide +kernel
theorem dL_put_1 : decode cL_put 1 = .ok (.iconst 0, 1) := by decide +kernel
theorem dL_put_2 : decode cL_put 2 = .ok (.aload_n 0, 1) := by decide +kernel
theorem dL_put_3 : decode cL_put 3 = .ok (.lload_n 1, 1) := by decide +kernel
theorem dL_put_4 : decode cL_put 4 = .ok (.invokevirtual 7, 3) := by decide +kernel
theorem dL_put_7 : decode cL_put 7 = .ok (.i2l, 1) := by decide +kernel
theorem dL_put_8 : decode cL_put 8 = .ok (.lastore, 1) := by decide +kernel
theorem dL_put_9 : decode cL_put 9 = .ok (.goto 7, 3) := by decide +kernel
theorem dL_put_16 : decode cL_put 16 = .ok (.iconst 0, 1) := by decide +kernel
theorem dL_put_17 : decode cL_put 17 = .ok (.ireturn, 1) := by decide +kernel
set_option maxRecDepth 20000 in
theorem ggL_hole_X11_hole : GoodIn wsL_hole wsX11_hole := goodIn_ca (goodIn_ca (goodIn_r _ [7, 8, 9, 10, 11, 12, 6, 13, 14, 15, 16, 17, 18, 19, 20, 21, 22, 23, 24, 25, 26, 27] (by decide +kernel) (by decide +kernel)) (goodIn_sub (fun _ h => List.mem_cons_of_mem _ (List.mem_append_left _ (List.mem_append_right _ h))) (by decide +kernel))) (goodIn_sub (fun _ h => List.mem_cons_of_mem _ (List.mem_append_right _ h)) (by decide +kernel))
set_option maxRecDepth 20000 in
theorem gL_hole_X11_hole : GoodIn wsL_hole (wsV RL 15 RX11 yX11_hole wsX11_hole) := goodIn_app (goodIn_of _ (by decide +kernel)) ggL_hole_X11_hole
theorem dL_hole_0 : decode cL_hole 0 = .ok (.aload_n 2, 1) := by decide +kernel
theorem dL_hole_1 : decode cL_hole 1 = .ok (.iconst 0, 1) := by decide +kernel
theorem dL_hole_2 : decode cL_hole 2 = .ok (.aload_n 0, 1) := by decide +kernel
theorem dL_hole_3 : decode cL_hole 3 = .ok (.iload_n 1, 1) := by decide +kernel
theorem dL_hole_4 : decode cL_hole 4 = .ok (.invokevirtual 15, 3) := by decide +kernel
theorem dL_hole_7 : decode cL_hole 7 = .ok (.i2l, 1) := by decide +kernel
theorem dL_hole_8 : decode cL_hole 8 = .ok (.lastore, 1) := by decide +kernel
theorem dL_hole_9 : decode cL_hole 9 = .ok (.goto 9, 3) := by decide +kernel
theorem dL_hole_12 : decode cL_hole 12 = .ok (.astore_n 3, 1) := by decide +kernel
theorem dL_hole_13 : decode cL_hole 13 = .ok (.iconst 1, 1) := by decide +kernel
theorem dL_hole_14 : decode cL_hole 14 = .ok (.ireturn, 1) := by decide +kernel
theorem dL_hole_18 : decode cL_hole 18 = .ok (.iconst 0, 1) := by decide +kernel
theorem dL_hole_19 : decode cL_hole 19 = .ok (.ireturn, 1) := by decide +kernel
set_option maxRecDepth 20000 in
theorem ggL_given_X11_given : GoodIn wsL_given wsX11_given := goodIn_ca (goodIn_r _ [6, 7, 8, 9, 10, 11, 12, 13, 14, 15, 16, 5, 17, 18, 19, 20, 21, 22, 23, 24, 25, 26, 27, 28, 29, 30, 31, 32, 33, 34, 35, 36, 37, 38, 39, 40, 41, 42, 43, 44, 45, 46, 47, 48, 49, 50, 51, 52, 53, 54, 55, 56, 57, 58, 59, 60, 61, 62, 63, 64, 65, 66, 67, 68, 69, 70, 71, 72, 73, 74, 75, 76, 77, 78, 79, 80, 81, 82, 83, 84, 85, 86, 87, 88, 89, 90, 91, 92, 93, 94, 95, 96, 97, 98, 99, 100, 101, 102, 103, 104, 105, 106, 107, 108, 109, 110, 111, 112, 113, 114, 115, 116, 117, 118, 119, 120, 121, 122, 123, 124, 125, 126, 127, 128, 129, 130, 131, 132, 133, 134, 135, 136, 137, 138, 139, 140, 141, 142, 143, 144, 145, 146, 147, 148, 149, 150] (by decide +kernel) (by decide +kernel)) (goodIn_sub (fun _ h => List.mem_cons_of_mem _ (List.mem_append_right _ h)) (by decide +kernel))
set_option maxRecDepth 20000 in
theorem gL_given_X11_given : GoodIn wsL_given (wsV RL 21 RX11 yX11_given wsX11_given) := goodIn_app (goodIn_of _ (by decide +kernel)) ggL_given_X11_given
theorem dL_given_0 : decode cL_given 0 = .ok (.aload_n 2, 1) := by decide +kernel
theorem dL_given_1 : decode cL_given 1 = .ok (.iconst 0, 1) := by decide +kernel
theorem dL_given_2 : decode cL_given 2 = .ok (.aload_n 0, 1) := by decide +kernel
theorem dL_given_3 : decode cL_given 3 = .ok (.iload_n 1, 1) := by decide +kernel
theorem dL_given_4 : decode cL_given 4 = .ok (.invokevirtual 21, 3) := by decide +kernel
theorem dL_given_7 : decode cL_given 7 = .ok (.i2l, 1) := by decide +kernel
theorem dL_given_8 : decode cL_given 8 = .ok (.lastore, 1) := by decide +kernel
theorem dL_given_9 : decode cL_given 9 = .ok (.goto 6, 3) := by decide +kernel
theorem dL_given_15 : decode cL_given 15 = .ok (.iconst 0, 1) := by decide +kernel
theorem dL_given_16 : decode cL_given 16 = .ok (.ireturn, 1) := by decide +kernel
set_option maxRecDepth 20000 in
theorem ggL_count_X11_count : GoodIn wsL_count wsX11_count := goodIn_ca (goodIn_r _ [6, 7, 8, 9, 10, 11, 12, 13, 14, 15, 5, 16, 17, 18, 19, 20, 21, 22, 23, 24, 25, 26, 27, 28, 29, 30, 31, 32, 33, 34, 35, 36, 37, 38, 39, 40, 41, 42, 43, 44, 45, 46, 47, 48, 49, 50, 51, 52, 53, 54, 55, 56, 57, 58, 59, 60, 61, 62, 63, 64, 65, 66, 67, 68, 69, 70, 71, 72, 73, 74, 75, 76, 77, 78, 79, 80, 81, 82, 83, 84, 85, 86, 87, 88, 89, 90, 91, 92, 93, 94, 95, 96, 97, 98, 99, 100, 101, 102, 103, 104, 105, 106, 107, 108, 109, 110, 111, 112, 113, 114, 115, 116, 117, 118, 119, 120, 121, 122, 123, 124, 125, 126] (by decide +kernel) (by decide +kernel)) (goodIn_sub (fun _ h => List.mem_cons_of_mem _ (List.mem_append_right _ h)) (by decide +kernel))
set_option maxRecDepth 20000 in
theorem gL_count_X11_count : GoodIn wsL_count (wsV RL 25 RX11 yX11_count wsX11_count) := goodIn_app (goodIn_of _ (by decide +kernel)) ggL_count_X11_count
theorem dL_count_0 : decode cL_count 0 = .ok (.aload 5, 2) := by decide +kernel
theorem dL_count_2 : decode cL_count 2 = .ok (.iconst 0, 1) := by decide +kernel
theorem dL_count_3 : decode cL_count 3 = .ok (.aload_n 0, 1) := by decide +kernel
theorem dL_count_4 : decode cL_count 4 = .ok (.lload_n 1, 1) := by decide +kernel
theorem dL_count_5 : decode cL_count 5 = .ok (.lload_n 3, 1) := by decide +kernel
theorem dL_count_6 : decode cL_count 6 = .ok (.invokevirtual 25, 3) := by decide +kernel
theorem dL_count_9 : decode cL_count 9 = .ok (.i2l, 1) := by decide +kernel
theorem dL_count_10 : decode cL_count 10 = .ok (.lastore, 1) := by decide +kernel
theorem dL_count_11 : decode cL_count 11 = .ok (.goto 7, 3) := by decide +kernel
theorem dL_count_18 : decode cL_count 18 = .ok (.iconst 0, 1) := by decide +kernel
theorem dL_count_19 : decode cL_count 19 = .ok (.ireturn, 1) := by decide +kernel
set_option maxRecDepth 20000 in
theorem ggL_iterate_X11_iterate : GoodIn wsL_iterate wsX11_iterate := goodIn_ca (goodIn_ca (goodIn_r _ [7, 8, 9, 10, 11, 12, 13, 6, 14, 15, 16, 17, 18, 19, 20, 21, 22, 23, 24, 25, 26, 27, 28, 29, 30, 31, 32, 33, 34, 35, 36, 37, 38, 39, 40, 41, 42, 43, 44, 45, 46, 47, 48, 49, 50, 51, 52, 53, 54, 55, 56, 57, 58, 59, 60, 61, 62, 63, 64, 65, 66, 67, 68, 69, 70, 71, 72, 73, 74, 75, 76, 77, 78, 79, 80, 81, 82, 83, 84, 85, 86, 87, 88, 89, 90, 91, 92, 93, 94, 95, 96, 97, 98, 99, 100, 101, 102, 103, 104, 105, 106, 107, 108, 109, 110, 111, 112, 113, 114, 115, 116, 117, 118, 119, 120, 121, 122, 123, 124, 125, 126, 127, 128, 129, 130] (by decide +kernel) (by decide +kernel)) (goodIn_sub (fun _ h => List.mem_cons_of_mem _ (List.mem_append_left _ (List.mem_append_right _ h))) (by decide +kernel))) (goodIn_sub (fun _ h => List.mem_cons_of_mem _ (List.mem_append_right _ h)) (by decide +kernel))
set_option maxRecDepth 20000 in
theorem gL_iterate_X11_iterate : GoodIn wsL_iterate (wsV RL 29 RX11 yX11_iterate wsX11_iterate) := goodIn_app (goodIn_of _ (by decide +kernel)) ggL_iterate_X11_iterate
theorem dL_iterate_0 : decode cL_iterate 0 = .ok (.aload 6, 2) := by decide +kernel
theorem dL_iterate_2 : decode cL_iterate 2 = .ok (.iconst 0, 1) := by decide +kernel
theorem dL_iterate_3 : decode cL_iterate 3 = .ok (.aload_n 0, 1) := by decide +kernel
theorem dL_iterate_4 : decode cL_iterate 4 = .ok (.iload_n 1, 1) := by decide +kernel
theorem dL_iterate_5 : decode cL_iterate 5 = .ok (.lload_n 2, 1) := by decide +kernel
theorem dL_iterate_6 : decode cL_iterate 6 = .ok (.lload 4, 2) := by decide +kernel
theorem dL_iterate_8 : decode cL_iterate 8 = .ok (.invokevirtual 29, 3) := by decide +kernel
theorem dL_iterate_11 : decode cL_iterate 11 = .ok (.i2l, 1) := by decide +kernel
theorem dL_iterate_12 : decode cL_iterate 12 = .ok (.lastore, 1) := by decide +kernel
theorem dL_iterate_13 : decode cL_iterate 13 = .ok (.goto 11, 3) := by decide +kernel
theorem dL_iterate_16 : decode cL_iterate 16 = .ok (.astore 7, 2) := by decide +kernel
theorem dL_iterate_18 : decode cL_iterate 18 = .ok (.iconst 1, 1) := by decide +kernel
theorem dL_iterate_19 : decode cL_iterate 19 = .ok (.ireturn, 1) := by decide +kernel
theorem dL_iterate_24 : decode cL_iterate 24 = .ok (.iconst 0, 1) := by decide +kernel
theorem dL_iterate_25 : decode cL_iterate 25 = .ok (.ireturn, 1) := by decide +kernel
theorem dL_map_0 : decode cL_map 0 = .ok (.aload 5, 2) := by decide +kernel
theorem dL_map_2 : decode cL_map 2 = .ok (.iconst 0, 1) := by decide +kernel
theorem dL_map_3 : decode cL_map 3 = .ok (.aload_n 0, 1) := by decide +kernel
theorem dL_map_4 : decode cL_map 4 = .ok (.iload_n 1, 1) := by decide +kernel
theorem dL_map_5 : decode cL_map 5 = .ok (.iload_n 2, 1) := by decide +kernel
theorem dL_map_6 : decode cL_map 6 = .ok (.lload_n 3, 1) := by decide +kernel
theorem dL_map_7 : decode cL_map 7 = .ok (.invokevirtual 33, 3) := by decide +kernel
theorem dL_map_15 : decode cL_map 15 = .ok (.astore 6, 2) := by decide +kernel
theorem dL_map_17 : decode cL_map 17 = .ok (.iconst 1, 1) := by decide +kernel
theorem dL_map_18 : decode cL_map 18 = .ok (.ireturn, 1) := by decide +kernel
theorem dL_both_0 : decode cL_both 0 = .ok (.aload 4, 2) := by decide +kernel
theorem dL_both_2 : decode cL_both 2 = .ok (.iconst 0, 1) := by decide +kernel
theorem dL_both_3 : decode cL_both 3 = .ok (.aload_n 0, 1) := by decide +kernel
theorem dL_both_4 : decode cL_both 4 = .ok (.iload_n 1, 1) := by decide +kernel
theorem dL_both_5 : decode cL_both 5 = .ok (.iload_n 2, 1) := by decide +kernel
theorem dL_both_6 : decode cL_both 6 = .ok (.iload_n 3, 1) := by decide +kernel
theorem dL_both_7 : decode cL_both 7 = .ok (.invokevirtual 39, 3) := by decide +kernel
theorem dL_both_15 : decode cL_both 15 = .ok (.astore 5, 2) := by decide +kernel
theorem dL_both_17 : decode cL_both 17 = .ok (.iconst 1, 1) := by decide +kernel
theorem dL_both_18 : decode cL_both 18 = .ok (.ireturn, 1) := by decide +kernel
theorem dL_scan_0 : decode cL_scan 0 = .ok (.aload 5, 2) := by decide +kernel
theorem dL_scan_2 : decode cL_scan 2 = .ok (.iconst 0, 1) := by decide +kernel
theorem dL_scan_3 : decode cL_scan 3 = .ok (.aload_n 0, 1) := by decide +kernel
theorem dL_scan_4 : decode cL_scan 4 = .ok (.iload_n 1, 1) := by decide +kernel
theorem dL_scan_5 : decode cL_scan 5 = .ok (.iload_n 2, 1) := by decide +kernel
theorem dL_scan_6 : decode cL_scan 6 = .ok (.lload_n 3, 1) := by decide +kernel
theorem dL_scan_7 : decode cL_scan 7 = .ok (.invokevirtual 43, 3) := by decide +kernel
theorem dL_scan_15 : decode cL_scan 15 = .ok (.astore 6, 2) := by decide +kernel
theorem dL_scan_17 : decode cL_scan 17 = .ok (.iconst 1, 1) := by decide +kernel
theorem dL_scan_18 : decode cL_scan 18 = .ok (.ireturn, 1) := by decide +kernel
theorem dL_take_0 : decode cL_take 0 = .ok (.aload_n 3, 1) := by decide +kernel
theorem dL_take_1 : decode cL_take 1 = .ok (.iconst 0, 1) := by decide +kernel
theorem dL_take_2 : decode cL_take 2 = .ok (.aload_n 0, 1) := by decide +kernel
theorem dL_take_3 : decode cL_take 3 = .ok (.iload_n 1, 1) := by decide +kernel
theorem dL_take_4 : decode cL_take 4 = .ok (.iload_n 2, 1) := by decide +kernel
theorem dL_take_5 : decode cL_take 5 = .ok (.invokevirtual 46, 3) := by decide +kernel
theorem dL_take_13 : decode cL_take 13 = .ok (.astore 4, 2) := by decide +kernel
theorem dL_take_15 : decode cL_take 15 = .ok (.iconst 1, 1) := by decide +kernel
theorem dL_take_16 : decode cL_take 16 = .ok (.ireturn, 1) := by decide +kernel
theorem dL_drop_0 : decode cL_drop 0 = .ok (.aload_n 3, 1) := by decide +kernel
theorem dL_drop_1 : decode cL_drop 1 = .ok (.iconst 0, 1) := by decide +kernel
theorem dL_drop_2 : decode cL_drop 2 = .ok (.aload_n 0, 1) := by decide +kernel
theorem dL_drop_3 : decode cL_drop 3 = .ok (.iload_n 1, 1) := by decide +kernel
theorem dL_drop_4 : decode cL_drop 4 = .ok (.iload_n 2, 1) := by decide +kernel
theorem dL_drop_5 : decode cL_drop 5 = .ok (.invokevirtual 50, 3) := by decide +kernel
theorem dL_drop_13 : decode cL_drop 13 = .ok (.astore 4, 2) := by decide +kernel
theorem dL_drop_15 : decode cL_drop 15 = .ok (.iconst 1, 1) := by decide +kernel
theorem dL_drop_16 : decode cL_drop 16 = .ok (.ireturn, 1) := by decide +kernel
theorem dL_keep_0 : decode cL_keep 0 = .ok (.aload 5, 2) := by decide +kernel
theorem dL_keep_2 : decode cL_keep 2 = .ok (.iconst 0, 1) := by decide +kernel
theorem dL_keep_3 : decode cL_keep 3 = .ok (.aload_n 0, 1) := by decide +kernel
theorem dL_keep_4 : decode cL_keep 4 = .ok (.iload_n 1, 1) := by decide +kernel
theorem dL_keep_5 : decode cL_keep 5 = .ok (.iload_n 2, 1) := by decide +kernel
theorem dL_keep_6 : decode cL_keep 6 = .ok (.lload_n 3, 1) := by decide +kernel
theorem dL_keep_7 : decode cL_keep 7 = .ok (.invokevirtual 53, 3) := by decide +kernel
theorem dL_keep_15 : decode cL_keep 15 = .ok (.astore 6, 2) := by decide +kernel
theorem dL_keep_17 : decode cL_keep 17 = .ok (.iconst 1, 1) := by decide +kernel
theorem dL_keep_18 : decode cL_keep 18 = .ok (.ireturn, 1) := by decide +kernel
theorem dL_during_0 : decode cL_during 0 = .ok (.aload 5, 2) := by decide +kernel
theorem dL_during_2 : decode cL_during 2 = .ok (.iconst 0, 1) := by decide +kernel
theorem dL_during_3 : decode cL_during 3 = .ok (.aload_n 0, 1) := by decide +kernel
theorem dL_during_4 : decode cL_during 4 = .ok (.iload_n 1, 1) := by decide +kernel
theorem dL_during_5 : decode cL_during 5 = .ok (.iload_n 2, 1) := by decide +kernel
theorem dL_during_6 : decode cL_during 6 = .ok (.lload_n 3, 1) := by decide +kernel
theorem dL_during_7 : decode cL_during 7 = .ok (.invokevirtual 56, 3) := by decide +kernel
theorem dL_during_15 : decode cL_during 15 = .ok (.astore 6, 2) := by decide +kernel
theorem dL_during_17 : decode cL_during 17 = .ok (.iconst 1, 1) := by decide +kernel
theorem dL_during_18 : decode cL_during 18 = .ok (.ireturn, 1) := by decide +kernel
theorem dL_after_0 : decode cL_after 0 = .ok (.aload 5, 2) := by decide +kernel
theorem dL_after_2 : decode cL_after 2 = .ok (.iconst 0, 1) := by decide +kernel
theorem dL_after_3 : decode cL_after 3 = .ok (.aload_n 0, 1) := by decide +kernel
theorem dL_after_4 : decode cL_after 4 = .ok (.iload_n 1, 1) := by decide +kernel
theorem dL_after_5 : decode cL_after 5 = .ok (.iload_n 2, 1) := by decide +kernel
theorem dL_after_6 : decode cL_after 6 = .ok (.lload_n 3, 1) := by decide +kernel
theorem dL_after_7 : decode cL_after 7 = .ok (.invokevirtual 59, 3) := by decide +kernel
theorem dL_after_15 : decode cL_after 15 = .ok (.astore 6, 2) := by decide +kernel
theorem dL_after_17 : decode cL_after 17 = .ok (.iconst 1, 1) := by decide +kernel
theorem dL_after_18 : decode cL_after 18 = .ok (.ireturn, 1) := by decide +kernel
theorem dL_join_0 : decode cL_join 0 = .ok (.aload_n 3, 1) := by decide +kernel
theorem dL_join_1 : decode cL_join 1 = .ok (.iconst 0, 1) := by decide +kernel
theorem dL_join_2 : decode cL_join 2 = .ok (.aload_n 0, 1) := by decide +kernel
theorem dL_join_3 : decode cL_join 3 = .ok (.iload_n 1, 1) := by decide +kernel
theorem dL_join_4 : decode cL_join 4 = .ok (.iload_n 2, 1) := by decide +kernel
theorem dL_join_5 : decode cL_join 5 = .ok (.invokevirtual 62, 3) := by decide +kernel
theorem dL_join_13 : decode cL_join 13 = .ok (.astore 4, 2) := by decide +kernel
theorem dL_join_15 : decode cL_join 15 = .ok (.iconst 1, 1) := by decide +kernel
theorem dL_join_16 : decode cL_join 16 = .ok (.ireturn, 1) := by decide +kernel
theorem dL_other_0 : decode cL_other 0 = .ok (.aload_n 3, 1) := by decide +kernel
theorem dL_other_1 : decode cL_other 1 = .ok (.iconst 0, 1) := by decide +kernel
theorem dL_other_2 : decode cL_other 2 = .ok (.aload_n 0, 1) := by decide +kernel
theorem dL_other_3 : decode cL_other 3 = .ok (.iload_n 1, 1) := by decide +kernel
theorem dL_other_4 : decode cL_other 4 = .ok (.iload_n 2, 1) := by decide +kernel
theorem dL_other_5 : decode cL_other 5 = .ok (.invokevirtual 65, 3) := by decide +kernel
theorem dL_other_13 : decode cL_other 13 = .ok (.astore 4, 2) := by decide +kernel
theorem dL_other_15 : decode cL_other 15 = .ok (.iconst 1, 1) := by decide +kernel
theorem dL_other_16 : decode cL_other 16 = .ok (.ireturn, 1) := by decide +kernel
set_option maxRecDepth 20000 in
theorem ggL_steps_X11_steps : GoodIn wsL_steps wsX11_steps := goodIn_ca (goodIn_r _ [6, 7, 8, 9, 10, 11, 12, 13, 14, 15, 16, 17, 18] (by decide +kernel) (by decide +kernel)) (goodIn_sub (fun _ h => List.mem_cons_of_mem _ (List.mem_append_right _ h)) (by decide +kernel))
set_option maxRecDepth 20000 in
theorem gL_steps_X11_steps : GoodIn wsL_steps (wsV RL 68 RX11 yX11_steps wsX11_steps) := goodIn_app (goodIn_of _ (by decide +kernel)) ggL_steps_X11_steps
theorem dL_steps_0 : decode cL_steps 0 = .ok (.aload_n 2, 1) := by decide +kernel
theorem dL_steps_1 : decode cL_steps 1 = .ok (.iconst 0, 1) := by decide +kernel
theorem dL_steps_2 : decode cL_steps 2 = .ok (.aload_n 0, 1) := by decide +kernel
theorem dL_steps_3 : decode cL_steps 3 = .ok (.iload_n 1, 1) := by decide +kernel
theorem dL_steps_4 : decode cL_steps 4 = .ok (.invokevirtual 68, 3) := by decide +kernel
theorem dL_steps_7 : decode cL_steps 7 = .ok (.i2l, 1) := by decide +kernel
theorem dL_steps_8 : decode cL_steps 8 = .ok (.lastore, 1) := by decide +kernel
theorem dL_steps_9 : decode cL_steps 9 = .ok (.goto 6, 3) := by decide +kernel
theorem dL_steps_12 : decode cL_steps 12 = .ok (.astore_n 3, 1) := by decide +kernel
theorem dL_steps_13 : decode cL_steps 13 = .ok (.iconst 1, 1) := by decide +kernel
theorem dL_steps_14 : decode cL_steps 14 = .ok (.ireturn, 1) := by decide +kernel
theorem dL_steps_15 : decode cL_steps 15 = .ok (.iconst 0, 1) := by decide +kernel
theorem dL_steps_16 : decode cL_steps 16 = .ok (.ireturn, 1) := by decide +kernel
theorem dL_at_0 : decode cL_at 0 = .ok (.aload_n 3, 1) := by decide +kernel
theorem dL_at_1 : decode cL_at 1 = .ok (.iconst 0, 1) := by decide +kernel
theorem dL_at_2 : decode cL_at 2 = .ok (.aload_n 0, 1) := by decide +kernel
theorem dL_at_3 : decode cL_at 3 = .ok (.iload_n 1, 1) := by decide +kernel
theorem dL_at_4 : decode cL_at 4 = .ok (.iload_n 2, 1) := by decide +kernel
theorem dL_at_5 : decode cL_at 5 = .ok (.invokevirtual 71, 3) := by decide +kernel
theorem dL_at_12 : decode cL_at 12 = .ok (.astore 4, 2) := by decide +kernel
theorem dL_at_14 : decode cL_at 14 = .ok (.iconst 1, 1) := by decide +kernel
theorem dL_at_15 : decode cL_at 15 = .ok (.ireturn, 1) := by decide +kernel
theorem dL_size_0 : decode cL_size 0 = .ok (.aload_n 2, 1) := by decide +kernel
theorem dL_size_1 : decode cL_size 1 = .ok (.iconst 0, 1) := by decide +kernel
theorem dL_size_2 : decode cL_size 2 = .ok (.aload_n 0, 1) := by decide +kernel
theorem dL_size_3 : decode cL_size 3 = .ok (.iload_n 1, 1) := by decide +kernel
theorem dL_size_4 : decode cL_size 4 = .ok (.invokevirtual 75, 3) := by decide +kernel
theorem dL_size_11 : decode cL_size 11 = .ok (.astore_n 3, 1) := by decide +kernel
theorem dL_size_12 : decode cL_size 12 = .ok (.iconst 1, 1) := by decide +kernel
theorem dL_size_13 : decode cL_size 13 = .ok (.ireturn, 1) := by decide +kernel
theorem dL_fold_0 : decode cL_fold 0 = .ok (.aload 5, 2) := by decide +kernel
theorem dL_fold_2 : decode cL_fold 2 = .ok (.iconst 0, 1) := by decide +kernel
theorem dL_fold_3 : decode cL_fold 3 = .ok (.aload_n 0, 1) := by decide +kernel
theorem dL_fold_4 : decode cL_fold 4 = .ok (.iload_n 1, 1) := by decide +kernel
theorem dL_fold_5 : decode cL_fold 5 = .ok (.iload_n 2, 1) := by decide +kernel
theorem dL_fold_6 : decode cL_fold 6 = .ok (.lload_n 3, 1) := by decide +kernel
theorem dL_fold_7 : decode cL_fold 7 = .ok (.invokevirtual 79, 3) := by decide +kernel
theorem dL_fold_14 : decode cL_fold 14 = .ok (.astore 6, 2) := by decide +kernel
theorem dL_fold_16 : decode cL_fold 16 = .ok (.iconst 1, 1) := by decide +kernel
theorem dL_fold_17 : decode cL_fold 17 = .ok (.ireturn, 1) := by decide +kernel
theorem dL_find_0 : decode cL_find 0 = .ok (.aload 5, 2) := by decide +kernel
theorem dL_find_2 : decode cL_find 2 = .ok (.iconst 0, 1) := by decide +kernel
theorem dL_find_3 : decode cL_find 3 = .ok (.aload_n 0, 1) := by decide +kernel
theorem dL_find_4 : decode cL_find 4 = .ok (.iload_n 1, 1) := by decide +kernel
theorem dL_find_5 : decode cL_find 5 = .ok (.iload_n 2, 1) := by decide +kernel
theorem dL_find_6 : decode cL_find 6 = .ok (.lload_n 3, 1) := by decide +kernel
theorem dL_find_7 : decode cL_find 7 = .ok (.invokevirtual 83, 3) := by decide +kernel
theorem dL_find_14 : decode cL_find 14 = .ok (.astore 6, 2) := by decide +kernel
theorem dL_find_16 : decode cL_find 16 = .ok (.iconst 1, 1) := by decide +kernel
theorem dL_find_17 : decode cL_find 17 = .ok (.ireturn, 1) := by decide +kernel
theorem dL_last_0 : decode cL_last 0 = .ok (.aload_n 2, 1) := by decide +kernel
theorem dL_last_1 : decode cL_last 1 = .ok (.iconst 0, 1) := by decide +kernel
theorem dL_last_2 : decode cL_last 2 = .ok (.aload_n 0, 1) := by decide +kernel
theorem dL_last_3 : decode cL_last 3 = .ok (.iload_n 1, 1) := by decide +kernel
theorem dL_last_4 : decode cL_last 4 = .ok (.invokevirtual 86, 3) := by decide +kernel
theorem dL_last_11 : decode cL_last 11 = .ok (.astore_n 3, 1) := by decide +kernel
theorem dL_last_12 : decode cL_last 12 = .ok (.iconst 1, 1) := by decide +kernel
theorem dL_last_13 : decode cL_last 13 = .ok (.ireturn, 1) := by decide +kernel
theorem dL_reached_0 : decode cL_reached 0 = .ok (.aload_n 2, 1) := by decide +kernel
theorem dL_reached_1 : decode cL_reached 1 = .ok (.iconst 0, 1) := by decide +kernel
theorem dL_reached_2 : decode cL_reached 2 = .ok (.aload_n 0, 1) := by decide +kernel
theorem dL_reached_3 : decode cL_reached 3 = .ok (.iload_n 1, 1) := by decide +kernel
theorem dL_reached_4 : decode cL_reached 4 = .ok (.invokevirtual 89, 3) := by decide +kernel
theorem dL_reached_12 : decode cL_reached 12 = .ok (.astore_n 3, 1) := by decide +kernel
theorem dL_reached_13 : decode cL_reached 13 = .ok (.iconst 1, 1) := by decide +kernel
theorem dL_reached_14 : decode cL_reached 14 = .ok (.ireturn, 1) := by decide +kernel
theorem dL_worked_0 : decode cL_worked 0 = .ok (.aload_n 3, 1) := by decide +kernel
theorem dL_worked_1 : decode cL_worked 1 = .ok (.iconst 0, 1) := by decide +kernel
theorem dL_worked_2 : decode cL_worked 2 = .ok (.aload_n 0, 1) := by decide +kernel
theorem dL_worked_3 : decode cL_worked 3 = .ok (.iload_n 1, 1) := by decide +kernel
theorem dL_worked_4 : decode cL_worked 4 = .ok (.iload_n 2, 1) := by decide +kernel
theorem dL_worked_5 : decode cL_worked 5 = .ok (.invokevirtual 92, 3) := by decide +kernel
theorem dL_worked_20 : decode cL_worked 20 = .ok (.astore 4, 2) := by decide +kernel
theorem dL_worked_22 : decode cL_worked 22 = .ok (.iconst 1, 1) := by decide +kernel
theorem dL_worked_23 : decode cL_worked 23 = .ok (.ireturn, 1) := by decide +kernel
abbrev vwCl : List vw_C := [(RX0, TX0, 9), (RX1, TX1, 9), (RX2, TX2, 9), (RX3, TX3, 7), (RX4, TX4, 7), (RX6, TX6, 2), (RX7, TX7, 7), (RX8, TX8, 9), (RX9, TX9, 8), (RX10, TX10, 9), (RX11, TX11, 9), (RX12, TX12, 32)]
