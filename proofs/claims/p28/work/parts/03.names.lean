def RX0 : String := "NeededLists$Chained"
def TX0 : u_T := fun k => match k with
  | 0 => ("NeededLists$LazyList", "meter", "LNeededLists$Meter;", true)
  | 1 => ("NeededLists$LazyList", "numbers", "[J", true)
  | 2 => ("NeededLists$LazyList", "marks", "[B", true)
  | 3 => ("NeededLists$LazyList", "met", "I", false)
  | 4 => ("NeededLists$LazyList", "close", "I", false)
  | 5 => ("NeededLists$Chained", "of", "LNeededLists$LazyList;", true)
  | 6 => ("NeededLists$Chained", "op", "I", true)
  | 7 => ("NeededLists$Chained", "c", "J", true)
  | _ => ("NeededLists$Chained", "start", "J", true)
def RX1 : String := "NeededLists$Combined"
def TX1 : u_T := fun k => match k with
  | 0 => ("NeededLists$LazyList", "meter", "LNeededLists$Meter;", true)
  | 1 => ("NeededLists$LazyList", "numbers", "[J", true)
  | 2 => ("NeededLists$LazyList", "marks", "[B", true)
  | 3 => ("NeededLists$LazyList", "met", "I", false)
  | 4 => ("NeededLists$LazyList", "close", "I", false)
  | 5 => ("NeededLists$Combined", "left", "LNeededLists$LazyList;", true)
  | 6 => ("NeededLists$Combined", "right", "LNeededLists$LazyList;", true)
  | 7 => ("NeededLists$Combined", "op", "I", true)
  | _ => ("NeededLists$Combined", "c", "J", true)
def RX2 : String := "NeededLists$Front"
def TX2 : u_T := fun k => match k with
  | 0 => ("NeededLists$LazyList", "meter", "LNeededLists$Meter;", true)
  | 1 => ("NeededLists$LazyList", "numbers", "[J", true)
  | 2 => ("NeededLists$LazyList", "marks", "[B", true)
  | 3 => ("NeededLists$LazyList", "met", "I", false)
  | 4 => ("NeededLists$LazyList", "close", "I", false)
  | 5 => ("NeededLists$Front", "of", "LNeededLists$LazyList;", true)
  | 6 => ("NeededLists$Front", "limit", "I", true)
  | 7 => ("NeededLists$Front", "cond", "I", true)
  | _ => ("NeededLists$Front", "c", "J", true)
def RX3 : String := "NeededLists$Given"
def TX3 : u_T := fun k => match k with
  | 0 => ("NeededLists$LazyList", "meter", "LNeededLists$Meter;", true)
  | 1 => ("NeededLists$LazyList", "numbers", "[J", true)
  | 2 => ("NeededLists$LazyList", "marks", "[B", true)
  | 3 => ("NeededLists$LazyList", "met", "I", false)
  | 4 => ("NeededLists$LazyList", "close", "I", false)
  | 5 => ("NeededLists$Given", "fates", "[B", true)
  | _ => ("NeededLists$Given", "behind", "I", true)
def RX4 : String := "NeededLists$Joined"
def TX4 : u_T := fun k => match k with
  | 0 => ("NeededLists$LazyList", "meter", "LNeededLists$Meter;", true)
  | 1 => ("NeededLists$LazyList", "numbers", "[J", true)
  | 2 => ("NeededLists$LazyList", "marks", "[B", true)
  | 3 => ("NeededLists$LazyList", "met", "I", false)
  | 4 => ("NeededLists$LazyList", "close", "I", false)
  | 5 => ("NeededLists$Joined", "left", "LNeededLists$LazyList;", true)
  | _ => ("NeededLists$Joined", "right", "LNeededLists$LazyList;", true)
def RX6 : String := "NeededLists$Meter"
def TX6 : u_T := fun k => match k with
  | 0 => ("NeededLists$Meter", "left", "I", false)
  | _ => ("NeededLists$Meter", "used", "I", false)
def RX7 : String := "NeededLists$Ordered"
def TX7 : u_T := fun k => match k with
  | 0 => ("NeededLists$LazyList", "meter", "LNeededLists$Meter;", true)
  | 1 => ("NeededLists$LazyList", "numbers", "[J", true)
  | 2 => ("NeededLists$LazyList", "marks", "[B", true)
  | 3 => ("NeededLists$LazyList", "met", "I", false)
  | 4 => ("NeededLists$LazyList", "close", "I", false)
  | 5 => ("NeededLists$Ordered", "of", "LNeededLists$LazyList;", true)
  | _ => ("NeededLists$Ordered", "places", "[I", true)
def RX8 : String := "NeededLists$Rest"
def TX8 : u_T := fun k => match k with
  | 0 => ("NeededLists$LazyList", "meter", "LNeededLists$Meter;", true)
  | 1 => ("NeededLists$LazyList", "numbers", "[J", true)
  | 2 => ("NeededLists$LazyList", "marks", "[B", true)
  | 3 => ("NeededLists$LazyList", "met", "I", false)
  | 4 => ("NeededLists$LazyList", "close", "I", false)
  | 5 => ("NeededLists$Rest", "of", "LNeededLists$LazyList;", true)
  | 6 => ("NeededLists$Rest", "cond", "I", true)
  | 7 => ("NeededLists$Rest", "c", "J", true)
  | _ => ("NeededLists$Rest", "start", "I", false)
def RX9 : String := "NeededLists$Runs"
def TX9 : u_T := fun k => match k with
  | 0 => ("NeededLists$LazyList", "meter", "LNeededLists$Meter;", true)
  | 1 => ("NeededLists$LazyList", "numbers", "[J", true)
  | 2 => ("NeededLists$LazyList", "marks", "[B", true)
  | 3 => ("NeededLists$LazyList", "met", "I", false)
  | 4 => ("NeededLists$LazyList", "close", "I", false)
  | 5 => ("NeededLists$Runs", "of", "LNeededLists$LazyList;", true)
  | 6 => ("NeededLists$Runs", "starts", "[I", true)
  | _ => ("NeededLists$Runs", "runEnd", "I", false)
def RX10 : String := "NeededLists$Sieve"
def TX10 : u_T := fun k => match k with
  | 0 => ("NeededLists$LazyList", "meter", "LNeededLists$Meter;", true)
  | 1 => ("NeededLists$LazyList", "numbers", "[J", true)
  | 2 => ("NeededLists$LazyList", "marks", "[B", true)
  | 3 => ("NeededLists$LazyList", "met", "I", false)
  | 4 => ("NeededLists$LazyList", "close", "I", false)
  | 5 => ("NeededLists$Sieve", "of", "LNeededLists$LazyList;", true)
  | 6 => ("NeededLists$Sieve", "cond", "I", true)
  | 7 => ("NeededLists$Sieve", "c", "J", true)
  | _ => ("NeededLists$Sieve", "places", "[I", true)
def RX11 : String := "NeededLists"
def TX11 : u_T := fun k => match k with
  | 0 => ("NeededLists", "meter", "LNeededLists$Meter;", true)
  | 1 => ("NeededLists", "made", "[LNeededLists$LazyList;", true)
  | 2 => ("NeededLists", "rowNumbers", "[J", true)
  | 3 => ("NeededLists", "rowFates", "[B", true)
  | 4 => ("NeededLists", "madeCount", "I", false)
  | 5 => ("NeededLists", "rowLength", "I", false)
  | 6 => ("NeededLists", "stepsOfAsk", "I", false)
  | 7 => ("NeededLists", "latestOutcome", "I", false)
  | _ => ("NeededLists", "latestError", "I", false)
def RX12 : String := "NeededListsModel"
def TX12 : u_T := fun k => match k with
  | 0 => ("NeededListsModel", "lists", "I", false)
  | 1 => ("NeededListsModel", "sort", "[I", true)
  | 2 => ("NeededListsModel", "first", "[I", true)
  | 3 => ("NeededListsModel", "second", "[I", true)
  | 4 => ("NeededListsModel", "code", "[I", true)
  | 5 => ("NeededListsModel", "number", "[J", true)
  | 6 => ("NeededListsModel", "other", "[J", true)
  | 7 => ("NeededListsModel", "cell", "[I", true)
  | 8 => ("NeededListsModel", "item", "[I", true)
  | 9 => ("NeededListsModel", "value", "[J", true)
  | 10 => ("NeededListsModel", "shareList", "[I", true)
  | 11 => ("NeededListsModel", "shareCell", "[I", true)
  | 12 => ("NeededListsModel", "many", "I", false)
  | 13 => ("NeededListsModel", "rowItem", "[I", true)
  | 14 => ("NeededListsModel", "rowValue", "[J", true)
  | 15 => ("NeededListsModel", "purse", "I", false)
  | 16 => ("NeededListsModel", "spent", "I", false)
  | 17 => ("NeededListsModel", "outcome", "I", false)
  | 18 => ("NeededListsModel", "error", "I", false)
  | 19 => ("NeededListsModel", "thrown", "I", false)
  | 20 => ("NeededListsModel", "givenItem", "[I", true)
  | 21 => ("NeededListsModel", "givenValue", "[J", true)
  | 22 => ("NeededListsModel", "opValue", "J", false)
  | 23 => ("NeededListsModel", "got", "I", false)
  | 24 => ("NeededListsModel", "gotAt", "I", false)
  | 25 => ("NeededListsModel", "gotValue", "J", false)
  | 26 => ("NeededListsModel", "becomes", "I", false)
  | 27 => ("NeededListsModel", "becomesList", "I", false)
  | 28 => ("NeededListsModel", "becomesCell", "I", false)
  | 29 => ("NeededListsModel", "runSize", "I", false)
  | 30 => ("NeededListsModel", "becomesValue", "J", false)
  | _ => ("NeededListsModel", "pile", "[I", true)
def tyX12 : Nat → FieldType := fun k => match k with
  | 0 => .int
  | 1 => .array .int
  | 2 => .array .int
  | 3 => .array .int
  | 4 => .array .int
  | 5 => .array .long
  | 6 => .array .long
  | 7 => .array .int
  | 8 => .array .int
  | 9 => .array .long
  | 10 => .array .int
  | 11 => .array .int
  | 12 => .int
  | 13 => .array .int
  | 14 => .array .long
  | 15 => .int
  | 16 => .int
  | 17 => .int
  | 18 => .int
  | 19 => .int
  | 20 => .array .int
  | 21 => .array .long
  | 22 => .long
  | 23 => .int
  | 24 => .int
  | 25 => .long
  | 26 => .int
  | 27 => .int
  | 28 => .int
  | 29 => .int
  | 30 => .long
  | _ => .array .int
abbrev wsX120 : List Cond := u_ws RX12 TX12 32
theorem nmX12 : ∀ a, a < 32 → ∀ b, b < 32 → a ≠ b → (TX12 a).2.1 ≠ (TX12 b).2.1 := by decide +kernel
theorem tyX12_ok : ∀ k, k < 32 → parseFieldDescriptor (TX12 k).2.2.1 = some (tyX12 k) := by decide +kernel
abbrev cX12_fail : ByteArray := prog_14_method_3_code
def yX12_fail : MethodName := ⟨RX12, "fail", "(I)I"⟩
abbrev cX12_isList : ByteArray := prog_14_method_4_code
def yX12_isList : MethodName := ⟨RX12, "isList", "(I)Z"⟩
abbrev cX12_made : ByteArray := prog_14_method_5_code
def yX12_made : MethodName := ⟨RX12, "made", "(IIIIJJ)I"⟩
abbrev cX12_put : ByteArray := prog_14_method_6_code
def yX12_put : MethodName := ⟨RX12, "put", "(J)I"⟩
abbrev cX12_hole : ByteArray := prog_14_method_7_code
def yX12_hole : MethodName := ⟨RX12, "hole", "(I)I"⟩
abbrev cX12_count : ByteArray := prog_14_method_9_code
def yX12_count : MethodName := ⟨RX12, "count", "(JJ)I"⟩
abbrev cX12_isOp : ByteArray := prog_14_method_10_code
def yX12_isOp : MethodName := ⟨RX12, "isOp", "(I)Z"⟩
abbrev cX12_isCond : ByteArray := prog_14_method_11_code
def yX12_isCond : MethodName := ⟨RX12, "isCond", "(I)Z"⟩
abbrev cX12_iterate : ByteArray := prog_14_method_12_code
def yX12_iterate : MethodName := ⟨RX12, "iterate", "(IJJ)I"⟩
abbrev cX12_map : ByteArray := prog_14_method_13_code
def yX12_map : MethodName := ⟨RX12, "map", "(IIJ)I"⟩
abbrev cX12_both : ByteArray := prog_14_method_14_code
def yX12_both : MethodName := ⟨RX12, "both", "(III)I"⟩
abbrev cX12_scan : ByteArray := prog_14_method_15_code
def yX12_scan : MethodName := ⟨RX12, "scan", "(IIJ)I"⟩
abbrev cX12_some : ByteArray := prog_14_method_16_code
def yX12_some : MethodName := ⟨RX12, "some", "(III)I"⟩
abbrev cX12_take : ByteArray := prog_14_method_17_code
def yX12_take : MethodName := ⟨RX12, "take", "(II)I"⟩
abbrev cX12_drop : ByteArray := prog_14_method_18_code
def yX12_drop : MethodName := ⟨RX12, "drop", "(II)I"⟩
abbrev cX12_by : ByteArray := prog_14_method_19_code
def yX12_by : MethodName := ⟨RX12, "by", "(IIIJ)I"⟩
abbrev cX12_keep : ByteArray := prog_14_method_20_code
def yX12_keep : MethodName := ⟨RX12, "keep", "(IIJ)I"⟩
abbrev cX12_during : ByteArray := prog_14_method_21_code
def yX12_during : MethodName := ⟨RX12, "during", "(IIJ)I"⟩
abbrev cX12_after : ByteArray := prog_14_method_22_code
def yX12_after : MethodName := ⟨RX12, "after", "(IIJ)I"⟩
abbrev cX12_join : ByteArray := prog_14_method_23_code
def yX12_join : MethodName := ⟨RX12, "join", "(II)I"⟩
abbrev cX12_other : ByteArray := prog_14_method_24_code
def yX12_other : MethodName := ⟨RX12, "other", "(II)I"⟩
abbrev cX12_place : ByteArray := prog_14_method_28_code
def yX12_place : MethodName := ⟨RX12, "place", "(II)I"⟩
abbrev cX12_needCell : ByteArray := prog_14_method_29_code
def yX12_needCell : MethodName := ⟨RX12, "needCell", "(II)I"⟩
abbrev cX12_as : ByteArray := prog_14_method_32_code
def yX12_as : MethodName := ⟨RX12, "as", "(I)I"⟩
abbrev cX12_shares : ByteArray := prog_14_method_33_code
def yX12_shares : MethodName := ⟨RX12, "shares", "(II)I"⟩
abbrev cX12_is : ByteArray := prog_14_method_45_code
def yX12_is : MethodName := ⟨RX12, "is", "(J)I"⟩
abbrev cX12_steps : ByteArray := prog_14_method_48_code
def yX12_steps : MethodName := ⟨RX12, "steps", "(I)I"⟩
abbrev cX12_begin : ByteArray := prog_14_method_49_code
def yX12_begin : MethodName := ⟨RX12, "begin", "()V"⟩
abbrev cX12_out : ByteArray := prog_14_method_50_code
def yX12_out : MethodName := ⟨RX12, "out", "()J"⟩
abbrev cX12_failed : ByteArray := prog_14_method_51_code
def yX12_failed : MethodName := ⟨RX12, "failed", "(I)J"⟩
abbrev cX12_told : ByteArray := prog_14_method_54_code
def yX12_told : MethodName := ⟨RX12, "told", "(I)J"⟩
abbrev cX12_outcome : ByteArray := prog_14_method_60_code
def yX12_outcome : MethodName := ⟨RX12, "outcome", "()I"⟩
abbrev cX12_error : ByteArray := prog_14_method_61_code
def yX12_error : MethodName := ⟨RX12, "error", "()I"⟩
abbrev cX12_spent : ByteArray := prog_14_method_62_code
def yX12_spent : MethodName := ⟨RX12, "spent", "()I"⟩
abbrev cX12_lists : ByteArray := prog_14_method_65_code
def yX12_lists : MethodName := ⟨RX12, "lists", "()I"⟩
def wsX12_fail : List Cond := .code yX12_fail cX12_fail 2 (some .int) :: ([.fieldLink RX12 63 "NeededListsModel" "thrown" "I"] ++ wsX120)
def wsX12_isList : List Cond := .code yX12_isList cX12_isList 2 (some .boolean) :: ([.fieldLink RX12 66 "NeededListsModel" "lists" "I"] ++ wsX120)
def wsX12_made : List Cond := .code yX12_made cX12_made 9 (some .int) :: ([.fieldLink RX12 7 "NeededListsModel" "sort" "[I", .fieldLink RX12 66 "NeededListsModel" "lists" "I", .fieldLink RX12 13 "NeededListsModel" "first" "[I", .fieldLink RX12 16 "NeededListsModel" "second" "[I", .fieldLink RX12 19 "NeededListsModel" "code" "[I", .fieldLink RX12 22 "NeededListsModel" "number" "[J", .fieldLink RX12 26 "NeededListsModel" "other" "[J"] ++ wsX120)
def wsX12_put : List Cond := .code yX12_put cX12_put 3 (some .int) :: ([.fieldLink RX12 63 "NeededListsModel" "thrown" "I", .fieldLink RX12 69 "NeededListsModel" "many" "I", .fieldLink RX12 44 "NeededListsModel" "rowItem" "[I", .fieldLink RX12 47 "NeededListsModel" "rowValue" "[J", .methodLink RX12 72 yX12_fail, .instanceMethod yX12_fail, .selects RX12 yX12_fail yX12_fail, .initialized RX12, .code yX12_fail cX12_fail 2 (some .int)] ++ wsX120)
def wsX12_hole : List Cond := .code yX12_hole cX12_hole 2 (some .int) :: ([.fieldLink RX12 63 "NeededListsModel" "thrown" "I", .fieldLink RX12 69 "NeededListsModel" "many" "I", .fieldLink RX12 44 "NeededListsModel" "rowItem" "[I", .methodLink RX12 72 yX12_fail, .instanceMethod yX12_fail, .selects RX12 yX12_fail yX12_fail, .initialized RX12, .code yX12_fail cX12_fail 2 (some .int)] ++ wsX120)
def wsX12_count : List Cond := .code yX12_count cX12_count 5 (some .int) :: ([.fieldLink RX12 63 "NeededListsModel" "thrown" "I", .fieldLink RX12 66 "NeededListsModel" "lists" "I", .methodLink RX12 72 yX12_fail, .instanceMethod yX12_fail, .selects RX12 yX12_fail yX12_fail, .initialized RX12, .code yX12_fail cX12_fail 2 (some .int), .methodLink RX12 76 yX12_made, .instanceMethod yX12_made, .selects RX12 yX12_made yX12_made, .code yX12_made cX12_made 9 (some .int), .fieldLink RX12 7 "NeededListsModel" "sort" "[I", .fieldLink RX12 13 "NeededListsModel" "first" "[I", .fieldLink RX12 16 "NeededListsModel" "second" "[I", .fieldLink RX12 19 "NeededListsModel" "code" "[I", .fieldLink RX12 22 "NeededListsModel" "number" "[J", .fieldLink RX12 26 "NeededListsModel" "other" "[J"] ++ wsX120)
def wsX12_isOp : List Cond := .code yX12_isOp cX12_isOp 1 (some .boolean) :: ([])
def wsX12_isCond : List Cond := .code yX12_isCond cX12_isCond 1 (some .boolean) :: ([])
def wsX12_iterate : List Cond := .code yX12_iterate cX12_iterate 6 (some .int) :: ([.fieldLink RX12 63 "NeededListsModel" "thrown" "I", .fieldLink RX12 66 "NeededListsModel" "lists" "I", .methodLink RX12 80 yX12_isOp, .static yX12_isOp, .initialized RX12, .code yX12_isOp cX12_isOp 1 (some .boolean), .methodLink RX12 72 yX12_fail, .instanceMethod yX12_fail, .selects RX12 yX12_fail yX12_fail, .code yX12_fail cX12_fail 2 (some .int), .methodLink RX12 76 yX12_made, .instanceMethod yX12_made, .selects RX12 yX12_made yX12_made, .code yX12_made cX12_made 9 (some .int), .fieldLink RX12 7 "NeededListsModel" "sort" "[I", .fieldLink RX12 13 "NeededListsModel" "first" "[I", .fieldLink RX12 16 "NeededListsModel" "second" "[I", .fieldLink RX12 19 "NeededListsModel" "code" "[I", .fieldLink RX12 22 "NeededListsModel" "number" "[J", .fieldLink RX12 26 "NeededListsModel" "other" "[J"] ++ wsX120)
def wsX12_map : List Cond := .code yX12_map cX12_map 5 (some .int) :: ([.fieldLink RX12 63 "NeededListsModel" "thrown" "I", .fieldLink RX12 66 "NeededListsModel" "lists" "I", .methodLink RX12 84 yX12_isList, .instanceMethod yX12_isList, .selects RX12 yX12_isList yX12_isList, .initialized RX12, .code yX12_isList cX12_isList 2 (some .boolean), .methodLink RX12 72 yX12_fail, .instanceMethod yX12_fail, .selects RX12 yX12_fail yX12_fail, .code yX12_fail cX12_fail 2 (some .int), .methodLink RX12 80 yX12_isOp, .static yX12_isOp, .code yX12_isOp cX12_isOp 1 (some .boolean), .methodLink RX12 76 yX12_made, .instanceMethod yX12_made, .selects RX12 yX12_made yX12_made, .code yX12_made cX12_made 9 (some .int), .fieldLink RX12 7 "NeededListsModel" "sort" "[I", .fieldLink RX12 13 "NeededListsModel" "first" "[I", .fieldLink RX12 16 "NeededListsModel" "second" "[I", .fieldLink RX12 19 "NeededListsModel" "code" "[I", .fieldLink RX12 22 "NeededListsModel" "number" "[J", .fieldLink RX12 26 "NeededListsModel" "other" "[J"] ++ wsX120)
def wsX12_both : List Cond := .code yX12_both cX12_both 4 (some .int) :: ([.fieldLink RX12 63 "NeededListsModel" "thrown" "I", .fieldLink RX12 66 "NeededListsModel" "lists" "I", .methodLink RX12 84 yX12_isList, .instanceMethod yX12_isList, .selects RX12 yX12_isList yX12_isList, .initialized RX12, .code yX12_isList cX12_isList 2 (some .boolean), .methodLink RX12 72 yX12_fail, .instanceMethod yX12_fail, .selects RX12 yX12_fail yX12_fail, .code yX12_fail cX12_fail 2 (some .int), .methodLink RX12 80 yX12_isOp, .static yX12_isOp, .code yX12_isOp cX12_isOp 1 (some .boolean), .methodLink RX12 76 yX12_made, .instanceMethod yX12_made, .selects RX12 yX12_made yX12_made, .code yX12_made cX12_made 9 (some .int), .fieldLink RX12 7 "NeededListsModel" "sort" "[I", .fieldLink RX12 13 "NeededListsModel" "first" "[I", .fieldLink RX12 16 "NeededListsModel" "second" "[I", .fieldLink RX12 19 "NeededListsModel" "code" "[I", .fieldLink RX12 22 "NeededListsModel" "number" "[J", .fieldLink RX12 26 "NeededListsModel" "other" "[J"] ++ wsX120)
def wsX12_scan : List Cond := .code yX12_scan cX12_scan 5 (some .int) :: ([.fieldLink RX12 63 "NeededListsModel" "thrown" "I", .fieldLink RX12 66 "NeededListsModel" "lists" "I", .methodLink RX12 84 yX12_isList, .instanceMethod yX12_isList, .selects RX12 yX12_isList yX12_isList, .initialized RX12, .code yX12_isList cX12_isList 2 (some .boolean), .methodLink RX12 72 yX12_fail, .instanceMethod yX12_fail, .selects RX12 yX12_fail yX12_fail, .code yX12_fail cX12_fail 2 (some .int), .methodLink RX12 80 yX12_isOp, .static yX12_isOp, .code yX12_isOp cX12_isOp 1 (some .boolean), .methodLink RX12 76 yX12_made, .instanceMethod yX12_made, .selects RX12 yX12_made yX12_made, .code yX12_made cX12_made 9 (some .int), .fieldLink RX12 7 "NeededListsModel" "sort" "[I", .fieldLink RX12 13 "NeededListsModel" "first" "[I", .fieldLink RX12 16 "NeededListsModel" "second" "[I", .fieldLink RX12 19 "NeededListsModel" "code" "[I", .fieldLink RX12 22 "NeededListsModel" "number" "[J", .fieldLink RX12 26 "NeededListsModel" "other" "[J"] ++ wsX120)
def wsX12_some : List Cond := .code yX12_some cX12_some 4 (some .int) :: ([.fieldLink RX12 66 "NeededListsModel" "lists" "I", .methodLink RX12 84 yX12_isList, .instanceMethod yX12_isList, .selects RX12 yX12_isList yX12_isList, .initialized RX12, .code yX12_isList cX12_isList 2 (some .boolean), .methodLink RX12 72 yX12_fail, .instanceMethod yX12_fail, .selects RX12 yX12_fail yX12_fail, .code yX12_fail cX12_fail 2 (some .int), .fieldLink RX12 63 "NeededListsModel" "thrown" "I", .methodLink RX12 76 yX12_made, .instanceMethod yX12_made, .selects RX12 yX12_made yX12_made, .code yX12_made cX12_made 9 (some .int), .fieldLink RX12 7 "NeededListsModel" "sort" "[I", .fieldLink RX12 13 "NeededListsModel" "first" "[I", .fieldLink RX12 16 "NeededListsModel" "second" "[I", .fieldLink RX12 19 "NeededListsModel" "code" "[I", .fieldLink RX12 22 "NeededListsModel" "number" "[J", .fieldLink RX12 26 "NeededListsModel" "other" "[J"] ++ wsX120)
def wsX12_take_r1 : List Cond := [Cond.fieldLink RX12 63 "NeededListsModel" "thrown" "I", Cond.methodLink RX12 87 yX12_some, Cond.instanceMethod yX12_some, Cond.selects RX12 yX12_some yX12_some, Cond.initialized RX12, Cond.code yX12_some cX12_some 4 (some .int), Cond.fieldLink RX12 66 "NeededListsModel" "lists" "I", Cond.methodLink RX12 84 yX12_isList, Cond.instanceMethod yX12_isList, Cond.selects RX12 yX12_isList yX12_isList, Cond.code yX12_isList cX12_isList 2 (some .boolean), Cond.methodLink RX12 72 yX12_fail, Cond.instanceMethod yX12_fail, Cond.selects RX12 yX12_fail yX12_fail, Cond.code yX12_fail cX12_fail 2 (some .int), Cond.methodLink RX12 76 yX12_made, Cond.instanceMethod yX12_made, Cond.selects RX12 yX12_made yX12_made, Cond.code yX12_made cX12_made 9 (some .int), Cond.fieldLink RX12 7 "NeededListsModel" "sort" "[I", Cond.fieldLink RX12 13 "NeededListsModel" "first" "[I", Cond.fieldLink RX12 16 "NeededListsModel" "second" "[I", Cond.fieldLink RX12 19 "NeededListsModel" "code" "[I", Cond.fieldLink RX12 22 "NeededListsModel" "number" "[J"]
def wsX12_take_r2 : List Cond := [Cond.fieldLink RX12 26 "NeededListsModel" "other" "[J"]
def wsX12_take : List Cond := .code yX12_take cX12_take 3 (some .int) :: ((wsX12_take_r1 ++ wsX12_take_r2) ++ wsX120)
def wsX12_drop_r1 : List Cond := [Cond.fieldLink RX12 63 "NeededListsModel" "thrown" "I", Cond.methodLink RX12 87 yX12_some, Cond.instanceMethod yX12_some, Cond.selects RX12 yX12_some yX12_some, Cond.initialized RX12, Cond.code yX12_some cX12_some 4 (some .int), Cond.fieldLink RX12 66 "NeededListsModel" "lists" "I", Cond.methodLink RX12 84 yX12_isList, Cond.instanceMethod yX12_isList, Cond.selects RX12 yX12_isList yX12_isList, Cond.code yX12_isList cX12_isList 2 (some .boolean), Cond.methodLink RX12 72 yX12_fail, Cond.instanceMethod yX12_fail, Cond.selects RX12 yX12_fail yX12_fail, Cond.code yX12_fail cX12_fail 2 (some .int), Cond.methodLink RX12 76 yX12_made, Cond.instanceMethod yX12_made, Cond.selects RX12 yX12_made yX12_made, Cond.code yX12_made cX12_made 9 (some .int), Cond.fieldLink RX12 7 "NeededListsModel" "sort" "[I", Cond.fieldLink RX12 13 "NeededListsModel" "first" "[I", Cond.fieldLink RX12 16 "NeededListsModel" "second" "[I", Cond.fieldLink RX12 19 "NeededListsModel" "code" "[I", Cond.fieldLink RX12 22 "NeededListsModel" "number" "[J"]
def wsX12_drop_r2 : List Cond := [Cond.fieldLink RX12 26 "NeededListsModel" "other" "[J"]
def wsX12_drop : List Cond := .code yX12_drop cX12_drop 3 (some .int) :: ((wsX12_drop_r1 ++ wsX12_drop_r2) ++ wsX120)
def wsX12_by : List Cond := .code yX12_by cX12_by 6 (some .int) :: ([.fieldLink RX12 66 "NeededListsModel" "lists" "I", .methodLink RX12 84 yX12_isList, .instanceMethod yX12_isList, .selects RX12 yX12_isList yX12_isList, .initialized RX12, .code yX12_isList cX12_isList 2 (some .boolean), .methodLink RX12 72 yX12_fail, .instanceMethod yX12_fail, .selects RX12 yX12_fail yX12_fail, .code yX12_fail cX12_fail 2 (some .int), .fieldLink RX12 63 "NeededListsModel" "thrown" "I", .methodLink RX12 91 yX12_isCond, .static yX12_isCond, .code yX12_isCond cX12_isCond 1 (some .boolean), .methodLink RX12 76 yX12_made, .instanceMethod yX12_made, .selects RX12 yX12_made yX12_made, .code yX12_made cX12_made 9 (some .int), .fieldLink RX12 7 "NeededListsModel" "sort" "[I", .fieldLink RX12 13 "NeededListsModel" "first" "[I", .fieldLink RX12 16 "NeededListsModel" "second" "[I", .fieldLink RX12 19 "NeededListsModel" "code" "[I", .fieldLink RX12 22 "NeededListsModel" "number" "[J", .fieldLink RX12 26 "NeededListsModel" "other" "[J"] ++ wsX120)
def wsX12_keep_r1 : List Cond := [Cond.fieldLink RX12 63 "NeededListsModel" "thrown" "I", Cond.methodLink RX12 94 yX12_by, Cond.instanceMethod yX12_by, Cond.selects RX12 yX12_by yX12_by, Cond.initialized RX12, Cond.code yX12_by cX12_by 6 (some .int), Cond.fieldLink RX12 66 "NeededListsModel" "lists" "I", Cond.methodLink RX12 84 yX12_isList, Cond.instanceMethod yX12_isList, Cond.selects RX12 yX12_isList yX12_isList, Cond.code yX12_isList cX12_isList 2 (some .boolean), Cond.methodLink RX12 72 yX12_fail, Cond.instanceMethod yX12_fail, Cond.selects RX12 yX12_fail yX12_fail, Cond.code yX12_fail cX12_fail 2 (some .int), Cond.methodLink RX12 91 yX12_isCond, Cond.static yX12_isCond, Cond.code yX12_isCond cX12_isCond 1 (some .boolean), Cond.methodLink RX12 76 yX12_made, Cond.instanceMethod yX12_made, Cond.selects RX12 yX12_made yX12_made, Cond.code yX12_made cX12_made 9 (some .int), Cond.fieldLink RX12 7 "NeededListsModel" "sort" "[I", Cond.fieldLink RX12 13 "NeededListsModel" "first" "[I"]
def wsX12_keep_r2 : List Cond := [Cond.fieldLink RX12 16 "NeededListsModel" "second" "[I", Cond.fieldLink RX12 19 "NeededListsModel" "code" "[I", Cond.fieldLink RX12 22 "NeededListsModel" "number" "[J", Cond.fieldLink RX12 26 "NeededListsModel" "other" "[J"]
def wsX12_keep : List Cond := .code yX12_keep cX12_keep 5 (some .int) :: ((wsX12_keep_r1 ++ wsX12_keep_r2) ++ wsX120)
def wsX12_during_r1 : List Cond := [Cond.fieldLink RX12 63 "NeededListsModel" "thrown" "I", Cond.methodLink RX12 94 yX12_by, Cond.instanceMethod yX12_by, Cond.selects RX12 yX12_by yX12_by, Cond.initialized RX12, Cond.code yX12_by cX12_by 6 (some .int), Cond.fieldLink RX12 66 "NeededListsModel" "lists" "I", Cond.methodLink RX12 84 yX12_isList, Cond.instanceMethod yX12_isList, Cond.selects RX12 yX12_isList yX12_isList, Cond.code yX12_isList cX12_isList 2 (some .boolean), Cond.methodLink RX12 72 yX12_fail, Cond.instanceMethod yX12_fail, Cond.selects RX12 yX12_fail yX12_fail, Cond.code yX12_fail cX12_fail 2 (some .int), Cond.methodLink RX12 91 yX12_isCond, Cond.static yX12_isCond, Cond.code yX12_isCond cX12_isCond 1 (some .boolean), Cond.methodLink RX12 76 yX12_made, Cond.instanceMethod yX12_made, Cond.selects RX12 yX12_made yX12_made, Cond.code yX12_made cX12_made 9 (some .int), Cond.fieldLink RX12 7 "NeededListsModel" "sort" "[I", Cond.fieldLink RX12 13 "NeededListsModel" "first" "[I"]
def wsX12_during_r2 : List Cond := [Cond.fieldLink RX12 16 "NeededListsModel" "second" "[I", Cond.fieldLink RX12 19 "NeededListsModel" "code" "[I", Cond.fieldLink RX12 22 "NeededListsModel" "number" "[J", Cond.fieldLink RX12 26 "NeededListsModel" "other" "[J"]
def wsX12_during : List Cond := .code yX12_during cX12_during 5 (some .int) :: ((wsX12_during_r1 ++ wsX12_during_r2) ++ wsX120)
def wsX12_after_r1 : List Cond := [Cond.fieldLink RX12 63 "NeededListsModel" "thrown" "I", Cond.methodLink RX12 94 yX12_by, Cond.instanceMethod yX12_by, Cond.selects RX12 yX12_by yX12_by, Cond.initialized RX12, Cond.code yX12_by cX12_by 6 (some .int), Cond.fieldLink RX12 66 "NeededListsModel" "lists" "I", Cond.methodLink RX12 84 yX12_isList, Cond.instanceMethod yX12_isList, Cond.selects RX12 yX12_isList yX12_isList, Cond.code yX12_isList cX12_isList 2 (some .boolean), Cond.methodLink RX12 72 yX12_fail, Cond.instanceMethod yX12_fail, Cond.selects RX12 yX12_fail yX12_fail, Cond.code yX12_fail cX12_fail 2 (some .int), Cond.methodLink RX12 91 yX12_isCond, Cond.static yX12_isCond, Cond.code yX12_isCond cX12_isCond 1 (some .boolean), Cond.methodLink RX12 76 yX12_made, Cond.instanceMethod yX12_made, Cond.selects RX12 yX12_made yX12_made, Cond.code yX12_made cX12_made 9 (some .int), Cond.fieldLink RX12 7 "NeededListsModel" "sort" "[I", Cond.fieldLink RX12 13 "NeededListsModel" "first" "[I"]
def wsX12_after_r2 : List Cond := [Cond.fieldLink RX12 16 "NeededListsModel" "second" "[I", Cond.fieldLink RX12 19 "NeededListsModel" "code" "[I", Cond.fieldLink RX12 22 "NeededListsModel" "number" "[J", Cond.fieldLink RX12 26 "NeededListsModel" "other" "[J"]
def wsX12_after : List Cond := .code yX12_after cX12_after 5 (some .int) :: ((wsX12_after_r1 ++ wsX12_after_r2) ++ wsX120)
def wsX12_join : List Cond := .code yX12_join cX12_join 3 (some .int) :: ([.fieldLink RX12 63 "NeededListsModel" "thrown" "I", .fieldLink RX12 66 "NeededListsModel" "lists" "I", .methodLink RX12 84 yX12_isList, .instanceMethod yX12_isList, .selects RX12 yX12_isList yX12_isList, .initialized RX12, .code yX12_isList cX12_isList 2 (some .boolean), .methodLink RX12 72 yX12_fail, .instanceMethod yX12_fail, .selects RX12 yX12_fail yX12_fail, .code yX12_fail cX12_fail 2 (some .int), .methodLink RX12 76 yX12_made, .instanceMethod yX12_made, .selects RX12 yX12_made yX12_made, .code yX12_made cX12_made 9 (some .int), .fieldLink RX12 7 "NeededListsModel" "sort" "[I", .fieldLink RX12 13 "NeededListsModel" "first" "[I", .fieldLink RX12 16 "NeededListsModel" "second" "[I", .fieldLink RX12 19 "NeededListsModel" "code" "[I", .fieldLink RX12 22 "NeededListsModel" "number" "[J", .fieldLink RX12 26 "NeededListsModel" "other" "[J"] ++ wsX120)
def wsX12_other : List Cond := .code yX12_other cX12_other 3 (some .int) :: ([.fieldLink RX12 63 "NeededListsModel" "thrown" "I", .fieldLink RX12 66 "NeededListsModel" "lists" "I", .methodLink RX12 84 yX12_isList, .instanceMethod yX12_isList, .selects RX12 yX12_isList yX12_isList, .initialized RX12, .code yX12_isList cX12_isList 2 (some .boolean), .methodLink RX12 72 yX12_fail, .instanceMethod yX12_fail, .selects RX12 yX12_fail yX12_fail, .code yX12_fail cX12_fail 2 (some .int), .methodLink RX12 76 yX12_made, .instanceMethod yX12_made, .selects RX12 yX12_made yX12_made, .code yX12_made cX12_made 9 (some .int), .fieldLink RX12 7 "NeededListsModel" "sort" "[I", .fieldLink RX12 13 "NeededListsModel" "first" "[I", .fieldLink RX12 16 "NeededListsModel" "second" "[I", .fieldLink RX12 19 "NeededListsModel" "code" "[I", .fieldLink RX12 22 "NeededListsModel" "number" "[J", .fieldLink RX12 26 "NeededListsModel" "other" "[J"] ++ wsX120)
def wsX12_place : List Cond := .code yX12_place cX12_place 2 (some .int) :: ([])
def wsX12_needCell : List Cond := .code yX12_needCell cX12_needCell 4 (some .int) :: ([.fieldLink RX12 29 "NeededListsModel" "cell" "[I", .fieldLink RX12 110 "NeededListsModel" "got" "I", .fieldLink RX12 113 "NeededListsModel" "gotAt" "I", .methodLink RX12 106 yX12_place, .static yX12_place, .initialized RX12, .code yX12_place cX12_place 2 (some .int)] ++ wsX120)
def wsX12_as : List Cond := .code yX12_as cX12_as 2 (some .int) :: ([.fieldLink RX12 122 "NeededListsModel" "becomes" "I", .fieldLink RX12 125 "NeededListsModel" "becomesList" "I", .fieldLink RX12 128 "NeededListsModel" "becomesCell" "I"] ++ wsX120)
def wsX12_shares : List Cond := .code yX12_shares cX12_shares 3 (some .int) :: ([.fieldLink RX12 122 "NeededListsModel" "becomes" "I", .fieldLink RX12 125 "NeededListsModel" "becomesList" "I", .fieldLink RX12 128 "NeededListsModel" "becomesCell" "I"] ++ wsX120)
def wsX12_is : List Cond := .code yX12_is cX12_is 3 (some .int) :: ([.fieldLink RX12 122 "NeededListsModel" "becomes" "I", .fieldLink RX12 179 "NeededListsModel" "becomesValue" "J"] ++ wsX120)
def wsX12_steps : List Cond := .code yX12_steps cX12_steps 3 (some .int) :: ([.fieldLink RX12 63 "NeededListsModel" "thrown" "I", .fieldLink RX12 50 "NeededListsModel" "purse" "I", .methodLink RX12 72 yX12_fail, .instanceMethod yX12_fail, .selects RX12 yX12_fail yX12_fail, .initialized RX12, .code yX12_fail cX12_fail 2 (some .int)] ++ wsX120)
def wsX12_begin : List Cond := .code yX12_begin cX12_begin 1 none :: ([.fieldLink RX12 200 "NeededListsModel" "spent" "I", .fieldLink RX12 203 "NeededListsModel" "outcome" "I", .fieldLink RX12 206 "NeededListsModel" "error" "I"] ++ wsX120)
def wsX12_out : List Cond := .code yX12_out cX12_out 1 (some .long) :: ([.fieldLink RX12 203 "NeededListsModel" "outcome" "I"] ++ wsX120)
def wsX12_failed : List Cond := .code yX12_failed cX12_failed 2 (some .long) :: ([.fieldLink RX12 203 "NeededListsModel" "outcome" "I", .fieldLink RX12 206 "NeededListsModel" "error" "I"] ++ wsX120)
def wsX12_told : List Cond := .code yX12_told cX12_told 2 (some .long) :: ([.fieldLink RX12 119 "NeededListsModel" "gotValue" "J", .methodLink RX12 212 yX12_out, .instanceMethod yX12_out, .selects RX12 yX12_out yX12_out, .initialized RX12, .code yX12_out cX12_out 1 (some .long), .fieldLink RX12 203 "NeededListsModel" "outcome" "I", .methodLink RX12 216 yX12_failed, .instanceMethod yX12_failed, .selects RX12 yX12_failed yX12_failed, .code yX12_failed cX12_failed 2 (some .long), .fieldLink RX12 206 "NeededListsModel" "error" "I"] ++ wsX120)
def wsX12_outcome : List Cond := .code yX12_outcome cX12_outcome 1 (some .int) :: ([.fieldLink RX12 63 "NeededListsModel" "thrown" "I", .fieldLink RX12 203 "NeededListsModel" "outcome" "I"] ++ wsX120)
def wsX12_error : List Cond := .code yX12_error cX12_error 1 (some .int) :: ([.fieldLink RX12 63 "NeededListsModel" "thrown" "I", .fieldLink RX12 206 "NeededListsModel" "error" "I"] ++ wsX120)
def wsX12_spent : List Cond := .code yX12_spent cX12_spent 1 (some .int) :: ([.fieldLink RX12 63 "NeededListsModel" "thrown" "I", .fieldLink RX12 200 "NeededListsModel" "spent" "I"] ++ wsX120)
def wsX12_lists : List Cond := .code yX12_lists cX12_lists 1 (some .int) :: ([.fieldLink RX12 63 "NeededListsModel" "thrown" "I", .fieldLink RX12 66 "NeededListsModel" "lists" "I"] ++ wsX120)
theorem dX12_fail_0 : decode cX12_fail 0 = .ok (.aload_n 0, 1) := by decide +kernel
theorem dX12_fail_1 : decode cX12_fail 1 = .ok (.iload_n 1, 1) := by decide +kernel
theorem dX12_fail_2 : decode cX12_fail 2 = .ok (.putfield 63, 3) := by decide +kernel
theorem dX12_fail_5 : decode cX12_fail 5 = .ok (.iconst 0, 1) := by decide +kernel
theorem dX12_fail_6 : decode cX12_fail 6 = .ok (.ireturn, 1) := by decide +kernel
theorem dX12_isList_0 : decode cX12_isList 0 = .ok (.iload_n 1, 1) := by decide +kernel
theorem dX12_isList_1 : decode cX12_isList 1 = .ok (.ifCond .lt 15, 3) := by decide +kernel
theorem dX12_isList_4 : decode cX12_isList 4 = .ok (.iload_n 1, 1) := by decide +kernel
theorem dX12_isList_5 : decode cX12_isList 5 = .ok (.aload_n 0, 1) := by decide +kernel
theorem dX12_isList_6 : decode cX12_isList 6 = .ok (.getfield 66, 3) := by decide +kernel
theorem dX12_isList_9 : decode cX12_isList 9 = .ok (.if_icmp .ge 7, 3) := by decide +kernel
theorem dX12_isList_12 : decode cX12_isList 12 = .ok (.iconst 1, 1) := by decide +kernel
theorem dX12_isList_13 : decode cX12_isList 13 = .ok (.goto 4, 3) := by decide +kernel
theorem dX12_isList_16 : decode cX12_isList 16 = .ok (.iconst 0, 1) := by decide +kernel
theorem dX12_isList_17 : decode cX12_isList 17 = .ok (.ireturn, 1) := by decide +kernel
theorem dX12_made_0 : decode cX12_made 0 = .ok (.aload_n 0, 1) := by decide +kernel
theorem dX12_made_1 : decode cX12_made 1 = .ok (.getfield 7, 3) := by decide +kernel
theorem dX12_made_4 : decode cX12_made 4 = .ok (.aload_n 0, 1) := by decide +kernel
theorem dX12_made_5 : decode cX12_made 5 = .ok (.getfield 66, 3) := by decide +kernel
theorem dX12_made_8 : decode cX12_made 8 = .ok (.iload_n 1, 1) := by decide +kernel
theorem dX12_made_9 : decode cX12_made 9 = .ok (.iastore, 1) := by decide +kernel
theorem dX12_made_10 : decode cX12_made 10 = .ok (.aload_n 0, 1) := by decide +kernel
theorem dX12_made_11 : decode cX12_made 11 = .ok (.getfield 13, 3) := by decide +kernel
theorem dX12_made_14 : decode cX12_made 14 = .ok (.aload_n 0, 1) := by decide +kernel
theorem dX12_made_15 : decode cX12_made 15 = .ok (.getfield 66, 3) := by decide +kernel
theorem dX12_made_18 : decode cX12_made 18 = .ok (.iload_n 2, 1) := by decide +kernel
theorem dX12_made_19 : decode cX12_made 19 = .ok (.iastore, 1) := by decide +kernel
theorem dX12_made_20 : decode cX12_made 20 = .ok (.aload_n 0, 1) := by decide +kernel
theorem dX12_made_21 : decode cX12_made 21 = .ok (.getfield 16, 3) := by decide +kernel
theorem dX12_made_24 : decode cX12_made 24 = .ok (.aload_n 0, 1) := by decide +kernel
theorem dX12_made_25 : decode cX12_made 25 = .ok (.getfield 66, 3) := by decide +kernel
theorem dX12_made_28 : decode cX12_made 28 = .ok (.iload_n 3, 1) := by decide +kernel
theorem dX12_made_29 : decode cX12_made 29 = .ok (.iastore, 1) := by decide +kernel
theorem dX12_made_30 : decode cX12_made 30 = .ok (.aload_n 0, 1) := by decide +kernel
theorem dX12_made_31 : decode cX12_made 31 = .ok (.getfield 19, 3) := by decide +kernel
theorem dX12_made_34 : decode cX12_made 34 = .ok (.aload_n 0, 1) := by decide +kernel
theorem dX12_made_35 : decode cX12_made 35 = .ok (.getfield 66, 3) := by decide +kernel
theorem dX12_made_38 : decode cX12_made 38 = .ok (.iload 4, 2) := by decide +kernel
theorem dX12_made_40 : decode cX12_made 40 = .ok (.iastore, 1) := by decide +kernel
theorem dX12_made_41 : decode cX12_made 41 = .ok (.aload_n 0, 1) := by decide +kernel
theorem dX12_made_42 : decode cX12_made 42 = .ok (.getfield 22, 3) := by decide +kernel
theorem dX12_made_45 : decode cX12_made 45 = .ok (.aload_n 0, 1) := by decide +kernel
theorem dX12_made_46 : decode cX12_made 46 = .ok (.getfield 66, 3) := by decide +kernel
theorem dX12_made_49 : decode cX12_made 49 = .ok (.lload 5, 2) := by decide +kernel
theorem dX12_made_51 : decode cX12_made 51 = .ok (.lastore, 1) := by decide +kernel
theorem dX12_made_52 : decode cX12_made 52 = .ok (.aload_n 0, 1) := by decide +kernel
theorem dX12_made_53 : decode cX12_made 53 = .ok (.getfield 26, 3) := by decide +kernel
theorem dX12_made_56 : decode cX12_made 56 = .ok (.aload_n 0, 1) := by decide +kernel
theorem dX12_made_57 : decode cX12_made 57 = .ok (.getfield 66, 3) := by decide +kernel
theorem dX12_made_60 : decode cX12_made 60 = .ok (.lload 7, 2) := by decide +kernel
theorem dX12_made_62 : decode cX12_made 62 = .ok (.lastore, 1) := by decide +kernel
theorem dX12_made_63 : decode cX12_made 63 = .ok (.aload_n 0, 1) := by decide +kernel
theorem dX12_made_64 : decode cX12_made 64 = .ok (.dup, 1) := by decide +kernel
theorem dX12_made_65 : decode cX12_made 65 = .ok (.getfield 66, 3) := by decide +kernel
theorem dX12_made_68 : decode cX12_made 68 = .ok (.iconst 1, 1) := by decide +kernel
theorem dX12_made_69 : decode cX12_made 69 = .ok (.iadd, 1) := by decide +kernel
theorem dX12_made_70 : decode cX12_made 70 = .ok (.putfield 66, 3) := by decide +kernel
theorem dX12_made_73 : decode cX12_made 73 = .ok (.aload_n 0, 1) := by decide +kernel
theorem dX12_made_74 : decode cX12_made 74 = .ok (.getfield 66, 3) := by decide +kernel
theorem dX12_made_77 : decode cX12_made 77 = .ok (.iconst 1, 1) := by decide +kernel
theorem dX12_made_78 : decode cX12_made 78 = .ok (.isub, 1) := by decide +kernel
theorem dX12_made_79 : decode cX12_made 79 = .ok (.ireturn, 1) := by decide +kernel
set_option maxRecDepth 20000 in
theorem ggX12_put_X12_fail : GoodIn wsX12_put wsX12_fail := goodIn_r _ [9, 1, 10, 11, 12, 13, 14, 15, 16, 17, 18, 19, 20, 21, 22, 23, 24, 25, 26, 27, 28, 29, 30, 31, 32, 33, 34, 35, 36, 37, 38, 39, 40, 41] (by decide +kernel) (by decide +kernel)
set_option maxRecDepth 20000 in
theorem gX12_put_X12_fail : GoodIn wsX12_put (wsV RX12 72 RX12 yX12_fail wsX12_fail) := goodIn_app (goodIn_of _ (by decide +kernel)) ggX12_put_X12_fail
theorem dX12_put_0 : decode cX12_put 0 = .ok (.aload_n 0, 1) := by decide +kernel
theorem dX12_put_1 : decode cX12_put 1 = .ok (.iconst 0, 1) := by decide +kernel
theorem dX12_put_2 : decode cX12_put 2 = .ok (.putfield 63, 3) := by decide +kernel
theorem dX12_put_5 : decode cX12_put 5 = .ok (.aload_n 0, 1) := by decide +kernel
theorem dX12_put_6 : decode cX12_put 6 = .ok (.getfield 69, 3) := by decide +kernel
theorem dX12_put_9 : decode cX12_put 9 = .ok (.bipush 100, 2) := by decide +kernel
theorem dX12_put_11 : decode cX12_put 11 = .ok (.if_icmp .ne 9, 3) := by decide +kernel
theorem dX12_put_14 : decode cX12_put 14 = .ok (.aload_n 0, 1) := by decide +kernel
theorem dX12_put_15 : decode cX12_put 15 = .ok (.iconst 1, 1) := by decide +kernel
theorem dX12_put_16 : decode cX12_put 16 = .ok (.invokevirtual 72, 3) := by decide +kernel
theorem dX12_put_19 : decode cX12_put 19 = .ok (.ireturn, 1) := by decide +kernel
theorem dX12_put_20 : decode cX12_put 20 = .ok (.aload_n 0, 1) := by decide +kernel
theorem dX12_put_21 : decode cX12_put 21 = .ok (.getfield 44, 3) := by decide +kernel
theorem dX12_put_24 : decode cX12_put 24 = .ok (.aload_n 0, 1) := by decide +kernel
theorem dX12_put_25 : decode cX12_put 25 = .ok (.getfield 69, 3) := by decide +kernel
theorem dX12_put_28 : decode cX12_put 28 = .ok (.iconst 1, 1) := by decide +kernel
theorem dX12_put_29 : decode cX12_put 29 = .ok (.iastore, 1) := by decide +kernel
theorem dX12_put_30 : decode cX12_put 30 = .ok (.aload_n 0, 1) := by decide +kernel
theorem dX12_put_31 : decode cX12_put 31 = .ok (.getfield 47, 3) := by decide +kernel
theorem dX12_put_34 : decode cX12_put 34 = .ok (.aload_n 0, 1) := by decide +kernel
theorem dX12_put_35 : decode cX12_put 35 = .ok (.getfield 69, 3) := by decide +kernel
theorem dX12_put_38 : decode cX12_put 38 = .ok (.lload_n 1, 1) := by decide +kernel
theorem dX12_put_39 : decode cX12_put 39 = .ok (.lastore, 1) := by decide +kernel
theorem dX12_put_40 : decode cX12_put 40 = .ok (.aload_n 0, 1) := by decide +kernel
theorem dX12_put_41 : decode cX12_put 41 = .ok (.dup, 1) := by decide +kernel
theorem dX12_put_42 : decode cX12_put 42 = .ok (.getfield 69, 3) := by decide +kernel
theorem dX12_put_45 : decode cX12_put 45 = .ok (.iconst 1, 1) := by decide +kernel
theorem dX12_put_46 : decode cX12_put 46 = .ok (.iadd, 1) := by decide +kernel
theorem dX12_put_47 : decode cX12_put 47 = .ok (.putfield 69, 3) := by decide +kernel
theorem dX12_put_50 : decode cX12_put 50 = .ok (.aload_n 0, 1) := by decide +kernel
theorem dX12_put_51 : decode cX12_put 51 = .ok (.getfield 69, 3) := by decide +kernel
theorem dX12_put_54 : decode cX12_put 54 = .ok (.ireturn, 1) := by decide +kernel
set_option maxRecDepth 20000 in
theorem ggX12_hole_X12_fail : GoodIn wsX12_hole wsX12_fail := goodIn_r _ [8, 1, 9, 10, 11, 12, 13, 14, 15, 16, 17, 18, 19, 20, 21, 22, 23, 24, 25, 26, 27, 28, 29, 30, 31, 32, 33, 34, 35, 36, 37, 38, 39, 40] (by decide +kernel) (by decide +kernel)
set_option maxRecDepth 20000 in
theorem gX12_hole_X12_fail : GoodIn wsX12_hole (wsV RX12 72 RX12 yX12_fail wsX12_fail) := goodIn_app (goodIn_of _ (by decide +kernel)) ggX12_hole_X12_fail
theorem dX12_hole_0 : decode cX12_hole 0 = .ok (.aload_n 0, 1) := by decide +kernel
theorem dX12_hole_1 : decode cX12_hole 1 = .ok (.iconst 0, 1) := by decide +kernel
theorem dX12_hole_2 : decode cX12_hole 2 = .ok (.putfield 63, 3) := by decide +kernel
theorem dX12_hole_5 : decode cX12_hole 5 = .ok (.iload_n 1, 1) := by decide +kernel
theorem dX12_hole_6 : decode cX12_hole 6 = .ok (.ifCond .eq 14, 3) := by decide +kernel
theorem dX12_hole_9 : decode cX12_hole 9 = .ok (.iload_n 1, 1) := by decide +kernel
theorem dX12_hole_10 : decode cX12_hole 10 = .ok (.iconst 1, 1) := by decide +kernel
theorem dX12_hole_11 : decode cX12_hole 11 = .ok (.if_icmp .eq 9, 3) := by decide +kernel
theorem dX12_hole_14 : decode cX12_hole 14 = .ok (.aload_n 0, 1) := by decide +kernel
theorem dX12_hole_15 : decode cX12_hole 15 = .ok (.iconst 1, 1) := by decide +kernel
theorem dX12_hole_16 : decode cX12_hole 16 = .ok (.invokevirtual 72, 3) := by decide +kernel
theorem dX12_hole_19 : decode cX12_hole 19 = .ok (.ireturn, 1) := by decide +kernel
theorem dX12_hole_20 : decode cX12_hole 20 = .ok (.aload_n 0, 1) := by decide +kernel
theorem dX12_hole_21 : decode cX12_hole 21 = .ok (.getfield 69, 3) := by decide +kernel
theorem dX12_hole_24 : decode cX12_hole 24 = .ok (.bipush 100, 2) := by decide +kernel
theorem dX12_hole_26 : decode cX12_hole 26 = .ok (.if_icmp .ne 9, 3) := by decide +kernel
theorem dX12_hole_29 : decode cX12_hole 29 = .ok (.aload_n 0, 1) := by decide +kernel
theorem dX12_hole_30 : decode cX12_hole 30 = .ok (.iconst 2, 1) := by decide +kernel
theorem dX12_hole_31 : decode cX12_hole 31 = .ok (.invokevirtual 72, 3) := by decide +kernel
theorem dX12_hole_34 : decode cX12_hole 34 = .ok (.ireturn, 1) := by decide +kernel
theorem dX12_hole_35 : decode cX12_hole 35 = .ok (.aload_n 0, 1) := by decide +kernel
theorem dX12_hole_36 : decode cX12_hole 36 = .ok (.getfield 44, 3) := by decide +kernel
theorem dX12_hole_39 : decode cX12_hole 39 = .ok (.aload_n 0, 1) := by decide +kernel
theorem dX12_hole_40 : decode cX12_hole 40 = .ok (.getfield 69, 3) := by decide +kernel
theorem dX12_hole_43 : decode cX12_hole 43 = .ok (.iload_n 1, 1) := by decide +kernel
theorem dX12_hole_44 : decode cX12_hole 44 = .ok (.ifCond .ne 7, 3) := by decide +kernel
theorem dX12_hole_47 : decode cX12_hole 47 = .ok (.iconst 3, 1) := by decide +kernel
theorem dX12_hole_48 : decode cX12_hole 48 = .ok (.goto 5, 3) := by decide +kernel
theorem dX12_hole_51 : decode cX12_hole 51 = .ok (.bipush 7, 2) := by decide +kernel
theorem dX12_hole_53 : decode cX12_hole 53 = .ok (.iastore, 1) := by decide +kernel
theorem dX12_hole_54 : decode cX12_hole 54 = .ok (.aload_n 0, 1) := by decide +kernel
theorem dX12_hole_55 : decode cX12_hole 55 = .ok (.dup, 1) := by decide +kernel
theorem dX12_hole_56 : decode cX12_hole 56 = .ok (.getfield 69, 3) := by decide +kernel
theorem dX12_hole_59 : decode cX12_hole 59 = .ok (.iconst 1, 1) := by decide +kernel
theorem dX12_hole_60 : decode cX12_hole 60 = .ok (.iadd, 1) := by decide +kernel
theorem dX12_hole_61 : decode cX12_hole 61 = .ok (.putfield 69, 3) := by decide +kernel
theorem dX12_hole_64 : decode cX12_hole 64 = .ok (.aload_n 0, 1) := by decide +kernel
theorem dX12_hole_65 : decode cX12_hole 65 = .ok (.getfield 69, 3) := by decide +kernel
theorem dX12_hole_68 : decode cX12_hole 68 = .ok (.ireturn, 1) := by decide +kernel
set_option maxRecDepth 20000 in
theorem ggX12_count_X12_fail : GoodIn wsX12_count wsX12_fail := goodIn_r _ [7, 1, 18, 19, 20, 21, 22, 23, 24, 25, 26, 27, 28, 29, 30, 31, 32, 33, 34, 35, 36, 37, 38, 39, 40, 41, 42, 43, 44, 45, 46, 47, 48, 49] (by decide +kernel) (by decide +kernel)
set_option maxRecDepth 20000 in
theorem gX12_count_X12_fail : GoodIn wsX12_count (wsV RX12 72 RX12 yX12_fail wsX12_fail) := goodIn_app (goodIn_of _ (by decide +kernel)) ggX12_count_X12_fail
set_option maxRecDepth 20000 in
theorem ggX12_count_X12_made : GoodIn wsX12_count wsX12_made := goodIn_r _ [11, 12, 2, 13, 14, 15, 16, 17, 18, 19, 20, 21, 22, 23, 24, 25, 26, 27, 28, 29, 30, 31, 32, 33, 34, 35, 36, 37, 38, 39, 40, 41, 42, 43, 44, 45, 46, 47, 48, 49] (by decide +kernel) (by decide +kernel)
set_option maxRecDepth 20000 in
theorem gX12_count_X12_made : GoodIn wsX12_count (wsV RX12 76 RX12 yX12_made wsX12_made) := goodIn_app (goodIn_of _ (by decide +kernel)) ggX12_count_X12_made
theorem dX12_count_0 : decode cX12_count 0 = .ok (.aload_n 0, 1) := by decide +kernel
theorem dX12_count_1 : decode cX12_count 1 = .ok (.iconst 0, 1) := by decide +kernel
theorem dX12_count_2 : decode cX12_count 2 = .ok (.putfield 63, 3) := by decide +kernel
theorem dX12_count_5 : decode cX12_count 5 = .ok (.aload_n 0, 1) := by decide +kernel
theorem dX12_count_6 : decode cX12_count 6 = .ok (.getfield 66, 3) := by decide +kernel
theorem dX12_count_9 : decode cX12_count 9 = .ok (.bipush 24, 2) := by decide +kernel
theorem dX12_count_11 : decode cX12_count 11 = .ok (.if_icmp .ne 11, 3) := by decide +kernel
theorem dX12_count_14 : decode cX12_count 14 = .ok (.aload_n 0, 1) := by decide +kernel
theorem dX12_count_15 : decode cX12_count 15 = .ok (.iconst 1, 1) := by decide +kernel
theorem dX12_count_16 : decode cX12_count 16 = .ok (.invokevirtual 72, 3) := by decide +kernel
theorem dX12_count_19 : decode cX12_count 19 = .ok (.goto 13, 3) := by decide +kernel
theorem dX12_count_22 : decode cX12_count 22 = .ok (.aload_n 0, 1) := by decide +kernel
theorem dX12_count_23 : decode cX12_count 23 = .ok (.iconst 1, 1) := by decide +kernel
theorem dX12_count_24 : decode cX12_count 24 = .ok (.iconst 0, 1) := by decide +kernel
theorem dX12_count_25 : decode cX12_count 25 = .ok (.iconst 0, 1) := by decide +kernel
theorem dX12_count_26 : decode cX12_count 26 = .ok (.iconst 0, 1) := by decide +kernel
theorem dX12_count_27 : decode cX12_count 27 = .ok (.lload_n 1, 1) := by decide +kernel
theorem dX12_count_28 : decode cX12_count 28 = .ok (.lload_n 3, 1) := by decide +kernel
theorem dX12_count_29 : decode cX12_count 29 = .ok (.invokevirtual 76, 3) := by decide +kernel
theorem dX12_count_32 : decode cX12_count 32 = .ok (.ireturn, 1) := by decide +kernel
theorem dX12_isOp_0 : decode cX12_isOp 0 = .ok (.iload_n 0, 1) := by decide +kernel
theorem dX12_isOp_1 : decode cX12_isOp 1 = .ok (.ifCond .lt 13, 3) := by decide +kernel
theorem dX12_isOp_4 : decode cX12_isOp 4 = .ok (.iload_n 0, 1) := by decide +kernel
theorem dX12_isOp_5 : decode cX12_isOp 5 = .ok (.bipush 8, 2) := by decide +kernel
theorem dX12_isOp_7 : decode cX12_isOp 7 = .ok (.if_icmp .gt 7, 3) := by decide +kernel
theorem dX12_isOp_10 : decode cX12_isOp 10 = .ok (.iconst 1, 1) := by decide +kernel
theorem dX12_isOp_11 : decode cX12_isOp 11 = .ok (.goto 4, 3) := by decide +kernel
theorem dX12_isOp_14 : decode cX12_isOp 14 = .ok (.iconst 0, 1) := by decide +kernel
theorem dX12_isOp_15 : decode cX12_isOp 15 = .ok (.ireturn, 1) := by decide +kernel
theorem dX12_isCond_0 : decode cX12_isCond 0 = .ok (.iload_n 0, 1) := by decide +kernel
theorem dX12_isCond_1 : decode cX12_isCond 1 = .ok (.ifCond .lt 12, 3) := by decide +kernel
theorem dX12_isCond_4 : decode cX12_isCond 4 = .ok (.iload_n 0, 1) := by decide +kernel
theorem dX12_isCond_5 : decode cX12_isCond 5 = .ok (.iconst 3, 1) := by decide +kernel
theorem dX12_isCond_6 : decode cX12_isCond 6 = .ok (.if_icmp .gt 7, 3) := by decide +kernel
theorem dX12_isCond_9 : decode cX12_isCond 9 = .ok (.iconst 1, 1) := by decide +kernel
theorem dX12_isCond_10 : decode cX12_isCond 10 = .ok (.goto 4, 3) := by decide +kernel
theorem dX12_isCond_13 : decode cX12_isCond 13 = .ok (.iconst 0, 1) := by decide +kernel
theorem dX12_isCond_14 : decode cX12_isCond 14 = .ok (.ireturn, 1) := by decide +kernel
set_option maxRecDepth 20000 in
theorem ggX12_iterate_X12_isOp : GoodIn wsX12_iterate wsX12_isOp := goodIn_r _ [6] (by decide +kernel) (by decide +kernel)
set_option maxRecDepth 20000 in
theorem gX12_iterate_X12_isOp : GoodIn wsX12_iterate (va_wsS RX12 80 yX12_isOp wsX12_isOp) := goodIn_app (goodIn_of _ (by decide +kernel)) ggX12_iterate_X12_isOp
set_option maxRecDepth 20000 in
theorem ggX12_iterate_X12_fail : GoodIn wsX12_iterate wsX12_fail := goodIn_r _ [10, 1, 21, 22, 23, 24, 25, 26, 27, 28, 29, 30, 31, 32, 33, 34, 35, 36, 37, 38, 39, 40, 41, 42, 43, 44, 45, 46, 47, 48, 49, 50, 51, 52] (by decide +kernel) (by decide +kernel)
set_option maxRecDepth 20000 in
theorem gX12_iterate_X12_fail : GoodIn wsX12_iterate (wsV RX12 72 RX12 yX12_fail wsX12_fail) := goodIn_app (goodIn_of _ (by decide +kernel)) ggX12_iterate_X12_fail
set_option maxRecDepth 20000 in
theorem ggX12_iterate_X12_made : GoodIn wsX12_iterate wsX12_made := goodIn_r _ [14, 15, 2, 16, 17, 18, 19, 20, 21, 22, 23, 24, 25, 26, 27, 28, 29, 30, 31, 32, 33, 34, 35, 36, 37, 38, 39, 40, 41, 42, 43, 44, 45, 46, 47, 48, 49, 50, 51, 52] (by decide +kernel) (by decide +kernel)
set_option maxRecDepth 20000 in
theorem gX12_iterate_X12_made : GoodIn wsX12_iterate (wsV RX12 76 RX12 yX12_made wsX12_made) := goodIn_app (goodIn_of _ (by decide +kernel)) ggX12_iterate_X12_made
theorem dX12_iterate_0 : decode cX12_iterate 0 = .ok (.aload_n 0, 1) := by decide +kernel
theorem dX12_iterate_1 : decode cX12_iterate 1 = .ok (.iconst 0, 1) := by decide +kernel
theorem dX12_iterate_2 : decode cX12_iterate 2 = .ok (.putfield 63, 3) := by decide +kernel
theorem dX12_iterate_5 : decode cX12_iterate 5 = .ok (.iload_n 1, 1) := by decide +kernel
theorem dX12_iterate_6 : decode cX12_iterate 6 = .ok (.invokestatic 80, 3) := by decide +kernel
theorem dX12_iterate_9 : decode cX12_iterate 9 = .ok (.ifCond .ne 9, 3) := by decide +kernel
theorem dX12_iterate_12 : decode cX12_iterate 12 = .ok (.aload_n 0, 1) := by decide +kernel
theorem dX12_iterate_13 : decode cX12_iterate 13 = .ok (.iconst 1, 1) := by decide +kernel
theorem dX12_iterate_14 : decode cX12_iterate 14 = .ok (.invokevirtual 72, 3) := by decide +kernel
theorem dX12_iterate_17 : decode cX12_iterate 17 = .ok (.ireturn, 1) := by decide +kernel
theorem dX12_iterate_18 : decode cX12_iterate 18 = .ok (.aload_n 0, 1) := by decide +kernel
theorem dX12_iterate_19 : decode cX12_iterate 19 = .ok (.getfield 66, 3) := by decide +kernel
theorem dX12_iterate_22 : decode cX12_iterate 22 = .ok (.bipush 24, 2) := by decide +kernel
theorem dX12_iterate_24 : decode cX12_iterate 24 = .ok (.if_icmp .ne 11, 3) := by decide +kernel
theorem dX12_iterate_27 : decode cX12_iterate 27 = .ok (.aload_n 0, 1) := by decide +kernel
theorem dX12_iterate_28 : decode cX12_iterate 28 = .ok (.iconst 2, 1) := by decide +kernel
theorem dX12_iterate_29 : decode cX12_iterate 29 = .ok (.invokevirtual 72, 3) := by decide +kernel
theorem dX12_iterate_32 : decode cX12_iterate 32 = .ok (.goto 14, 3) := by decide +kernel
theorem dX12_iterate_35 : decode cX12_iterate 35 = .ok (.aload_n 0, 1) := by decide +kernel
theorem dX12_iterate_36 : decode cX12_iterate 36 = .ok (.iconst 2, 1) := by decide +kernel
theorem dX12_iterate_37 : decode cX12_iterate 37 = .ok (.iconst 0, 1) := by decide +kernel
theorem dX12_iterate_38 : decode cX12_iterate 38 = .ok (.iconst 0, 1) := by decide +kernel
theorem dX12_iterate_39 : decode cX12_iterate 39 = .ok (.iload_n 1, 1) := by decide +kernel
theorem dX12_iterate_40 : decode cX12_iterate 40 = .ok (.lload_n 2, 1) := by decide +kernel
theorem dX12_iterate_41 : decode cX12_iterate 41 = .ok (.lload 4, 2) := by decide +kernel
theorem dX12_iterate_43 : decode cX12_iterate 43 = .ok (.invokevirtual 76, 3) := by decide +kernel
theorem dX12_iterate_46 : decode cX12_iterate 46 = .ok (.ireturn, 1) := by decide +kernel
set_option maxRecDepth 20000 in
theorem ggX12_map_X12_isList : GoodIn wsX12_map wsX12_isList := goodIn_r _ [7, 2, 25, 26, 27, 28, 29, 30, 31, 32, 33, 34, 35, 36, 37, 38, 39, 40, 41, 42, 43, 44, 45, 46, 47, 48, 49, 50, 51, 52, 53, 54, 55, 56] (by decide +kernel) (by decide +kernel)
set_option maxRecDepth 20000 in
theorem gX12_map_X12_isList : GoodIn wsX12_map (wsV RX12 84 RX12 yX12_isList wsX12_isList) := goodIn_app (goodIn_of _ (by decide +kernel)) ggX12_map_X12_isList
set_option maxRecDepth 20000 in
theorem ggX12_map_X12_fail : GoodIn wsX12_map wsX12_fail := goodIn_r _ [11, 1, 25, 26, 27, 28, 29, 30, 31, 32, 33, 34, 35, 36, 37, 38, 39, 40, 41, 42, 43, 44, 45, 46, 47, 48, 49, 50, 51, 52, 53, 54, 55, 56] (by decide +kernel) (by decide +kernel)
set_option maxRecDepth 20000 in
theorem gX12_map_X12_fail : GoodIn wsX12_map (wsV RX12 72 RX12 yX12_fail wsX12_fail) := goodIn_app (goodIn_of _ (by decide +kernel)) ggX12_map_X12_fail
set_option maxRecDepth 20000 in
theorem ggX12_map_X12_isOp : GoodIn wsX12_map wsX12_isOp := goodIn_r _ [14] (by decide +kernel) (by decide +kernel)
set_option maxRecDepth 20000 in
theorem gX12_map_X12_isOp : GoodIn wsX12_map (va_wsS RX12 80 yX12_isOp wsX12_isOp) := goodIn_app (goodIn_of _ (by decide +kernel)) ggX12_map_X12_isOp
set_option maxRecDepth 20000 in
theorem ggX12_map_X12_made : GoodIn wsX12_map wsX12_made := goodIn_r _ [18, 19, 2, 20, 21, 22, 23, 24, 25, 26, 27, 28, 29, 30, 31, 32, 33, 34, 35, 36, 37, 38, 39, 40, 41, 42, 43, 44, 45, 46, 47, 48, 49, 50, 51, 52, 53, 54, 55, 56] (by decide +kernel) (by decide +kernel)
set_option maxRecDepth 20000 in
theorem gX12_map_X12_made : GoodIn wsX12_map (wsV RX12 76 RX12 yX12_made wsX12_made) := goodIn_app (goodIn_of _ (by decide +kernel)) ggX12_map_X12_made
theorem dX12_map_0 : decode cX12_map 0 = .ok (.aload_n 0, 1) := by decide +kernel
theorem dX12_map_1 : decode cX12_map 1 = .ok (.iconst 0, 1) := by decide +kernel
theorem dX12_map_2 : decode cX12_map 2 = .ok (.putfield 63, 3) := by decide +kernel
theorem dX12_map_5 : decode cX12_map 5 = .ok (.aload_n 0, 1) := by decide +kernel
theorem dX12_map_6 : decode cX12_map 6 = .ok (.iload_n 1, 1) := by decide +kernel
theorem dX12_map_7 : decode cX12_map 7 = .ok (.invokevirtual 84, 3) := by decide +kernel
theorem dX12_map_10 : decode cX12_map 10 = .ok (.ifCond .ne 9, 3) := by decide +kernel
theorem dX12_map_13 : decode cX12_map 13 = .ok (.aload_n 0, 1) := by decide +kernel
theorem dX12_map_14 : decode cX12_map 14 = .ok (.iconst 1, 1) := by decide +kernel
theorem dX12_map_15 : decode cX12_map 15 = .ok (.invokevirtual 72, 3) := by decide +kernel
theorem dX12_map_18 : decode cX12_map 18 = .ok (.ireturn, 1) := by decide +kernel
theorem dX12_map_19 : decode cX12_map 19 = .ok (.iload_n 2, 1) := by decide +kernel
theorem dX12_map_20 : decode cX12_map 20 = .ok (.invokestatic 80, 3) := by decide +kernel
theorem dX12_map_23 : decode cX12_map 23 = .ok (.ifCond .ne 9, 3) := by decide +kernel
theorem dX12_map_26 : decode cX12_map 26 = .ok (.aload_n 0, 1) := by decide +kernel
theorem dX12_map_27 : decode cX12_map 27 = .ok (.iconst 2, 1) := by decide +kernel
theorem dX12_map_28 : decode cX12_map 28 = .ok (.invokevirtual 72, 3) := by decide +kernel
theorem dX12_map_31 : decode cX12_map 31 = .ok (.ireturn, 1) := by decide +kernel
theorem dX12_map_32 : decode cX12_map 32 = .ok (.aload_n 0, 1) := by decide +kernel
theorem dX12_map_33 : decode cX12_map 33 = .ok (.getfield 66, 3) := by decide +kernel
theorem dX12_map_36 : decode cX12_map 36 = .ok (.bipush 24, 2) := by decide +kernel
theorem dX12_map_38 : decode cX12_map 38 = .ok (.if_icmp .ne 11, 3) := by decide +kernel
theorem dX12_map_41 : decode cX12_map 41 = .ok (.aload_n 0, 1) := by decide +kernel
theorem dX12_map_42 : decode cX12_map 42 = .ok (.iconst 3, 1) := by decide +kernel
theorem dX12_map_43 : decode cX12_map 43 = .ok (.invokevirtual 72, 3) := by decide +kernel
theorem dX12_map_46 : decode cX12_map 46 = .ok (.goto 13, 3) := by decide +kernel
theorem dX12_map_49 : decode cX12_map 49 = .ok (.aload_n 0, 1) := by decide +kernel
theorem dX12_map_50 : decode cX12_map 50 = .ok (.iconst 3, 1) := by decide +kernel
theorem dX12_map_51 : decode cX12_map 51 = .ok (.iload_n 1, 1) := by decide +kernel
theorem dX12_map_52 : decode cX12_map 52 = .ok (.iconst 0, 1) := by decide +kernel
theorem dX12_map_53 : decode cX12_map 53 = .ok (.iload_n 2, 1) := by decide +kernel
theorem dX12_map_54 : decode cX12_map 54 = .ok (.lload_n 3, 1) := by decide +kernel
theorem dX12_map_55 : decode cX12_map 55 = .ok (.lconst 0, 1) := by decide +kernel
theorem dX12_map_56 : decode cX12_map 56 = .ok (.invokevirtual 76, 3) := by decide +kernel
theorem dX12_map_59 : decode cX12_map 59 = .ok (.ireturn, 1) := by decide +kernel
set_option maxRecDepth 20000 in
theorem ggX12_both_X12_isList : GoodIn wsX12_both wsX12_isList := goodIn_r _ [7, 2, 25, 26, 27, 28, 29, 30, 31, 32, 33, 34, 35, 36, 37, 38, 39, 40, 41, 42, 43, 44, 45, 46, 47, 48, 49, 50, 51, 52, 53, 54, 55, 56] (by decide +kernel) (by decide +kernel)
set_option maxRecDepth 20000 in
theorem gX12_both_X12_isList : GoodIn wsX12_both (wsV RX12 84 RX12 yX12_isList wsX12_isList) := goodIn_app (goodIn_of _ (by decide +kernel)) ggX12_both_X12_isList
set_option maxRecDepth 20000 in
theorem ggX12_both_X12_fail : GoodIn wsX12_both wsX12_fail := goodIn_r _ [11, 1, 25, 26, 27, 28, 29, 30, 31, 32, 33, 34, 35, 36, 37, 38, 39, 40, 41, 42, 43, 44, 45, 46, 47, 48, 49, 50, 51, 52, 53, 54, 55, 56] (by decide +kernel) (by decide +kernel)
set_option maxRecDepth 20000 in
theorem gX12_both_X12_fail : GoodIn wsX12_both (wsV RX12 72 RX12 yX12_fail wsX12_fail) := goodIn_app (goodIn_of _ (by decide +kernel)) ggX12_both_X12_fail
set_option maxRecDepth 20000 in
theorem ggX12_both_X12_isOp : GoodIn wsX12_both wsX12_isOp := goodIn_r _ [14] (by decide +kernel) (by decide +kernel)
set_option maxRecDepth 20000 in
theorem gX12_both_X12_isOp : GoodIn wsX12_both (va_wsS RX12 80 yX12_isOp wsX12_isOp) := goodIn_app (goodIn_of _ (by decide +kernel)) ggX12_both_X12_isOp
set_option maxRecDepth 20000 in
theorem ggX12_both_X12_made : GoodIn wsX12_both wsX12_made := goodIn_r _ [18, 19, 2, 20, 21, 22, 23, 24, 25, 26, 27, 28, 29, 30, 31, 32, 33, 34, 35, 36, 37, 38, 39, 40, 41, 42, 43, 44, 45, 46, 47, 48, 49, 50, 51, 52, 53, 54, 55, 56] (by decide +kernel) (by decide +kernel)
set_option maxRecDepth 20000 in
theorem gX12_both_X12_made : GoodIn wsX12_both (wsV RX12 76 RX12 yX12_made wsX12_made) := goodIn_app (goodIn_of _ (by decide +kernel)) ggX12_both_X12_made
theorem dX12_both_0 : decode cX12_both 0 = .ok (.aload_n 0, 1) := by decide +kernel
theorem dX12_both_1 : decode cX12_both 1 = .ok (.iconst 0, 1) := by decide +kernel
theorem dX12_both_2 : decode cX12_both 2 = .ok (.putfield 63, 3) := by decide +kernel
theorem dX12_both_5 : decode cX12_both 5 = .ok (.aload_n 0, 1) := by decide +kernel
theorem dX12_both_6 : decode cX12_both 6 = .ok (.iload_n 1, 1) := by decide +kernel
theorem dX12_both_7 : decode cX12_both 7 = .ok (.invokevirtual 84, 3) := by decide +kernel
theorem dX12_both_10 : decode cX12_both 10 = .ok (.ifCond .eq 11, 3) := by decide +kernel
theorem dX12_both_13 : decode cX12_both 13 = .ok (.aload_n 0, 1) := by decide +kernel
theorem dX12_both_14 : decode cX12_both 14 = .ok (.iload_n 2, 1) := by decide +kernel
theorem dX12_both_15 : decode cX12_both 15 = .ok (.invokevirtual 84, 3) := by decide +kernel
theorem dX12_both_18 : decode cX12_both 18 = .ok (.ifCond .ne 9, 3) := by decide +kernel
theorem dX12_both_21 : decode cX12_both 21 = .ok (.aload_n 0, 1) := by decide +kernel
theorem dX12_both_22 : decode cX12_both 22 = .ok (.iconst 1, 1) := by decide +kernel
theorem dX12_both_23 : decode cX12_both 23 = .ok (.invokevirtual 72, 3) := by decide +kernel
theorem dX12_both_26 : decode cX12_both 26 = .ok (.ireturn, 1) := by decide +kernel
theorem dX12_both_27 : decode cX12_both 27 = .ok (.iload_n 3, 1) := by decide +kernel
theorem dX12_both_28 : decode cX12_both 28 = .ok (.invokestatic 80, 3) := by decide +kernel
theorem dX12_both_31 : decode cX12_both 31 = .ok (.ifCond .ne 9, 3) := by decide +kernel
theorem dX12_both_34 : decode cX12_both 34 = .ok (.aload_n 0, 1) := by decide +kernel
theorem dX12_both_35 : decode cX12_both 35 = .ok (.iconst 2, 1) := by decide +kernel
theorem dX12_both_36 : decode cX12_both 36 = .ok (.invokevirtual 72, 3) := by decide +kernel
theorem dX12_both_39 : decode cX12_both 39 = .ok (.ireturn, 1) := by decide +kernel
theorem dX12_both_40 : decode cX12_both 40 = .ok (.aload_n 0, 1) := by decide +kernel
theorem dX12_both_41 : decode cX12_both 41 = .ok (.getfield 66, 3) := by decide +kernel
theorem dX12_both_44 : decode cX12_both 44 = .ok (.bipush 24, 2) := by decide +kernel
theorem dX12_both_46 : decode cX12_both 46 = .ok (.if_icmp .ne 11, 3) := by decide +kernel
theorem dX12_both_49 : decode cX12_both 49 = .ok (.aload_n 0, 1) := by decide +kernel
theorem dX12_both_50 : decode cX12_both 50 = .ok (.iconst 3, 1) := by decide +kernel
theorem dX12_both_51 : decode cX12_both 51 = .ok (.invokevirtual 72, 3) := by decide +kernel
theorem dX12_both_54 : decode cX12_both 54 = .ok (.goto 13, 3) := by decide +kernel
theorem dX12_both_57 : decode cX12_both 57 = .ok (.aload_n 0, 1) := by decide +kernel
theorem dX12_both_58 : decode cX12_both 58 = .ok (.iconst 4, 1) := by decide +kernel
theorem dX12_both_59 : decode cX12_both 59 = .ok (.iload_n 1, 1) := by decide +kernel
theorem dX12_both_60 : decode cX12_both 60 = .ok (.iload_n 2, 1) := by decide +kernel
theorem dX12_both_61 : decode cX12_both 61 = .ok (.iload_n 3, 1) := by decide +kernel
theorem dX12_both_62 : decode cX12_both 62 = .ok (.lconst 0, 1) := by decide +kernel
theorem dX12_both_63 : decode cX12_both 63 = .ok (.lconst 0, 1) := by decide +kernel
theorem dX12_both_64 : decode cX12_both 64 = .ok (.invokevirtual 76, 3) := by decide +kernel
theorem dX12_both_67 : decode cX12_both 67 = .ok (.ireturn, 1) := by decide +kernel
set_option maxRecDepth 20000 in
theorem ggX12_scan_X12_isList : GoodIn wsX12_scan wsX12_isList := goodIn_r _ [7, 2, 25, 26, 27, 28, 29, 30, 31, 32, 33, 34, 35, 36, 37, 38, 39, 40, 41, 42, 43, 44, 45, 46, 47, 48, 49, 50, 51, 52, 53, 54, 55, 56] (by decide +kernel) (by decide +kernel)
set_option maxRecDepth 20000 in
theorem gX12_scan_X12_isList : GoodIn wsX12_scan (wsV RX12 84 RX12 yX12_isList wsX12_isList) := goodIn_app (goodIn_of _ (by decide +kernel)) ggX12_scan_X12_isList
set_option maxRecDepth 20000 in
theorem ggX12_scan_X12_fail : GoodIn wsX12_scan wsX12_fail := goodIn_r _ [11, 1, 25, 26, 27, 28, 29, 30, 31, 32, 33, 34, 35, 36, 37, 38, 39, 40, 41, 42, 43, 44, 45, 46, 47, 48, 49, 50, 51, 52, 53, 54, 55, 56] (by decide +kernel) (by decide +kernel)
set_option maxRecDepth 20000 in
theorem gX12_scan_X12_fail : GoodIn wsX12_scan (wsV RX12 72 RX12 yX12_fail wsX12_fail) := goodIn_app (goodIn_of _ (by decide +kernel)) ggX12_scan_X12_fail
set_option maxRecDepth 20000 in
theorem ggX12_scan_X12_isOp : GoodIn wsX12_scan wsX12_isOp := goodIn_r _ [14] (by decide +kernel) (by decide +kernel)
set_option maxRecDepth 20000 in
theorem gX12_scan_X12_isOp : GoodIn wsX12_scan (va_wsS RX12 80 yX12_isOp wsX12_isOp) := goodIn_app (goodIn_of _ (by decide +kernel)) ggX12_scan_X12_isOp
set_option maxRecDepth 20000 in
theorem ggX12_scan_X12_made : GoodIn wsX12_scan wsX12_made := goodIn_r _ [18, 19, 2, 20, 21, 22, 23, 24, 25, 26, 27, 28, 29, 30, 31, 32, 33, 34, 35, 36, 37, 38, 39, 40, 41, 42, 43, 44, 45, 46, 47, 48, 49, 50, 51, 52, 53, 54, 55, 56] (by decide +kernel) (by decide +kernel)
set_option maxRecDepth 20000 in
theorem gX12_scan_X12_made : GoodIn wsX12_scan (wsV RX12 76 RX12 yX12_made wsX12_made) := goodIn_app (goodIn_of _ (by decide +kernel)) ggX12_scan_X12_made
theorem dX12_scan_0 : decode cX12_scan 0 = .ok (.aload_n 0, 1) := by decide +kernel
theorem dX12_scan_1 : decode cX12_scan 1 = .ok (.iconst 0, 1) := by decide +kernel
theorem dX12_scan_2 : decode cX12_scan 2 = .ok (.putfield 63, 3) := by decide +kernel
theorem dX12_scan_5 : decode cX12_scan 5 = .ok (.aload_n 0, 1) := by decide +kernel
theorem dX12_scan_6 : decode cX12_scan 6 = .ok (.iload_n 1, 1) := by decide +kernel
theorem dX12_scan_7 : decode cX12_scan 7 = .ok (.invokevirtual 84, 3) := by decide +kernel
theorem dX12_scan_10 : decode cX12_scan 10 = .ok (.ifCond .ne 9, 3) := by decide +kernel
theorem dX12_scan_13 : decode cX12_scan 13 = .ok (.aload_n 0, 1) := by decide +kernel
theorem dX12_scan_14 : decode cX12_scan 14 = .ok (.iconst 1, 1) := by decide +kernel
theorem dX12_scan_15 : decode cX12_scan 15 = .ok (.invokevirtual 72, 3) := by decide +kernel
theorem dX12_scan_18 : decode cX12_scan 18 = .ok (.ireturn, 1) := by decide +kernel
theorem dX12_scan_19 : decode cX12_scan 19 = .ok (.iload_n 2, 1) := by decide +kernel
theorem dX12_scan_20 : decode cX12_scan 20 = .ok (.invokestatic 80, 3) := by decide +kernel
theorem dX12_scan_23 : decode cX12_scan 23 = .ok (.ifCond .ne 9, 3) := by decide +kernel
theorem dX12_scan_26 : decode cX12_scan 26 = .ok (.aload_n 0, 1) := by decide +kernel
theorem dX12_scan_27 : decode cX12_scan 27 = .ok (.iconst 2, 1) := by decide +kernel
theorem dX12_scan_28 : decode cX12_scan 28 = .ok (.invokevirtual 72, 3) := by decide +kernel
theorem dX12_scan_31 : decode cX12_scan 31 = .ok (.ireturn, 1) := by decide +kernel
theorem dX12_scan_32 : decode cX12_scan 32 = .ok (.aload_n 0, 1) := by decide +kernel
theorem dX12_scan_33 : decode cX12_scan 33 = .ok (.getfield 66, 3) := by decide +kernel
theorem dX12_scan_36 : decode cX12_scan 36 = .ok (.bipush 24, 2) := by decide +kernel
theorem dX12_scan_38 : decode cX12_scan 38 = .ok (.if_icmp .ne 11, 3) := by decide +kernel
theorem dX12_scan_41 : decode cX12_scan 41 = .ok (.aload_n 0, 1) := by decide +kernel
theorem dX12_scan_42 : decode cX12_scan 42 = .ok (.iconst 3, 1) := by decide +kernel
theorem dX12_scan_43 : decode cX12_scan 43 = .ok (.invokevirtual 72, 3) := by decide +kernel
theorem dX12_scan_46 : decode cX12_scan 46 = .ok (.goto 13, 3) := by decide +kernel
theorem dX12_scan_49 : decode cX12_scan 49 = .ok (.aload_n 0, 1) := by decide +kernel
theorem dX12_scan_50 : decode cX12_scan 50 = .ok (.iconst 5, 1) := by decide +kernel
theorem dX12_scan_51 : decode cX12_scan 51 = .ok (.iload_n 1, 1) := by decide +kernel
theorem dX12_scan_52 : decode cX12_scan 52 = .ok (.iconst 0, 1) := by decide +kernel
theorem dX12_scan_53 : decode cX12_scan 53 = .ok (.iload_n 2, 1) := by decide +kernel
theorem dX12_scan_54 : decode cX12_scan 54 = .ok (.lload_n 3, 1) := by decide +kernel
theorem dX12_scan_55 : decode cX12_scan 55 = .ok (.lconst 0, 1) := by decide +kernel
theorem dX12_scan_56 : decode cX12_scan 56 = .ok (.invokevirtual 76, 3) := by decide +kernel
theorem dX12_scan_59 : decode cX12_scan 59 = .ok (.ireturn, 1) := by decide +kernel
set_option maxRecDepth 20000 in
theorem ggX12_some_X12_isList : GoodIn wsX12_some wsX12_isList := goodIn_r _ [6, 1, 22, 23, 24, 25, 26, 27, 28, 29, 30, 31, 32, 33, 34, 35, 36, 37, 38, 39, 40, 41, 42, 43, 44, 45, 46, 47, 48, 49, 50, 51, 52, 53] (by decide +kernel) (by decide +kernel)
set_option maxRecDepth 20000 in
theorem gX12_some_X12_isList : GoodIn wsX12_some (wsV RX12 84 RX12 yX12_isList wsX12_isList) := goodIn_app (goodIn_of _ (by decide +kernel)) ggX12_some_X12_isList
set_option maxRecDepth 20000 in
theorem ggX12_some_X12_fail : GoodIn wsX12_some wsX12_fail := goodIn_r _ [10, 11, 22, 23, 24, 25, 26, 27, 28, 29, 30, 31, 32, 33, 34, 35, 36, 37, 38, 39, 40, 41, 42, 43, 44, 45, 46, 47, 48, 49, 50, 51, 52, 53] (by decide +kernel) (by decide +kernel)
set_option maxRecDepth 20000 in
theorem gX12_some_X12_fail : GoodIn wsX12_some (wsV RX12 72 RX12 yX12_fail wsX12_fail) := goodIn_app (goodIn_of _ (by decide +kernel)) ggX12_some_X12_fail
set_option maxRecDepth 20000 in
theorem ggX12_some_X12_made : GoodIn wsX12_some wsX12_made := goodIn_r _ [15, 16, 1, 17, 18, 19, 20, 21, 22, 23, 24, 25, 26, 27, 28, 29, 30, 31, 32, 33, 34, 35, 36, 37, 38, 39, 40, 41, 42, 43, 44, 45, 46, 47, 48, 49, 50, 51, 52, 53] (by decide +kernel) (by decide +kernel)
set_option maxRecDepth 20000 in
theorem gX12_some_X12_made : GoodIn wsX12_some (wsV RX12 76 RX12 yX12_made wsX12_made) := goodIn_app (goodIn_of _ (by decide +kernel)) ggX12_some_X12_made
theorem dX12_some_0 : decode cX12_some 0 = .ok (.aload_n 0, 1) := by decide +kernel
theorem dX12_some_1 : decode cX12_some 1 = .ok (.iload_n 2, 1) := by decide +kernel
theorem dX12_some_2 : decode cX12_some 2 = .ok (.invokevirtual 84, 3) := by decide +kernel
theorem dX12_some_5 : decode cX12_some 5 = .ok (.ifCond .ne 9, 3) := by decide +kernel
theorem dX12_some_8 : decode cX12_some 8 = .ok (.aload_n 0, 1) := by decide +kernel
theorem dX12_some_9 : decode cX12_some 9 = .ok (.iconst 1, 1) := by decide +kernel
theorem dX12_some_10 : decode cX12_some 10 = .ok (.invokevirtual 72, 3) := by decide +kernel
theorem dX12_some_13 : decode cX12_some 13 = .ok (.ireturn, 1) := by decide +kernel
theorem dX12_some_14 : decode cX12_some 14 = .ok (.iload_n 3, 1) := by decide +kernel
theorem dX12_some_15 : decode cX12_some 15 = .ok (.ifCond .lt 10, 3) := by decide +kernel
theorem dX12_some_18 : decode cX12_some 18 = .ok (.iload_n 3, 1) := by decide +kernel
theorem dX12_some_19 : decode cX12_some 19 = .ok (.sipush 400, 3) := by decide +kernel
theorem dX12_some_22 : decode cX12_some 22 = .ok (.if_icmp .le 9, 3) := by decide +kernel
theorem dX12_some_25 : decode cX12_some 25 = .ok (.aload_n 0, 1) := by decide +kernel
theorem dX12_some_26 : decode cX12_some 26 = .ok (.iconst 2, 1) := by decide +kernel
theorem dX12_some_27 : decode cX12_some 27 = .ok (.invokevirtual 72, 3) := by decide +kernel
theorem dX12_some_30 : decode cX12_some 30 = .ok (.ireturn, 1) := by decide +kernel
theorem dX12_some_31 : decode cX12_some 31 = .ok (.aload_n 0, 1) := by decide +kernel
theorem dX12_some_32 : decode cX12_some 32 = .ok (.getfield 66, 3) := by decide +kernel
theorem dX12_some_35 : decode cX12_some 35 = .ok (.bipush 24, 2) := by decide +kernel
theorem dX12_some_37 : decode cX12_some 37 = .ok (.if_icmp .ne 11, 3) := by decide +kernel
theorem dX12_some_40 : decode cX12_some 40 = .ok (.aload_n 0, 1) := by decide +kernel
theorem dX12_some_41 : decode cX12_some 41 = .ok (.iconst 3, 1) := by decide +kernel
theorem dX12_some_42 : decode cX12_some 42 = .ok (.invokevirtual 72, 3) := by decide +kernel
theorem dX12_some_45 : decode cX12_some 45 = .ok (.goto 13, 3) := by decide +kernel
theorem dX12_some_48 : decode cX12_some 48 = .ok (.aload_n 0, 1) := by decide +kernel
theorem dX12_some_49 : decode cX12_some 49 = .ok (.iload_n 1, 1) := by decide +kernel
theorem dX12_some_50 : decode cX12_some 50 = .ok (.iload_n 2, 1) := by decide +kernel
theorem dX12_some_51 : decode cX12_some 51 = .ok (.iconst 0, 1) := by decide +kernel
theorem dX12_some_52 : decode cX12_some 52 = .ok (.iload_n 3, 1) := by decide +kernel
theorem dX12_some_53 : decode cX12_some 53 = .ok (.lconst 0, 1) := by decide +kernel
theorem dX12_some_54 : decode cX12_some 54 = .ok (.lconst 0, 1) := by decide +kernel
theorem dX12_some_55 : decode cX12_some 55 = .ok (.invokevirtual 76, 3) := by decide +kernel
theorem dX12_some_58 : decode cX12_some 58 = .ok (.ireturn, 1) := by decide +kernel
set_option maxRecDepth 20000 in
theorem ggX12_take_X12_some : GoodIn wsX12_take wsX12_some := goodIn_r _ [6, 7, 8, 9, 10, 5, 11, 12, 13, 14, 15, 1, 16, 17, 18, 19, 20, 21, 22, 23, 24, 25, 26, 27, 28, 29, 30, 31, 32, 33, 34, 35, 36, 37, 38, 39, 40, 41, 42, 43, 44, 45, 46, 47, 48, 49, 50, 51, 52, 53, 54, 55, 56, 57] (by decide +kernel) (by decide +kernel)
set_option maxRecDepth 20000 in
theorem gX12_take_X12_some : GoodIn wsX12_take (wsV RX12 87 RX12 yX12_some wsX12_some) := goodIn_app (goodIn_of _ (by decide +kernel)) ggX12_take_X12_some
theorem dX12_take_0 : decode cX12_take 0 = .ok (.aload_n 0, 1) := by decide +kernel
theorem dX12_take_1 : decode cX12_take 1 = .ok (.iconst 0, 1) := by decide +kernel
theorem dX12_take_2 : decode cX12_take 2 = .ok (.putfield 63, 3) := by decide +kernel
theorem dX12_take_5 : decode cX12_take 5 = .ok (.aload_n 0, 1) := by decide +kernel
theorem dX12_take_6 : decode cX12_take 6 = .ok (.bipush 6, 2) := by decide +kernel
theorem dX12_take_8 : decode cX12_take 8 = .ok (.iload_n 1, 1) := by decide +kernel
theorem dX12_take_9 : decode cX12_take 9 = .ok (.iload_n 2, 1) := by decide +kernel
theorem dX12_take_10 : decode cX12_take 10 = .ok (.invokevirtual 87, 3) := by decide +kernel
theorem dX12_take_13 : decode cX12_take 13 = .ok (.ireturn, 1) := by decide +kernel
set_option maxRecDepth 20000 in
theorem ggX12_drop_X12_some : GoodIn wsX12_drop wsX12_some := goodIn_r _ [6, 7, 8, 9, 10, 5, 11, 12, 13, 14, 15, 1, 16, 17, 18, 19, 20, 21, 22, 23, 24, 25, 26, 27, 28, 29, 30, 31, 32, 33, 34, 35, 36, 37, 38, 39, 40, 41, 42, 43, 44, 45, 46, 47, 48, 49, 50, 51, 52, 53, 54, 55, 56, 57] (by decide +kernel) (by decide +kernel)
set_option maxRecDepth 20000 in
theorem gX12_drop_X12_some : GoodIn wsX12_drop (wsV RX12 87 RX12 yX12_some wsX12_some) := goodIn_app (goodIn_of _ (by decide +kernel)) ggX12_drop_X12_some
theorem dX12_drop_0 : decode cX12_drop 0 = .ok (.aload_n 0, 1) := by decide +kernel
theorem dX12_drop_1 : decode cX12_drop 1 = .ok (.iconst 0, 1) := by decide +kernel
theorem dX12_drop_2 : decode cX12_drop 2 = .ok (.putfield 63, 3) := by decide +kernel
theorem dX12_drop_5 : decode cX12_drop 5 = .ok (.aload_n 0, 1) := by decide +kernel
theorem dX12_drop_6 : decode cX12_drop 6 = .ok (.bipush 7, 2) := by decide +kernel
theorem dX12_drop_8 : decode cX12_drop 8 = .ok (.iload_n 1, 1) := by decide +kernel
theorem dX12_drop_9 : decode cX12_drop 9 = .ok (.iload_n 2, 1) := by decide +kernel
theorem dX12_drop_10 : decode cX12_drop 10 = .ok (.invokevirtual 87, 3) := by decide +kernel
theorem dX12_drop_13 : decode cX12_drop 13 = .ok (.ireturn, 1) := by decide +kernel
set_option maxRecDepth 20000 in
theorem ggX12_by_X12_isList : GoodIn wsX12_by wsX12_isList := goodIn_r _ [6, 1, 25, 26, 27, 28, 29, 30, 31, 32, 33, 34, 35, 36, 37, 38, 39, 40, 41, 42, 43, 44, 45, 46, 47, 48, 49, 50, 51, 52, 53, 54, 55, 56] (by decide +kernel) (by decide +kernel)
set_option maxRecDepth 20000 in
theorem gX12_by_X12_isList : GoodIn wsX12_by (wsV RX12 84 RX12 yX12_isList wsX12_isList) := goodIn_app (goodIn_of _ (by decide +kernel)) ggX12_by_X12_isList
set_option maxRecDepth 20000 in
theorem ggX12_by_X12_fail : GoodIn wsX12_by wsX12_fail := goodIn_r _ [10, 11, 25, 26, 27, 28, 29, 30, 31, 32, 33, 34, 35, 36, 37, 38, 39, 40, 41, 42, 43, 44, 45, 46, 47, 48, 49, 50, 51, 52, 53, 54, 55, 56] (by decide +kernel) (by decide +kernel)
set_option maxRecDepth 20000 in
theorem gX12_by_X12_fail : GoodIn wsX12_by (wsV RX12 72 RX12 yX12_fail wsX12_fail) := goodIn_app (goodIn_of _ (by decide +kernel)) ggX12_by_X12_fail
set_option maxRecDepth 20000 in
theorem ggX12_by_X12_isCond : GoodIn wsX12_by wsX12_isCond := goodIn_r _ [14] (by decide +kernel) (by decide +kernel)
set_option maxRecDepth 20000 in
theorem gX12_by_X12_isCond : GoodIn wsX12_by (va_wsS RX12 91 yX12_isCond wsX12_isCond) := goodIn_app (goodIn_of _ (by decide +kernel)) ggX12_by_X12_isCond
set_option maxRecDepth 20000 in
theorem ggX12_by_X12_made : GoodIn wsX12_by wsX12_made := goodIn_r _ [18, 19, 1, 20, 21, 22, 23, 24, 25, 26, 27, 28, 29, 30, 31, 32, 33, 34, 35, 36, 37, 38, 39, 40, 41, 42, 43, 44, 45, 46, 47, 48, 49, 50, 51, 52, 53, 54, 55, 56] (by decide +kernel) (by decide +kernel)
set_option maxRecDepth 20000 in
theorem gX12_by_X12_made : GoodIn wsX12_by (wsV RX12 76 RX12 yX12_made wsX12_made) := goodIn_app (goodIn_of _ (by decide +kernel)) ggX12_by_X12_made
theorem dX12_by_0 : decode cX12_by 0 = .ok (.aload_n 0, 1) := by decide +kernel
theorem dX12_by_1 : decode cX12_by 1 = .ok (.iload_n 2, 1) := by decide +kernel
theorem dX12_by_2 : decode cX12_by 2 = .ok (.invokevirtual 84, 3) := by decide +kernel
theorem dX12_by_5 : decode cX12_by 5 = .ok (.ifCond .ne 9, 3) := by decide +kernel
theorem dX12_by_8 : decode cX12_by 8 = .ok (.aload_n 0, 1) := by decide +kernel
theorem dX12_by_9 : decode cX12_by 9 = .ok (.iconst 1, 1) := by decide +kernel
theorem dX12_by_10 : decode cX12_by 10 = .ok (.invokevirtual 72, 3) := by decide +kernel
theorem dX12_by_13 : decode cX12_by 13 = .ok (.ireturn, 1) := by decide +kernel
theorem dX12_by_14 : decode cX12_by 14 = .ok (.iload_n 3, 1) := by decide +kernel
theorem dX12_by_15 : decode cX12_by 15 = .ok (.invokestatic 91, 3) := by decide +kernel
theorem dX12_by_18 : decode cX12_by 18 = .ok (.ifCond .ne 9, 3) := by decide +kernel
theorem dX12_by_21 : decode cX12_by 21 = .ok (.aload_n 0, 1) := by decide +kernel
theorem dX12_by_22 : decode cX12_by 22 = .ok (.iconst 2, 1) := by decide +kernel
theorem dX12_by_23 : decode cX12_by 23 = .ok (.invokevirtual 72, 3) := by decide +kernel
theorem dX12_by_26 : decode cX12_by 26 = .ok (.ireturn, 1) := by decide +kernel
theorem dX12_by_27 : decode cX12_by 27 = .ok (.aload_n 0, 1) := by decide +kernel
theorem dX12_by_28 : decode cX12_by 28 = .ok (.getfield 66, 3) := by decide +kernel
theorem dX12_by_31 : decode cX12_by 31 = .ok (.bipush 24, 2) := by decide +kernel
theorem dX12_by_33 : decode cX12_by 33 = .ok (.if_icmp .ne 11, 3) := by decide +kernel
theorem dX12_by_36 : decode cX12_by 36 = .ok (.aload_n 0, 1) := by decide +kernel
theorem dX12_by_37 : decode cX12_by 37 = .ok (.iconst 3, 1) := by decide +kernel
theorem dX12_by_38 : decode cX12_by 38 = .ok (.invokevirtual 72, 3) := by decide +kernel
theorem dX12_by_41 : decode cX12_by 41 = .ok (.goto 14, 3) := by decide +kernel
theorem dX12_by_44 : decode cX12_by 44 = .ok (.aload_n 0, 1) := by decide +kernel
theorem dX12_by_45 : decode cX12_by 45 = .ok (.iload_n 1, 1) := by decide +kernel
theorem dX12_by_46 : decode cX12_by 46 = .ok (.iload_n 2, 1) := by decide +kernel
theorem dX12_by_47 : decode cX12_by 47 = .ok (.iconst 0, 1) := by decide +kernel
theorem dX12_by_48 : decode cX12_by 48 = .ok (.iload_n 3, 1) := by decide +kernel
theorem dX12_by_49 : decode cX12_by 49 = .ok (.lload 4, 2) := by decide +kernel
theorem dX12_by_51 : decode cX12_by 51 = .ok (.lconst 0, 1) := by decide +kernel
theorem dX12_by_52 : decode cX12_by 52 = .ok (.invokevirtual 76, 3) := by decide +kernel
theorem dX12_by_55 : decode cX12_by 55 = .ok (.ireturn, 1) := by decide +kernel
set_option maxRecDepth 20000 in
theorem ggX12_keep_X12_by : GoodIn wsX12_keep wsX12_by := goodIn_r _ [6, 7, 8, 9, 10, 5, 11, 12, 13, 14, 15, 1, 16, 17, 18, 19, 20, 21, 22, 23, 24, 25, 26, 27, 28, 29, 30, 31, 32, 33, 34, 35, 36, 37, 38, 39, 40, 41, 42, 43, 44, 45, 46, 47, 48, 49, 50, 51, 52, 53, 54, 55, 56, 57, 58, 59, 60] (by decide +kernel) (by decide +kernel)
set_option maxRecDepth 20000 in
theorem gX12_keep_X12_by : GoodIn wsX12_keep (wsV RX12 94 RX12 yX12_by wsX12_by) := goodIn_app (goodIn_of _ (by decide +kernel)) ggX12_keep_X12_by
theorem dX12_keep_0 : decode cX12_keep 0 = .ok (.aload_n 0, 1) := by decide +kernel
theorem dX12_keep_1 : decode cX12_keep 1 = .ok (.iconst 0, 1) := by decide +kernel
theorem dX12_keep_2 : decode cX12_keep 2 = .ok (.putfield 63, 3) := by decide +kernel
theorem dX12_keep_5 : decode cX12_keep 5 = .ok (.aload_n 0, 1) := by decide +kernel
theorem dX12_keep_6 : decode cX12_keep 6 = .ok (.bipush 8, 2) := by decide +kernel
theorem dX12_keep_8 : decode cX12_keep 8 = .ok (.iload_n 1, 1) := by decide +kernel
theorem dX12_keep_9 : decode cX12_keep 9 = .ok (.iload_n 2, 1) := by decide +kernel
theorem dX12_keep_10 : decode cX12_keep 10 = .ok (.lload_n 3, 1) := by decide +kernel
theorem dX12_keep_11 : decode cX12_keep 11 = .ok (.invokevirtual 94, 3) := by decide +kernel
theorem dX12_keep_14 : decode cX12_keep 14 = .ok (.ireturn, 1) := by decide +kernel
set_option maxRecDepth 20000 in
theorem ggX12_during_X12_by : GoodIn wsX12_during wsX12_by := goodIn_r _ [6, 7, 8, 9, 10, 5, 11, 12, 13, 14, 15, 1, 16, 17, 18, 19, 20, 21, 22, 23, 24, 25, 26, 27, 28, 29, 30, 31, 32, 33, 34, 35, 36, 37, 38, 39, 40, 41, 42, 43, 44, 45, 46, 47, 48, 49, 50, 51, 52, 53, 54, 55, 56, 57, 58, 59, 60] (by decide +kernel) (by decide +kernel)
set_option maxRecDepth 20000 in
theorem gX12_during_X12_by : GoodIn wsX12_during (wsV RX12 94 RX12 yX12_by wsX12_by) := goodIn_app (goodIn_of _ (by decide +kernel)) ggX12_during_X12_by
theorem dX12_during_0 : decode cX12_during 0 = .ok (.aload_n 0, 1) := by decide +kernel
theorem dX12_during_1 : decode cX12_during 1 = .ok (.iconst 0, 1) := by decide +kernel
theorem dX12_during_2 : decode cX12_during 2 = .ok (.putfield 63, 3) := by decide +kernel
theorem dX12_during_5 : decode cX12_during 5 = .ok (.aload_n 0, 1) := by decide +kernel
theorem dX12_during_6 : decode cX12_during 6 = .ok (.bipush 9, 2) := by decide +kernel
theorem dX12_during_8 : decode cX12_during 8 = .ok (.iload_n 1, 1) := by decide +kernel
theorem dX12_during_9 : decode cX12_during 9 = .ok (.iload_n 2, 1) := by decide +kernel
theorem dX12_during_10 : decode cX12_during 10 = .ok (.lload_n 3, 1) := by decide +kernel
theorem dX12_during_11 : decode cX12_during 11 = .ok (.invokevirtual 94, 3) := by decide +kernel
theorem dX12_during_14 : decode cX12_during 14 = .ok (.ireturn, 1) := by decide +kernel
set_option maxRecDepth 20000 in
theorem ggX12_after_X12_by : GoodIn wsX12_after wsX12_by := goodIn_r _ [6, 7, 8, 9, 10, 5, 11, 12, 13, 14, 15, 1, 16, 17, 18, 19, 20, 21, 22, 23, 24, 25, 26, 27, 28, 29, 30, 31, 32, 33, 34, 35, 36, 37, 38, 39, 40, 41, 42, 43, 44, 45, 46, 47, 48, 49, 50, 51, 52, 53, 54, 55, 56, 57, 58, 59, 60] (by decide +kernel) (by decide +kernel)
set_option maxRecDepth 20000 in
theorem gX12_after_X12_by : GoodIn wsX12_after (wsV RX12 94 RX12 yX12_by wsX12_by) := goodIn_app (goodIn_of _ (by decide +kernel)) ggX12_after_X12_by
theorem dX12_after_0 : decode cX12_after 0 = .ok (.aload_n 0, 1) := by decide +kernel
theorem dX12_after_1 : decode cX12_after 1 = .ok (.iconst 0, 1) := by decide +kernel
theorem dX12_after_2 : decode cX12_after 2 = .ok (.putfield 63, 3) := by decide +kernel
theorem dX12_after_5 : decode cX12_after 5 = .ok (.aload_n 0, 1) := by decide +kernel
theorem dX12_after_6 : decode cX12_after 6 = .ok (.bipush 10, 2) := by decide +kernel
theorem dX12_after_8 : decode cX12_after 8 = .ok (.iload_n 1, 1) := by decide +kernel
theorem dX12_after_9 : decode cX12_after 9 = .ok (.iload_n 2, 1) := by decide +kernel
theorem dX12_after_10 : decode cX12_after 10 = .ok (.lload_n 3, 1) := by decide +kernel
theorem dX12_after_11 : decode cX12_after 11 = .ok (.invokevirtual 94, 3) := by decide +kernel
theorem dX12_after_14 : decode cX12_after 14 = .ok (.ireturn, 1) := by decide +kernel
set_option maxRecDepth 20000 in
theorem ggX12_join_X12_isList : GoodIn wsX12_join wsX12_isList := goodIn_r _ [7, 2, 22, 23, 24, 25, 26, 27, 28, 29, 30, 31, 32, 33, 34, 35, 36, 37, 38, 39, 40, 41, 42, 43, 44, 45, 46, 47, 48, 49, 50, 51, 52, 53] (by decide +kernel) (by decide +kernel)
set_option maxRecDepth 20000 in
theorem gX12_join_X12_isList : GoodIn wsX12_join (wsV RX12 84 RX12 yX12_isList wsX12_isList) := goodIn_app (goodIn_of _ (by decide +kernel)) ggX12_join_X12_isList
set_option maxRecDepth 20000 in
theorem ggX12_join_X12_fail : GoodIn wsX12_join wsX12_fail := goodIn_r _ [11, 1, 22, 23, 24, 25, 26, 27, 28, 29, 30, 31, 32, 33, 34, 35, 36, 37, 38, 39, 40, 41, 42, 43, 44, 45, 46, 47, 48, 49, 50, 51, 52, 53] (by decide +kernel) (by decide +kernel)
set_option maxRecDepth 20000 in
theorem gX12_join_X12_fail : GoodIn wsX12_join (wsV RX12 72 RX12 yX12_fail wsX12_fail) := goodIn_app (goodIn_of _ (by decide +kernel)) ggX12_join_X12_fail
set_option maxRecDepth 20000 in
theorem ggX12_join_X12_made : GoodIn wsX12_join wsX12_made := goodIn_r _ [15, 16, 2, 17, 18, 19, 20, 21, 22, 23, 24, 25, 26, 27, 28, 29, 30, 31, 32, 33, 34, 35, 36, 37, 38, 39, 40, 41, 42, 43, 44, 45, 46, 47, 48, 49, 50, 51, 52, 53] (by decide +kernel) (by decide +kernel)
set_option maxRecDepth 20000 in
theorem gX12_join_X12_made : GoodIn wsX12_join (wsV RX12 76 RX12 yX12_made wsX12_made) := goodIn_app (goodIn_of _ (by decide +kernel)) ggX12_join_X12_made
theorem dX12_join_0 : decode cX12_join 0 = .ok (.aload_n 0, 1) := by decide +kernel
theorem dX12_join_1 : decode cX12_join 1 = .ok (.iconst 0, 1) := by decide +kernel
theorem dX12_join_2 : decode cX12_join 2 = .ok (.putfield 63, 3) := by decide +kernel
theorem dX12_join_5 : decode cX12_join 5 = .ok (.aload_n 0, 1) := by decide +kernel
theorem dX12_join_6 : decode cX12_join 6 = .ok (.iload_n 1, 1) := by decide +kernel
theorem dX12_join_7 : decode cX12_join 7 = .ok (.invokevirtual 84, 3) := by decide +kernel
theorem dX12_join_10 : decode cX12_join 10 = .ok (.ifCond .eq 11, 3) := by decide +kernel
theorem dX12_join_13 : decode cX12_join 13 = .ok (.aload_n 0, 1) := by decide +kernel
theorem dX12_join_14 : decode cX12_join 14 = .ok (.iload_n 2, 1) := by decide +kernel
theorem dX12_join_15 : decode cX12_join 15 = .ok (.invokevirtual 84, 3) := by decide +kernel
theorem dX12_join_18 : decode cX12_join 18 = .ok (.ifCond .ne 9, 3) := by decide +kernel
theorem dX12_join_21 : decode cX12_join 21 = .ok (.aload_n 0, 1) := by decide +kernel
theorem dX12_join_22 : decode cX12_join 22 = .ok (.iconst 1, 1) := by decide +kernel
theorem dX12_join_23 : decode cX12_join 23 = .ok (.invokevirtual 72, 3) := by decide +kernel
theorem dX12_join_26 : decode cX12_join 26 = .ok (.ireturn, 1) := by decide +kernel
theorem dX12_join_27 : decode cX12_join 27 = .ok (.aload_n 0, 1) := by decide +kernel
theorem dX12_join_28 : decode cX12_join 28 = .ok (.getfield 66, 3) := by decide +kernel
theorem dX12_join_31 : decode cX12_join 31 = .ok (.bipush 24, 2) := by decide +kernel
theorem dX12_join_33 : decode cX12_join 33 = .ok (.if_icmp .ne 11, 3) := by decide +kernel
theorem dX12_join_36 : decode cX12_join 36 = .ok (.aload_n 0, 1) := by decide +kernel
theorem dX12_join_37 : decode cX12_join 37 = .ok (.iconst 2, 1) := by decide +kernel
theorem dX12_join_38 : decode cX12_join 38 = .ok (.invokevirtual 72, 3) := by decide +kernel
theorem dX12_join_41 : decode cX12_join 41 = .ok (.goto 14, 3) := by decide +kernel
theorem dX12_join_44 : decode cX12_join 44 = .ok (.aload_n 0, 1) := by decide +kernel
theorem dX12_join_45 : decode cX12_join 45 = .ok (.bipush 11, 2) := by decide +kernel
theorem dX12_join_47 : decode cX12_join 47 = .ok (.iload_n 1, 1) := by decide +kernel
theorem dX12_join_48 : decode cX12_join 48 = .ok (.iload_n 2, 1) := by decide +kernel
theorem dX12_join_49 : decode cX12_join 49 = .ok (.iconst 0, 1) := by decide +kernel
theorem dX12_join_50 : decode cX12_join 50 = .ok (.lconst 0, 1) := by decide +kernel
theorem dX12_join_51 : decode cX12_join 51 = .ok (.lconst 0, 1) := by decide +kernel
theorem dX12_join_52 : decode cX12_join 52 = .ok (.invokevirtual 76, 3) := by decide +kernel
theorem dX12_join_55 : decode cX12_join 55 = .ok (.ireturn, 1) := by decide +kernel
set_option maxRecDepth 20000 in
theorem ggX12_other_X12_isList : GoodIn wsX12_other wsX12_isList := goodIn_r _ [7, 2, 22, 23, 24, 25, 26, 27, 28, 29, 30, 31, 32, 33, 34, 35, 36, 37, 38, 39, 40, 41, 42, 43, 44, 45, 46, 47, 48, 49, 50, 51, 52, 53] (by decide +kernel) (by decide +kernel)
set_option maxRecDepth 20000 in
theorem gX12_other_X12_isList : GoodIn wsX12_other (wsV RX12 84 RX12 yX12_isList wsX12_isList) := goodIn_app (goodIn_of _ (by decide +kernel)) ggX12_other_X12_isList
set_option maxRecDepth 20000 in
theorem ggX12_other_X12_fail : GoodIn wsX12_other wsX12_fail := goodIn_r _ [11, 1, 22, 23, 24, 25, 26, 27, 28, 29, 30, 31, 32, 33, 34, 35, 36, 37, 38, 39, 40, 41, 42, 43, 44, 45, 46, 47, 48, 49, 50, 51, 52, 53] (by decide +kernel) (by decide +kernel)
set_option maxRecDepth 20000 in
theorem gX12_other_X12_fail : GoodIn wsX12_other (wsV RX12 72 RX12 yX12_fail wsX12_fail) := goodIn_app (goodIn_of _ (by decide +kernel)) ggX12_other_X12_fail
set_option maxRecDepth 20000 in
theorem ggX12_other_X12_made : GoodIn wsX12_other wsX12_made := goodIn_r _ [15, 16, 2, 17, 18, 19, 20, 21, 22, 23, 24, 25, 26, 27, 28, 29, 30, 31, 32, 33, 34, 35, 36, 37, 38, 39, 40, 41, 42, 43, 44, 45, 46, 47, 48, 49, 50, 51, 52, 53] (by decide +kernel) (by decide +kernel)
set_option maxRecDepth 20000 in
theorem gX12_other_X12_made : GoodIn wsX12_other (wsV RX12 76 RX12 yX12_made wsX12_made) := goodIn_app (goodIn_of _ (by decide +kernel)) ggX12_other_X12_made
theorem dX12_other_0 : decode cX12_other 0 = .ok (.aload_n 0, 1) := by decide +kernel
theorem dX12_other_1 : decode cX12_other 1 = .ok (.iconst 0, 1) := by decide +kernel
theorem dX12_other_2 : decode cX12_other 2 = .ok (.putfield 63, 3) := by decide +kernel
theorem dX12_other_5 : decode cX12_other 5 = .ok (.aload_n 0, 1) := by decide +kernel
theorem dX12_other_6 : decode cX12_other 6 = .ok (.iload_n 1, 1) := by decide +kernel
theorem dX12_other_7 : decode cX12_other 7 = .ok (.invokevirtual 84, 3) := by decide +kernel
theorem dX12_other_10 : decode cX12_other 10 = .ok (.ifCond .ne 9, 3) := by decide +kernel
theorem dX12_other_13 : decode cX12_other 13 = .ok (.aload_n 0, 1) := by decide +kernel
theorem dX12_other_14 : decode cX12_other 14 = .ok (.iconst 1, 1) := by decide +kernel
theorem dX12_other_15 : decode cX12_other 15 = .ok (.invokevirtual 72, 3) := by decide +kernel
theorem dX12_other_18 : decode cX12_other 18 = .ok (.ireturn, 1) := by decide +kernel
theorem dX12_other_19 : decode cX12_other 19 = .ok (.iload_n 2, 1) := by decide +kernel
theorem dX12_other_20 : decode cX12_other 20 = .ok (.ifCond .lt 8, 3) := by decide +kernel
theorem dX12_other_23 : decode cX12_other 23 = .ok (.iload_n 2, 1) := by decide +kernel
theorem dX12_other_24 : decode cX12_other 24 = .ok (.iconst 4, 1) := by decide +kernel
theorem dX12_other_25 : decode cX12_other 25 = .ok (.if_icmp .le 9, 3) := by decide +kernel
theorem dX12_other_28 : decode cX12_other 28 = .ok (.aload_n 0, 1) := by decide +kernel
theorem dX12_other_29 : decode cX12_other 29 = .ok (.iconst 2, 1) := by decide +kernel
theorem dX12_other_30 : decode cX12_other 30 = .ok (.invokevirtual 72, 3) := by decide +kernel
theorem dX12_other_33 : decode cX12_other 33 = .ok (.ireturn, 1) := by decide +kernel
theorem dX12_other_34 : decode cX12_other 34 = .ok (.aload_n 0, 1) := by decide +kernel
theorem dX12_other_35 : decode cX12_other 35 = .ok (.getfield 66, 3) := by decide +kernel
theorem dX12_other_38 : decode cX12_other 38 = .ok (.bipush 24, 2) := by decide +kernel
theorem dX12_other_40 : decode cX12_other 40 = .ok (.if_icmp .ne 11, 3) := by decide +kernel
theorem dX12_other_43 : decode cX12_other 43 = .ok (.aload_n 0, 1) := by decide +kernel
theorem dX12_other_44 : decode cX12_other 44 = .ok (.iconst 3, 1) := by decide +kernel
theorem dX12_other_45 : decode cX12_other 45 = .ok (.invokevirtual 72, 3) := by decide +kernel
theorem dX12_other_48 : decode cX12_other 48 = .ok (.goto 16, 3) := by decide +kernel
theorem dX12_other_51 : decode cX12_other 51 = .ok (.aload_n 0, 1) := by decide +kernel
theorem dX12_other_52 : decode cX12_other 52 = .ok (.bipush 12, 2) := by decide +kernel
theorem dX12_other_54 : decode cX12_other 54 = .ok (.iload_n 2, 1) := by decide +kernel
theorem dX12_other_55 : decode cX12_other 55 = .ok (.iadd, 1) := by decide +kernel
theorem dX12_other_56 : decode cX12_other 56 = .ok (.iload_n 1, 1) := by decide +kernel
theorem dX12_other_57 : decode cX12_other 57 = .ok (.iconst 0, 1) := by decide +kernel
theorem dX12_other_58 : decode cX12_other 58 = .ok (.iconst 0, 1) := by decide +kernel
theorem dX12_other_59 : decode cX12_other 59 = .ok (.lconst 0, 1) := by decide +kernel
theorem dX12_other_60 : decode cX12_other 60 = .ok (.lconst 0, 1) := by decide +kernel
theorem dX12_other_61 : decode cX12_other 61 = .ok (.invokevirtual 76, 3) := by decide +kernel
theorem dX12_other_64 : decode cX12_other 64 = .ok (.ireturn, 1) := by decide +kernel
theorem dX12_place_0 : decode cX12_place 0 = .ok (.sipush 400, 3) := by decide +kernel
theorem dX12_place_3 : decode cX12_place 3 = .ok (.iload_n 0, 1) := by decide +kernel
theorem dX12_place_4 : decode cX12_place 4 = .ok (.imul, 1) := by decide +kernel
theorem dX12_place_5 : decode cX12_place 5 = .ok (.iload_n 1, 1) := by decide +kernel
theorem dX12_place_6 : decode cX12_place 6 = .ok (.iadd, 1) := by decide +kernel
theorem dX12_place_7 : decode cX12_place 7 = .ok (.ireturn, 1) := by decide +kernel
set_option maxRecDepth 20000 in
theorem ggX12_needCell_X12_place : GoodIn wsX12_needCell wsX12_place := goodIn_r _ [7] (by decide +kernel) (by decide +kernel)
set_option maxRecDepth 20000 in
theorem gX12_needCell_X12_place : GoodIn wsX12_needCell (va_wsS RX12 106 yX12_place wsX12_place) := goodIn_app (goodIn_of _ (by decide +kernel)) ggX12_needCell_X12_place
theorem dX12_needCell_0 : decode cX12_needCell 0 = .ok (.iconst 0, 1) := by decide +kernel
theorem dX12_needCell_1 : decode cX12_needCell 1 = .ok (.istore_n 3, 1) := by decide +kernel
theorem dX12_needCell_2 : decode cX12_needCell 2 = .ok (.iload_n 3, 1) := by decide +kernel
theorem dX12_needCell_3 : decode cX12_needCell 3 = .ok (.iload_n 2, 1) := by decide +kernel
theorem dX12_needCell_4 : decode cX12_needCell 4 = .ok (.if_icmp .gt 63, 3) := by decide +kernel
theorem dX12_needCell_7 : decode cX12_needCell 7 = .ok (.iload_n 3, 1) := by decide +kernel
theorem dX12_needCell_8 : decode cX12_needCell 8 = .ok (.sipush 400, 3) := by decide +kernel
theorem dX12_needCell_11 : decode cX12_needCell 11 = .ok (.if_icmp .lt 6, 3) := by decide +kernel
theorem dX12_needCell_14 : decode cX12_needCell 14 = .ok (.bipush (-2), 2) := by decide +kernel
theorem dX12_needCell_16 : decode cX12_needCell 16 = .ok (.ireturn, 1) := by decide +kernel
theorem dX12_needCell_17 : decode cX12_needCell 17 = .ok (.aload_n 0, 1) := by decide +kernel
theorem dX12_needCell_18 : decode cX12_needCell 18 = .ok (.aload_n 0, 1) := by decide +kernel
theorem dX12_needCell_19 : decode cX12_needCell 19 = .ok (.getfield 29, 3) := by decide +kernel
theorem dX12_needCell_22 : decode cX12_needCell 22 = .ok (.iload_n 1, 1) := by decide +kernel
theorem dX12_needCell_23 : decode cX12_needCell 23 = .ok (.iload_n 3, 1) := by decide +kernel
theorem dX12_needCell_24 : decode cX12_needCell 24 = .ok (.invokestatic 106, 3) := by decide +kernel
theorem dX12_needCell_27 : decode cX12_needCell 27 = .ok (.iaload, 1) := by decide +kernel
theorem dX12_needCell_28 : decode cX12_needCell 28 = .ok (.putfield 110, 3) := by decide +kernel
theorem dX12_needCell_31 : decode cX12_needCell 31 = .ok (.aload_n 0, 1) := by decide +kernel
theorem dX12_needCell_32 : decode cX12_needCell 32 = .ok (.iload_n 3, 1) := by decide +kernel
theorem dX12_needCell_33 : decode cX12_needCell 33 = .ok (.putfield 113, 3) := by decide +kernel
theorem dX12_needCell_36 : decode cX12_needCell 36 = .ok (.aload_n 0, 1) := by decide +kernel
theorem dX12_needCell_37 : decode cX12_needCell 37 = .ok (.getfield 110, 3) := by decide +kernel
theorem dX12_needCell_40 : decode cX12_needCell 40 = .ok (.ifCond .ne 11, 3) := by decide +kernel
theorem dX12_needCell_43 : decode cX12_needCell 43 = .ok (.iconst 2, 1) := by decide +kernel
theorem dX12_needCell_44 : decode cX12_needCell 44 = .ok (.iload_n 1, 1) := by decide +kernel
theorem dX12_needCell_45 : decode cX12_needCell 45 = .ok (.iload_n 3, 1) := by decide +kernel
theorem dX12_needCell_46 : decode cX12_needCell 46 = .ok (.invokestatic 106, 3) := by decide +kernel
theorem dX12_needCell_49 : decode cX12_needCell 49 = .ok (.imul, 1) := by decide +kernel
theorem dX12_needCell_50 : decode cX12_needCell 50 = .ok (.ireturn, 1) := by decide +kernel
theorem dX12_needCell_51 : decode cX12_needCell 51 = .ok (.aload_n 0, 1) := by decide +kernel
theorem dX12_needCell_52 : decode cX12_needCell 52 = .ok (.getfield 110, 3) := by decide +kernel
theorem dX12_needCell_55 : decode cX12_needCell 55 = .ok (.iconst 1, 1) := by decide +kernel
theorem dX12_needCell_56 : decode cX12_needCell 56 = .ok (.if_icmp .eq 5, 3) := by decide +kernel
theorem dX12_needCell_59 : decode cX12_needCell 59 = .ok (.iconst (-1), 1) := by decide +kernel
theorem dX12_needCell_60 : decode cX12_needCell 60 = .ok (.ireturn, 1) := by decide +kernel
theorem dX12_needCell_61 : decode cX12_needCell 61 = .ok (.iinc 3 1, 3) := by decide +kernel
theorem dX12_needCell_64 : decode cX12_needCell 64 = .ok (.goto (-62), 3) := by decide +kernel
theorem dX12_needCell_67 : decode cX12_needCell 67 = .ok (.iconst (-1), 1) := by decide +kernel
theorem dX12_needCell_68 : decode cX12_needCell 68 = .ok (.ireturn, 1) := by decide +kernel
theorem dX12_as_0 : decode cX12_as 0 = .ok (.aload_n 0, 1) := by decide +kernel
theorem dX12_as_1 : decode cX12_as 1 = .ok (.iload_n 1, 1) := by decide +kernel
theorem dX12_as_2 : decode cX12_as 2 = .ok (.putfield 122, 3) := by decide +kernel
theorem dX12_as_5 : decode cX12_as 5 = .ok (.aload_n 0, 1) := by decide +kernel
theorem dX12_as_6 : decode cX12_as 6 = .ok (.iconst (-1), 1) := by decide +kernel
theorem dX12_as_7 : decode cX12_as 7 = .ok (.putfield 125, 3) := by decide +kernel
theorem dX12_as_10 : decode cX12_as 10 = .ok (.aload_n 0, 1) := by decide +kernel
theorem dX12_as_11 : decode cX12_as 11 = .ok (.iconst 0, 1) := by decide +kernel
theorem dX12_as_12 : decode cX12_as 12 = .ok (.putfield 128, 3) := by decide +kernel
theorem dX12_as_15 : decode cX12_as 15 = .ok (.iconst (-1), 1) := by decide +kernel
theorem dX12_as_16 : decode cX12_as 16 = .ok (.ireturn, 1) := by decide +kernel
theorem dX12_shares_0 : decode cX12_shares 0 = .ok (.aload_n 0, 1) := by decide +kernel
theorem dX12_shares_1 : decode cX12_shares 1 = .ok (.iconst 1, 1) := by decide +kernel
theorem dX12_shares_2 : decode cX12_shares 2 = .ok (.putfield 122, 3) := by decide +kernel
theorem dX12_shares_5 : decode cX12_shares 5 = .ok (.aload_n 0, 1) := by decide +kernel
theorem dX12_shares_6 : decode cX12_shares 6 = .ok (.iload_n 1, 1) := by decide +kernel
theorem dX12_shares_7 : decode cX12_shares 7 = .ok (.putfield 125, 3) := by decide +kernel
theorem dX12_shares_10 : decode cX12_shares 10 = .ok (.aload_n 0, 1) := by decide +kernel
theorem dX12_shares_11 : decode cX12_shares 11 = .ok (.iload_n 2, 1) := by decide +kernel
theorem dX12_shares_12 : decode cX12_shares 12 = .ok (.putfield 128, 3) := by decide +kernel
theorem dX12_shares_15 : decode cX12_shares 15 = .ok (.iconst (-1), 1) := by decide +kernel
theorem dX12_shares_16 : decode cX12_shares 16 = .ok (.ireturn, 1) := by decide +kernel
theorem dX12_is_0 : decode cX12_is 0 = .ok (.aload_n 0, 1) := by decide +kernel
theorem dX12_is_1 : decode cX12_is 1 = .ok (.iconst 1, 1) := by decide +kernel
theorem dX12_is_2 : decode cX12_is 2 = .ok (.putfield 122, 3) := by decide +kernel
theorem dX12_is_5 : decode cX12_is 5 = .ok (.aload_n 0, 1) := by decide +kernel
theorem dX12_is_6 : decode cX12_is 6 = .ok (.lload_n 1, 1) := by decide +kernel
theorem dX12_is_7 : decode cX12_is 7 = .ok (.putfield 179, 3) := by decide +kernel
theorem dX12_is_10 : decode cX12_is 10 = .ok (.iconst (-1), 1) := by decide +kernel
theorem dX12_is_11 : decode cX12_is 11 = .ok (.ireturn, 1) := by decide +kernel
set_option maxRecDepth 20000 in
theorem ggX12_steps_X12_fail : GoodIn wsX12_steps wsX12_fail := goodIn_r _ [7, 1, 8, 9, 10, 11, 12, 13, 14, 15, 16, 17, 18, 19, 20, 21, 22, 23, 24, 25, 26, 27, 28, 29, 30, 31, 32, 33, 34, 35, 36, 37, 38, 39] (by decide +kernel) (by decide +kernel)
set_option maxRecDepth 20000 in
theorem gX12_steps_X12_fail : GoodIn wsX12_steps (wsV RX12 72 RX12 yX12_fail wsX12_fail) := goodIn_app (goodIn_of _ (by decide +kernel)) ggX12_steps_X12_fail
theorem dX12_steps_0 : decode cX12_steps 0 = .ok (.aload_n 0, 1) := by decide +kernel
theorem dX12_steps_1 : decode cX12_steps 1 = .ok (.iconst 0, 1) := by decide +kernel
theorem dX12_steps_2 : decode cX12_steps 2 = .ok (.putfield 63, 3) := by decide +kernel
theorem dX12_steps_5 : decode cX12_steps 5 = .ok (.iload_n 1, 1) := by decide +kernel
theorem dX12_steps_6 : decode cX12_steps 6 = .ok (.iconst 1, 1) := by decide +kernel
theorem dX12_steps_7 : decode cX12_steps 7 = .ok (.if_icmp .lt 10, 3) := by decide +kernel
theorem dX12_steps_10 : decode cX12_steps 10 = .ok (.iload_n 1, 1) := by decide +kernel
theorem dX12_steps_11 : decode cX12_steps 11 = .ok (.sipush 5000, 3) := by decide +kernel
theorem dX12_steps_14 : decode cX12_steps 14 = .ok (.if_icmp .le 9, 3) := by decide +kernel
theorem dX12_steps_17 : decode cX12_steps 17 = .ok (.aload_n 0, 1) := by decide +kernel
theorem dX12_steps_18 : decode cX12_steps 18 = .ok (.iconst 1, 1) := by decide +kernel
theorem dX12_steps_19 : decode cX12_steps 19 = .ok (.invokevirtual 72, 3) := by decide +kernel
theorem dX12_steps_22 : decode cX12_steps 22 = .ok (.ireturn, 1) := by decide +kernel
theorem dX12_steps_23 : decode cX12_steps 23 = .ok (.aload_n 0, 1) := by decide +kernel
theorem dX12_steps_24 : decode cX12_steps 24 = .ok (.getfield 50, 3) := by decide +kernel
theorem dX12_steps_27 : decode cX12_steps 27 = .ok (.istore_n 2, 1) := by decide +kernel
theorem dX12_steps_28 : decode cX12_steps 28 = .ok (.aload_n 0, 1) := by decide +kernel
theorem dX12_steps_29 : decode cX12_steps 29 = .ok (.iload_n 1, 1) := by decide +kernel
theorem dX12_steps_30 : decode cX12_steps 30 = .ok (.putfield 50, 3) := by decide +kernel
theorem dX12_steps_33 : decode cX12_steps 33 = .ok (.iload_n 2, 1) := by decide +kernel
theorem dX12_steps_34 : decode cX12_steps 34 = .ok (.ireturn, 1) := by decide +kernel
theorem dX12_begin_0 : decode cX12_begin 0 = .ok (.aload_n 0, 1) := by decide +kernel
theorem dX12_begin_1 : decode cX12_begin 1 = .ok (.iconst 0, 1) := by decide +kernel
theorem dX12_begin_2 : decode cX12_begin 2 = .ok (.putfield 200, 3) := by decide +kernel
theorem dX12_begin_5 : decode cX12_begin 5 = .ok (.aload_n 0, 1) := by decide +kernel
theorem dX12_begin_6 : decode cX12_begin 6 = .ok (.iconst 0, 1) := by decide +kernel
theorem dX12_begin_7 : decode cX12_begin 7 = .ok (.putfield 203, 3) := by decide +kernel
theorem dX12_begin_10 : decode cX12_begin 10 = .ok (.aload_n 0, 1) := by decide +kernel
theorem dX12_begin_11 : decode cX12_begin 11 = .ok (.iconst 0, 1) := by decide +kernel
theorem dX12_begin_12 : decode cX12_begin 12 = .ok (.putfield 206, 3) := by decide +kernel
theorem dX12_begin_15 : decode cX12_begin 15 = .ok (.return_, 1) := by decide +kernel
theorem dX12_out_0 : decode cX12_out 0 = .ok (.aload_n 0, 1) := by decide +kernel
theorem dX12_out_1 : decode cX12_out 1 = .ok (.iconst 3, 1) := by decide +kernel
theorem dX12_out_2 : decode cX12_out 2 = .ok (.putfield 203, 3) := by decide +kernel
theorem dX12_out_5 : decode cX12_out 5 = .ok (.lconst 0, 1) := by decide +kernel
theorem dX12_out_6 : decode cX12_out 6 = .ok (.lreturn, 1) := by decide +kernel
theorem dX12_failed_0 : decode cX12_failed 0 = .ok (.aload_n 0, 1) := by decide +kernel
theorem dX12_failed_1 : decode cX12_failed 1 = .ok (.iload_n 1, 1) := by decide +kernel
theorem dX12_failed_2 : decode cX12_failed 2 = .ok (.iconst 3, 1) := by decide +kernel
theorem dX12_failed_3 : decode cX12_failed 3 = .ok (.if_icmp .ne 7, 3) := by decide +kernel
theorem dX12_failed_6 : decode cX12_failed 6 = .ok (.iconst 1, 1) := by decide +kernel
theorem dX12_failed_7 : decode cX12_failed 7 = .ok (.goto 4, 3) := by decide +kernel
theorem dX12_failed_10 : decode cX12_failed 10 = .ok (.iconst 2, 1) := by decide +kernel
theorem dX12_failed_11 : decode cX12_failed 11 = .ok (.putfield 203, 3) := by decide +kernel
theorem dX12_failed_14 : decode cX12_failed 14 = .ok (.aload_n 0, 1) := by decide +kernel
theorem dX12_failed_15 : decode cX12_failed 15 = .ok (.iload_n 1, 1) := by decide +kernel
theorem dX12_failed_16 : decode cX12_failed 16 = .ok (.iconst 3, 1) := by decide +kernel
theorem dX12_failed_17 : decode cX12_failed 17 = .ok (.isub, 1) := by decide +kernel
theorem dX12_failed_18 : decode cX12_failed 18 = .ok (.putfield 206, 3) := by decide +kernel
theorem dX12_failed_21 : decode cX12_failed 21 = .ok (.lconst 0, 1) := by decide +kernel
theorem dX12_failed_22 : decode cX12_failed 22 = .ok (.lreturn, 1) := by decide +kernel
set_option maxRecDepth 20000 in
theorem ggX12_told_X12_out : GoodIn wsX12_told wsX12_out := goodIn_r _ [6, 7, 13, 14, 15, 16, 17, 18, 19, 20, 21, 22, 23, 24, 25, 26, 27, 28, 29, 30, 31, 32, 33, 34, 35, 36, 37, 38, 39, 40, 41, 42, 43, 44] (by decide +kernel) (by decide +kernel)
set_option maxRecDepth 20000 in
theorem gX12_told_X12_out : GoodIn wsX12_told (wsV RX12 212 RX12 yX12_out wsX12_out) := goodIn_app (goodIn_of _ (by decide +kernel)) ggX12_told_X12_out
set_option maxRecDepth 20000 in
theorem ggX12_told_X12_failed : GoodIn wsX12_told wsX12_failed := goodIn_r _ [11, 7, 12, 13, 14, 15, 16, 17, 18, 19, 20, 21, 22, 23, 24, 25, 26, 27, 28, 29, 30, 31, 32, 33, 34, 35, 36, 37, 38, 39, 40, 41, 42, 43, 44] (by decide +kernel) (by decide +kernel)
set_option maxRecDepth 20000 in
theorem gX12_told_X12_failed : GoodIn wsX12_told (wsV RX12 216 RX12 yX12_failed wsX12_failed) := goodIn_app (goodIn_of _ (by decide +kernel)) ggX12_told_X12_failed
theorem dX12_told_0 : decode cX12_told 0 = .ok (.iload_n 1, 1) := by decide +kernel
theorem dX12_told_1 : decode cX12_told 1 = .ok (.bipush (-2), 2) := by decide +kernel
theorem dX12_told_3 : decode cX12_told 3 = .ok (.if_icmp .ne 10, 3) := by decide +kernel
theorem dX12_told_6 : decode cX12_told 6 = .ok (.aload_n 0, 1) := by decide +kernel
theorem dX12_told_7 : decode cX12_told 7 = .ok (.invokevirtual 212, 3) := by decide +kernel
theorem dX12_told_10 : decode cX12_told 10 = .ok (.goto 20, 3) := by decide +kernel
theorem dX12_told_13 : decode cX12_told 13 = .ok (.iload_n 1, 1) := by decide +kernel
theorem dX12_told_14 : decode cX12_told 14 = .ok (.iconst 1, 1) := by decide +kernel
theorem dX12_told_15 : decode cX12_told 15 = .ok (.if_icmp .ne 10, 3) := by decide +kernel
theorem dX12_told_18 : decode cX12_told 18 = .ok (.aload_n 0, 1) := by decide +kernel
theorem dX12_told_19 : decode cX12_told 19 = .ok (.getfield 119, 3) := by decide +kernel
theorem dX12_told_22 : decode cX12_told 22 = .ok (.goto 8, 3) := by decide +kernel
theorem dX12_told_25 : decode cX12_told 25 = .ok (.aload_n 0, 1) := by decide +kernel
theorem dX12_told_26 : decode cX12_told 26 = .ok (.iload_n 1, 1) := by decide +kernel
theorem dX12_told_27 : decode cX12_told 27 = .ok (.invokevirtual 216, 3) := by decide +kernel
theorem dX12_told_30 : decode cX12_told 30 = .ok (.lreturn, 1) := by decide +kernel
theorem dX12_outcome_0 : decode cX12_outcome 0 = .ok (.aload_n 0, 1) := by decide +kernel
theorem dX12_outcome_1 : decode cX12_outcome 1 = .ok (.iconst 0, 1) := by decide +kernel
theorem dX12_outcome_2 : decode cX12_outcome 2 = .ok (.putfield 63, 3) := by decide +kernel
theorem dX12_outcome_5 : decode cX12_outcome 5 = .ok (.aload_n 0, 1) := by decide +kernel
theorem dX12_outcome_6 : decode cX12_outcome 6 = .ok (.getfield 203, 3) := by decide +kernel
theorem dX12_outcome_9 : decode cX12_outcome 9 = .ok (.ireturn, 1) := by decide +kernel
theorem dX12_error_0 : decode cX12_error 0 = .ok (.aload_n 0, 1) := by decide +kernel
theorem dX12_error_1 : decode cX12_error 1 = .ok (.iconst 0, 1) := by decide +kernel
theorem dX12_error_2 : decode cX12_error 2 = .ok (.putfield 63, 3) := by decide +kernel
theorem dX12_error_5 : decode cX12_error 5 = .ok (.aload_n 0, 1) := by decide +kernel
theorem dX12_error_6 : decode cX12_error 6 = .ok (.getfield 206, 3) := by decide +kernel
theorem dX12_error_9 : decode cX12_error 9 = .ok (.ireturn, 1) := by decide +kernel
theorem dX12_spent_0 : decode cX12_spent 0 = .ok (.aload_n 0, 1) := by decide +kernel
theorem dX12_spent_1 : decode cX12_spent 1 = .ok (.iconst 0, 1) := by decide +kernel
theorem dX12_spent_2 : decode cX12_spent 2 = .ok (.putfield 63, 3) := by decide +kernel
theorem dX12_spent_5 : decode cX12_spent 5 = .ok (.aload_n 0, 1) := by decide +kernel
theorem dX12_spent_6 : decode cX12_spent 6 = .ok (.getfield 200, 3) := by decide +kernel
theorem dX12_spent_9 : decode cX12_spent 9 = .ok (.ireturn, 1) := by decide +kernel
theorem dX12_lists_0 : decode cX12_lists 0 = .ok (.aload_n 0, 1) := by decide +kernel
theorem dX12_lists_1 : decode cX12_lists 1 = .ok (.iconst 0, 1) := by decide +kernel
theorem dX12_lists_2 : decode cX12_lists 2 = .ok (.putfield 63, 3) := by decide +kernel
theorem dX12_lists_5 : decode cX12_lists 5 = .ok (.aload_n 0, 1) := by decide +kernel
theorem dX12_lists_6 : decode cX12_lists 6 = .ok (.getfield 66, 3) := by decide +kernel
theorem dX12_lists_9 : decode cX12_lists 9 = .ok (.ireturn, 1) := by decide +kernel
abbrev vwCl : List vw_C := [(RX0, TX0, 9), (RX1, TX1, 9), (RX2, TX2, 9), (RX3, TX3, 7), (RX4, TX4, 7), (RX6, TX6, 2), (RX7, TX7, 7), (RX8, TX8, 9), (RX9, TX9, 8), (RX10, TX10, 9), (RX11, TX11, 9), (RX12, TX12, 32)]
