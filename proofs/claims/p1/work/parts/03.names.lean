def RX0 : String := "NeededLists$Chained"
def TX0 : u_T := fun k => match k with
  | 0 => ("NeededLists$LazyList", "meter", "LNeededLists$Meter;", true)
  | 1 => ("NeededLists$LazyList", "numbers", "[J", true)
  | 2 => ("NeededLists$LazyList", "marks", "[B", true)
  | 3 => ("NeededLists$LazyList", "met", "I", false)
  | 4 => ("NeededLists$LazyList", "close", "I", false)
  | 5 => ("NeededLists$Chained", "of", "LNeededLists$LazyList;", true)
  | 6 => ("NeededLists$Chained", "op", "I", true)
  | 7 => ("NeededLists$Chained", "c", "J", true)
  | _ => ("NeededLists$Chained", "start", "J", true)
def tyX0 : Nat → FieldType := fun k => match k with
  | 0 => .object "NeededLists$Meter"
  | 1 => .array .long
  | 2 => .array .byte
  | 3 => .int
  | 4 => .int
  | 5 => .object "NeededLists$LazyList"
  | 6 => .int
  | 7 => .long
  | _ => .long
abbrev wsX00 : List Cond := u_ws RX0 TX0 9
theorem nmX0 : ∀ a, a < 9 → ∀ b, b < 9 → a ≠ b → (TX0 a).2.1 ≠ (TX0 b).2.1 := by decide +kernel
theorem tyX0_ok : ∀ k, k < 9 → parseFieldDescriptor (TX0 k).2.2.1 = some (tyX0 k) := by decide +kernel
abbrev cX0_init : ByteArray := prog_2_method_1_code
def yX0_init : MethodName := ⟨RX0, "<init>", "(LNeededLists$Meter;LNeededLists$LazyList;IJJ)V"⟩
def RX1 : String := "NeededLists$Combined"
def TX1 : u_T := fun k => match k with
  | 0 => ("NeededLists$LazyList", "meter", "LNeededLists$Meter;", true)
  | 1 => ("NeededLists$LazyList", "numbers", "[J", true)
  | 2 => ("NeededLists$LazyList", "marks", "[B", true)
  | 3 => ("NeededLists$LazyList", "met", "I", false)
  | 4 => ("NeededLists$LazyList", "close", "I", false)
  | 5 => ("NeededLists$Combined", "left", "LNeededLists$LazyList;", true)
  | 6 => ("NeededLists$Combined", "right", "LNeededLists$LazyList;", true)
  | 7 => ("NeededLists$Combined", "op", "I", true)
  | _ => ("NeededLists$Combined", "c", "J", true)
abbrev wsX10 : List Cond := u_ws RX1 TX1 9
def RX2 : String := "NeededLists$Front"
def TX2 : u_T := fun k => match k with
  | 0 => ("NeededLists$LazyList", "meter", "LNeededLists$Meter;", true)
  | 1 => ("NeededLists$LazyList", "numbers", "[J", true)
  | 2 => ("NeededLists$LazyList", "marks", "[B", true)
  | 3 => ("NeededLists$LazyList", "met", "I", false)
  | 4 => ("NeededLists$LazyList", "close", "I", false)
  | 5 => ("NeededLists$Front", "of", "LNeededLists$LazyList;", true)
  | 6 => ("NeededLists$Front", "limit", "I", true)
  | 7 => ("NeededLists$Front", "cond", "I", true)
  | _ => ("NeededLists$Front", "c", "J", true)
abbrev wsX20 : List Cond := u_ws RX2 TX2 9
def RX3 : String := "NeededLists$Given"
def TX3 : u_T := fun k => match k with
  | 0 => ("NeededLists$LazyList", "meter", "LNeededLists$Meter;", true)
  | 1 => ("NeededLists$LazyList", "numbers", "[J", true)
  | 2 => ("NeededLists$LazyList", "marks", "[B", true)
  | 3 => ("NeededLists$LazyList", "met", "I", false)
  | 4 => ("NeededLists$LazyList", "close", "I", false)
  | 5 => ("NeededLists$Given", "fates", "[B", true)
  | _ => ("NeededLists$Given", "behind", "I", true)
def tyX3 : Nat → FieldType := fun k => match k with
  | 0 => .object "NeededLists$Meter"
  | 1 => .array .long
  | 2 => .array .byte
  | 3 => .int
  | 4 => .int
  | 5 => .array .byte
  | _ => .int
abbrev wsX30 : List Cond := u_ws RX3 TX3 7
theorem nmX3 : ∀ a, a < 7 → ∀ b, b < 7 → a ≠ b → (TX3 a).2.1 ≠ (TX3 b).2.1 := by decide +kernel
theorem tyX3_ok : ∀ k, k < 7 → parseFieldDescriptor (TX3 k).2.2.1 = some (tyX3 k) := by decide +kernel
abbrev cX3_init : ByteArray := prog_5_method_1_code
def yX3_init : MethodName := ⟨RX3, "<init>", "(LNeededLists$Meter;[J[BI)V"⟩
def RX4 : String := "NeededLists$Joined"
def TX4 : u_T := fun k => match k with
  | 0 => ("NeededLists$LazyList", "meter", "LNeededLists$Meter;", true)
  | 1 => ("NeededLists$LazyList", "numbers", "[J", true)
  | 2 => ("NeededLists$LazyList", "marks", "[B", true)
  | 3 => ("NeededLists$LazyList", "met", "I", false)
  | 4 => ("NeededLists$LazyList", "close", "I", false)
  | 5 => ("NeededLists$Joined", "left", "LNeededLists$LazyList;", true)
  | _ => ("NeededLists$Joined", "right", "LNeededLists$LazyList;", true)
abbrev wsX40 : List Cond := u_ws RX4 TX4 7
def RX5 : String := "NeededLists$LazyList"
abbrev cX5_init : ByteArray := prog_7_method_1_code
def yX5_init : MethodName := ⟨RX5, "<init>", "(LNeededLists$Meter;[J)V"⟩
def RX6 : String := "NeededLists$Meter"
def TX6 : u_T := fun k => match k with
  | 0 => ("NeededLists$Meter", "left", "I", false)
  | _ => ("NeededLists$Meter", "used", "I", false)
def yX6_init : MethodName := ⟨RX6, "<init>", "()V"⟩
def RX7 : String := "NeededLists$Ordered"
def TX7 : u_T := fun k => match k with
  | 0 => ("NeededLists$LazyList", "meter", "LNeededLists$Meter;", true)
  | 1 => ("NeededLists$LazyList", "numbers", "[J", true)
  | 2 => ("NeededLists$LazyList", "marks", "[B", true)
  | 3 => ("NeededLists$LazyList", "met", "I", false)
  | 4 => ("NeededLists$LazyList", "close", "I", false)
  | 5 => ("NeededLists$Ordered", "of", "LNeededLists$LazyList;", true)
  | _ => ("NeededLists$Ordered", "places", "[I", true)
abbrev wsX70 : List Cond := u_ws RX7 TX7 7
def RX8 : String := "NeededLists$Rest"
def TX8 : u_T := fun k => match k with
  | 0 => ("NeededLists$LazyList", "meter", "LNeededLists$Meter;", true)
  | 1 => ("NeededLists$LazyList", "numbers", "[J", true)
  | 2 => ("NeededLists$LazyList", "marks", "[B", true)
  | 3 => ("NeededLists$LazyList", "met", "I", false)
  | 4 => ("NeededLists$LazyList", "close", "I", false)
  | 5 => ("NeededLists$Rest", "of", "LNeededLists$LazyList;", true)
  | 6 => ("NeededLists$Rest", "cond", "I", true)
  | 7 => ("NeededLists$Rest", "c", "J", true)
  | _ => ("NeededLists$Rest", "start", "I", false)
abbrev wsX80 : List Cond := u_ws RX8 TX8 9
def RX9 : String := "NeededLists$Runs"
def TX9 : u_T := fun k => match k with
  | 0 => ("NeededLists$LazyList", "meter", "LNeededLists$Meter;", true)
  | 1 => ("NeededLists$LazyList", "numbers", "[J", true)
  | 2 => ("NeededLists$LazyList", "marks", "[B", true)
  | 3 => ("NeededLists$LazyList", "met", "I", false)
  | 4 => ("NeededLists$LazyList", "close", "I", false)
  | 5 => ("NeededLists$Runs", "of", "LNeededLists$LazyList;", true)
  | 6 => ("NeededLists$Runs", "starts", "[I", true)
  | _ => ("NeededLists$Runs", "runEnd", "I", false)
abbrev wsX90 : List Cond := u_ws RX9 TX9 8
def RX10 : String := "NeededLists$Sieve"
def TX10 : u_T := fun k => match k with
  | 0 => ("NeededLists$LazyList", "meter", "LNeededLists$Meter;", true)
  | 1 => ("NeededLists$LazyList", "numbers", "[J", true)
  | 2 => ("NeededLists$LazyList", "marks", "[B", true)
  | 3 => ("NeededLists$LazyList", "met", "I", false)
  | 4 => ("NeededLists$LazyList", "close", "I", false)
  | 5 => ("NeededLists$Sieve", "of", "LNeededLists$LazyList;", true)
  | 6 => ("NeededLists$Sieve", "cond", "I", true)
  | 7 => ("NeededLists$Sieve", "c", "J", true)
  | _ => ("NeededLists$Sieve", "places", "[I", true)
abbrev wsX100 : List Cond := u_ws RX10 TX10 9
def RX11 : String := "NeededLists"
def TX11 : u_T := fun k => match k with
  | 0 => ("NeededLists", "meter", "LNeededLists$Meter;", true)
  | 1 => ("NeededLists", "made", "[LNeededLists$LazyList;", true)
  | 2 => ("NeededLists", "rowNumbers", "[J", true)
  | 3 => ("NeededLists", "rowFates", "[B", true)
  | 4 => ("NeededLists", "madeCount", "I", false)
  | 5 => ("NeededLists", "rowLength", "I", false)
  | 6 => ("NeededLists", "stepsOfAsk", "I", false)
  | 7 => ("NeededLists", "latestOutcome", "I", false)
  | _ => ("NeededLists", "latestError", "I", false)
def tyX11 : Nat → FieldType := fun k => match k with
  | 0 => .object "NeededLists$Meter"
  | 1 => .array (.object "NeededLists$LazyList")
  | 2 => .array .long
  | 3 => .array .byte
  | 4 => .int
  | 5 => .int
  | 6 => .int
  | 7 => .int
  | _ => .int
abbrev wsX110 : List Cond := u_ws RX11 TX11 9
theorem nmX11 : ∀ a, a < 9 → ∀ b, b < 9 → a ≠ b → (TX11 a).2.1 ≠ (TX11 b).2.1 := by decide +kernel
theorem tyX11_ok : ∀ k, k < 9 → parseFieldDescriptor (TX11 k).2.2.1 = some (tyX11 k) := by decide +kernel
abbrev cX11_addList : ByteArray := prog_1_method_19_code
def yX11_addList : MethodName := ⟨RX11, "addList", "(LNeededLists$LazyList;)I"⟩
def RX12 : String := "NeededListsModel"
def TX12 : u_T := fun k => match k with
  | 0 => ("NeededListsModel", "lists", "I", false)
  | 1 => ("NeededListsModel", "sort", "[I", true)
  | 2 => ("NeededListsModel", "first", "[I", true)
  | 3 => ("NeededListsModel", "second", "[I", true)
  | 4 => ("NeededListsModel", "code", "[I", true)
  | 5 => ("NeededListsModel", "number", "[J", true)
  | 6 => ("NeededListsModel", "other", "[J", true)
  | 7 => ("NeededListsModel", "cell", "[I", true)
  | 8 => ("NeededListsModel", "item", "[I", true)
  | 9 => ("NeededListsModel", "value", "[J", true)
  | 10 => ("NeededListsModel", "shareList", "[I", true)
  | 11 => ("NeededListsModel", "shareCell", "[I", true)
  | 12 => ("NeededListsModel", "many", "I", false)
  | 13 => ("NeededListsModel", "rowItem", "[I", true)
  | 14 => ("NeededListsModel", "rowValue", "[J", true)
  | 15 => ("NeededListsModel", "purse", "I", false)
  | 16 => ("NeededListsModel", "spent", "I", false)
  | 17 => ("NeededListsModel", "outcome", "I", false)
  | 18 => ("NeededListsModel", "error", "I", false)
  | 19 => ("NeededListsModel", "thrown", "I", false)
  | 20 => ("NeededListsModel", "givenItem", "[I", true)
  | 21 => ("NeededListsModel", "givenValue", "[J", true)
  | 22 => ("NeededListsModel", "opValue", "J", false)
  | 23 => ("NeededListsModel", "got", "I", false)
  | 24 => ("NeededListsModel", "gotAt", "I", false)
  | 25 => ("NeededListsModel", "gotValue", "J", false)
  | 26 => ("NeededListsModel", "becomes", "I", false)
  | 27 => ("NeededListsModel", "becomesList", "I", false)
  | 28 => ("NeededListsModel", "becomesCell", "I", false)
  | 29 => ("NeededListsModel", "runSize", "I", false)
  | 30 => ("NeededListsModel", "becomesValue", "J", false)
  | _ => ("NeededListsModel", "pile", "[I", true)
def RJ7 : String := "java/util/Arrays"
abbrev cJ7_fill_031fb : ByteArray := prog_25_method_109_code
def yJ7_fill_031fb : MethodName := ⟨RJ7, "fill", "([BB)V"⟩
abbrev cJ7_copyOf_9075b : ByteArray := prog_25_method_121_code
def yJ7_copyOf_9075b : MethodName := ⟨RJ7, "copyOf", "([BI)[B"⟩
abbrev cJ7_copyOf_c38d5 : ByteArray := prog_25_method_124_code
def yJ7_copyOf_c38d5 : MethodName := ⟨RJ7, "copyOf", "([JI)[J"⟩
def wsX5_init : List Cond := .code yX5_init cX5_init 3 none :: ([.methodLink RX5 3 objectInit, .instanceMethod objectInit, .code objectInit ⟨#[0xb1]⟩ 1 none, .fieldLink RX5 9 "NeededLists$LazyList" "meter" "LNeededLists$Meter;", .fieldLink RX5 15 "NeededLists$LazyList" "numbers" "[J", .arrayClass .byte, .fieldLink RX5 19 "NeededLists$LazyList" "marks" "[B"] ++ wsX00 ++ wsX10 ++ wsX20 ++ wsX30 ++ wsX40 ++ wsX70 ++ wsX80 ++ wsX90 ++ wsX100)
def wsX0_init : List Cond := .code yX0_init cX0_init 8 none :: ([.arrayClass .long, .fieldLink RX0 9 "NeededLists$Chained" "of" "LNeededLists$LazyList;", .fieldLink RX0 15 "NeededLists$Chained" "op" "I", .fieldLink RX0 19 "NeededLists$Chained" "c" "J", .fieldLink RX0 23 "NeededLists$Chained" "start" "J", .methodLink RX0 3 yX5_init, .instanceMethod yX5_init, .initialized RX5, .code yX5_init cX5_init 3 none, .methodLink RX5 3 objectInit, .instanceMethod objectInit, .code objectInit ⟨#[0xb1]⟩ 1 none, .fieldLink RX5 9 "NeededLists$LazyList" "meter" "LNeededLists$Meter;", .fieldLink RX5 15 "NeededLists$LazyList" "numbers" "[J", .arrayClass .byte, .fieldLink RX5 19 "NeededLists$LazyList" "marks" "[B"] ++ wsX00 ++ wsX10 ++ wsX20 ++ wsX30 ++ wsX40 ++ wsX70 ++ wsX80 ++ wsX90 ++ wsX100)
def wsX3_init : List Cond := .code yX3_init cX3_init 5 none :: ([.fieldLink RX3 9 "NeededLists$Given" "fates" "[B", .fieldLink RX3 15 "NeededLists$Given" "behind" "I", .methodLink RX3 3 yX5_init, .instanceMethod yX5_init, .initialized RX5, .code yX5_init cX5_init 3 none, .methodLink RX5 3 objectInit, .instanceMethod objectInit, .code objectInit ⟨#[0xb1]⟩ 1 none, .fieldLink RX5 9 "NeededLists$LazyList" "meter" "LNeededLists$Meter;", .fieldLink RX5 15 "NeededLists$LazyList" "numbers" "[J", .arrayClass .byte, .fieldLink RX5 19 "NeededLists$LazyList" "marks" "[B"] ++ wsX30 ++ wsX00 ++ wsX10 ++ wsX20 ++ wsX40 ++ wsX70 ++ wsX80 ++ wsX90 ++ wsX100)
def wsJ7_copyOf_c38d5 : List Cond := .code yJ7_copyOf_c38d5 cJ7_copyOf_c38d5 3 (some (.array .long)) :: ([.methodLink RJ7 319 ⟨"[J", "clone", "()Ljava/lang/Object;"⟩, .sameMethod "[J" "java/lang/Object" "clone" "()Ljava/lang/Object;", .native ⟨"java/lang/Object", "clone", "()Ljava/lang/Object;"⟩, .instanceMethod ⟨"java/lang/Object", "clone", "()Ljava/lang/Object;"⟩, .selects "[J" ⟨"[J", "clone", "()Ljava/lang/Object;"⟩ ⟨"java/lang/Object", "clone", "()Ljava/lang/Object;"⟩, .classLink RJ7 320 "[J", .arrayClass .long, .methodLink RJ7 304 Lib.Math.min.name, .static Lib.Math.min.name, .initialized "java/lang/Math", .code Lib.Math.min.name Lib.Math.min.code 2 (some .int), .methodLink RJ7 150 arraycopyName, .native arraycopyName, .static arraycopyName, .initialized "java/lang/System"])
def wsJ7_copyOf_9075b : List Cond := .code yJ7_copyOf_9075b cJ7_copyOf_9075b 3 (some (.array .byte)) :: ([.methodLink RJ7 310 ⟨"[B", "clone", "()Ljava/lang/Object;"⟩, .sameMethod "[B" "java/lang/Object" "clone" "()Ljava/lang/Object;", .native ⟨"java/lang/Object", "clone", "()Ljava/lang/Object;"⟩, .instanceMethod ⟨"java/lang/Object", "clone", "()Ljava/lang/Object;"⟩, .selects "[B" ⟨"[B", "clone", "()Ljava/lang/Object;"⟩ ⟨"java/lang/Object", "clone", "()Ljava/lang/Object;"⟩, .classLink RJ7 311 "[B", .arrayClass .byte, .methodLink RJ7 304 Lib.Math.min.name, .static Lib.Math.min.name, .initialized "java/lang/Math", .code Lib.Math.min.name Lib.Math.min.code 2 (some .int), .methodLink RJ7 150 arraycopyName, .native arraycopyName, .static arraycopyName, .initialized "java/lang/System"])
def wsX11_addList : List Cond := .code yX11_addList cX11_addList 3 (some .int) :: ([.fieldLink RX11 136 "NeededLists" "madeCount" "I", .fieldLink RX11 18 "NeededLists" "made" "[LNeededLists$LazyList;"] ++ wsX110)
def wsJ7_fill_031fb : List Cond := .code yJ7_fill_031fb cJ7_fill_031fb 4 none :: ([])
set_option maxRecDepth 20000 in
theorem ggX0_init_X5_init : GoodIn wsX0_init wsX5_init := goodIn_r _ [9, 10, 11, 12, 13, 14, 15, 16, 17, 18, 19, 20, 21, 22, 23, 24, 25, 26, 27, 28, 29, 30, 31, 32, 33, 34, 35, 36, 37, 38, 39, 40, 41, 42, 43, 44, 45, 46, 47, 48, 49, 50, 51, 52, 53, 54, 55, 56, 57, 58, 59, 60, 61, 62, 63, 64, 65, 66, 67, 68, 69, 70, 71, 72, 73, 74, 75, 76, 77, 78, 79, 80, 81, 82, 83, 84, 85, 86, 87, 88, 89, 90] (by decide +kernel) (by decide +kernel)
set_option maxRecDepth 20000 in
theorem gX0_init_X5_init : GoodIn wsX0_init (wsX5_init) := ggX0_init_X5_init
theorem dX0_init_0 : decode cX0_init 0 = .ok (.aload_n 0, 1) := by decide +kernel
theorem dX0_init_1 : decode cX0_init 1 = .ok (.aload_n 1, 1) := by decide +kernel
theorem dX0_init_2 : decode cX0_init 2 = .ok (.sipush 400, 3) := by decide +kernel
theorem dX0_init_5 : decode cX0_init 5 = .ok (.newarray .long, 2) := by decide +kernel
theorem dX0_init_7 : decode cX0_init 7 = .ok (.invokespecial 3, 3) := by decide +kernel
theorem dX0_init_10 : decode cX0_init 10 = .ok (.aload_n 0, 1) := by decide +kernel
theorem dX0_init_11 : decode cX0_init 11 = .ok (.aload_n 2, 1) := by decide +kernel
theorem dX0_init_12 : decode cX0_init 12 = .ok (.putfield 9, 3) := by decide +kernel
theorem dX0_init_15 : decode cX0_init 15 = .ok (.aload_n 0, 1) := by decide +kernel
theorem dX0_init_16 : decode cX0_init 16 = .ok (.iload_n 3, 1) := by decide +kernel
theorem dX0_init_17 : decode cX0_init 17 = .ok (.putfield 15, 3) := by decide +kernel
theorem dX0_init_20 : decode cX0_init 20 = .ok (.aload_n 0, 1) := by decide +kernel
theorem dX0_init_21 : decode cX0_init 21 = .ok (.lload 4, 2) := by decide +kernel
theorem dX0_init_23 : decode cX0_init 23 = .ok (.putfield 19, 3) := by decide +kernel
theorem dX0_init_26 : decode cX0_init 26 = .ok (.aload_n 0, 1) := by decide +kernel
theorem dX0_init_27 : decode cX0_init 27 = .ok (.lload 6, 2) := by decide +kernel
theorem dX0_init_29 : decode cX0_init 29 = .ok (.putfield 23, 3) := by decide +kernel
theorem dX0_init_32 : decode cX0_init 32 = .ok (.return_, 1) := by decide +kernel
set_option maxRecDepth 20000 in
theorem ggX3_init_X5_init : GoodIn wsX3_init wsX5_init := goodIn_r _ [6, 7, 8, 9, 10, 11, 12, 13, 21, 22, 23, 24, 25, 26, 27, 28, 29, 30, 31, 32, 33, 34, 35, 36, 37, 38, 39, 40, 41, 42, 43, 44, 45, 46, 47, 14, 15, 16, 17, 18, 19, 20, 48, 49, 50, 51, 52, 53, 54, 55, 56, 57, 58, 59, 60, 61, 62, 63, 64, 65, 66, 67, 68, 69, 70, 71, 72, 73, 74, 75, 76, 77, 78, 79, 80, 81, 82, 83, 84, 85, 86, 87] (by decide +kernel) (by decide +kernel)
set_option maxRecDepth 20000 in
theorem gX3_init_X5_init : GoodIn wsX3_init (wsX5_init) := ggX3_init_X5_init
theorem dX3_init_0 : decode cX3_init 0 = .ok (.aload_n 0, 1) := by decide +kernel
theorem dX3_init_1 : decode cX3_init 1 = .ok (.aload_n 1, 1) := by decide +kernel
theorem dX3_init_2 : decode cX3_init 2 = .ok (.aload_n 2, 1) := by decide +kernel
theorem dX3_init_3 : decode cX3_init 3 = .ok (.invokespecial 3, 3) := by decide +kernel
theorem dX3_init_6 : decode cX3_init 6 = .ok (.aload_n 0, 1) := by decide +kernel
theorem dX3_init_7 : decode cX3_init 7 = .ok (.aload_n 3, 1) := by decide +kernel
theorem dX3_init_8 : decode cX3_init 8 = .ok (.putfield 9, 3) := by decide +kernel
theorem dX3_init_11 : decode cX3_init 11 = .ok (.aload_n 0, 1) := by decide +kernel
theorem dX3_init_12 : decode cX3_init 12 = .ok (.iload 4, 2) := by decide +kernel
theorem dX3_init_14 : decode cX3_init 14 = .ok (.putfield 15, 3) := by decide +kernel
theorem dX3_init_17 : decode cX3_init 17 = .ok (.return_, 1) := by decide +kernel
theorem dX5_init_0 : decode cX5_init 0 = .ok (.aload_n 0, 1) := by decide +kernel
theorem dX5_init_1 : decode cX5_init 1 = .ok (.invokespecial 3, 3) := by decide +kernel
theorem dX5_init_4 : decode cX5_init 4 = .ok (.aload_n 0, 1) := by decide +kernel
theorem dX5_init_5 : decode cX5_init 5 = .ok (.aload_n 1, 1) := by decide +kernel
theorem dX5_init_6 : decode cX5_init 6 = .ok (.putfield 9, 3) := by decide +kernel
theorem dX5_init_9 : decode cX5_init 9 = .ok (.aload_n 0, 1) := by decide +kernel
theorem dX5_init_10 : decode cX5_init 10 = .ok (.aload_n 2, 1) := by decide +kernel
theorem dX5_init_11 : decode cX5_init 11 = .ok (.putfield 15, 3) := by decide +kernel
theorem dX5_init_14 : decode cX5_init 14 = .ok (.aload_n 0, 1) := by decide +kernel
theorem dX5_init_15 : decode cX5_init 15 = .ok (.aload_n 2, 1) := by decide +kernel
theorem dX5_init_16 : decode cX5_init 16 = .ok (.arraylength, 1) := by decide +kernel
theorem dX5_init_17 : decode cX5_init 17 = .ok (.newarray .byte, 2) := by decide +kernel
theorem dX5_init_19 : decode cX5_init 19 = .ok (.putfield 19, 3) := by decide +kernel
theorem dX5_init_22 : decode cX5_init 22 = .ok (.return_, 1) := by decide +kernel
theorem dX11_addList_0 : decode cX11_addList 0 = .ok (.aload_n 0, 1) := by decide +kernel
theorem dX11_addList_1 : decode cX11_addList 1 = .ok (.getfield 136, 3) := by decide +kernel
theorem dX11_addList_4 : decode cX11_addList 4 = .ok (.istore_n 2, 1) := by decide +kernel
theorem dX11_addList_5 : decode cX11_addList 5 = .ok (.iload_n 2, 1) := by decide +kernel
theorem dX11_addList_6 : decode cX11_addList 6 = .ok (.aload_n 0, 1) := by decide +kernel
theorem dX11_addList_7 : decode cX11_addList 7 = .ok (.getfield 18, 3) := by decide +kernel
theorem dX11_addList_10 : decode cX11_addList 10 = .ok (.arraylength, 1) := by decide +kernel
theorem dX11_addList_11 : decode cX11_addList 11 = .ok (.if_icmp .ge 17, 3) := by decide +kernel
theorem dX11_addList_14 : decode cX11_addList 14 = .ok (.aload_n 0, 1) := by decide +kernel
theorem dX11_addList_15 : decode cX11_addList 15 = .ok (.getfield 18, 3) := by decide +kernel
theorem dX11_addList_18 : decode cX11_addList 18 = .ok (.iload_n 2, 1) := by decide +kernel
theorem dX11_addList_19 : decode cX11_addList 19 = .ok (.aload_n 1, 1) := by decide +kernel
theorem dX11_addList_20 : decode cX11_addList 20 = .ok (.aastore, 1) := by decide +kernel
theorem dX11_addList_21 : decode cX11_addList 21 = .ok (.aload_n 0, 1) := by decide +kernel
theorem dX11_addList_22 : decode cX11_addList 22 = .ok (.iload_n 2, 1) := by decide +kernel
theorem dX11_addList_23 : decode cX11_addList 23 = .ok (.iconst 1, 1) := by decide +kernel
theorem dX11_addList_24 : decode cX11_addList 24 = .ok (.iadd, 1) := by decide +kernel
theorem dX11_addList_25 : decode cX11_addList 25 = .ok (.putfield 136, 3) := by decide +kernel
theorem dX11_addList_28 : decode cX11_addList 28 = .ok (.iload_n 2, 1) := by decide +kernel
theorem dX11_addList_29 : decode cX11_addList 29 = .ok (.ireturn, 1) := by decide +kernel
theorem dJ7_fill_031fb_0 : decode cJ7_fill_031fb 0 = .ok (.iconst 0, 1) := by decide +kernel
theorem dJ7_fill_031fb_1 : decode cJ7_fill_031fb 1 = .ok (.istore_n 2, 1) := by decide +kernel
theorem dJ7_fill_031fb_2 : decode cJ7_fill_031fb 2 = .ok (.aload_n 0, 1) := by decide +kernel
theorem dJ7_fill_031fb_3 : decode cJ7_fill_031fb 3 = .ok (.arraylength, 1) := by decide +kernel
theorem dJ7_fill_031fb_4 : decode cJ7_fill_031fb 4 = .ok (.istore_n 3, 1) := by decide +kernel
theorem dJ7_fill_031fb_5 : decode cJ7_fill_031fb 5 = .ok (.iload_n 2, 1) := by decide +kernel
theorem dJ7_fill_031fb_6 : decode cJ7_fill_031fb 6 = .ok (.iload_n 3, 1) := by decide +kernel
theorem dJ7_fill_031fb_7 : decode cJ7_fill_031fb 7 = .ok (.if_icmp .ge 13, 3) := by decide +kernel
theorem dJ7_fill_031fb_10 : decode cJ7_fill_031fb 10 = .ok (.aload_n 0, 1) := by decide +kernel
theorem dJ7_fill_031fb_11 : decode cJ7_fill_031fb 11 = .ok (.iload_n 2, 1) := by decide +kernel
theorem dJ7_fill_031fb_12 : decode cJ7_fill_031fb 12 = .ok (.iload_n 1, 1) := by decide +kernel
theorem dJ7_fill_031fb_13 : decode cJ7_fill_031fb 13 = .ok (.bastore, 1) := by decide +kernel
theorem dJ7_fill_031fb_14 : decode cJ7_fill_031fb 14 = .ok (.iinc 2 1, 3) := by decide +kernel
theorem dJ7_fill_031fb_17 : decode cJ7_fill_031fb 17 = .ok (.goto (-12), 3) := by decide +kernel
theorem dJ7_fill_031fb_20 : decode cJ7_fill_031fb 20 = .ok (.return_, 1) := by decide +kernel
theorem dJ7_copyOf_9075b_0 : decode cJ7_copyOf_9075b 0 = .ok (.iload_n 1, 1) := by decide +kernel
theorem dJ7_copyOf_9075b_1 : decode cJ7_copyOf_9075b 1 = .ok (.aload_n 0, 1) := by decide +kernel
theorem dJ7_copyOf_9075b_2 : decode cJ7_copyOf_9075b 2 = .ok (.arraylength, 1) := by decide +kernel
theorem dJ7_copyOf_9075b_3 : decode cJ7_copyOf_9075b 3 = .ok (.if_icmp .ne 11, 3) := by decide +kernel
theorem dJ7_copyOf_9075b_14 : decode cJ7_copyOf_9075b 14 = .ok (.iload_n 1, 1) := by decide +kernel
theorem dJ7_copyOf_9075b_15 : decode cJ7_copyOf_9075b 15 = .ok (.newarray .byte, 2) := by decide +kernel
theorem dJ7_copyOf_9075b_17 : decode cJ7_copyOf_9075b 17 = .ok (.astore_n 2, 1) := by decide +kernel
theorem dJ7_copyOf_9075b_18 : decode cJ7_copyOf_9075b 18 = .ok (.aload_n 0, 1) := by decide +kernel
theorem dJ7_copyOf_9075b_19 : decode cJ7_copyOf_9075b 19 = .ok (.iconst 0, 1) := by decide +kernel
theorem dJ7_copyOf_9075b_20 : decode cJ7_copyOf_9075b 20 = .ok (.aload_n 2, 1) := by decide +kernel
theorem dJ7_copyOf_9075b_21 : decode cJ7_copyOf_9075b 21 = .ok (.iconst 0, 1) := by decide +kernel
theorem dJ7_copyOf_9075b_22 : decode cJ7_copyOf_9075b 22 = .ok (.aload_n 0, 1) := by decide +kernel
theorem dJ7_copyOf_9075b_23 : decode cJ7_copyOf_9075b 23 = .ok (.arraylength, 1) := by decide +kernel
theorem dJ7_copyOf_9075b_24 : decode cJ7_copyOf_9075b 24 = .ok (.iload_n 1, 1) := by decide +kernel
theorem dJ7_copyOf_9075b_25 : decode cJ7_copyOf_9075b 25 = .ok (.invokestatic 304, 3) := by decide +kernel
theorem dJ7_copyOf_9075b_28 : decode cJ7_copyOf_9075b 28 = .ok (.invokestatic 150, 3) := by decide +kernel
theorem dJ7_copyOf_9075b_31 : decode cJ7_copyOf_9075b 31 = .ok (.aload_n 2, 1) := by decide +kernel
theorem dJ7_copyOf_9075b_32 : decode cJ7_copyOf_9075b 32 = .ok (.areturn, 1) := by decide +kernel
theorem dJ7_copyOf_c38d5_0 : decode cJ7_copyOf_c38d5 0 = .ok (.iload_n 1, 1) := by decide +kernel
theorem dJ7_copyOf_c38d5_1 : decode cJ7_copyOf_c38d5 1 = .ok (.aload_n 0, 1) := by decide +kernel
theorem dJ7_copyOf_c38d5_2 : decode cJ7_copyOf_c38d5 2 = .ok (.arraylength, 1) := by decide +kernel
theorem dJ7_copyOf_c38d5_3 : decode cJ7_copyOf_c38d5 3 = .ok (.if_icmp .ne 11, 3) := by decide +kernel
theorem dJ7_copyOf_c38d5_14 : decode cJ7_copyOf_c38d5 14 = .ok (.iload_n 1, 1) := by decide +kernel
theorem dJ7_copyOf_c38d5_15 : decode cJ7_copyOf_c38d5 15 = .ok (.newarray .long, 2) := by decide +kernel
theorem dJ7_copyOf_c38d5_17 : decode cJ7_copyOf_c38d5 17 = .ok (.astore_n 2, 1) := by decide +kernel
theorem dJ7_copyOf_c38d5_18 : decode cJ7_copyOf_c38d5 18 = .ok (.aload_n 0, 1) := by decide +kernel
theorem dJ7_copyOf_c38d5_19 : decode cJ7_copyOf_c38d5 19 = .ok (.iconst 0, 1) := by decide +kernel
theorem dJ7_copyOf_c38d5_20 : decode cJ7_copyOf_c38d5 20 = .ok (.aload_n 2, 1) := by decide +kernel
theorem dJ7_copyOf_c38d5_21 : decode cJ7_copyOf_c38d5 21 = .ok (.iconst 0, 1) := by decide +kernel
theorem dJ7_copyOf_c38d5_22 : decode cJ7_copyOf_c38d5 22 = .ok (.aload_n 0, 1) := by decide +kernel
theorem dJ7_copyOf_c38d5_23 : decode cJ7_copyOf_c38d5 23 = .ok (.arraylength, 1) := by decide +kernel
theorem dJ7_copyOf_c38d5_24 : decode cJ7_copyOf_c38d5 24 = .ok (.iload_n 1, 1) := by decide +kernel
theorem dJ7_copyOf_c38d5_25 : decode cJ7_copyOf_c38d5 25 = .ok (.invokestatic 304, 3) := by decide +kernel
theorem dJ7_copyOf_c38d5_28 : decode cJ7_copyOf_c38d5 28 = .ok (.invokestatic 150, 3) := by decide +kernel
theorem dJ7_copyOf_c38d5_31 : decode cJ7_copyOf_c38d5 31 = .ok (.aload_n 2, 1) := by decide +kernel
theorem dJ7_copyOf_c38d5_32 : decode cJ7_copyOf_c38d5 32 = .ok (.areturn, 1) := by decide +kernel
abbrev vwCl : List vw_C := [(RX0, TX0, 9), (RX1, TX1, 9), (RX2, TX2, 9), (RX3, TX3, 7), (RX4, TX4, 7), (RX6, TX6, 2), (RX7, TX7, 7), (RX8, TX8, 9), (RX9, TX9, 8), (RX10, TX10, 9), (RX11, TX11, 9), (RX12, TX12, 32)]
