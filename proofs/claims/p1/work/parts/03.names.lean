def RX0 : String := "NeededLists$Chained"
def TX0 : u_T := fun k => match k with
  | 0 => ("NeededLists$LazyList", "meter", "LNeededLists$Meter;", true)
  | 1 => ("NeededLists$LazyList", "numbers", "[J", true)
  | 2 => ("NeededLists$LazyList", "marks", "[B", true)
  | 3 => ("NeededLists$LazyList", "met", "I", false)
  | 4 => ("NeededLists$LazyList", "close", "I", false)
  | 5 => ("NeededLists$Chained", "of", "LNeededLists$LazyList;", true)
  | 6 => ("NeededLists$Chained", "op", "I", true)
  | 7 => ("NeededLists$Chained", "c", "J", true)
  | _ => ("NeededLists$Chained", "start", "J", true)
def RX1 : String := "NeededLists$Combined"
def TX1 : u_T := fun k => match k with
  | 0 => ("NeededLists$LazyList", "meter", "LNeededLists$Meter;", true)
  | 1 => ("NeededLists$LazyList", "numbers", "[J", true)
  | 2 => ("NeededLists$LazyList", "marks", "[B", true)
  | 3 => ("NeededLists$LazyList", "met", "I", false)
  | 4 => ("NeededLists$LazyList", "close", "I", false)
  | 5 => ("NeededLists$Combined", "left", "LNeededLists$LazyList;", true)
  | 6 => ("NeededLists$Combined", "right", "LNeededLists$LazyList;", true)
  | 7 => ("NeededLists$Combined", "op", "I", true)
  | _ => ("NeededLists$Combined", "c", "J", true)
def RX2 : String := "NeededLists$Front"
def TX2 : u_T := fun k => match k with
  | 0 => ("NeededLists$LazyList", "meter", "LNeededLists$Meter;", true)
  | 1 => ("NeededLists$LazyList", "numbers", "[J", true)
  | 2 => ("NeededLists$LazyList", "marks", "[B", true)
  | 3 => ("NeededLists$LazyList", "met", "I", false)
  | 4 => ("NeededLists$LazyList", "close", "I", false)
  | 5 => ("NeededLists$Front", "of", "LNeededLists$LazyList;", true)
  | 6 => ("NeededLists$Front", "limit", "I", true)
  | 7 => ("NeededLists$Front", "cond", "I", true)
  | _ => ("NeededLists$Front", "c", "J", true)
def RX3 : String := "NeededLists$Given"
def TX3 : u_T := fun k => match k with
  | 0 => ("NeededLists$LazyList", "meter", "LNeededLists$Meter;", true)
  | 1 => ("NeededLists$LazyList", "numbers", "[J", true)
  | 2 => ("NeededLists$LazyList", "marks", "[B", true)
  | 3 => ("NeededLists$LazyList", "met", "I", false)
  | 4 => ("NeededLists$LazyList", "close", "I", false)
  | 5 => ("NeededLists$Given", "fates", "[B", true)
  | _ => ("NeededLists$Given", "behind", "I", true)
def RX4 : String := "NeededLists$Joined"
def TX4 : u_T := fun k => match k with
  | 0 => ("NeededLists$LazyList", "meter", "LNeededLists$Meter;", true)
  | 1 => ("NeededLists$LazyList", "numbers", "[J", true)
  | 2 => ("NeededLists$LazyList", "marks", "[B", true)
  | 3 => ("NeededLists$LazyList", "met", "I", false)
  | 4 => ("NeededLists$LazyList", "close", "I", false)
  | 5 => ("NeededLists$Joined", "left", "LNeededLists$LazyList;", true)
  | _ => ("NeededLists$Joined", "right", "LNeededLists$LazyList;", true)
def RX5 : String := "NeededLists$LazyList"
def RX6 : String := "NeededLists$Meter"
def TX6 : u_T := fun k => match k with
  | 0 => ("NeededLists$Meter", "left", "I", false)
  | _ => ("NeededLists$Meter", "used", "I", false)
def yX6_init : MethodName := ⟨RX6, "<init>", "()V"⟩
def RX7 : String := "NeededLists$Ordered"
def TX7 : u_T := fun k => match k with
  | 0 => ("NeededLists$LazyList", "meter", "LNeededLists$Meter;", true)
  | 1 => ("NeededLists$LazyList", "numbers", "[J", true)
  | 2 => ("NeededLists$LazyList", "marks", "[B", true)
  | 3 => ("NeededLists$LazyList", "met", "I", false)
  | 4 => ("NeededLists$LazyList", "close", "I", false)
  | 5 => ("NeededLists$Ordered", "of", "LNeededLists$LazyList;", true)
  | _ => ("NeededLists$Ordered", "places", "[I", true)
def RX8 : String := "NeededLists$Rest"
def TX8 : u_T := fun k => match k with
  | 0 => ("NeededLists$LazyList", "meter", "LNeededLists$Meter;", true)
  | 1 => ("NeededLists$LazyList", "numbers", "[J", true)
  | 2 => ("NeededLists$LazyList", "marks", "[B", true)
  | 3 => ("NeededLists$LazyList", "met", "I", false)
  | 4 => ("NeededLists$LazyList", "close", "I", false)
  | 5 => ("NeededLists$Rest", "of", "LNeededLists$LazyList;", true)
  | 6 => ("NeededLists$Rest", "cond", "I", true)
  | 7 => ("NeededLists$Rest", "c", "J", true)
  | _ => ("NeededLists$Rest", "start", "I", false)
def RX9 : String := "NeededLists$Runs"
def TX9 : u_T := fun k => match k with
  | 0 => ("NeededLists$LazyList", "meter", "LNeededLists$Meter;", true)
  | 1 => ("NeededLists$LazyList", "numbers", "[J", true)
  | 2 => ("NeededLists$LazyList", "marks", "[B", true)
  | 3 => ("NeededLists$LazyList", "met", "I", false)
  | 4 => ("NeededLists$LazyList", "close", "I", false)
  | 5 => ("NeededLists$Runs", "of", "LNeededLists$LazyList;", true)
  | 6 => ("NeededLists$Runs", "starts", "[I", true)
  | _ => ("NeededLists$Runs", "runEnd", "I", false)
def RX10 : String := "NeededLists$Sieve"
def TX10 : u_T := fun k => match k with
  | 0 => ("NeededLists$LazyList", "meter", "LNeededLists$Meter;", true)
  | 1 => ("NeededLists$LazyList", "numbers", "[J", true)
  | 2 => ("NeededLists$LazyList", "marks", "[B", true)
  | 3 => ("NeededLists$LazyList", "met", "I", false)
  | 4 => ("NeededLists$LazyList", "close", "I", false)
  | 5 => ("NeededLists$Sieve", "of", "LNeededLists$LazyList;", true)
  | 6 => ("NeededLists$Sieve", "cond", "I", true)
  | 7 => ("NeededLists$Sieve", "c", "J", true)
  | _ => ("NeededLists$Sieve", "places", "[I", true)
def RX11 : String := "NeededLists"
def TX11 : u_T := fun k => match k with
  | 0 => ("NeededLists", "meter", "LNeededLists$Meter;", true)
  | 1 => ("NeededLists", "made", "[LNeededLists$LazyList;", true)
  | 2 => ("NeededLists", "rowNumbers", "[J", true)
  | 3 => ("NeededLists", "rowFates", "[B", true)
  | 4 => ("NeededLists", "madeCount", "I", false)
  | 5 => ("NeededLists", "rowLength", "I", false)
  | 6 => ("NeededLists", "stepsOfAsk", "I", false)
  | 7 => ("NeededLists", "latestOutcome", "I", false)
  | _ => ("NeededLists", "latestError", "I", false)
def RX12 : String := "NeededListsModel"
def TX12 : u_T := fun k => match k with
  | 0 => ("NeededListsModel", "lists", "I", false)
  | 1 => ("NeededListsModel", "sort", "[I", true)
  | 2 => ("NeededListsModel", "first", "[I", true)
  | 3 => ("NeededListsModel", "second", "[I", true)
  | 4 => ("NeededListsModel", "code", "[I", true)
  | 5 => ("NeededListsModel", "number", "[J", true)
  | 6 => ("NeededListsModel", "other", "[J", true)
  | 7 => ("NeededListsModel", "cell", "[I", true)
  | 8 => ("NeededListsModel", "item", "[I", true)
  | 9 => ("NeededListsModel", "value", "[J", true)
  | 10 => ("NeededListsModel", "shareList", "[I", true)
  | 11 => ("NeededListsModel", "shareCell", "[I", true)
  | 12 => ("NeededListsModel", "many", "I", false)
  | 13 => ("NeededListsModel", "rowItem", "[I", true)
  | 14 => ("NeededListsModel", "rowValue", "[J", true)
  | 15 => ("NeededListsModel", "purse", "I", false)
  | 16 => ("NeededListsModel", "spent", "I", false)
  | 17 => ("NeededListsModel", "outcome", "I", false)
  | 18 => ("NeededListsModel", "error", "I", false)
  | 19 => ("NeededListsModel", "thrown", "I", false)
  | 20 => ("NeededListsModel", "givenItem", "[I", true)
  | 21 => ("NeededListsModel", "givenValue", "[J", true)
  | 22 => ("NeededListsModel", "opValue", "J", false)
  | 23 => ("NeededListsModel", "got", "I", false)
  | 24 => ("NeededListsModel", "gotAt", "I", false)
  | 25 => ("NeededListsModel", "gotValue", "J", false)
  | 26 => ("NeededListsModel", "becomes", "I", false)
  | 27 => ("NeededListsModel", "becomesList", "I", false)
  | 28 => ("NeededListsModel", "becomesCell", "I", false)
  | 29 => ("NeededListsModel", "runSize", "I", false)
  | 30 => ("NeededListsModel", "becomesValue", "J", false)
  | _ => ("NeededListsModel", "pile", "[I", true)
abbrev wsX120 : List Cond := u_ws RX12 TX12 32
abbrev cX12_thrown : ByteArray := prog_14_method_2_code
def yX12_thrown : MethodName := ⟨RX12, "thrown", "()I"⟩
def wsX12_thrown : List Cond := .code yX12_thrown cX12_thrown 1 (some .int) :: ([.fieldLink RX12 63 "NeededListsModel" "thrown" "I"] ++ wsX120)
theorem dX12_thrown_0 : decode cX12_thrown 0 = .ok (.aload_n 0, 1) := by decide +kernel
theorem dX12_thrown_1 : decode cX12_thrown 1 = .ok (.getfield 63, 3) := by decide +kernel
theorem dX12_thrown_4 : decode cX12_thrown 4 = .ok (.ireturn, 1) := by decide +kernel
abbrev vwCl : List vw_C := [(RX0, TX0, 9), (RX1, TX1, 9), (RX2, TX2, 9), (RX3, TX3, 7), (RX4, TX4, 7), (RX6, TX6, 2), (RX7, TX7, 7), (RX8, TX8, 9), (RX9, TX9, 8), (RX10, TX10, 9), (RX11, TX11, 9), (RX12, TX12, 32)]
