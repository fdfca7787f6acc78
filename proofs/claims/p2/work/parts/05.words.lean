theorem g_V {W : List Cond} (hg : GoodIn W W) {c1 : Cond} {own : String} {idx : Nat} {C : String} {y : MethodName} (h1 : Cond.methodLink own idx y ∈ W) (h2 : Cond.instanceMethod y ∈ W) (h3 : Cond.selects C y y ∈ W) (h4 : Cond.initialized C ∈ W) (h5 : c1 ∈ W) : GoodIn W (wsV own idx C y (c1 :: W)) := by
  intro w hw
  unfold wsV at hw
  simp only [List.cons_append, List.nil_append, List.mem_cons] at hw
  rcases hw with rfl | rfl | rfl | rfl | rfl | hw
  · exact hg _ h1
  · exact hg _ h2
  · exact hg _ h3
  · exact hg _ h4
  · exact hg _ h5
  · exact hg _ hw
theorem g_S {W : List Cond} (hg : GoodIn W W) {c1 : Cond} {own : String} {idx : Nat} {y : MethodName} (h1 : Cond.methodLink own idx y ∈ W) (h2 : Cond.static y ∈ W) (h3 : Cond.initialized y.cls ∈ W) (h5 : c1 ∈ W) : GoodIn W (va_wsS own idx y (c1 :: W)) := by
  intro w hw
  unfold va_wsS at hw
  simp only [List.cons_append, List.nil_append, List.mem_cons] at hw
  rcases hw with rfl | rfl | rfl | rfl | hw
  · exact hg _ h1
  · exact hg _ h2
  · exact hg _ h3
  · exact hg _ h5
  · exact hg _ hw
def WM0 : List Cond := [.fieldLink RX12 63 "NeededListsModel" "thrown" "I", .fieldLink RX12 66 "NeededListsModel" "lists" "I", .fieldLink RX12 7 "NeededListsModel" "sort" "[I", .fieldLink RX12 13 "NeededListsModel" "first" "[I", .fieldLink RX12 16 "NeededListsModel" "second" "[I", .fieldLink RX12 19 "NeededListsModel" "code" "[I", .fieldLink RX12 22 "NeededListsModel" "number" "[J", .fieldLink RX12 26 "NeededListsModel" "other" "[J", .fieldLink RX12 122 "NeededListsModel" "becomes" "I", .fieldLink RX12 125 "NeededListsModel" "becomesList" "I", .fieldLink RX12 128 "NeededListsModel" "becomesCell" "I", .fieldLink RX12 179 "NeededListsModel" "becomesValue" "J", .fieldLink RX12 200 "NeededListsModel" "spent" "I", .fieldLink RX12 203 "NeededListsModel" "outcome" "I", .fieldLink RX12 206 "NeededListsModel" "error" "I", .fieldLink RX12 69 "NeededListsModel" "many" "I", .fieldLink RX12 44 "NeededListsModel" "rowItem" "[I", .fieldLink RX12 47 "NeededListsModel" "rowValue" "[J", .code yX12_fail cX12_fail 2 (some .int), .methodLink RX12 72 yX12_fail, .instanceMethod yX12_fail, .selects RX12 yX12_fail yX12_fail, .initialized RX12, .code yX12_made cX12_made 9 (some .int), .methodLink RX12 76 yX12_made, .instanceMethod yX12_made, .selects RX12 yX12_made yX12_made, .fieldLink RX12 54 "NeededListsModel" "givenItem" "[I", .fieldLink RX12 57 "NeededListsModel" "givenValue" "[J", .code yX12_isOp cX12_isOp 1 (some .boolean), .methodLink RX12 80 yX12_isOp, .static yX12_isOp, .code yX12_isList cX12_isList 2 (some .boolean), .methodLink RX12 84 yX12_isList, .instanceMethod yX12_isList, .selects RX12 yX12_isList yX12_isList, .code yX12_isCond cX12_isCond 1 (some .boolean), .methodLink RX12 91 yX12_isCond, .static yX12_isCond, .fieldLink RX12 98 "NeededListsModel" "opValue" "J", .code yX12_floor cX12_floor 6 (some .long), .methodLink RX12 102 yX12_floor, .static yX12_floor, .fieldLink RX12 29 "NeededListsModel" "cell" "[I", .code yX12_place cX12_place 2 (some .int), .methodLink RX12 106 yX12_place, .static yX12_place, .fieldLink RX12 110 "NeededListsModel" "got" "I", .fieldLink RX12 113 "NeededListsModel" "gotAt" "I", .fieldLink RX12 38 "NeededListsModel" "shareList" "[I", .fieldLink RX12 41 "NeededListsModel" "shareCell" "[I", .fieldLink RX12 50 "NeededListsModel" "purse" "I", .code yX12_failed cX12_failed 2 (some .long), .methodLink RX12 216 yX12_failed, .instanceMethod yX12_failed, .selects RX12 yX12_failed yX12_failed, .fieldLink RX12 119 "NeededListsModel" "gotValue" "J", .code yX12_out cX12_out 1 (some .long), .methodLink RX12 212 yX12_out, .instanceMethod yX12_out, .selects RX12 yX12_out yX12_out, .code yX12_some cX12_some 4 (some .int), .methodLink RX12 87 yX12_some, .instanceMethod yX12_some, .selects RX12 yX12_some yX12_some, .code yX12_by cX12_by 6 (some .int), .methodLink RX12 94 yX12_by, .instanceMethod yX12_by, .selects RX12 yX12_by yX12_by, .code yX12_ownPlace cX12_ownPlace 4 (some .int), .methodLink RX12 116 yX12_ownPlace, .instanceMethod yX12_ownPlace, .selects RX12 yX12_ownPlace yX12_ownPlace, .fieldLink RX12 32 "NeededListsModel" "item" "[I", .fieldLink RX12 35 "NeededListsModel" "value" "[J", .code yX12_needCell cX12_needCell 4 (some .int), .methodLink RX12 131 yX12_needCell, .instanceMethod yX12_needCell, .selects RX12 yX12_needCell yX12_needCell, .code yX12_as cX12_as 2 (some .int), .methodLink RX12 137 yX12_as, .instanceMethod yX12_as, .selects RX12 yX12_as yX12_as, .code yX12_shares cX12_shares 3 (some .int), .methodLink RX12 134 yX12_shares, .instanceMethod yX12_shares, .selects RX12 yX12_shares yX12_shares, .code yX12_meets cX12_meets 5 (some .boolean), .methodLink RX12 172 yX12_meets, .static yX12_meets, .code yX12_like cX12_like 5 (some .int), .methodLink RX12 140 yX12_like, .instanceMethod yX12_like, .selects RX12 yX12_like yX12_like, .code yX12_needItem cX12_needItem 4 (some .int), .methodLink RX12 165 yX12_needItem, .instanceMethod yX12_needItem, .selects RX12 yX12_needItem yX12_needItem, .code yX12_isRight cX12_isRight 7 (some .boolean), .methodLink RX12 168 yX12_isRight, .instanceMethod yX12_isRight, .selects RX12 yX12_isRight yX12_isRight, .fieldLink RX12 176 "NeededListsModel" "runSize" "I", .code yX12_op cX12_op 8 (some .int), .methodLink RX12 190 yX12_op, .instanceMethod yX12_op, .selects RX12 yX12_op yX12_op, .code yX12_lookAtBoth cX12_lookAtBoth 5 (some .int), .methodLink RX12 144 yX12_lookAtBoth, .instanceMethod yX12_lookAtBoth, .selects RX12 yX12_lookAtBoth yX12_lookAtBoth, .code yX12_lookOn cX12_lookOn 6 (some .int), .methodLink RX12 147 yX12_lookOn, .instanceMethod yX12_lookOn, .selects RX12 yX12_lookOn yX12_lookOn, .code yX12_lookAtDuring cX12_lookAtDuring 5 (some .int), .methodLink RX12 150 yX12_lookAtDuring, .instanceMethod yX12_lookAtDuring, .selects RX12 yX12_lookAtDuring yX12_lookAtDuring, .code yX12_lookAtJoin cX12_lookAtJoin 5 (some .int), .methodLink RX12 153 yX12_lookAtJoin, .instanceMethod yX12_lookAtJoin, .selects RX12 yX12_lookAtJoin yX12_lookAtJoin, .code yX12_lookAtRound cX12_lookAtRound 4 (some .int), .methodLink RX12 156 yX12_lookAtRound, .instanceMethod yX12_lookAtRound, .selects RX12 yX12_lookAtRound yX12_lookAtRound, .code yX12_lookAtAll cX12_lookAtAll 13 (some .int), .methodLink RX12 162 yX12_lookAtAll, .instanceMethod yX12_lookAtAll, .selects RX12 yX12_lookAtAll yX12_lookAtAll, .code yX12_lookAtRun cX12_lookAtRun 9 (some .int), .methodLink RX12 159 yX12_lookAtRun, .instanceMethod yX12_lookAtRun, .selects RX12 yX12_lookAtRun yX12_lookAtRun, .code yX12_ofItems cX12_ofItems 13 (some .int), .methodLink RX12 186 yX12_ofItems, .instanceMethod yX12_ofItems, .selects RX12 yX12_ofItems yX12_ofItems, .code yX12_is cX12_is 3 (some .int), .methodLink RX12 182 yX12_is, .instanceMethod yX12_is, .selects RX12 yX12_is yX12_is, .fieldLink RX12 60 "NeededListsModel" "pile" "[I", .code yX12_lookAtCell cX12_lookAtCell 4 (some .int), .methodLink RX12 197 yX12_lookAtCell, .instanceMethod yX12_lookAtCell, .selects RX12 yX12_lookAtCell yX12_lookAtCell, .code yX12_lookAtItem cX12_lookAtItem 5 (some .int), .methodLink RX12 194 yX12_lookAtItem, .instanceMethod yX12_lookAtItem, .selects RX12 yX12_lookAtItem yX12_lookAtItem, .code yX12_meet cX12_meet 6 (some .boolean), .methodLink RX12 209 yX12_meet, .instanceMethod yX12_meet, .selects RX12 yX12_meet yX12_meet, .code yX12_begin cX12_begin 1 none, .methodLink RX12 220 yX12_begin, .instanceMethod yX12_begin, .selects RX12 yX12_begin yX12_begin, .code yX12_work cX12_work 4 (some .int), .methodLink RX12 229 yX12_work, .instanceMethod yX12_work, .selects RX12 yX12_work yX12_work, .code yX12_told cX12_told 2 (some .long), .methodLink RX12 226 yX12_told, .instanceMethod yX12_told, .selects RX12 yX12_told yX12_told, .code yX12_reach cX12_reach 3 (some .int), .methodLink RX12 223 yX12_reach, .instanceMethod yX12_reach, .selects RX12 yX12_reach yX12_reach, .constantLong RX12 232 (-1)]
def WM : List Cond := WM0 ++ wsX120
theorem mwM_0 : (.fieldLink RX12 63 "NeededListsModel" "thrown" "I" : Cond) ∈ WM := List.mem_of_getElem? (i := 0) rfl
theorem mwM_1 : (.fieldLink RX12 66 "NeededListsModel" "lists" "I" : Cond) ∈ WM := List.mem_of_getElem? (i := 1) rfl
theorem mwM_2 : (.fieldLink RX12 7 "NeededListsModel" "sort" "[I" : Cond) ∈ WM := List.mem_of_getElem? (i := 2) rfl
theorem mwM_3 : (.fieldLink RX12 13 "NeededListsModel" "first" "[I" : Cond) ∈ WM := List.mem_of_getElem? (i := 3) rfl
theorem mwM_4 : (.fieldLink RX12 16 "NeededListsModel" "second" "[I" : Cond) ∈ WM := List.mem_of_getElem? (i := 4) rfl
theorem mwM_5 : (.fieldLink RX12 19 "NeededListsModel" "code" "[I" : Cond) ∈ WM := List.mem_of_getElem? (i := 5) rfl
theorem mwM_6 : (.fieldLink RX12 22 "NeededListsModel" "number" "[J" : Cond) ∈ WM := List.mem_of_getElem? (i := 6) rfl
theorem mwM_7 : (.fieldLink RX12 26 "NeededListsModel" "other" "[J" : Cond) ∈ WM := List.mem_of_getElem? (i := 7) rfl
theorem mwM_8 : (.fieldLink RX12 122 "NeededListsModel" "becomes" "I" : Cond) ∈ WM := List.mem_of_getElem? (i := 8) rfl
theorem mwM_9 : (.fieldLink RX12 125 "NeededListsModel" "becomesList" "I" : Cond) ∈ WM := List.mem_of_getElem? (i := 9) rfl
theorem mwM_10 : (.fieldLink RX12 128 "NeededListsModel" "becomesCell" "I" : Cond) ∈ WM := List.mem_of_getElem? (i := 10) rfl
theorem mwM_11 : (.fieldLink RX12 179 "NeededListsModel" "becomesValue" "J" : Cond) ∈ WM := List.mem_of_getElem? (i := 11) rfl
theorem mwM_12 : (.fieldLink RX12 200 "NeededListsModel" "spent" "I" : Cond) ∈ WM := List.mem_of_getElem? (i := 12) rfl
theorem mwM_13 : (.fieldLink RX12 203 "NeededListsModel" "outcome" "I" : Cond) ∈ WM := List.mem_of_getElem? (i := 13) rfl
theorem mwM_14 : (.fieldLink RX12 206 "NeededListsModel" "error" "I" : Cond) ∈ WM := List.mem_of_getElem? (i := 14) rfl
theorem mwM_15 : (.fieldLink RX12 69 "NeededListsModel" "many" "I" : Cond) ∈ WM := List.mem_of_getElem? (i := 15) rfl
theorem mwM_16 : (.fieldLink RX12 44 "NeededListsModel" "rowItem" "[I" : Cond) ∈ WM := List.mem_of_getElem? (i := 16) rfl
theorem mwM_17 : (.fieldLink RX12 47 "NeededListsModel" "rowValue" "[J" : Cond) ∈ WM := List.mem_of_getElem? (i := 17) rfl
theorem mwM_18 : (.code yX12_fail cX12_fail 2 (some .int) : Cond) ∈ WM := List.mem_of_getElem? (i := 18) rfl
theorem mwM_19 : (.methodLink RX12 72 yX12_fail : Cond) ∈ WM := List.mem_of_getElem? (i := 19) rfl
theorem mwM_20 : (.instanceMethod yX12_fail : Cond) ∈ WM := List.mem_of_getElem? (i := 20) rfl
theorem mwM_21 : (.selects RX12 yX12_fail yX12_fail : Cond) ∈ WM := List.mem_of_getElem? (i := 21) rfl
theorem mwM_22 : (.initialized RX12 : Cond) ∈ WM := List.mem_of_getElem? (i := 22) rfl
theorem mwM_23 : (.code yX12_made cX12_made 9 (some .int) : Cond) ∈ WM := List.mem_of_getElem? (i := 23) rfl
theorem mwM_24 : (.methodLink RX12 76 yX12_made : Cond) ∈ WM := List.mem_of_getElem? (i := 24) rfl
theorem mwM_25 : (.instanceMethod yX12_made : Cond) ∈ WM := List.mem_of_getElem? (i := 25) rfl
theorem mwM_26 : (.selects RX12 yX12_made yX12_made : Cond) ∈ WM := List.mem_of_getElem? (i := 26) rfl
theorem mwM_27 : (.fieldLink RX12 54 "NeededListsModel" "givenItem" "[I" : Cond) ∈ WM := List.mem_of_getElem? (i := 27) rfl
theorem mwM_28 : (.fieldLink RX12 57 "NeededListsModel" "givenValue" "[J" : Cond) ∈ WM := List.mem_of_getElem? (i := 28) rfl
theorem mwM_29 : (.code yX12_isOp cX12_isOp 1 (some .boolean) : Cond) ∈ WM := List.mem_of_getElem? (i := 29) rfl
theorem mwM_30 : (.methodLink RX12 80 yX12_isOp : Cond) ∈ WM := List.mem_of_getElem? (i := 30) rfl
theorem mwM_31 : (.static yX12_isOp : Cond) ∈ WM := List.mem_of_getElem? (i := 31) rfl
theorem mwM_32 : (.code yX12_isList cX12_isList 2 (some .boolean) : Cond) ∈ WM := List.mem_of_getElem? (i := 32) rfl
theorem mwM_33 : (.methodLink RX12 84 yX12_isList : Cond) ∈ WM := List.mem_of_getElem? (i := 33) rfl
theorem mwM_34 : (.instanceMethod yX12_isList : Cond) ∈ WM := List.mem_of_getElem? (i := 34) rfl
theorem mwM_35 : (.selects RX12 yX12_isList yX12_isList : Cond) ∈ WM := List.mem_of_getElem? (i := 35) rfl
theorem mwM_36 : (.code yX12_isCond cX12_isCond 1 (some .boolean) : Cond) ∈ WM := List.mem_of_getElem? (i := 36) rfl
theorem mwM_37 : (.methodLink RX12 91 yX12_isCond : Cond) ∈ WM := List.mem_of_getElem? (i := 37) rfl
theorem mwM_38 : (.static yX12_isCond : Cond) ∈ WM := List.mem_of_getElem? (i := 38) rfl
theorem mwM_39 : (.fieldLink RX12 98 "NeededListsModel" "opValue" "J" : Cond) ∈ WM := List.mem_of_getElem? (i := 39) rfl
theorem mwM_40 : (.code yX12_floor cX12_floor 6 (some .long) : Cond) ∈ WM := List.mem_of_getElem? (i := 40) rfl
theorem mwM_41 : (.methodLink RX12 102 yX12_floor : Cond) ∈ WM := List.mem_of_getElem? (i := 41) rfl
theorem mwM_42 : (.static yX12_floor : Cond) ∈ WM := List.mem_of_getElem? (i := 42) rfl
theorem mwM_43 : (.fieldLink RX12 29 "NeededListsModel" "cell" "[I" : Cond) ∈ WM := List.mem_of_getElem? (i := 43) rfl
theorem mwM_44 : (.code yX12_place cX12_place 2 (some .int) : Cond) ∈ WM := List.mem_of_getElem? (i := 44) rfl
theorem mwM_45 : (.methodLink RX12 106 yX12_place : Cond) ∈ WM := List.mem_of_getElem? (i := 45) rfl
theorem mwM_46 : (.static yX12_place : Cond) ∈ WM := List.mem_of_getElem? (i := 46) rfl
theorem mwM_47 : (.fieldLink RX12 110 "NeededListsModel" "got" "I" : Cond) ∈ WM := List.mem_of_getElem? (i := 47) rfl
theorem mwM_48 : (.fieldLink RX12 113 "NeededListsModel" "gotAt" "I" : Cond) ∈ WM := List.mem_of_getElem? (i := 48) rfl
theorem mwM_49 : (.fieldLink RX12 38 "NeededListsModel" "shareList" "[I" : Cond) ∈ WM := List.mem_of_getElem? (i := 49) rfl
theorem mwM_50 : (.fieldLink RX12 41 "NeededListsModel" "shareCell" "[I" : Cond) ∈ WM := List.mem_of_getElem? (i := 50) rfl
theorem mwM_51 : (.fieldLink RX12 50 "NeededListsModel" "purse" "I" : Cond) ∈ WM := List.mem_of_getElem? (i := 51) rfl
theorem mwM_52 : (.code yX12_failed cX12_failed 2 (some .long) : Cond) ∈ WM := List.mem_of_getElem? (i := 52) rfl
theorem mwM_53 : (.methodLink RX12 216 yX12_failed : Cond) ∈ WM := List.mem_of_getElem? (i := 53) rfl
theorem mwM_54 : (.instanceMethod yX12_failed : Cond) ∈ WM := List.mem_of_getElem? (i := 54) rfl
theorem mwM_55 : (.selects RX12 yX12_failed yX12_failed : Cond) ∈ WM := List.mem_of_getElem? (i := 55) rfl
theorem mwM_56 : (.fieldLink RX12 119 "NeededListsModel" "gotValue" "J" : Cond) ∈ WM := List.mem_of_getElem? (i := 56) rfl
theorem mwM_57 : (.code yX12_out cX12_out 1 (some .long) : Cond) ∈ WM := List.mem_of_getElem? (i := 57) rfl
theorem mwM_58 : (.methodLink RX12 212 yX12_out : Cond) ∈ WM := List.mem_of_getElem? (i := 58) rfl
theorem mwM_59 : (.instanceMethod yX12_out : Cond) ∈ WM := List.mem_of_getElem? (i := 59) rfl
theorem mwM_60 : (.selects RX12 yX12_out yX12_out : Cond) ∈ WM := List.mem_of_getElem? (i := 60) rfl
theorem mwM_61 : (.code yX12_some cX12_some 4 (some .int) : Cond) ∈ WM := List.mem_of_getElem? (i := 61) rfl
theorem mwM_62 : (.methodLink RX12 87 yX12_some : Cond) ∈ WM := List.mem_of_getElem? (i := 62) rfl
theorem mwM_63 : (.instanceMethod yX12_some : Cond) ∈ WM := List.mem_of_getElem? (i := 63) rfl
theorem mwM_64 : (.selects RX12 yX12_some yX12_some : Cond) ∈ WM := List.mem_of_getElem? (i := 64) rfl
theorem mwM_65 : (.code yX12_by cX12_by 6 (some .int) : Cond) ∈ WM := List.mem_of_getElem? (i := 65) rfl
theorem mwM_66 : (.methodLink RX12 94 yX12_by : Cond) ∈ WM := List.mem_of_getElem? (i := 66) rfl
theorem mwM_67 : (.instanceMethod yX12_by : Cond) ∈ WM := List.mem_of_getElem? (i := 67) rfl
theorem mwM_68 : (.selects RX12 yX12_by yX12_by : Cond) ∈ WM := List.mem_of_getElem? (i := 68) rfl
theorem mwM_69 : (.code yX12_ownPlace cX12_ownPlace 4 (some .int) : Cond) ∈ WM := List.mem_of_getElem? (i := 69) rfl
theorem mwM_70 : (.methodLink RX12 116 yX12_ownPlace : Cond) ∈ WM := List.mem_of_getElem? (i := 70) rfl
theorem mwM_71 : (.instanceMethod yX12_ownPlace : Cond) ∈ WM := List.mem_of_getElem? (i := 71) rfl
theorem mwM_72 : (.selects RX12 yX12_ownPlace yX12_ownPlace : Cond) ∈ WM := List.mem_of_getElem? (i := 72) rfl
theorem mwM_73 : (.fieldLink RX12 32 "NeededListsModel" "item" "[I" : Cond) ∈ WM := List.mem_of_getElem? (i := 73) rfl
theorem mwM_74 : (.fieldLink RX12 35 "NeededListsModel" "value" "[J" : Cond) ∈ WM := List.mem_of_getElem? (i := 74) rfl
theorem mwM_75 : (.code yX12_needCell cX12_needCell 4 (some .int) : Cond) ∈ WM := List.mem_of_getElem? (i := 75) rfl
theorem mwM_76 : (.methodLink RX12 131 yX12_needCell : Cond) ∈ WM := List.mem_of_getElem? (i := 76) rfl
theorem mwM_77 : (.instanceMethod yX12_needCell : Cond) ∈ WM := List.mem_of_getElem? (i := 77) rfl
theorem mwM_78 : (.selects RX12 yX12_needCell yX12_needCell : Cond) ∈ WM := List.mem_of_getElem? (i := 78) rfl
theorem mwM_79 : (.code yX12_as cX12_as 2 (some .int) : Cond) ∈ WM := List.mem_of_getElem? (i := 79) rfl
theorem mwM_80 : (.methodLink RX12 137 yX12_as : Cond) ∈ WM := List.mem_of_getElem? (i := 80) rfl
theorem mwM_81 : (.instanceMethod yX12_as : Cond) ∈ WM := List.mem_of_getElem? (i := 81) rfl
theorem mwM_82 : (.selects RX12 yX12_as yX12_as : Cond) ∈ WM := List.mem_of_getElem? (i := 82) rfl
theorem mwM_83 : (.code yX12_shares cX12_shares 3 (some .int) : Cond) ∈ WM := List.mem_of_getElem? (i := 83) rfl
theorem mwM_84 : (.methodLink RX12 134 yX12_shares : Cond) ∈ WM := List.mem_of_getElem? (i := 84) rfl
theorem mwM_85 : (.instanceMethod yX12_shares : Cond) ∈ WM := List.mem_of_getElem? (i := 85) rfl
theorem mwM_86 : (.selects RX12 yX12_shares yX12_shares : Cond) ∈ WM := List.mem_of_getElem? (i := 86) rfl
theorem mwM_87 : (.code yX12_meets cX12_meets 5 (some .boolean) : Cond) ∈ WM := List.mem_of_getElem? (i := 87) rfl
theorem mwM_88 : (.methodLink RX12 172 yX12_meets : Cond) ∈ WM := List.mem_of_getElem? (i := 88) rfl
theorem mwM_89 : (.static yX12_meets : Cond) ∈ WM := List.mem_of_getElem? (i := 89) rfl
theorem mwM_90 : (.code yX12_like cX12_like 5 (some .int) : Cond) ∈ WM := List.mem_of_getElem? (i := 90) rfl
theorem mwM_91 : (.methodLink RX12 140 yX12_like : Cond) ∈ WM := List.mem_of_getElem? (i := 91) rfl
theorem mwM_92 : (.instanceMethod yX12_like : Cond) ∈ WM := List.mem_of_getElem? (i := 92) rfl
theorem mwM_93 : (.selects RX12 yX12_like yX12_like : Cond) ∈ WM := List.mem_of_getElem? (i := 93) rfl
theorem mwM_94 : (.code yX12_needItem cX12_needItem 4 (some .int) : Cond) ∈ WM := List.mem_of_getElem? (i := 94) rfl
theorem mwM_95 : (.methodLink RX12 165 yX12_needItem : Cond) ∈ WM := List.mem_of_getElem? (i := 95) rfl
theorem mwM_96 : (.instanceMethod yX12_needItem : Cond) ∈ WM := List.mem_of_getElem? (i := 96) rfl
theorem mwM_97 : (.selects RX12 yX12_needItem yX12_needItem : Cond) ∈ WM := List.mem_of_getElem? (i := 97) rfl
theorem mwM_98 : (.code yX12_isRight cX12_isRight 7 (some .boolean) : Cond) ∈ WM := List.mem_of_getElem? (i := 98) rfl
theorem mwM_99 : (.methodLink RX12 168 yX12_isRight : Cond) ∈ WM := List.mem_of_getElem? (i := 99) rfl
theorem mwM_100 : (.instanceMethod yX12_isRight : Cond) ∈ WM := List.mem_of_getElem? (i := 100) rfl
theorem mwM_101 : (.selects RX12 yX12_isRight yX12_isRight : Cond) ∈ WM := List.mem_of_getElem? (i := 101) rfl
theorem mwM_102 : (.fieldLink RX12 176 "NeededListsModel" "runSize" "I" : Cond) ∈ WM := List.mem_of_getElem? (i := 102) rfl
theorem mwM_103 : (.code yX12_op cX12_op 8 (some .int) : Cond) ∈ WM := List.mem_of_getElem? (i := 103) rfl
theorem mwM_104 : (.methodLink RX12 190 yX12_op : Cond) ∈ WM := List.mem_of_getElem? (i := 104) rfl
theorem mwM_105 : (.instanceMethod yX12_op : Cond) ∈ WM := List.mem_of_getElem? (i := 105) rfl
theorem mwM_106 : (.selects RX12 yX12_op yX12_op : Cond) ∈ WM := List.mem_of_getElem? (i := 106) rfl
theorem mwM_107 : (.code yX12_lookAtBoth cX12_lookAtBoth 5 (some .int) : Cond) ∈ WM := List.mem_of_getElem? (i := 107) rfl
theorem mwM_108 : (.methodLink RX12 144 yX12_lookAtBoth : Cond) ∈ WM := List.mem_of_getElem? (i := 108) rfl
theorem mwM_109 : (.instanceMethod yX12_lookAtBoth : Cond) ∈ WM := List.mem_of_getElem? (i := 109) rfl
theorem mwM_110 : (.selects RX12 yX12_lookAtBoth yX12_lookAtBoth : Cond) ∈ WM := List.mem_of_getElem? (i := 110) rfl
theorem mwM_111 : (.code yX12_lookOn cX12_lookOn 6 (some .int) : Cond) ∈ WM := List.mem_of_getElem? (i := 111) rfl
theorem mwM_112 : (.methodLink RX12 147 yX12_lookOn : Cond) ∈ WM := List.mem_of_getElem? (i := 112) rfl
theorem mwM_113 : (.instanceMethod yX12_lookOn : Cond) ∈ WM := List.mem_of_getElem? (i := 113) rfl
theorem mwM_114 : (.selects RX12 yX12_lookOn yX12_lookOn : Cond) ∈ WM := List.mem_of_getElem? (i := 114) rfl
theorem mwM_115 : (.code yX12_lookAtDuring cX12_lookAtDuring 5 (some .int) : Cond) ∈ WM := List.mem_of_getElem? (i := 115) rfl
theorem mwM_116 : (.methodLink RX12 150 yX12_lookAtDuring : Cond) ∈ WM := List.mem_of_getElem? (i := 116) rfl
theorem mwM_117 : (.instanceMethod yX12_lookAtDuring : Cond) ∈ WM := List.mem_of_getElem? (i := 117) rfl
theorem mwM_118 : (.selects RX12 yX12_lookAtDuring yX12_lookAtDuring : Cond) ∈ WM := List.mem_of_getElem? (i := 118) rfl
theorem mwM_119 : (.code yX12_lookAtJoin cX12_lookAtJoin 5 (some .int) : Cond) ∈ WM := List.mem_of_getElem? (i := 119) rfl
theorem mwM_120 : (.methodLink RX12 153 yX12_lookAtJoin : Cond) ∈ WM := List.mem_of_getElem? (i := 120) rfl
theorem mwM_121 : (.instanceMethod yX12_lookAtJoin : Cond) ∈ WM := List.mem_of_getElem? (i := 121) rfl
theorem mwM_122 : (.selects RX12 yX12_lookAtJoin yX12_lookAtJoin : Cond) ∈ WM := List.mem_of_getElem? (i := 122) rfl
theorem mwM_123 : (.code yX12_lookAtRound cX12_lookAtRound 4 (some .int) : Cond) ∈ WM := List.mem_of_getElem? (i := 123) rfl
theorem mwM_124 : (.methodLink RX12 156 yX12_lookAtRound : Cond) ∈ WM := List.mem_of_getElem? (i := 124) rfl
theorem mwM_125 : (.instanceMethod yX12_lookAtRound : Cond) ∈ WM := List.mem_of_getElem? (i := 125) rfl
theorem mwM_126 : (.selects RX12 yX12_lookAtRound yX12_lookAtRound : Cond) ∈ WM := List.mem_of_getElem? (i := 126) rfl
theorem mwM_127 : (.code yX12_lookAtAll cX12_lookAtAll 13 (some .int) : Cond) ∈ WM := List.mem_of_getElem? (i := 127) rfl
theorem mwM_128 : (.methodLink RX12 162 yX12_lookAtAll : Cond) ∈ WM := List.mem_of_getElem? (i := 128) rfl
theorem mwM_129 : (.instanceMethod yX12_lookAtAll : Cond) ∈ WM := List.mem_of_getElem? (i := 129) rfl
theorem mwM_130 : (.selects RX12 yX12_lookAtAll yX12_lookAtAll : Cond) ∈ WM := List.mem_of_getElem? (i := 130) rfl
theorem mwM_131 : (.code yX12_lookAtRun cX12_lookAtRun 9 (some .int) : Cond) ∈ WM := List.mem_of_getElem? (i := 131) rfl
theorem mwM_132 : (.methodLink RX12 159 yX12_lookAtRun : Cond) ∈ WM := List.mem_of_getElem? (i := 132) rfl
theorem mwM_133 : (.instanceMethod yX12_lookAtRun : Cond) ∈ WM := List.mem_of_getElem? (i := 133) rfl
theorem mwM_134 : (.selects RX12 yX12_lookAtRun yX12_lookAtRun : Cond) ∈ WM := List.mem_of_getElem? (i := 134) rfl
theorem mwM_135 : (.code yX12_ofItems cX12_ofItems 13 (some .int) : Cond) ∈ WM := List.mem_of_getElem? (i := 135) rfl
theorem mwM_136 : (.methodLink RX12 186 yX12_ofItems : Cond) ∈ WM := List.mem_of_getElem? (i := 136) rfl
theorem mwM_137 : (.instanceMethod yX12_ofItems : Cond) ∈ WM := List.mem_of_getElem? (i := 137) rfl
theorem mwM_138 : (.selects RX12 yX12_ofItems yX12_ofItems : Cond) ∈ WM := List.mem_of_getElem? (i := 138) rfl
theorem mwM_139 : (.code yX12_is cX12_is 3 (some .int) : Cond) ∈ WM := List.mem_of_getElem? (i := 139) rfl
theorem mwM_140 : (.methodLink RX12 182 yX12_is : Cond) ∈ WM := List.mem_of_getElem? (i := 140) rfl
theorem mwM_141 : (.instanceMethod yX12_is : Cond) ∈ WM := List.mem_of_getElem? (i := 141) rfl
theorem mwM_142 : (.selects RX12 yX12_is yX12_is : Cond) ∈ WM := List.mem_of_getElem? (i := 142) rfl
theorem mwM_143 : (.fieldLink RX12 60 "NeededListsModel" "pile" "[I" : Cond) ∈ WM := List.mem_of_getElem? (i := 143) rfl
theorem mwM_144 : (.code yX12_lookAtCell cX12_lookAtCell 4 (some .int) : Cond) ∈ WM := List.mem_of_getElem? (i := 144) rfl
theorem mwM_145 : (.methodLink RX12 197 yX12_lookAtCell : Cond) ∈ WM := List.mem_of_getElem? (i := 145) rfl
theorem mwM_146 : (.instanceMethod yX12_lookAtCell : Cond) ∈ WM := List.mem_of_getElem? (i := 146) rfl
theorem mwM_147 : (.selects RX12 yX12_lookAtCell yX12_lookAtCell : Cond) ∈ WM := List.mem_of_getElem? (i := 147) rfl
theorem mwM_148 : (.code yX12_lookAtItem cX12_lookAtItem 5 (some .int) : Cond) ∈ WM := List.mem_of_getElem? (i := 148) rfl
theorem mwM_149 : (.methodLink RX12 194 yX12_lookAtItem : Cond) ∈ WM := List.mem_of_getElem? (i := 149) rfl
theorem mwM_150 : (.instanceMethod yX12_lookAtItem : Cond) ∈ WM := List.mem_of_getElem? (i := 150) rfl
theorem mwM_151 : (.selects RX12 yX12_lookAtItem yX12_lookAtItem : Cond) ∈ WM := List.mem_of_getElem? (i := 151) rfl
theorem mwM_152 : (.code yX12_meet cX12_meet 6 (some .boolean) : Cond) ∈ WM := List.mem_of_getElem? (i := 152) rfl
theorem mwM_153 : (.methodLink RX12 209 yX12_meet : Cond) ∈ WM := List.mem_of_getElem? (i := 153) rfl
theorem mwM_154 : (.instanceMethod yX12_meet : Cond) ∈ WM := List.mem_of_getElem? (i := 154) rfl
theorem mwM_155 : (.selects RX12 yX12_meet yX12_meet : Cond) ∈ WM := List.mem_of_getElem? (i := 155) rfl
theorem mwM_156 : (.code yX12_begin cX12_begin 1 none : Cond) ∈ WM := List.mem_of_getElem? (i := 156) rfl
theorem mwM_157 : (.methodLink RX12 220 yX12_begin : Cond) ∈ WM := List.mem_of_getElem? (i := 157) rfl
theorem mwM_158 : (.instanceMethod yX12_begin : Cond) ∈ WM := List.mem_of_getElem? (i := 158) rfl
theorem mwM_159 : (.selects RX12 yX12_begin yX12_begin : Cond) ∈ WM := List.mem_of_getElem? (i := 159) rfl
theorem mwM_160 : (.code yX12_work cX12_work 4 (some .int) : Cond) ∈ WM := List.mem_of_getElem? (i := 160) rfl
theorem mwM_161 : (.methodLink RX12 229 yX12_work : Cond) ∈ WM := List.mem_of_getElem? (i := 161) rfl
theorem mwM_162 : (.instanceMethod yX12_work : Cond) ∈ WM := List.mem_of_getElem? (i := 162) rfl
theorem mwM_163 : (.selects RX12 yX12_work yX12_work : Cond) ∈ WM := List.mem_of_getElem? (i := 163) rfl
theorem mwM_164 : (.code yX12_told cX12_told 2 (some .long) : Cond) ∈ WM := List.mem_of_getElem? (i := 164) rfl
theorem mwM_165 : (.methodLink RX12 226 yX12_told : Cond) ∈ WM := List.mem_of_getElem? (i := 165) rfl
theorem mwM_166 : (.instanceMethod yX12_told : Cond) ∈ WM := List.mem_of_getElem? (i := 166) rfl
theorem mwM_167 : (.selects RX12 yX12_told yX12_told : Cond) ∈ WM := List.mem_of_getElem? (i := 167) rfl
theorem mwM_168 : (.code yX12_reach cX12_reach 3 (some .int) : Cond) ∈ WM := List.mem_of_getElem? (i := 168) rfl
theorem mwM_169 : (.methodLink RX12 223 yX12_reach : Cond) ∈ WM := List.mem_of_getElem? (i := 169) rfl
theorem mwM_170 : (.instanceMethod yX12_reach : Cond) ∈ WM := List.mem_of_getElem? (i := 170) rfl
theorem mwM_171 : (.selects RX12 yX12_reach yX12_reach : Cond) ∈ WM := List.mem_of_getElem? (i := 171) rfl
theorem mwM_172 : (.constantLong RX12 232 (-1) : Cond) ∈ WM := List.mem_of_getElem? (i := 172) rfl
theorem gdM : GoodIn WM WM := goodIn_sub (fun w h => h) (by decide +kernel)
theorem hinM : ∀ w ∈ u_ws RX12 TX12 32, w ∈ WM := fun w h => List.mem_append_right _ h
