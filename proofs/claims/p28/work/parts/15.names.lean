abbrev cX12_needItem : ByteArray := prog_14_method_31_code
def yX12_needItem : MethodName := ⟨RX12, "needItem", "(II)I"⟩
def wsX12_needItem : List Cond := .code yX12_needItem cX12_needItem 4 (some .int) :: ([.fieldLink RX12 32 "NeededListsModel" "item" "[I", .fieldLink RX12 110 "NeededListsModel" "got" "I", .fieldLink RX12 35 "NeededListsModel" "value" "[J", .fieldLink RX12 119 "NeededListsModel" "gotValue" "J", .methodLink RX12 116 yX12_ownPlace, .instanceMethod yX12_ownPlace, .selects RX12 yX12_ownPlace yX12_ownPlace, .initialized RX12, .code yX12_ownPlace cX12_ownPlace 4 (some .int), .fieldLink RX12 38 "NeededListsModel" "shareList" "[I", .fieldLink RX12 41 "NeededListsModel" "shareCell" "[I", .methodLink RX12 106 yX12_place, .static yX12_place, .code yX12_place cX12_place 2 (some .int)] ++ wsX120)
set_option maxRecDepth 20000 in
theorem ggX12_needItem_X12_ownPlace : GoodIn wsX12_needItem wsX12_ownPlace := goodIn_r _ [9, 10, 11, 12, 13, 8, 14, 15, 16, 17, 18, 19, 20, 21, 22, 23, 24, 25, 26, 27, 28, 29, 30, 31, 32, 33, 34, 35, 36, 37, 38, 39, 40, 41, 42, 43, 44, 45, 46] (by decide +kernel) (by decide +kernel)
set_option maxRecDepth 20000 in
theorem gX12_needItem_X12_ownPlace : GoodIn wsX12_needItem (wsV RX12 116 RX12 yX12_ownPlace wsX12_ownPlace) := goodIn_app (goodIn_of _ (by decide +kernel)) ggX12_needItem_X12_ownPlace
theorem dX12_needItem_0 : decode cX12_needItem 0 = .ok (.aload_n 0, 1) := by decide +kernel
theorem dX12_needItem_1 : decode cX12_needItem 1 = .ok (.iload_n 1, 1) := by decide +kernel
theorem dX12_needItem_2 : decode cX12_needItem 2 = .ok (.iload_n 2, 1) := by decide +kernel
theorem dX12_needItem_3 : decode cX12_needItem 3 = .ok (.invokevirtual 116, 3) := by decide +kernel
theorem dX12_needItem_6 : decode cX12_needItem 6 = .ok (.istore_n 3, 1) := by decide +kernel
theorem dX12_needItem_7 : decode cX12_needItem 7 = .ok (.aload_n 0, 1) := by decide +kernel
theorem dX12_needItem_8 : decode cX12_needItem 8 = .ok (.aload_n 0, 1) := by decide +kernel
theorem dX12_needItem_9 : decode cX12_needItem 9 = .ok (.getfield 32, 3) := by decide +kernel
theorem dX12_needItem_12 : decode cX12_needItem 12 = .ok (.iload_n 3, 1) := by decide +kernel
theorem dX12_needItem_13 : decode cX12_needItem 13 = .ok (.iaload, 1) := by decide +kernel
theorem dX12_needItem_14 : decode cX12_needItem 14 = .ok (.putfield 110, 3) := by decide +kernel
theorem dX12_needItem_17 : decode cX12_needItem 17 = .ok (.aload_n 0, 1) := by decide +kernel
theorem dX12_needItem_18 : decode cX12_needItem 18 = .ok (.aload_n 0, 1) := by decide +kernel
theorem dX12_needItem_19 : decode cX12_needItem 19 = .ok (.getfield 35, 3) := by decide +kernel
theorem dX12_needItem_22 : decode cX12_needItem 22 = .ok (.iload_n 3, 1) := by decide +kernel
theorem dX12_needItem_23 : decode cX12_needItem 23 = .ok (.laload, 1) := by decide +kernel
theorem dX12_needItem_24 : decode cX12_needItem 24 = .ok (.putfield 119, 3) := by decide +kernel
theorem dX12_needItem_27 : decode cX12_needItem 27 = .ok (.aload_n 0, 1) := by decide +kernel
theorem dX12_needItem_28 : decode cX12_needItem 28 = .ok (.getfield 110, 3) := by decide +kernel
theorem dX12_needItem_31 : decode cX12_needItem 31 = .ok (.ifCond .ne 11, 3) := by decide +kernel
theorem dX12_needItem_34 : decode cX12_needItem 34 = .ok (.iconst 2, 1) := by decide +kernel
theorem dX12_needItem_35 : decode cX12_needItem 35 = .ok (.iload_n 3, 1) := by decide +kernel
theorem dX12_needItem_36 : decode cX12_needItem 36 = .ok (.imul, 1) := by decide +kernel
theorem dX12_needItem_37 : decode cX12_needItem 37 = .ok (.iconst 1, 1) := by decide +kernel
theorem dX12_needItem_38 : decode cX12_needItem 38 = .ok (.iadd, 1) := by decide +kernel
theorem dX12_needItem_39 : decode cX12_needItem 39 = .ok (.goto 4, 3) := by decide +kernel
theorem dX12_needItem_42 : decode cX12_needItem 42 = .ok (.iconst (-1), 1) := by decide +kernel
theorem dX12_needItem_43 : decode cX12_needItem 43 = .ok (.ireturn, 1) := by decide +kernel
