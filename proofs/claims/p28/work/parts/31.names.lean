abbrev cX12_ofItems : ByteArray := prog_14_method_46_code
def yX12_ofItems : MethodName := ⟨RX12, "ofItems", "(IIIIIJ)I"⟩
def wsX12_ofItems_r1 : List Cond := [Cond.fieldLink RX12 110 "NeededListsModel" "got" "I", Cond.fieldLink RX12 122 "NeededListsModel" "becomes" "I", Cond.fieldLink RX12 119 "NeededListsModel" "gotValue" "J", Cond.fieldLink RX12 98 "NeededListsModel" "opValue" "J", Cond.fieldLink RX12 179 "NeededListsModel" "becomesValue" "J", Cond.methodLink RX12 165 yX12_needItem, Cond.instanceMethod yX12_needItem, Cond.selects RX12 yX12_needItem yX12_needItem, Cond.initialized RX12, Cond.code yX12_needItem cX12_needItem 4 (some .int), Cond.fieldLink RX12 32 "NeededListsModel" "item" "[I", Cond.fieldLink RX12 35 "NeededListsModel" "value" "[J", Cond.methodLink RX12 116 yX12_ownPlace, Cond.instanceMethod yX12_ownPlace, Cond.selects RX12 yX12_ownPlace yX12_ownPlace, Cond.code yX12_ownPlace cX12_ownPlace 4 (some .int), Cond.fieldLink RX12 38 "NeededListsModel" "shareList" "[I", Cond.fieldLink RX12 41 "NeededListsModel" "shareCell" "[I", Cond.methodLink RX12 106 yX12_place, Cond.static yX12_place, Cond.code yX12_place cX12_place 2 (some .int), Cond.methodLink RX12 190 yX12_op, Cond.instanceMethod yX12_op, Cond.selects RX12 yX12_op yX12_op]
def wsX12_ofItems_r2 : List Cond := [Cond.code yX12_op cX12_op 8 (some .int), Cond.methodLink RX12 102 yX12_floor, Cond.static yX12_floor, Cond.code yX12_floor cX12_floor 6 (some .long)]
def wsX12_ofItems : List Cond := .code yX12_ofItems cX12_ofItems 13 (some .int) :: ((wsX12_ofItems_r1 ++ wsX12_ofItems_r2) ++ wsX120)
set_option maxRecDepth 20000 in
theorem ggX12_ofItems_X12_needItem : GoodIn wsX12_ofItems wsX12_needItem := goodIn_r _ [10, 11, 1, 12, 3, 13, 14, 15, 9, 16, 17, 18, 19, 20, 21, 29, 30, 31, 32, 33, 34, 35, 36, 37, 38, 39, 40, 41, 42, 43, 44, 45, 46, 47, 48, 49, 50, 51, 52, 53, 54, 55, 56, 57, 58, 59, 60] (by decide +kernel) (by decide +kernel)
set_option maxRecDepth 20000 in
theorem gX12_ofItems_X12_needItem : GoodIn wsX12_ofItems (wsV RX12 165 RX12 yX12_needItem wsX12_needItem) := goodIn_app (goodIn_of _ (by decide +kernel)) ggX12_ofItems_X12_needItem
set_option maxRecDepth 20000 in
theorem ggX12_ofItems_X12_op : GoodIn wsX12_ofItems wsX12_op := goodIn_r _ [25, 4, 26, 27, 9, 28, 29, 30, 31, 32, 33, 34, 35, 36, 37, 38, 39, 40, 41, 42, 43, 44, 45, 46, 47, 48, 49, 50, 51, 52, 53, 54, 55, 56, 57, 58, 59, 60] (by decide +kernel) (by decide +kernel)
set_option maxRecDepth 20000 in
theorem gX12_ofItems_X12_op : GoodIn wsX12_ofItems (wsV RX12 190 RX12 yX12_op wsX12_op) := goodIn_app (goodIn_of _ (by decide +kernel)) ggX12_ofItems_X12_op
theorem dX12_ofItems_0 : decode cX12_ofItems 0 = .ok (.lconst 0, 1) := by decide +kernel
theorem dX12_ofItems_1 : decode cX12_ofItems 1 = .ok (.lstore 8, 2) := by decide +kernel
theorem dX12_ofItems_3 : decode cX12_ofItems 3 = .ok (.iload_n 1, 1) := by decide +kernel
theorem dX12_ofItems_4 : decode cX12_ofItems 4 = .ok (.bipush 8, 2) := by decide +kernel
theorem dX12_ofItems_6 : decode cX12_ofItems 6 = .ok (.if_icmp .eq 44, 3) := by decide +kernel
theorem dX12_ofItems_9 : decode cX12_ofItems 9 = .ok (.aload_n 0, 1) := by decide +kernel
theorem dX12_ofItems_10 : decode cX12_ofItems 10 = .ok (.iload_n 2, 1) := by decide +kernel
theorem dX12_ofItems_11 : decode cX12_ofItems 11 = .ok (.iload_n 3, 1) := by decide +kernel
theorem dX12_ofItems_12 : decode cX12_ofItems 12 = .ok (.invokevirtual 165, 3) := by decide +kernel
theorem dX12_ofItems_15 : decode cX12_ofItems 15 = .ok (.istore 10, 2) := by decide +kernel
theorem dX12_ofItems_17 : decode cX12_ofItems 17 = .ok (.iload 10, 2) := by decide +kernel
theorem dX12_ofItems_19 : decode cX12_ofItems 19 = .ok (.iconst (-1), 1) := by decide +kernel
theorem dX12_ofItems_20 : decode cX12_ofItems 20 = .ok (.if_icmp .eq 6, 3) := by decide +kernel
theorem dX12_ofItems_23 : decode cX12_ofItems 23 = .ok (.iload 10, 2) := by decide +kernel
theorem dX12_ofItems_25 : decode cX12_ofItems 25 = .ok (.ireturn, 1) := by decide +kernel
theorem dX12_ofItems_26 : decode cX12_ofItems 26 = .ok (.aload_n 0, 1) := by decide +kernel
theorem dX12_ofItems_27 : decode cX12_ofItems 27 = .ok (.aload_n 0, 1) := by decide +kernel
theorem dX12_ofItems_28 : decode cX12_ofItems 28 = .ok (.getfield 110, 3) := by decide +kernel
theorem dX12_ofItems_31 : decode cX12_ofItems 31 = .ok (.putfield 122, 3) := by decide +kernel
theorem dX12_ofItems_34 : decode cX12_ofItems 34 = .ok (.aload_n 0, 1) := by decide +kernel
theorem dX12_ofItems_35 : decode cX12_ofItems 35 = .ok (.getfield 110, 3) := by decide +kernel
theorem dX12_ofItems_38 : decode cX12_ofItems 38 = .ok (.iconst 1, 1) := by decide +kernel
theorem dX12_ofItems_39 : decode cX12_ofItems 39 = .ok (.if_icmp .eq 5, 3) := by decide +kernel
theorem dX12_ofItems_42 : decode cX12_ofItems 42 = .ok (.iconst (-1), 1) := by decide +kernel
theorem dX12_ofItems_43 : decode cX12_ofItems 43 = .ok (.ireturn, 1) := by decide +kernel
theorem dX12_ofItems_44 : decode cX12_ofItems 44 = .ok (.aload_n 0, 1) := by decide +kernel
theorem dX12_ofItems_45 : decode cX12_ofItems 45 = .ok (.getfield 119, 3) := by decide +kernel
theorem dX12_ofItems_48 : decode cX12_ofItems 48 = .ok (.lstore 8, 2) := by decide +kernel
theorem dX12_ofItems_50 : decode cX12_ofItems 50 = .ok (.lload 6, 2) := by decide +kernel
theorem dX12_ofItems_52 : decode cX12_ofItems 52 = .ok (.lstore 10, 2) := by decide +kernel
theorem dX12_ofItems_54 : decode cX12_ofItems 54 = .ok (.iload_n 1, 1) := by decide +kernel
theorem dX12_ofItems_55 : decode cX12_ofItems 55 = .ok (.bipush 7, 2) := by decide +kernel
theorem dX12_ofItems_57 : decode cX12_ofItems 57 = .ok (.if_icmp .eq 52, 3) := by decide +kernel
theorem dX12_ofItems_60 : decode cX12_ofItems 60 = .ok (.iload 4, 2) := by decide +kernel
theorem dX12_ofItems_62 : decode cX12_ofItems 62 = .ok (.iconst (-1), 1) := by decide +kernel
theorem dX12_ofItems_63 : decode cX12_ofItems 63 = .ok (.if_icmp .eq 46, 3) := by decide +kernel
theorem dX12_ofItems_109 : decode cX12_ofItems 109 = .ok (.aload_n 0, 1) := by decide +kernel
theorem dX12_ofItems_110 : decode cX12_ofItems 110 = .ok (.aload_n 0, 1) := by decide +kernel
theorem dX12_ofItems_111 : decode cX12_ofItems 111 = .ok (.iload_n 1, 1) := by decide +kernel
theorem dX12_ofItems_112 : decode cX12_ofItems 112 = .ok (.lload 8, 2) := by decide +kernel
theorem dX12_ofItems_114 : decode cX12_ofItems 114 = .ok (.lload 10, 2) := by decide +kernel
theorem dX12_ofItems_116 : decode cX12_ofItems 116 = .ok (.invokevirtual 190, 3) := by decide +kernel
theorem dX12_ofItems_119 : decode cX12_ofItems 119 = .ok (.putfield 122, 3) := by decide +kernel
theorem dX12_ofItems_122 : decode cX12_ofItems 122 = .ok (.aload_n 0, 1) := by decide +kernel
theorem dX12_ofItems_123 : decode cX12_ofItems 123 = .ok (.aload_n 0, 1) := by decide +kernel
theorem dX12_ofItems_124 : decode cX12_ofItems 124 = .ok (.getfield 98, 3) := by decide +kernel
theorem dX12_ofItems_127 : decode cX12_ofItems 127 = .ok (.putfield 179, 3) := by decide +kernel
theorem dX12_ofItems_130 : decode cX12_ofItems 130 = .ok (.iconst (-1), 1) := by decide +kernel
theorem dX12_ofItems_131 : decode cX12_ofItems 131 = .ok (.ireturn, 1) := by decide +kernel
