abbrev cX12_meets : ByteArray := prog_14_method_27_code
def yX12_meets : MethodName := ⟨RX12, "meets", "(IJJ)Z"⟩
abbrev cX12_lookAtDuring : ByteArray := prog_14_method_39_code
def yX12_lookAtDuring : MethodName := ⟨RX12, "lookAtDuring", "(III)I"⟩
def wsX12_meets : List Cond := .code yX12_meets cX12_meets 5 (some .boolean) :: ([])
def wsX12_lookAtDuring_r1 : List Cond := [Cond.fieldLink RX12 110 "NeededListsModel" "got" "I", Cond.fieldLink RX12 19 "NeededListsModel" "code" "[I", Cond.fieldLink RX12 119 "NeededListsModel" "gotValue" "J", Cond.fieldLink RX12 22 "NeededListsModel" "number" "[J", Cond.methodLink RX12 131 yX12_needCell, Cond.instanceMethod yX12_needCell, Cond.selects RX12 yX12_needCell yX12_needCell, Cond.initialized RX12, Cond.code yX12_needCell cX12_needCell 4 (some .int), Cond.fieldLink RX12 29 "NeededListsModel" "cell" "[I", Cond.fieldLink RX12 113 "NeededListsModel" "gotAt" "I", Cond.methodLink RX12 106 yX12_place, Cond.static yX12_place, Cond.code yX12_place cX12_place 2 (some .int), Cond.methodLink RX12 137 yX12_as, Cond.instanceMethod yX12_as, Cond.selects RX12 yX12_as yX12_as, Cond.code yX12_as cX12_as 2 (some .int), Cond.fieldLink RX12 122 "NeededListsModel" "becomes" "I", Cond.fieldLink RX12 125 "NeededListsModel" "becomesList" "I", Cond.fieldLink RX12 128 "NeededListsModel" "becomesCell" "I", Cond.methodLink RX12 165 yX12_needItem, Cond.instanceMethod yX12_needItem, Cond.selects RX12 yX12_needItem yX12_needItem]
def wsX12_lookAtDuring_r2 : List Cond := [Cond.code yX12_needItem cX12_needItem 4 (some .int), Cond.fieldLink RX12 32 "NeededListsModel" "item" "[I", Cond.fieldLink RX12 35 "NeededListsModel" "value" "[J", Cond.methodLink RX12 116 yX12_ownPlace, Cond.instanceMethod yX12_ownPlace, Cond.selects RX12 yX12_ownPlace yX12_ownPlace, Cond.code yX12_ownPlace cX12_ownPlace 4 (some .int), Cond.fieldLink RX12 38 "NeededListsModel" "shareList" "[I", Cond.fieldLink RX12 41 "NeededListsModel" "shareCell" "[I", Cond.methodLink RX12 172 yX12_meets, Cond.static yX12_meets, Cond.code yX12_meets cX12_meets 5 (some .boolean), Cond.methodLink RX12 134 yX12_shares, Cond.instanceMethod yX12_shares, Cond.selects RX12 yX12_shares yX12_shares, Cond.code yX12_shares cX12_shares 3 (some .int)]
def wsX12_lookAtDuring : List Cond := .code yX12_lookAtDuring cX12_lookAtDuring 5 (some .int) :: ((wsX12_lookAtDuring_r1 ++ wsX12_lookAtDuring_r2) ++ wsX120)
theorem dX12_meets_0 : decode cX12_meets 0 = .ok (.iload_n 0, 1) := by decide +kernel
theorem dX12_meets_1 : decode cX12_meets 1 = .ok (.ifCond .ne 17, 3) := by decide +kernel
theorem dX12_meets_4 : decode cX12_meets 4 = .ok (.lload_n 1, 1) := by decide +kernel
theorem dX12_meets_5 : decode cX12_meets 5 = .ok (.lload_n 3, 1) := by decide +kernel
theorem dX12_meets_6 : decode cX12_meets 6 = .ok (.lcmp, 1) := by decide +kernel
theorem dX12_meets_7 : decode cX12_meets 7 = .ok (.ifCond .ge 7, 3) := by decide +kernel
theorem dX12_meets_10 : decode cX12_meets 10 = .ok (.iconst 1, 1) := by decide +kernel
theorem dX12_meets_11 : decode cX12_meets 11 = .ok (.goto 78, 3) := by decide +kernel
theorem dX12_meets_14 : decode cX12_meets 14 = .ok (.iconst 0, 1) := by decide +kernel
theorem dX12_meets_15 : decode cX12_meets 15 = .ok (.goto 74, 3) := by decide +kernel
theorem dX12_meets_18 : decode cX12_meets 18 = .ok (.iload_n 0, 1) := by decide +kernel
theorem dX12_meets_19 : decode cX12_meets 19 = .ok (.iconst 1, 1) := by decide +kernel
theorem dX12_meets_20 : decode cX12_meets 20 = .ok (.if_icmp .ne 17, 3) := by decide +kernel
theorem dX12_meets_23 : decode cX12_meets 23 = .ok (.lload_n 1, 1) := by decide +kernel
theorem dX12_meets_24 : decode cX12_meets 24 = .ok (.lload_n 3, 1) := by decide +kernel
theorem dX12_meets_25 : decode cX12_meets 25 = .ok (.lcmp, 1) := by decide +kernel
theorem dX12_meets_26 : decode cX12_meets 26 = .ok (.ifCond .ne 7, 3) := by decide +kernel
theorem dX12_meets_29 : decode cX12_meets 29 = .ok (.iconst 1, 1) := by decide +kernel
theorem dX12_meets_30 : decode cX12_meets 30 = .ok (.goto 59, 3) := by decide +kernel
theorem dX12_meets_33 : decode cX12_meets 33 = .ok (.iconst 0, 1) := by decide +kernel
theorem dX12_meets_34 : decode cX12_meets 34 = .ok (.goto 55, 3) := by decide +kernel
theorem dX12_meets_37 : decode cX12_meets 37 = .ok (.iload_n 0, 1) := by decide +kernel
theorem dX12_meets_38 : decode cX12_meets 38 = .ok (.iconst 2, 1) := by decide +kernel
theorem dX12_meets_39 : decode cX12_meets 39 = .ok (.if_icmp .ne 17, 3) := by decide +kernel
theorem dX12_meets_42 : decode cX12_meets 42 = .ok (.lload_n 1, 1) := by decide +kernel
theorem dX12_meets_43 : decode cX12_meets 43 = .ok (.lload_n 3, 1) := by decide +kernel
theorem dX12_meets_44 : decode cX12_meets 44 = .ok (.lcmp, 1) := by decide +kernel
theorem dX12_meets_45 : decode cX12_meets 45 = .ok (.ifCond .le 7, 3) := by decide +kernel
theorem dX12_meets_48 : decode cX12_meets 48 = .ok (.iconst 1, 1) := by decide +kernel
theorem dX12_meets_49 : decode cX12_meets 49 = .ok (.goto 40, 3) := by decide +kernel
theorem dX12_meets_52 : decode cX12_meets 52 = .ok (.iconst 0, 1) := by decide +kernel
theorem dX12_meets_53 : decode cX12_meets 53 = .ok (.goto 36, 3) := by decide +kernel
theorem dX12_meets_56 : decode cX12_meets 56 = .ok (.lload_n 3, 1) := by decide +kernel
theorem dX12_meets_57 : decode cX12_meets 57 = .ok (.lconst 0, 1) := by decide +kernel
theorem dX12_meets_58 : decode cX12_meets 58 = .ok (.lcmp, 1) := by decide +kernel
theorem dX12_meets_59 : decode cX12_meets 59 = .ok (.ifCond .ne 17, 3) := by decide +kernel
theorem dX12_meets_62 : decode cX12_meets 62 = .ok (.lload_n 1, 1) := by decide +kernel
theorem dX12_meets_63 : decode cX12_meets 63 = .ok (.lconst 0, 1) := by decide +kernel
theorem dX12_meets_64 : decode cX12_meets 64 = .ok (.lcmp, 1) := by decide +kernel
theorem dX12_meets_65 : decode cX12_meets 65 = .ok (.ifCond .ne 7, 3) := by decide +kernel
theorem dX12_meets_68 : decode cX12_meets 68 = .ok (.iconst 1, 1) := by decide +kernel
theorem dX12_meets_69 : decode cX12_meets 69 = .ok (.goto 20, 3) := by decide +kernel
theorem dX12_meets_72 : decode cX12_meets 72 = .ok (.iconst 0, 1) := by decide +kernel
theorem dX12_meets_73 : decode cX12_meets 73 = .ok (.goto 16, 3) := by decide +kernel
theorem dX12_meets_76 : decode cX12_meets 76 = .ok (.lload_n 1, 1) := by decide +kernel
theorem dX12_meets_77 : decode cX12_meets 77 = .ok (.lload_n 3, 1) := by decide +kernel
theorem dX12_meets_78 : decode cX12_meets 78 = .ok (.lrem, 1) := by decide +kernel
theorem dX12_meets_79 : decode cX12_meets 79 = .ok (.lconst 0, 1) := by decide +kernel
theorem dX12_meets_80 : decode cX12_meets 80 = .ok (.lcmp, 1) := by decide +kernel
theorem dX12_meets_81 : decode cX12_meets 81 = .ok (.ifCond .ne 7, 3) := by decide +kernel
theorem dX12_meets_84 : decode cX12_meets 84 = .ok (.iconst 1, 1) := by decide +kernel
theorem dX12_meets_85 : decode cX12_meets 85 = .ok (.goto 4, 3) := by decide +kernel
theorem dX12_meets_88 : decode cX12_meets 88 = .ok (.iconst 0, 1) := by decide +kernel
theorem dX12_meets_89 : decode cX12_meets 89 = .ok (.ireturn, 1) := by decide +kernel
set_option maxRecDepth 20000 in
theorem ggX12_lookAtDuring_X12_needCell : GoodIn wsX12_lookAtDuring wsX12_needCell := goodIn_r _ [9, 10, 1, 11, 12, 13, 8, 14, 41, 42, 43, 44, 45, 46, 47, 48, 49, 50, 51, 52, 53, 54, 55, 56, 57, 58, 59, 60, 61, 62, 63, 64, 65, 66, 67, 68, 69, 70, 71, 72] (by decide +kernel) (by decide +kernel)
set_option maxRecDepth 20000 in
theorem gX12_lookAtDuring_X12_needCell : GoodIn wsX12_lookAtDuring (wsV RX12 131 RX12 yX12_needCell wsX12_needCell) := goodIn_app (goodIn_of _ (by decide +kernel)) ggX12_lookAtDuring_X12_needCell
set_option maxRecDepth 20000 in
theorem ggX12_lookAtDuring_X12_as : GoodIn wsX12_lookAtDuring wsX12_as := goodIn_r _ [18, 19, 20, 21, 41, 42, 43, 44, 45, 46, 47, 48, 49, 50, 51, 52, 53, 54, 55, 56, 57, 58, 59, 60, 61, 62, 63, 64, 65, 66, 67, 68, 69, 70, 71, 72] (by decide +kernel) (by decide +kernel)
set_option maxRecDepth 20000 in
theorem gX12_lookAtDuring_X12_as : GoodIn wsX12_lookAtDuring (wsV RX12 137 RX12 yX12_as wsX12_as) := goodIn_app (goodIn_of _ (by decide +kernel)) ggX12_lookAtDuring_X12_as
set_option maxRecDepth 20000 in
theorem ggX12_lookAtDuring_X12_needItem : GoodIn wsX12_lookAtDuring wsX12_needItem := goodIn_r _ [25, 26, 1, 27, 3, 28, 29, 30, 8, 31, 32, 33, 12, 13, 14, 41, 42, 43, 44, 45, 46, 47, 48, 49, 50, 51, 52, 53, 54, 55, 56, 57, 58, 59, 60, 61, 62, 63, 64, 65, 66, 67, 68, 69, 70, 71, 72] (by decide +kernel) (by decide +kernel)
set_option maxRecDepth 20000 in
theorem gX12_lookAtDuring_X12_needItem : GoodIn wsX12_lookAtDuring (wsV RX12 165 RX12 yX12_needItem wsX12_needItem) := goodIn_app (goodIn_of _ (by decide +kernel)) ggX12_lookAtDuring_X12_needItem
set_option maxRecDepth 20000 in
theorem ggX12_lookAtDuring_X12_meets : GoodIn wsX12_lookAtDuring wsX12_meets := goodIn_r _ [36] (by decide +kernel) (by decide +kernel)
set_option maxRecDepth 20000 in
theorem gX12_lookAtDuring_X12_meets : GoodIn wsX12_lookAtDuring (va_wsS RX12 172 yX12_meets wsX12_meets) := goodIn_app (goodIn_of _ (by decide +kernel)) ggX12_lookAtDuring_X12_meets
set_option maxRecDepth 20000 in
theorem ggX12_lookAtDuring_X12_shares : GoodIn wsX12_lookAtDuring wsX12_shares := goodIn_r _ [40, 19, 20, 21, 41, 42, 43, 44, 45, 46, 47, 48, 49, 50, 51, 52, 53, 54, 55, 56, 57, 58, 59, 60, 61, 62, 63, 64, 65, 66, 67, 68, 69, 70, 71, 72] (by decide +kernel) (by decide +kernel)
set_option maxRecDepth 20000 in
theorem gX12_lookAtDuring_X12_shares : GoodIn wsX12_lookAtDuring (wsV RX12 134 RX12 yX12_shares wsX12_shares) := goodIn_app (goodIn_of _ (by decide +kernel)) ggX12_lookAtDuring_X12_shares
theorem dX12_lookAtDuring_0 : decode cX12_lookAtDuring 0 = .ok (.aload_n 0, 1) := by decide +kernel
theorem dX12_lookAtDuring_1 : decode cX12_lookAtDuring 1 = .ok (.iload_n 2, 1) := by decide +kernel
theorem dX12_lookAtDuring_2 : decode cX12_lookAtDuring 2 = .ok (.iload_n 3, 1) := by decide +kernel
theorem dX12_lookAtDuring_3 : decode cX12_lookAtDuring 3 = .ok (.invokevirtual 131, 3) := by decide +kernel
theorem dX12_lookAtDuring_6 : decode cX12_lookAtDuring 6 = .ok (.istore 4, 2) := by decide +kernel
theorem dX12_lookAtDuring_8 : decode cX12_lookAtDuring 8 = .ok (.iload 4, 2) := by decide +kernel
theorem dX12_lookAtDuring_10 : decode cX12_lookAtDuring 10 = .ok (.iconst (-1), 1) := by decide +kernel
theorem dX12_lookAtDuring_11 : decode cX12_lookAtDuring 11 = .ok (.if_icmp .eq 6, 3) := by decide +kernel
theorem dX12_lookAtDuring_14 : decode cX12_lookAtDuring 14 = .ok (.iload 4, 2) := by decide +kernel
theorem dX12_lookAtDuring_16 : decode cX12_lookAtDuring 16 = .ok (.ireturn, 1) := by decide +kernel
theorem dX12_lookAtDuring_17 : decode cX12_lookAtDuring 17 = .ok (.aload_n 0, 1) := by decide +kernel
theorem dX12_lookAtDuring_18 : decode cX12_lookAtDuring 18 = .ok (.getfield 110, 3) := by decide +kernel
theorem dX12_lookAtDuring_21 : decode cX12_lookAtDuring 21 = .ok (.iconst 1, 1) := by decide +kernel
theorem dX12_lookAtDuring_22 : decode cX12_lookAtDuring 22 = .ok (.if_icmp .eq 12, 3) := by decide +kernel
theorem dX12_lookAtDuring_25 : decode cX12_lookAtDuring 25 = .ok (.aload_n 0, 1) := by decide +kernel
theorem dX12_lookAtDuring_26 : decode cX12_lookAtDuring 26 = .ok (.aload_n 0, 1) := by decide +kernel
theorem dX12_lookAtDuring_27 : decode cX12_lookAtDuring 27 = .ok (.getfield 110, 3) := by decide +kernel
theorem dX12_lookAtDuring_30 : decode cX12_lookAtDuring 30 = .ok (.invokevirtual 137, 3) := by decide +kernel
theorem dX12_lookAtDuring_33 : decode cX12_lookAtDuring 33 = .ok (.ireturn, 1) := by decide +kernel
theorem dX12_lookAtDuring_34 : decode cX12_lookAtDuring 34 = .ok (.aload_n 0, 1) := by decide +kernel
theorem dX12_lookAtDuring_35 : decode cX12_lookAtDuring 35 = .ok (.iload_n 2, 1) := by decide +kernel
theorem dX12_lookAtDuring_36 : decode cX12_lookAtDuring 36 = .ok (.iload_n 3, 1) := by decide +kernel
theorem dX12_lookAtDuring_37 : decode cX12_lookAtDuring 37 = .ok (.invokevirtual 165, 3) := by decide +kernel
theorem dX12_lookAtDuring_40 : decode cX12_lookAtDuring 40 = .ok (.istore 4, 2) := by decide +kernel
theorem dX12_lookAtDuring_42 : decode cX12_lookAtDuring 42 = .ok (.iload 4, 2) := by decide +kernel
theorem dX12_lookAtDuring_44 : decode cX12_lookAtDuring 44 = .ok (.iconst (-1), 1) := by decide +kernel
theorem dX12_lookAtDuring_45 : decode cX12_lookAtDuring 45 = .ok (.if_icmp .eq 6, 3) := by decide +kernel
theorem dX12_lookAtDuring_48 : decode cX12_lookAtDuring 48 = .ok (.iload 4, 2) := by decide +kernel
theorem dX12_lookAtDuring_50 : decode cX12_lookAtDuring 50 = .ok (.ireturn, 1) := by decide +kernel
theorem dX12_lookAtDuring_51 : decode cX12_lookAtDuring 51 = .ok (.aload_n 0, 1) := by decide +kernel
theorem dX12_lookAtDuring_52 : decode cX12_lookAtDuring 52 = .ok (.getfield 110, 3) := by decide +kernel
theorem dX12_lookAtDuring_55 : decode cX12_lookAtDuring 55 = .ok (.iconst 1, 1) := by decide +kernel
theorem dX12_lookAtDuring_56 : decode cX12_lookAtDuring 56 = .ok (.if_icmp .eq 12, 3) := by decide +kernel
theorem dX12_lookAtDuring_59 : decode cX12_lookAtDuring 59 = .ok (.aload_n 0, 1) := by decide +kernel
theorem dX12_lookAtDuring_60 : decode cX12_lookAtDuring 60 = .ok (.aload_n 0, 1) := by decide +kernel
theorem dX12_lookAtDuring_61 : decode cX12_lookAtDuring 61 = .ok (.getfield 110, 3) := by decide +kernel
theorem dX12_lookAtDuring_64 : decode cX12_lookAtDuring 64 = .ok (.invokevirtual 137, 3) := by decide +kernel
theorem dX12_lookAtDuring_67 : decode cX12_lookAtDuring 67 = .ok (.ireturn, 1) := by decide +kernel
theorem dX12_lookAtDuring_68 : decode cX12_lookAtDuring 68 = .ok (.aload_n 0, 1) := by decide +kernel
theorem dX12_lookAtDuring_69 : decode cX12_lookAtDuring 69 = .ok (.getfield 19, 3) := by decide +kernel
theorem dX12_lookAtDuring_72 : decode cX12_lookAtDuring 72 = .ok (.iload_n 1, 1) := by decide +kernel
theorem dX12_lookAtDuring_73 : decode cX12_lookAtDuring 73 = .ok (.iaload, 1) := by decide +kernel
theorem dX12_lookAtDuring_74 : decode cX12_lookAtDuring 74 = .ok (.aload_n 0, 1) := by decide +kernel
theorem dX12_lookAtDuring_75 : decode cX12_lookAtDuring 75 = .ok (.getfield 119, 3) := by decide +kernel
theorem dX12_lookAtDuring_78 : decode cX12_lookAtDuring 78 = .ok (.aload_n 0, 1) := by decide +kernel
theorem dX12_lookAtDuring_79 : decode cX12_lookAtDuring 79 = .ok (.getfield 22, 3) := by decide +kernel
theorem dX12_lookAtDuring_82 : decode cX12_lookAtDuring 82 = .ok (.iload_n 1, 1) := by decide +kernel
theorem dX12_lookAtDuring_83 : decode cX12_lookAtDuring 83 = .ok (.laload, 1) := by decide +kernel
theorem dX12_lookAtDuring_84 : decode cX12_lookAtDuring 84 = .ok (.invokestatic 172, 3) := by decide +kernel
theorem dX12_lookAtDuring_87 : decode cX12_lookAtDuring 87 = .ok (.ifCond .eq 12, 3) := by decide +kernel
theorem dX12_lookAtDuring_90 : decode cX12_lookAtDuring 90 = .ok (.aload_n 0, 1) := by decide +kernel
theorem dX12_lookAtDuring_91 : decode cX12_lookAtDuring 91 = .ok (.iload_n 2, 1) := by decide +kernel
theorem dX12_lookAtDuring_92 : decode cX12_lookAtDuring 92 = .ok (.iload_n 3, 1) := by decide +kernel
theorem dX12_lookAtDuring_93 : decode cX12_lookAtDuring 93 = .ok (.invokevirtual 134, 3) := by decide +kernel
theorem dX12_lookAtDuring_96 : decode cX12_lookAtDuring 96 = .ok (.goto 8, 3) := by decide +kernel
theorem dX12_lookAtDuring_99 : decode cX12_lookAtDuring 99 = .ok (.aload_n 0, 1) := by decide +kernel
theorem dX12_lookAtDuring_100 : decode cX12_lookAtDuring 100 = .ok (.iconst 2, 1) := by decide +kernel
theorem dX12_lookAtDuring_101 : decode cX12_lookAtDuring 101 = .ok (.invokevirtual 137, 3) := by decide +kernel
theorem dX12_lookAtDuring_104 : decode cX12_lookAtDuring 104 = .ok (.ireturn, 1) := by decide +kernel
