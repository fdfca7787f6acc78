abbrev cX12_lookAtRound : ByteArray := prog_14_method_41_code
def yX12_lookAtRound : MethodName := ⟨RX12, "lookAtRound", "(II)I"⟩
def wsX12_lookAtRound : List Cond := .code yX12_lookAtRound cX12_lookAtRound 4 (some .int) :: ([.fieldLink RX12 110 "NeededListsModel" "got" "I", .fieldLink RX12 113 "NeededListsModel" "gotAt" "I", .methodLink RX12 131 yX12_needCell, .instanceMethod yX12_needCell, .selects RX12 yX12_needCell yX12_needCell, .initialized RX12, .code yX12_needCell cX12_needCell 4 (some .int), .fieldLink RX12 29 "NeededListsModel" "cell" "[I", .methodLink RX12 106 yX12_place, .static yX12_place, .code yX12_place cX12_place 2 (some .int), .methodLink RX12 137 yX12_as, .instanceMethod yX12_as, .selects RX12 yX12_as yX12_as, .code yX12_as cX12_as 2 (some .int), .fieldLink RX12 122 "NeededListsModel" "becomes" "I", .fieldLink RX12 125 "NeededListsModel" "becomesList" "I", .fieldLink RX12 128 "NeededListsModel" "becomesCell" "I", .methodLink RX12 134 yX12_shares, .instanceMethod yX12_shares, .selects RX12 yX12_shares yX12_shares, .code yX12_shares cX12_shares 3 (some .int)] ++ wsX120)
set_option maxRecDepth 20000 in
theorem ggX12_lookAtRound_X12_needCell : GoodIn wsX12_lookAtRound wsX12_needCell := goodIn_r _ [7, 8, 1, 2, 9, 10, 6, 11, 23, 24, 25, 26, 27, 28, 29, 30, 31, 32, 33, 34, 35, 36, 37, 38, 39, 40, 41, 42, 43, 44, 45, 46, 47, 48, 49, 50, 51, 52, 53, 54] (by decide +kernel) (by decide +kernel)
set_option maxRecDepth 20000 in
theorem gX12_lookAtRound_X12_needCell : GoodIn wsX12_lookAtRound (wsV RX12 131 RX12 yX12_needCell wsX12_needCell) := goodIn_app (goodIn_of _ (by decide +kernel)) ggX12_lookAtRound_X12_needCell
set_option maxRecDepth 20000 in
theorem ggX12_lookAtRound_X12_as : GoodIn wsX12_lookAtRound wsX12_as := goodIn_r _ [15, 16, 17, 18, 23, 24, 25, 26, 27, 28, 29, 30, 31, 32, 33, 34, 35, 36, 37, 38, 39, 40, 41, 42, 43, 44, 45, 46, 47, 48, 49, 50, 51, 52, 53, 54] (by decide +kernel) (by decide +kernel)
set_option maxRecDepth 20000 in
theorem gX12_lookAtRound_X12_as : GoodIn wsX12_lookAtRound (wsV RX12 137 RX12 yX12_as wsX12_as) := goodIn_app (goodIn_of _ (by decide +kernel)) ggX12_lookAtRound_X12_as
set_option maxRecDepth 20000 in
theorem ggX12_lookAtRound_X12_shares : GoodIn wsX12_lookAtRound wsX12_shares := goodIn_r _ [22, 16, 17, 18, 23, 24, 25, 26, 27, 28, 29, 30, 31, 32, 33, 34, 35, 36, 37, 38, 39, 40, 41, 42, 43, 44, 45, 46, 47, 48, 49, 50, 51, 52, 53, 54] (by decide +kernel) (by decide +kernel)
set_option maxRecDepth 20000 in
theorem gX12_lookAtRound_X12_shares : GoodIn wsX12_lookAtRound (wsV RX12 134 RX12 yX12_shares wsX12_shares) := goodIn_app (goodIn_of _ (by decide +kernel)) ggX12_lookAtRound_X12_shares
theorem dX12_lookAtRound_0 : decode cX12_lookAtRound 0 = .ok (.aload_n 0, 1) := by decide +kernel
theorem dX12_lookAtRound_1 : decode cX12_lookAtRound 1 = .ok (.iload_n 1, 1) := by decide +kernel
theorem dX12_lookAtRound_2 : decode cX12_lookAtRound 2 = .ok (.iload_n 2, 1) := by decide +kernel
theorem dX12_lookAtRound_3 : decode cX12_lookAtRound 3 = .ok (.invokevirtual 131, 3) := by decide +kernel
theorem dX12_lookAtRound_6 : decode cX12_lookAtRound 6 = .ok (.istore_n 3, 1) := by decide +kernel
theorem dX12_lookAtRound_7 : decode cX12_lookAtRound 7 = .ok (.iload_n 3, 1) := by decide +kernel
theorem dX12_lookAtRound_8 : decode cX12_lookAtRound 8 = .ok (.iconst (-1), 1) := by decide +kernel
theorem dX12_lookAtRound_9 : decode cX12_lookAtRound 9 = .ok (.if_icmp .eq 5, 3) := by decide +kernel
theorem dX12_lookAtRound_12 : decode cX12_lookAtRound 12 = .ok (.iload_n 3, 1) := by decide +kernel
theorem dX12_lookAtRound_13 : decode cX12_lookAtRound 13 = .ok (.ireturn, 1) := by decide +kernel
theorem dX12_lookAtRound_14 : decode cX12_lookAtRound 14 = .ok (.aload_n 0, 1) := by decide +kernel
theorem dX12_lookAtRound_15 : decode cX12_lookAtRound 15 = .ok (.getfield 110, 3) := by decide +kernel
theorem dX12_lookAtRound_18 : decode cX12_lookAtRound 18 = .ok (.iconst 2, 1) := by decide +kernel
theorem dX12_lookAtRound_19 : decode cX12_lookAtRound 19 = .ok (.if_icmp .ne 30, 3) := by decide +kernel
theorem dX12_lookAtRound_22 : decode cX12_lookAtRound 22 = .ok (.aload_n 0, 1) := by decide +kernel
theorem dX12_lookAtRound_23 : decode cX12_lookAtRound 23 = .ok (.getfield 113, 3) := by decide +kernel
theorem dX12_lookAtRound_26 : decode cX12_lookAtRound 26 = .ok (.ifCond .ne 11, 3) := by decide +kernel
theorem dX12_lookAtRound_29 : decode cX12_lookAtRound 29 = .ok (.aload_n 0, 1) := by decide +kernel
theorem dX12_lookAtRound_30 : decode cX12_lookAtRound 30 = .ok (.iconst 5, 1) := by decide +kernel
theorem dX12_lookAtRound_31 : decode cX12_lookAtRound 31 = .ok (.invokevirtual 137, 3) := by decide +kernel
theorem dX12_lookAtRound_34 : decode cX12_lookAtRound 34 = .ok (.goto 14, 3) := by decide +kernel
theorem dX12_lookAtRound_37 : decode cX12_lookAtRound 37 = .ok (.aload_n 0, 1) := by decide +kernel
theorem dX12_lookAtRound_38 : decode cX12_lookAtRound 38 = .ok (.iload_n 1, 1) := by decide +kernel
theorem dX12_lookAtRound_39 : decode cX12_lookAtRound 39 = .ok (.iload_n 2, 1) := by decide +kernel
theorem dX12_lookAtRound_40 : decode cX12_lookAtRound 40 = .ok (.aload_n 0, 1) := by decide +kernel
theorem dX12_lookAtRound_41 : decode cX12_lookAtRound 41 = .ok (.getfield 113, 3) := by decide +kernel
theorem dX12_lookAtRound_44 : decode cX12_lookAtRound 44 = .ok (.irem, 1) := by decide +kernel
theorem dX12_lookAtRound_45 : decode cX12_lookAtRound 45 = .ok (.invokevirtual 134, 3) := by decide +kernel
theorem dX12_lookAtRound_48 : decode cX12_lookAtRound 48 = .ok (.ireturn, 1) := by decide +kernel
theorem dX12_lookAtRound_49 : decode cX12_lookAtRound 49 = .ok (.aload_n 0, 1) := by decide +kernel
theorem dX12_lookAtRound_50 : decode cX12_lookAtRound 50 = .ok (.getfield 110, 3) := by decide +kernel
theorem dX12_lookAtRound_53 : decode cX12_lookAtRound 53 = .ok (.iconst 1, 1) := by decide +kernel
theorem dX12_lookAtRound_54 : decode cX12_lookAtRound 54 = .ok (.if_icmp .ne 12, 3) := by decide +kernel
theorem dX12_lookAtRound_57 : decode cX12_lookAtRound 57 = .ok (.aload_n 0, 1) := by decide +kernel
theorem dX12_lookAtRound_58 : decode cX12_lookAtRound 58 = .ok (.iload_n 1, 1) := by decide +kernel
theorem dX12_lookAtRound_59 : decode cX12_lookAtRound 59 = .ok (.iload_n 2, 1) := by decide +kernel
theorem dX12_lookAtRound_60 : decode cX12_lookAtRound 60 = .ok (.invokevirtual 134, 3) := by decide +kernel
theorem dX12_lookAtRound_63 : decode cX12_lookAtRound 63 = .ok (.goto 11, 3) := by decide +kernel
theorem dX12_lookAtRound_66 : decode cX12_lookAtRound 66 = .ok (.aload_n 0, 1) := by decide +kernel
theorem dX12_lookAtRound_67 : decode cX12_lookAtRound 67 = .ok (.aload_n 0, 1) := by decide +kernel
theorem dX12_lookAtRound_68 : decode cX12_lookAtRound 68 = .ok (.getfield 110, 3) := by decide +kernel
theorem dX12_lookAtRound_71 : decode cX12_lookAtRound 71 = .ok (.invokevirtual 137, 3) := by decide +kernel
theorem dX12_lookAtRound_74 : decode cX12_lookAtRound 74 = .ok (.ireturn, 1) := by decide +kernel
