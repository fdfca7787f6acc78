abbrev cX12_like : ByteArray := prog_14_method_34_code
def yX12_like : MethodName := ⟨RX12, "like", "(IIZ)I"⟩
def wsX12_like : List Cond := .code yX12_like cX12_like 5 (some .int) :: ([.fieldLink RX12 110 "NeededListsModel" "got" "I", .methodLink RX12 131 yX12_needCell, .instanceMethod yX12_needCell, .selects RX12 yX12_needCell yX12_needCell, .initialized RX12, .code yX12_needCell cX12_needCell 4 (some .int), .fieldLink RX12 29 "NeededListsModel" "cell" "[I", .fieldLink RX12 113 "NeededListsModel" "gotAt" "I", .methodLink RX12 106 yX12_place, .static yX12_place, .code yX12_place cX12_place 2 (some .int), .methodLink RX12 134 yX12_shares, .instanceMethod yX12_shares, .selects RX12 yX12_shares yX12_shares, .code yX12_shares cX12_shares 3 (some .int), .fieldLink RX12 122 "NeededListsModel" "becomes" "I", .fieldLink RX12 125 "NeededListsModel" "becomesList" "I", .fieldLink RX12 128 "NeededListsModel" "becomesCell" "I", .methodLink RX12 137 yX12_as, .instanceMethod yX12_as, .selects RX12 yX12_as yX12_as, .code yX12_as cX12_as 2 (some .int)] ++ wsX120)
set_option maxRecDepth 20000 in
theorem ggX12_like_X12_needCell : GoodIn wsX12_like wsX12_needCell := goodIn_r _ [6, 7, 1, 8, 9, 10, 5, 11, 23, 24, 25, 26, 27, 28, 29, 30, 31, 32, 33, 34, 35, 36, 37, 38, 39, 40, 41, 42, 43, 44, 45, 46, 47, 48, 49, 50, 51, 52, 53, 54] (by decide +kernel) (by decide +kernel)
set_option maxRecDepth 20000 in
theorem gX12_like_X12_needCell : GoodIn wsX12_like (wsV RX12 131 RX12 yX12_needCell wsX12_needCell) := goodIn_app (goodIn_of _ (by decide +kernel)) ggX12_like_X12_needCell
set_option maxRecDepth 20000 in
theorem ggX12_like_X12_shares : GoodIn wsX12_like wsX12_shares := goodIn_r _ [15, 16, 17, 18, 23, 24, 25, 26, 27, 28, 29, 30, 31, 32, 33, 34, 35, 36, 37, 38, 39, 40, 41, 42, 43, 44, 45, 46, 47, 48, 49, 50, 51, 52, 53, 54] (by decide +kernel) (by decide +kernel)
set_option maxRecDepth 20000 in
theorem gX12_like_X12_shares : GoodIn wsX12_like (wsV RX12 134 RX12 yX12_shares wsX12_shares) := goodIn_app (goodIn_of _ (by decide +kernel)) ggX12_like_X12_shares
set_option maxRecDepth 20000 in
theorem ggX12_like_X12_as : GoodIn wsX12_like wsX12_as := goodIn_r _ [22, 16, 17, 18, 23, 24, 25, 26, 27, 28, 29, 30, 31, 32, 33, 34, 35, 36, 37, 38, 39, 40, 41, 42, 43, 44, 45, 46, 47, 48, 49, 50, 51, 52, 53, 54] (by decide +kernel) (by decide +kernel)
set_option maxRecDepth 20000 in
theorem gX12_like_X12_as : GoodIn wsX12_like (wsV RX12 137 RX12 yX12_as wsX12_as) := goodIn_app (goodIn_of _ (by decide +kernel)) ggX12_like_X12_as
theorem dX12_like_0 : decode cX12_like 0 = .ok (.aload_n 0, 1) := by decide +kernel
theorem dX12_like_1 : decode cX12_like 1 = .ok (.iload_n 1, 1) := by decide +kernel
theorem dX12_like_2 : decode cX12_like 2 = .ok (.iload_n 2, 1) := by decide +kernel
theorem dX12_like_3 : decode cX12_like 3 = .ok (.invokevirtual 131, 3) := by decide +kernel
theorem dX12_like_6 : decode cX12_like 6 = .ok (.istore 4, 2) := by decide +kernel
theorem dX12_like_8 : decode cX12_like 8 = .ok (.iload 4, 2) := by decide +kernel
theorem dX12_like_10 : decode cX12_like 10 = .ok (.iconst (-1), 1) := by decide +kernel
theorem dX12_like_11 : decode cX12_like 11 = .ok (.if_icmp .eq 6, 3) := by decide +kernel
theorem dX12_like_14 : decode cX12_like 14 = .ok (.iload 4, 2) := by decide +kernel
theorem dX12_like_16 : decode cX12_like 16 = .ok (.ireturn, 1) := by decide +kernel
theorem dX12_like_17 : decode cX12_like 17 = .ok (.aload_n 0, 1) := by decide +kernel
theorem dX12_like_18 : decode cX12_like 18 = .ok (.getfield 110, 3) := by decide +kernel
theorem dX12_like_21 : decode cX12_like 21 = .ok (.iconst 1, 1) := by decide +kernel
theorem dX12_like_22 : decode cX12_like 22 = .ok (.if_icmp .ne 16, 3) := by decide +kernel
theorem dX12_like_25 : decode cX12_like 25 = .ok (.iload_n 3, 1) := by decide +kernel
theorem dX12_like_26 : decode cX12_like 26 = .ok (.ifCond .eq 12, 3) := by decide +kernel
theorem dX12_like_29 : decode cX12_like 29 = .ok (.aload_n 0, 1) := by decide +kernel
theorem dX12_like_30 : decode cX12_like 30 = .ok (.iload_n 1, 1) := by decide +kernel
theorem dX12_like_31 : decode cX12_like 31 = .ok (.iload_n 2, 1) := by decide +kernel
theorem dX12_like_32 : decode cX12_like 32 = .ok (.invokevirtual 134, 3) := by decide +kernel
theorem dX12_like_35 : decode cX12_like 35 = .ok (.goto 11, 3) := by decide +kernel
theorem dX12_like_38 : decode cX12_like 38 = .ok (.aload_n 0, 1) := by decide +kernel
theorem dX12_like_39 : decode cX12_like 39 = .ok (.aload_n 0, 1) := by decide +kernel
theorem dX12_like_40 : decode cX12_like 40 = .ok (.getfield 110, 3) := by decide +kernel
theorem dX12_like_43 : decode cX12_like 43 = .ok (.invokevirtual 137, 3) := by decide +kernel
theorem dX12_like_46 : decode cX12_like 46 = .ok (.ireturn, 1) := by decide +kernel
