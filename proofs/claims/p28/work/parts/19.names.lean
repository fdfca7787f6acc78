abbrev cX12_lookAtBoth : ByteArray := prog_14_method_36_code
def yX12_lookAtBoth : MethodName := ⟨RX12, "lookAtBoth", "(III)I"⟩
def wsX12_lookAtBoth_r1 : List Cond := [Cond.fieldLink RX12 110 "NeededListsModel" "got" "I", Cond.methodLink RX12 131 yX12_needCell, Cond.instanceMethod yX12_needCell, Cond.selects RX12 yX12_needCell yX12_needCell, Cond.initialized RX12, Cond.code yX12_needCell cX12_needCell 4 (some .int), Cond.fieldLink RX12 29 "NeededListsModel" "cell" "[I", Cond.fieldLink RX12 113 "NeededListsModel" "gotAt" "I", Cond.methodLink RX12 106 yX12_place, Cond.static yX12_place, Cond.code yX12_place cX12_place 2 (some .int), Cond.methodLink RX12 140 yX12_like, Cond.instanceMethod yX12_like, Cond.selects RX12 yX12_like yX12_like, Cond.code yX12_like cX12_like 5 (some .int), Cond.methodLink RX12 134 yX12_shares, Cond.instanceMethod yX12_shares, Cond.selects RX12 yX12_shares yX12_shares, Cond.code yX12_shares cX12_shares 3 (some .int), Cond.fieldLink RX12 122 "NeededListsModel" "becomes" "I", Cond.fieldLink RX12 125 "NeededListsModel" "becomesList" "I", Cond.fieldLink RX12 128 "NeededListsModel" "becomesCell" "I", Cond.methodLink RX12 137 yX12_as, Cond.instanceMethod yX12_as]
def wsX12_lookAtBoth_r2 : List Cond := [Cond.selects RX12 yX12_as yX12_as, Cond.code yX12_as cX12_as 2 (some .int)]
def wsX12_lookAtBoth : List Cond := .code yX12_lookAtBoth cX12_lookAtBoth 5 (some .int) :: ((wsX12_lookAtBoth_r1 ++ wsX12_lookAtBoth_r2) ++ wsX120)
set_option maxRecDepth 20000 in
theorem ggX12_lookAtBoth_X12_needCell : GoodIn wsX12_lookAtBoth wsX12_needCell := goodIn_r _ [6, 7, 1, 8, 9, 10, 5, 11, 27, 28, 29, 30, 31, 32, 33, 34, 35, 36, 37, 38, 39, 40, 41, 42, 43, 44, 45, 46, 47, 48, 49, 50, 51, 52, 53, 54, 55, 56, 57, 58] (by decide +kernel) (by decide +kernel)
set_option maxRecDepth 20000 in
theorem gX12_lookAtBoth_X12_needCell : GoodIn wsX12_lookAtBoth (wsV RX12 131 RX12 yX12_needCell wsX12_needCell) := goodIn_app (goodIn_of _ (by decide +kernel)) ggX12_lookAtBoth_X12_needCell
set_option maxRecDepth 20000 in
theorem ggX12_lookAtBoth_X12_like : GoodIn wsX12_lookAtBoth wsX12_like := goodIn_r _ [15, 1, 2, 3, 4, 5, 6, 7, 8, 9, 10, 11, 16, 17, 18, 19, 20, 21, 22, 23, 24, 25, 26, 27, 28, 29, 30, 31, 32, 33, 34, 35, 36, 37, 38, 39, 40, 41, 42, 43, 44, 45, 46, 47, 48, 49, 50, 51, 52, 53, 54, 55, 56, 57, 58] (by decide +kernel) (by decide +kernel)
set_option maxRecDepth 20000 in
theorem gX12_lookAtBoth_X12_like : GoodIn wsX12_lookAtBoth (wsV RX12 140 RX12 yX12_like wsX12_like) := goodIn_app (goodIn_of _ (by decide +kernel)) ggX12_lookAtBoth_X12_like
set_option maxRecDepth 20000 in
theorem ggX12_lookAtBoth_X12_as : GoodIn wsX12_lookAtBoth wsX12_as := goodIn_r _ [26, 20, 21, 22, 27, 28, 29, 30, 31, 32, 33, 34, 35, 36, 37, 38, 39, 40, 41, 42, 43, 44, 45, 46, 47, 48, 49, 50, 51, 52, 53, 54, 55, 56, 57, 58] (by decide +kernel) (by decide +kernel)
set_option maxRecDepth 20000 in
theorem gX12_lookAtBoth_X12_as : GoodIn wsX12_lookAtBoth (wsV RX12 137 RX12 yX12_as wsX12_as) := goodIn_app (goodIn_of _ (by decide +kernel)) ggX12_lookAtBoth_X12_as
theorem dX12_lookAtBoth_0 : decode cX12_lookAtBoth 0 = .ok (.aload_n 0, 1) := by decide +kernel
theorem dX12_lookAtBoth_1 : decode cX12_lookAtBoth 1 = .ok (.iload_n 1, 1) := by decide +kernel
theorem dX12_lookAtBoth_2 : decode cX12_lookAtBoth 2 = .ok (.iload_n 3, 1) := by decide +kernel
theorem dX12_lookAtBoth_3 : decode cX12_lookAtBoth 3 = .ok (.invokevirtual 131, 3) := by decide +kernel
theorem dX12_lookAtBoth_6 : decode cX12_lookAtBoth 6 = .ok (.istore 4, 2) := by decide +kernel
theorem dX12_lookAtBoth_8 : decode cX12_lookAtBoth 8 = .ok (.iload 4, 2) := by decide +kernel
theorem dX12_lookAtBoth_10 : decode cX12_lookAtBoth 10 = .ok (.iconst (-1), 1) := by decide +kernel
theorem dX12_lookAtBoth_11 : decode cX12_lookAtBoth 11 = .ok (.if_icmp .eq 6, 3) := by decide +kernel
theorem dX12_lookAtBoth_14 : decode cX12_lookAtBoth 14 = .ok (.iload 4, 2) := by decide +kernel
theorem dX12_lookAtBoth_16 : decode cX12_lookAtBoth 16 = .ok (.ireturn, 1) := by decide +kernel
theorem dX12_lookAtBoth_17 : decode cX12_lookAtBoth 17 = .ok (.aload_n 0, 1) := by decide +kernel
theorem dX12_lookAtBoth_18 : decode cX12_lookAtBoth 18 = .ok (.getfield 110, 3) := by decide +kernel
theorem dX12_lookAtBoth_21 : decode cX12_lookAtBoth 21 = .ok (.iconst 1, 1) := by decide +kernel
theorem dX12_lookAtBoth_22 : decode cX12_lookAtBoth 22 = .ok (.if_icmp .ne 13, 3) := by decide +kernel
theorem dX12_lookAtBoth_25 : decode cX12_lookAtBoth 25 = .ok (.aload_n 0, 1) := by decide +kernel
theorem dX12_lookAtBoth_26 : decode cX12_lookAtBoth 26 = .ok (.iload_n 2, 1) := by decide +kernel
theorem dX12_lookAtBoth_27 : decode cX12_lookAtBoth 27 = .ok (.iload_n 3, 1) := by decide +kernel
theorem dX12_lookAtBoth_28 : decode cX12_lookAtBoth 28 = .ok (.iconst 0, 1) := by decide +kernel
theorem dX12_lookAtBoth_29 : decode cX12_lookAtBoth 29 = .ok (.invokevirtual 140, 3) := by decide +kernel
theorem dX12_lookAtBoth_32 : decode cX12_lookAtBoth 32 = .ok (.goto 11, 3) := by decide +kernel
theorem dX12_lookAtBoth_35 : decode cX12_lookAtBoth 35 = .ok (.aload_n 0, 1) := by decide +kernel
theorem dX12_lookAtBoth_36 : decode cX12_lookAtBoth 36 = .ok (.aload_n 0, 1) := by decide +kernel
theorem dX12_lookAtBoth_37 : decode cX12_lookAtBoth 37 = .ok (.getfield 110, 3) := by decide +kernel
theorem dX12_lookAtBoth_40 : decode cX12_lookAtBoth 40 = .ok (.invokevirtual 137, 3) := by decide +kernel
theorem dX12_lookAtBoth_43 : decode cX12_lookAtBoth 43 = .ok (.ireturn, 1) := by decide +kernel
