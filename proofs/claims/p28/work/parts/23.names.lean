abbrev cX12_lookAtJoin : ByteArray := prog_14_method_40_code
def yX12_lookAtJoin : MethodName := ⟨RX12, "lookAtJoin", "(III)I"⟩
def wsX12_lookAtJoin_r1 : List Cond := [Cond.fieldLink RX12 110 "NeededListsModel" "got" "I", Cond.fieldLink RX12 113 "NeededListsModel" "gotAt" "I", Cond.methodLink RX12 131 yX12_needCell, Cond.instanceMethod yX12_needCell, Cond.selects RX12 yX12_needCell yX12_needCell, Cond.initialized RX12, Cond.code yX12_needCell cX12_needCell 4 (some .int), Cond.fieldLink RX12 29 "NeededListsModel" "cell" "[I", Cond.methodLink RX12 106 yX12_place, Cond.static yX12_place, Cond.code yX12_place cX12_place 2 (some .int), Cond.methodLink RX12 140 yX12_like, Cond.instanceMethod yX12_like, Cond.selects RX12 yX12_like yX12_like, Cond.code yX12_like cX12_like 5 (some .int), Cond.methodLink RX12 134 yX12_shares, Cond.instanceMethod yX12_shares, Cond.selects RX12 yX12_shares yX12_shares, Cond.code yX12_shares cX12_shares 3 (some .int), Cond.fieldLink RX12 122 "NeededListsModel" "becomes" "I", Cond.fieldLink RX12 125 "NeededListsModel" "becomesList" "I", Cond.fieldLink RX12 128 "NeededListsModel" "becomesCell" "I", Cond.methodLink RX12 137 yX12_as, Cond.instanceMethod yX12_as]
def wsX12_lookAtJoin_r2 : List Cond := [Cond.selects RX12 yX12_as yX12_as, Cond.code yX12_as cX12_as 2 (some .int)]
def wsX12_lookAtJoin : List Cond := .code yX12_lookAtJoin cX12_lookAtJoin 5 (some .int) :: ((wsX12_lookAtJoin_r1 ++ wsX12_lookAtJoin_r2) ++ wsX120)
set_option maxRecDepth 20000 in
theorem ggX12_lookAtJoin_X12_needCell : GoodIn wsX12_lookAtJoin wsX12_needCell := goodIn_r _ [7, 8, 1, 2, 9, 10, 6, 11, 27, 28, 29, 30, 31, 32, 33, 34, 35, 36, 37, 38, 39, 40, 41, 42, 43, 44, 45, 46, 47, 48, 49, 50, 51, 52, 53, 54, 55, 56, 57, 58] (by decide +kernel) (by decide +kernel)
set_option maxRecDepth 20000 in
theorem gX12_lookAtJoin_X12_needCell : GoodIn wsX12_lookAtJoin (wsV RX12 131 RX12 yX12_needCell wsX12_needCell) := goodIn_app (goodIn_of _ (by decide +kernel)) ggX12_lookAtJoin_X12_needCell
set_option maxRecDepth 20000 in
theorem ggX12_lookAtJoin_X12_like : GoodIn wsX12_lookAtJoin wsX12_like := goodIn_r _ [15, 1, 3, 4, 5, 6, 7, 8, 2, 9, 10, 11, 16, 17, 18, 19, 20, 21, 22, 23, 24, 25, 26, 27, 28, 29, 30, 31, 32, 33, 34, 35, 36, 37, 38, 39, 40, 41, 42, 43, 44, 45, 46, 47, 48, 49, 50, 51, 52, 53, 54, 55, 56, 57, 58] (by decide +kernel) (by decide +kernel)
set_option maxRecDepth 20000 in
theorem gX12_lookAtJoin_X12_like : GoodIn wsX12_lookAtJoin (wsV RX12 140 RX12 yX12_like wsX12_like) := goodIn_app (goodIn_of _ (by decide +kernel)) ggX12_lookAtJoin_X12_like
set_option maxRecDepth 20000 in
theorem ggX12_lookAtJoin_X12_shares : GoodIn wsX12_lookAtJoin wsX12_shares := goodIn_r _ [19, 20, 21, 22, 27, 28, 29, 30, 31, 32, 33, 34, 35, 36, 37, 38, 39, 40, 41, 42, 43, 44, 45, 46, 47, 48, 49, 50, 51, 52, 53, 54, 55, 56, 57, 58] (by decide +kernel) (by decide +kernel)
set_option maxRecDepth 20000 in
theorem gX12_lookAtJoin_X12_shares : GoodIn wsX12_lookAtJoin (wsV RX12 134 RX12 yX12_shares wsX12_shares) := goodIn_app (goodIn_of _ (by decide +kernel)) ggX12_lookAtJoin_X12_shares
set_option maxRecDepth 20000 in
theorem ggX12_lookAtJoin_X12_as : GoodIn wsX12_lookAtJoin wsX12_as := goodIn_r _ [26, 20, 21, 22, 27, 28, 29, 30, 31, 32, 33, 34, 35, 36, 37, 38, 39, 40, 41, 42, 43, 44, 45, 46, 47, 48, 49, 50, 51, 52, 53, 54, 55, 56, 57, 58] (by decide +kernel) (by decide +kernel)
set_option maxRecDepth 20000 in
theorem gX12_lookAtJoin_X12_as : GoodIn wsX12_lookAtJoin (wsV RX12 137 RX12 yX12_as wsX12_as) := goodIn_app (goodIn_of _ (by decide +kernel)) ggX12_lookAtJoin_X12_as
theorem dX12_lookAtJoin_0 : decode cX12_lookAtJoin 0 = .ok (.aload_n 0, 1) := by decide +kernel
theorem dX12_lookAtJoin_1 : decode cX12_lookAtJoin 1 = .ok (.iload_n 1, 1) := by decide +kernel
theorem dX12_lookAtJoin_2 : decode cX12_lookAtJoin 2 = .ok (.iload_n 3, 1) := by decide +kernel
theorem dX12_lookAtJoin_3 : decode cX12_lookAtJoin 3 = .ok (.invokevirtual 131, 3) := by decide +kernel
theorem dX12_lookAtJoin_6 : decode cX12_lookAtJoin 6 = .ok (.istore 4, 2) := by decide +kernel
theorem dX12_lookAtJoin_8 : decode cX12_lookAtJoin 8 = .ok (.iload 4, 2) := by decide +kernel
theorem dX12_lookAtJoin_10 : decode cX12_lookAtJoin 10 = .ok (.iconst (-1), 1) := by decide +kernel
theorem dX12_lookAtJoin_11 : decode cX12_lookAtJoin 11 = .ok (.if_icmp .eq 6, 3) := by decide +kernel
theorem dX12_lookAtJoin_14 : decode cX12_lookAtJoin 14 = .ok (.iload 4, 2) := by decide +kernel
theorem dX12_lookAtJoin_16 : decode cX12_lookAtJoin 16 = .ok (.ireturn, 1) := by decide +kernel
theorem dX12_lookAtJoin_17 : decode cX12_lookAtJoin 17 = .ok (.aload_n 0, 1) := by decide +kernel
theorem dX12_lookAtJoin_18 : decode cX12_lookAtJoin 18 = .ok (.getfield 110, 3) := by decide +kernel
theorem dX12_lookAtJoin_21 : decode cX12_lookAtJoin 21 = .ok (.iconst 2, 1) := by decide +kernel
theorem dX12_lookAtJoin_22 : decode cX12_lookAtJoin 22 = .ok (.if_icmp .ne 16, 3) := by decide +kernel
theorem dX12_lookAtJoin_25 : decode cX12_lookAtJoin 25 = .ok (.aload_n 0, 1) := by decide +kernel
theorem dX12_lookAtJoin_26 : decode cX12_lookAtJoin 26 = .ok (.iload_n 2, 1) := by decide +kernel
theorem dX12_lookAtJoin_27 : decode cX12_lookAtJoin 27 = .ok (.iload_n 3, 1) := by decide +kernel
theorem dX12_lookAtJoin_28 : decode cX12_lookAtJoin 28 = .ok (.aload_n 0, 1) := by decide +kernel
theorem dX12_lookAtJoin_29 : decode cX12_lookAtJoin 29 = .ok (.getfield 113, 3) := by decide +kernel
theorem dX12_lookAtJoin_32 : decode cX12_lookAtJoin 32 = .ok (.isub, 1) := by decide +kernel
theorem dX12_lookAtJoin_33 : decode cX12_lookAtJoin 33 = .ok (.iconst 1, 1) := by decide +kernel
theorem dX12_lookAtJoin_34 : decode cX12_lookAtJoin 34 = .ok (.invokevirtual 140, 3) := by decide +kernel
theorem dX12_lookAtJoin_37 : decode cX12_lookAtJoin 37 = .ok (.ireturn, 1) := by decide +kernel
theorem dX12_lookAtJoin_38 : decode cX12_lookAtJoin 38 = .ok (.aload_n 0, 1) := by decide +kernel
theorem dX12_lookAtJoin_39 : decode cX12_lookAtJoin 39 = .ok (.getfield 110, 3) := by decide +kernel
theorem dX12_lookAtJoin_42 : decode cX12_lookAtJoin 42 = .ok (.iconst 1, 1) := by decide +kernel
theorem dX12_lookAtJoin_43 : decode cX12_lookAtJoin 43 = .ok (.if_icmp .ne 12, 3) := by decide +kernel
theorem dX12_lookAtJoin_46 : decode cX12_lookAtJoin 46 = .ok (.aload_n 0, 1) := by decide +kernel
theorem dX12_lookAtJoin_47 : decode cX12_lookAtJoin 47 = .ok (.iload_n 1, 1) := by decide +kernel
theorem dX12_lookAtJoin_48 : decode cX12_lookAtJoin 48 = .ok (.iload_n 3, 1) := by decide +kernel
theorem dX12_lookAtJoin_49 : decode cX12_lookAtJoin 49 = .ok (.invokevirtual 134, 3) := by decide +kernel
theorem dX12_lookAtJoin_52 : decode cX12_lookAtJoin 52 = .ok (.goto 11, 3) := by decide +kernel
theorem dX12_lookAtJoin_55 : decode cX12_lookAtJoin 55 = .ok (.aload_n 0, 1) := by decide +kernel
theorem dX12_lookAtJoin_56 : decode cX12_lookAtJoin 56 = .ok (.aload_n 0, 1) := by decide +kernel
theorem dX12_lookAtJoin_57 : decode cX12_lookAtJoin 57 = .ok (.getfield 110, 3) := by decide +kernel
theorem dX12_lookAtJoin_60 : decode cX12_lookAtJoin 60 = .ok (.invokevirtual 137, 3) := by decide +kernel
theorem dX12_lookAtJoin_63 : decode cX12_lookAtJoin 63 = .ok (.ireturn, 1) := by decide +kernel
