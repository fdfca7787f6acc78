abbrev cX12_ownPlace : ByteArray := prog_14_method_30_code
def yX12_ownPlace : MethodName := ⟨RX12, "ownPlace", "(II)I"⟩
def wsX12_ownPlace : List Cond := .code yX12_ownPlace cX12_ownPlace 4 (some .int) :: ([.fieldLink RX12 38 "NeededListsModel" "shareList" "[I", .fieldLink RX12 41 "NeededListsModel" "shareCell" "[I", .methodLink RX12 106 yX12_place, .static yX12_place, .initialized RX12, .code yX12_place cX12_place 2 (some .int)] ++ wsX120)
set_option maxRecDepth 20000 in
theorem ggX12_ownPlace_X12_place : GoodIn wsX12_ownPlace wsX12_place := goodIn_r _ [6] (by decide +kernel) (by decide +kernel)
set_option maxRecDepth 20000 in
theorem gX12_ownPlace_X12_place : GoodIn wsX12_ownPlace (va_wsS RX12 106 yX12_place wsX12_place) := goodIn_app (goodIn_of _ (by decide +kernel)) ggX12_ownPlace_X12_place
theorem dX12_ownPlace_0 : decode cX12_ownPlace 0 = .ok (.iload_n 1, 1) := by decide +kernel
theorem dX12_ownPlace_1 : decode cX12_ownPlace 1 = .ok (.iload_n 2, 1) := by decide +kernel
theorem dX12_ownPlace_2 : decode cX12_ownPlace 2 = .ok (.invokestatic 106, 3) := by decide +kernel
theorem dX12_ownPlace_5 : decode cX12_ownPlace 5 = .ok (.istore_n 3, 1) := by decide +kernel
theorem dX12_ownPlace_6 : decode cX12_ownPlace 6 = .ok (.aload_n 0, 1) := by decide +kernel
theorem dX12_ownPlace_7 : decode cX12_ownPlace 7 = .ok (.getfield 38, 3) := by decide +kernel
theorem dX12_ownPlace_10 : decode cX12_ownPlace 10 = .ok (.iload_n 3, 1) := by decide +kernel
theorem dX12_ownPlace_11 : decode cX12_ownPlace 11 = .ok (.iaload, 1) := by decide +kernel
theorem dX12_ownPlace_12 : decode cX12_ownPlace 12 = .ok (.ifCond .eq 24, 3) := by decide +kernel
theorem dX12_ownPlace_15 : decode cX12_ownPlace 15 = .ok (.aload_n 0, 1) := by decide +kernel
theorem dX12_ownPlace_16 : decode cX12_ownPlace 16 = .ok (.getfield 38, 3) := by decide +kernel
theorem dX12_ownPlace_19 : decode cX12_ownPlace 19 = .ok (.iload_n 3, 1) := by decide +kernel
theorem dX12_ownPlace_20 : decode cX12_ownPlace 20 = .ok (.iaload, 1) := by decide +kernel
theorem dX12_ownPlace_21 : decode cX12_ownPlace 21 = .ok (.iconst 1, 1) := by decide +kernel
theorem dX12_ownPlace_22 : decode cX12_ownPlace 22 = .ok (.isub, 1) := by decide +kernel
theorem dX12_ownPlace_23 : decode cX12_ownPlace 23 = .ok (.aload_n 0, 1) := by decide +kernel
theorem dX12_ownPlace_24 : decode cX12_ownPlace 24 = .ok (.getfield 41, 3) := by decide +kernel
theorem dX12_ownPlace_27 : decode cX12_ownPlace 27 = .ok (.iload_n 3, 1) := by decide +kernel
theorem dX12_ownPlace_28 : decode cX12_ownPlace 28 = .ok (.iaload, 1) := by decide +kernel
theorem dX12_ownPlace_29 : decode cX12_ownPlace 29 = .ok (.invokestatic 106, 3) := by decide +kernel
theorem dX12_ownPlace_32 : decode cX12_ownPlace 32 = .ok (.istore_n 3, 1) := by decide +kernel
theorem dX12_ownPlace_33 : decode cX12_ownPlace 33 = .ok (.goto (-27), 3) := by decide +kernel
theorem dX12_ownPlace_36 : decode cX12_ownPlace 36 = .ok (.iload_n 3, 1) := by decide +kernel
theorem dX12_ownPlace_37 : decode cX12_ownPlace 37 = .ok (.ireturn, 1) := by decide +kernel
