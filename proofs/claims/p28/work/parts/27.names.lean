abbrev cX12_floor : ByteArray := prog_14_method_26_code
def yX12_floor : MethodName := ⟨RX12, "floor", "(JJ)J"⟩
def wsX12_floor : List Cond := .code yX12_floor cX12_floor 6 (some .long) :: ([])
theorem dX12_floor_0 : decode cX12_floor 0 = .ok (.lload_n 0, 1) := by decide +kernel
theorem dX12_floor_1 : decode cX12_floor 1 = .ok (.lload_n 2, 1) := by decide +kernel
theorem dX12_floor_2 : decode cX12_floor 2 = .ok (.ldiv, 1) := by decide +kernel
theorem dX12_floor_3 : decode cX12_floor 3 = .ok (.lstore 4, 2) := by decide +kernel
theorem dX12_floor_5 : decode cX12_floor 5 = .ok (.lload_n 0, 1) := by decide +kernel
theorem dX12_floor_6 : decode cX12_floor 6 = .ok (.lload_n 2, 1) := by decide +kernel
theorem dX12_floor_7 : decode cX12_floor 7 = .ok (.lrem, 1) := by decide +kernel
theorem dX12_floor_8 : decode cX12_floor 8 = .ok (.lconst 0, 1) := by decide +kernel
theorem dX12_floor_9 : decode cX12_floor 9 = .ok (.lcmp, 1) := by decide +kernel
theorem dX12_floor_10 : decode cX12_floor 10 = .ok (.ifCond .eq 35, 3) := by decide +kernel
theorem dX12_floor_13 : decode cX12_floor 13 = .ok (.lload_n 0, 1) := by decide +kernel
theorem dX12_floor_14 : decode cX12_floor 14 = .ok (.lconst 0, 1) := by decide +kernel
theorem dX12_floor_15 : decode cX12_floor 15 = .ok (.lcmp, 1) := by decide +kernel
theorem dX12_floor_16 : decode cX12_floor 16 = .ok (.ifCond .ge 7, 3) := by decide +kernel
theorem dX12_floor_19 : decode cX12_floor 19 = .ok (.iconst 1, 1) := by decide +kernel
theorem dX12_floor_20 : decode cX12_floor 20 = .ok (.goto 4, 3) := by decide +kernel
theorem dX12_floor_23 : decode cX12_floor 23 = .ok (.iconst 0, 1) := by decide +kernel
theorem dX12_floor_24 : decode cX12_floor 24 = .ok (.lload_n 2, 1) := by decide +kernel
theorem dX12_floor_25 : decode cX12_floor 25 = .ok (.lconst 0, 1) := by decide +kernel
theorem dX12_floor_26 : decode cX12_floor 26 = .ok (.lcmp, 1) := by decide +kernel
theorem dX12_floor_27 : decode cX12_floor 27 = .ok (.ifCond .ge 7, 3) := by decide +kernel
theorem dX12_floor_30 : decode cX12_floor 30 = .ok (.iconst 1, 1) := by decide +kernel
theorem dX12_floor_31 : decode cX12_floor 31 = .ok (.goto 4, 3) := by decide +kernel
theorem dX12_floor_34 : decode cX12_floor 34 = .ok (.iconst 0, 1) := by decide +kernel
theorem dX12_floor_35 : decode cX12_floor 35 = .ok (.if_icmp .eq 10, 3) := by decide +kernel
theorem dX12_floor_38 : decode cX12_floor 38 = .ok (.lload 4, 2) := by decide +kernel
theorem dX12_floor_40 : decode cX12_floor 40 = .ok (.lconst 1, 1) := by decide +kernel
theorem dX12_floor_41 : decode cX12_floor 41 = .ok (.lsub, 1) := by decide +kernel
theorem dX12_floor_42 : decode cX12_floor 42 = .ok (.goto 5, 3) := by decide +kernel
theorem dX12_floor_45 : decode cX12_floor 45 = .ok (.lload 4, 2) := by decide +kernel
theorem dX12_floor_47 : decode cX12_floor 47 = .ok (.lreturn, 1) := by decide +kernel
