abbrev cX12_take : ByteArray := prog_14_method_17_code
def yX12_take : MethodName := ⟨RX12, "take", "(II)I"⟩
abbrev cX12_drop : ByteArray := prog_14_method_18_code
def yX12_drop : MethodName := ⟨RX12, "drop", "(II)I"⟩
abbrev cX12_keep : ByteArray := prog_14_method_20_code
def yX12_keep : MethodName := ⟨RX12, "keep", "(IIJ)I"⟩
abbrev cX12_during : ByteArray := prog_14_method_21_code
def yX12_during : MethodName := ⟨RX12, "during", "(IIJ)I"⟩
abbrev cX12_after : ByteArray := prog_14_method_22_code
def yX12_after : MethodName := ⟨RX12, "after", "(IIJ)I"⟩
abbrev cX12_join : ByteArray := prog_14_method_23_code
def yX12_join : MethodName := ⟨RX12, "join", "(II)I"⟩
abbrev cX12_other : ByteArray := prog_14_method_24_code
def yX12_other : MethodName := ⟨RX12, "other", "(II)I"⟩
abbrev cX12_steps : ByteArray := prog_14_method_48_code
def yX12_steps : MethodName := ⟨RX12, "steps", "(I)I"⟩
abbrev cX12_reached : ByteArray := prog_14_method_63_code
def yX12_reached : MethodName := ⟨RX12, "reached", "(I)I"⟩
theorem dX12_some_0 : decode cX12_some 0 = .ok (.aload_n 0, 1) := by decide +kernel
theorem dX12_some_1 : decode cX12_some 1 = .ok (.iload_n 2, 1) := by decide +kernel
theorem dX12_some_2 : decode cX12_some 2 = .ok (.invokevirtual 84, 3) := by decide +kernel
theorem dX12_some_5 : decode cX12_some 5 = .ok (.ifCond .ne 9, 3) := by decide +kernel
theorem dX12_some_8 : decode cX12_some 8 = .ok (.aload_n 0, 1) := by decide +kernel
theorem dX12_some_9 : decode cX12_some 9 = .ok (.iconst 1, 1) := by decide +kernel
theorem dX12_some_10 : decode cX12_some 10 = .ok (.invokevirtual 72, 3) := by decide +kernel
theorem dX12_some_13 : decode cX12_some 13 = .ok (.ireturn, 1) := by decide +kernel
theorem dX12_some_14 : decode cX12_some 14 = .ok (.iload_n 3, 1) := by decide +kernel
theorem dX12_some_15 : decode cX12_some 15 = .ok (.ifCond .lt 10, 3) := by decide +kernel
theorem dX12_some_18 : decode cX12_some 18 = .ok (.iload_n 3, 1) := by decide +kernel
theorem dX12_some_19 : decode cX12_some 19 = .ok (.sipush 400, 3) := by decide +kernel
theorem dX12_some_22 : decode cX12_some 22 = .ok (.if_icmp .le 9, 3) := by decide +kernel
theorem dX12_some_25 : decode cX12_some 25 = .ok (.aload_n 0, 1) := by decide +kernel
theorem dX12_some_26 : decode cX12_some 26 = .ok (.iconst 2, 1) := by decide +kernel
theorem dX12_some_27 : decode cX12_some 27 = .ok (.invokevirtual 72, 3) := by decide +kernel
theorem dX12_some_30 : decode cX12_some 30 = .ok (.ireturn, 1) := by decide +kernel
theorem dX12_some_31 : decode cX12_some 31 = .ok (.aload_n 0, 1) := by decide +kernel
theorem dX12_some_32 : decode cX12_some 32 = .ok (.getfield 66, 3) := by decide +kernel
theorem dX12_some_35 : decode cX12_some 35 = .ok (.bipush 24, 2) := by decide +kernel
theorem dX12_some_37 : decode cX12_some 37 = .ok (.if_icmp .ne 11, 3) := by decide +kernel
theorem dX12_some_40 : decode cX12_some 40 = .ok (.aload_n 0, 1) := by decide +kernel
theorem dX12_some_41 : decode cX12_some 41 = .ok (.iconst 3, 1) := by decide +kernel
theorem dX12_some_42 : decode cX12_some 42 = .ok (.invokevirtual 72, 3) := by decide +kernel
theorem dX12_some_45 : decode cX12_some 45 = .ok (.goto 13, 3) := by decide +kernel
theorem dX12_some_48 : decode cX12_some 48 = .ok (.aload_n 0, 1) := by decide +kernel
theorem dX12_some_49 : decode cX12_some 49 = .ok (.iload_n 1, 1) := by decide +kernel
theorem dX12_some_50 : decode cX12_some 50 = .ok (.iload_n 2, 1) := by decide +kernel
theorem dX12_some_51 : decode cX12_some 51 = .ok (.iconst 0, 1) := by decide +kernel
theorem dX12_some_52 : decode cX12_some 52 = .ok (.iload_n 3, 1) := by decide +kernel
theorem dX12_some_53 : decode cX12_some 53 = .ok (.lconst 0, 1) := by decide +kernel
theorem dX12_some_54 : decode cX12_some 54 = .ok (.lconst 0, 1) := by decide +kernel
theorem dX12_some_55 : decode cX12_some 55 = .ok (.invokevirtual 76, 3) := by decide +kernel
theorem dX12_some_58 : decode cX12_some 58 = .ok (.ireturn, 1) := by decide +kernel
theorem dX12_take_0 : decode cX12_take 0 = .ok (.aload_n 0, 1) := by decide +kernel
theorem dX12_take_1 : decode cX12_take 1 = .ok (.iconst 0, 1) := by decide +kernel
theorem dX12_take_2 : decode cX12_take 2 = .ok (.putfield 63, 3) := by decide +kernel
theorem dX12_take_5 : decode cX12_take 5 = .ok (.aload_n 0, 1) := by decide +kernel
theorem dX12_take_6 : decode cX12_take 6 = .ok (.bipush 6, 2) := by decide +kernel
theorem dX12_take_8 : decode cX12_take 8 = .ok (.iload_n 1, 1) := by decide +kernel
theorem dX12_take_9 : decode cX12_take 9 = .ok (.iload_n 2, 1) := by decide +kernel
theorem dX12_take_10 : decode cX12_take 10 = .ok (.invokevirtual 87, 3) := by decide +kernel
theorem dX12_take_13 : decode cX12_take 13 = .ok (.ireturn, 1) := by decide +kernel
theorem dX12_drop_0 : decode cX12_drop 0 = .ok (.aload_n 0, 1) := by decide +kernel
theorem dX12_drop_1 : decode cX12_drop 1 = .ok (.iconst 0, 1) := by decide +kernel
theorem dX12_drop_2 : decode cX12_drop 2 = .ok (.putfield 63, 3) := by decide +kernel
theorem dX12_drop_5 : decode cX12_drop 5 = .ok (.aload_n 0, 1) := by decide +kernel
theorem dX12_drop_6 : decode cX12_drop 6 = .ok (.bipush 7, 2) := by decide +kernel
theorem dX12_drop_8 : decode cX12_drop 8 = .ok (.iload_n 1, 1) := by decide +kernel
theorem dX12_drop_9 : decode cX12_drop 9 = .ok (.iload_n 2, 1) := by decide +kernel
theorem dX12_drop_10 : decode cX12_drop 10 = .ok (.invokevirtual 87, 3) := by decide +kernel
theorem dX12_drop_13 : decode cX12_drop 13 = .ok (.ireturn, 1) := by decide +kernel
theorem dX12_by_0 : decode cX12_by 0 = .ok (.aload_n 0, 1) := by decide +kernel
theorem dX12_by_1 : decode cX12_by 1 = .ok (.iload_n 2, 1) := by decide +kernel
theorem dX12_by_2 : decode cX12_by 2 = .ok (.invokevirtual 84, 3) := by decide +kernel
theorem dX12_by_5 : decode cX12_by 5 = .ok (.ifCond .ne 9, 3) := by decide +kernel
theorem dX12_by_8 : decode cX12_by 8 = .ok (.aload_n 0, 1) := by decide +kernel
theorem dX12_by_9 : decode cX12_by 9 = .ok (.iconst 1, 1) := by decide +kernel
theorem dX12_by_10 : decode cX12_by 10 = .ok (.invokevirtual 72, 3) := by decide +kernel
theorem dX12_by_13 : decode cX12_by 13 = .ok (.ireturn, 1) := by decide +kernel
theorem dX12_by_14 : decode cX12_by 14 = .ok (.iload_n 3, 1) := by decide +kernel
theorem dX12_by_15 : decode cX12_by 15 = .ok (.invokestatic 91, 3) := by decide +kernel
theorem dX12_by_18 : decode cX12_by 18 = .ok (.ifCond .ne 9, 3) := by decide +kernel
theorem dX12_by_21 : decode cX12_by 21 = .ok (.aload_n 0, 1) := by decide +kernel
theorem dX12_by_22 : decode cX12_by 22 = .ok (.iconst 2, 1) := by decide +kernel
theorem dX12_by_23 : decode cX12_by 23 = .ok (.invokevirtual 72, 3) := by decide +kernel
theorem dX12_by_26 : decode cX12_by 26 = .ok (.ireturn, 1) := by decide +kernel
theorem dX12_by_27 : decode cX12_by 27 = .ok (.aload_n 0, 1) := by decide +kernel
theorem dX12_by_28 : decode cX12_by 28 = .ok (.getfield 66, 3) := by decide +kernel
theorem dX12_by_31 : decode cX12_by 31 = .ok (.bipush 24, 2) := by decide +kernel
theorem dX12_by_33 : decode cX12_by 33 = .ok (.if_icmp .ne 11, 3) := by decide +kernel
theorem dX12_by_36 : decode cX12_by 36 = .ok (.aload_n 0, 1) := by decide +kernel
theorem dX12_by_37 : decode cX12_by 37 = .ok (.iconst 3, 1) := by decide +kernel
theorem dX12_by_38 : decode cX12_by 38 = .ok (.invokevirtual 72, 3) := by decide +kernel
theorem dX12_by_41 : decode cX12_by 41 = .ok (.goto 14, 3) := by decide +kernel
theorem dX12_by_44 : decode cX12_by 44 = .ok (.aload_n 0, 1) := by decide +kernel
theorem dX12_by_45 : decode cX12_by 45 = .ok (.iload_n 1, 1) := by decide +kernel
theorem dX12_by_46 : decode cX12_by 46 = .ok (.iload_n 2, 1) := by decide +kernel
theorem dX12_by_47 : decode cX12_by 47 = .ok (.iconst 0, 1) := by decide +kernel
theorem dX12_by_48 : decode cX12_by 48 = .ok (.iload_n 3, 1) := by decide +kernel
theorem dX12_by_49 : decode cX12_by 49 = .ok (.lload 4, 2) := by decide +kernel
theorem dX12_by_51 : decode cX12_by 51 = .ok (.lconst 0, 1) := by decide +kernel
theorem dX12_by_52 : decode cX12_by 52 = .ok (.invokevirtual 76, 3) := by decide +kernel
theorem dX12_by_55 : decode cX12_by 55 = .ok (.ireturn, 1) := by decide +kernel
theorem dX12_keep_0 : decode cX12_keep 0 = .ok (.aload_n 0, 1) := by decide +kernel
theorem dX12_keep_1 : decode cX12_keep 1 = .ok (.iconst 0, 1) := by decide +kernel
theorem dX12_keep_2 : decode cX12_keep 2 = .ok (.putfield 63, 3) := by decide +kernel
theorem dX12_keep_5 : decode cX12_keep 5 = .ok (.aload_n 0, 1) := by decide +kernel
theorem dX12_keep_6 : decode cX12_keep 6 = .ok (.bipush 8, 2) := by decide +kernel
theorem dX12_keep_8 : decode cX12_keep 8 = .ok (.iload_n 1, 1) := by decide +kernel
theorem dX12_keep_9 : decode cX12_keep 9 = .ok (.iload_n 2, 1) := by decide +kernel
theorem dX12_keep_10 : decode cX12_keep 10 = .ok (.lload_n 3, 1) := by decide +kernel
theorem dX12_keep_11 : decode cX12_keep 11 = .ok (.invokevirtual 94, 3) := by decide +kernel
theorem dX12_keep_14 : decode cX12_keep 14 = .ok (.ireturn, 1) := by decide +kernel
theorem dX12_during_0 : decode cX12_during 0 = .ok (.aload_n 0, 1) := by decide +kernel
theorem dX12_during_1 : decode cX12_during 1 = .ok (.iconst 0, 1) := by decide +kernel
theorem dX12_during_2 : decode cX12_during 2 = .ok (.putfield 63, 3) := by decide +kernel
theorem dX12_during_5 : decode cX12_during 5 = .ok (.aload_n 0, 1) := by decide +kernel
theorem dX12_during_6 : decode cX12_during 6 = .ok (.bipush 9, 2) := by decide +kernel
theorem dX12_during_8 : decode cX12_during 8 = .ok (.iload_n 1, 1) := by decide +kernel
theorem dX12_during_9 : decode cX12_during 9 = .ok (.iload_n 2, 1) := by decide +kernel
theorem dX12_during_10 : decode cX12_during 10 = .ok (.lload_n 3, 1) := by decide +kernel
theorem dX12_during_11 : decode cX12_during 11 = .ok (.invokevirtual 94, 3) := by decide +kernel
theorem dX12_during_14 : decode cX12_during 14 = .ok (.ireturn, 1) := by decide +kernel
theorem dX12_after_0 : decode cX12_after 0 = .ok (.aload_n 0, 1) := by decide +kernel
theorem dX12_after_1 : decode cX12_after 1 = .ok (.iconst 0, 1) := by decide +kernel
theorem dX12_after_2 : decode cX12_after 2 = .ok (.putfield 63, 3) := by decide +kernel
theorem dX12_after_5 : decode cX12_after 5 = .ok (.aload_n 0, 1) := by decide +kernel
theorem dX12_after_6 : decode cX12_after 6 = .ok (.bipush 10, 2) := by decide +kernel
theorem dX12_after_8 : decode cX12_after 8 = .ok (.iload_n 1, 1) := by decide +kernel
theorem dX12_after_9 : decode cX12_after 9 = .ok (.iload_n 2, 1) := by decide +kernel
theorem dX12_after_10 : decode cX12_after 10 = .ok (.lload_n 3, 1) := by decide +kernel
theorem dX12_after_11 : decode cX12_after 11 = .ok (.invokevirtual 94, 3) := by decide +kernel
theorem dX12_after_14 : decode cX12_after 14 = .ok (.ireturn, 1) := by decide +kernel
theorem dX12_join_0 : decode cX12_join 0 = .ok (.aload_n 0, 1) := by decide +kernel
theorem dX12_join_1 : decode cX12_join 1 = .ok (.iconst 0, 1) := by decide +kernel
theorem dX12_join_2 : decode cX12_join 2 = .ok (.putfield 63, 3) := by decide +kernel
theorem dX12_join_5 : decode cX12_join 5 = .ok (.aload_n 0, 1) := by decide +kernel
theorem dX12_join_6 : decode cX12_join 6 = .ok (.iload_n 1, 1) := by decide +kernel
theorem dX12_join_7 : decode cX12_join 7 = .ok (.invokevirtual 84, 3) := by decide +kernel
theorem dX12_join_10 : decode cX12_join 10 = .ok (.ifCond .eq 11, 3) := by decide +kernel
theorem dX12_join_13 : decode cX12_join 13 = .ok (.aload_n 0, 1) := by decide +kernel
theorem dX12_join_14 : decode cX12_join 14 = .ok (.iload_n 2, 1) := by decide +kernel
theorem dX12_join_15 : decode cX12_join 15 = .ok (.invokevirtual 84, 3) := by decide +kernel
theorem dX12_join_18 : decode cX12_join 18 = .ok (.ifCond .ne 9, 3) := by decide +kernel
theorem dX12_join_21 : decode cX12_join 21 = .ok (.aload_n 0, 1) := by decide +kernel
theorem dX12_join_22 : decode cX12_join 22 = .ok (.iconst 1, 1) := by decide +kernel
theorem dX12_join_23 : decode cX12_join 23 = .ok (.invokevirtual 72, 3) := by decide +kernel
theorem dX12_join_26 : decode cX12_join 26 = .ok (.ireturn, 1) := by decide +kernel
theorem dX12_join_27 : decode cX12_join 27 = .ok (.aload_n 0, 1) := by decide +kernel
theorem dX12_join_28 : decode cX12_join 28 = .ok (.getfield 66, 3) := by decide +kernel
theorem dX12_join_31 : decode cX12_join 31 = .ok (.bipush 24, 2) := by decide +kernel
theorem dX12_join_33 : decode cX12_join 33 = .ok (.if_icmp .ne 11, 3) := by decide +kernel
theorem dX12_join_36 : decode cX12_join 36 = .ok (.aload_n 0, 1) := by decide +kernel
theorem dX12_join_37 : decode cX12_join 37 = .ok (.iconst 2, 1) := by decide +kernel
theorem dX12_join_38 : decode cX12_join 38 = .ok (.invokevirtual 72, 3) := by decide +kernel
theorem dX12_join_41 : decode cX12_join 41 = .ok (.goto 14, 3) := by decide +kernel
theorem dX12_join_44 : decode cX12_join 44 = .ok (.aload_n 0, 1) := by decide +kernel
theorem dX12_join_45 : decode cX12_join 45 = .ok (.bipush 11, 2) := by decide +kernel
theorem dX12_join_47 : decode cX12_join 47 = .ok (.iload_n 1, 1) := by decide +kernel
theorem dX12_join_48 : decode cX12_join 48 = .ok (.iload_n 2, 1) := by decide +kernel
theorem dX12_join_49 : decode cX12_join 49 = .ok (.iconst 0, 1) := by decide +kernel
theorem dX12_join_50 : decode cX12_join 50 = .ok (.lconst 0, 1) := by decide +kernel
theorem dX12_join_51 : decode cX12_join 51 = .ok (.lconst 0, 1) := by decide +kernel
theorem dX12_join_52 : decode cX12_join 52 = .ok (.invokevirtual 76, 3) := by decide +kernel
theorem dX12_join_55 : decode cX12_join 55 = .ok (.ireturn, 1) := by decide +kernel
theorem dX12_other_0 : decode cX12_other 0 = .ok (.aload_n 0, 1) := by decide +kernel
theorem dX12_other_1 : decode cX12_other 1 = .ok (.iconst 0, 1) := by decide +kernel
theorem dX12_other_2 : decode cX12_other 2 = .ok (.putfield 63, 3) := by decide +kernel
theorem dX12_other_5 : decode cX12_other 5 = .ok (.aload_n 0, 1) := by decide +kernel
theorem dX12_other_6 : decode cX12_other 6 = .ok (.iload_n 1, 1) := by decide +kernel
theorem dX12_other_7 : decode cX12_other 7 = .ok (.invokevirtual 84, 3) := by decide +kernel
theorem dX12_other_10 : decode cX12_other 10 = .ok (.ifCond .ne 9, 3) := by decide +kernel
theorem dX12_other_13 : decode cX12_other 13 = .ok (.aload_n 0, 1) := by decide +kernel
theorem dX12_other_14 : decode cX12_other 14 = .ok (.iconst 1, 1) := by decide +kernel
theorem dX12_other_15 : decode cX12_other 15 = .ok (.invokevirtual 72, 3) := by decide +kernel
theorem dX12_other_18 : decode cX12_other 18 = .ok (.ireturn, 1) := by decide +kernel
theorem dX12_other_19 : decode cX12_other 19 = .ok (.iload_n 2, 1) := by decide +kernel
theorem dX12_other_20 : decode cX12_other 20 = .ok (.ifCond .lt 8, 3) := by decide +kernel
theorem dX12_other_23 : decode cX12_other 23 = .ok (.iload_n 2, 1) := by decide +kernel
theorem dX12_other_24 : decode cX12_other 24 = .ok (.iconst 4, 1) := by decide +kernel
theorem dX12_other_25 : decode cX12_other 25 = .ok (.if_icmp .le 9, 3) := by decide +kernel
theorem dX12_other_28 : decode cX12_other 28 = .ok (.aload_n 0, 1) := by decide +kernel
theorem dX12_other_29 : decode cX12_other 29 = .ok (.iconst 2, 1) := by decide +kernel
theorem dX12_other_30 : decode cX12_other 30 = .ok (.invokevirtual 72, 3) := by decide +kernel
theorem dX12_other_33 : decode cX12_other 33 = .ok (.ireturn, 1) := by decide +kernel
theorem dX12_other_34 : decode cX12_other 34 = .ok (.aload_n 0, 1) := by decide +kernel
theorem dX12_other_35 : decode cX12_other 35 = .ok (.getfield 66, 3) := by decide +kernel
theorem dX12_other_38 : decode cX12_other 38 = .ok (.bipush 24, 2) := by decide +kernel
theorem dX12_other_40 : decode cX12_other 40 = .ok (.if_icmp .ne 11, 3) := by decide +kernel
theorem dX12_other_43 : decode cX12_other 43 = .ok (.aload_n 0, 1) := by decide +kernel
theorem dX12_other_44 : decode cX12_other 44 = .ok (.iconst 3, 1) := by decide +kernel
theorem dX12_other_45 : decode cX12_other 45 = .ok (.invokevirtual 72, 3) := by decide +kernel
theorem dX12_other_48 : decode cX12_other 48 = .ok (.goto 16, 3) := by decide +kernel
theorem dX12_other_51 : decode cX12_other 51 = .ok (.aload_n 0, 1) := by decide +kernel
theorem dX12_other_52 : decode cX12_other 52 = .ok (.bipush 12, 2) := by decide +kernel
theorem dX12_other_54 : decode cX12_other 54 = .ok (.iload_n 2, 1) := by decide +kernel
theorem dX12_other_55 : decode cX12_other 55 = .ok (.iadd, 1) := by decide +kernel
theorem dX12_other_56 : decode cX12_other 56 = .ok (.iload_n 1, 1) := by decide +kernel
theorem dX12_other_57 : decode cX12_other 57 = .ok (.iconst 0, 1) := by decide +kernel
theorem dX12_other_58 : decode cX12_other 58 = .ok (.iconst 0, 1) := by decide +kernel
theorem dX12_other_59 : decode cX12_other 59 = .ok (.lconst 0, 1) := by decide +kernel
theorem dX12_other_60 : decode cX12_other 60 = .ok (.lconst 0, 1) := by decide +kernel
theorem dX12_other_61 : decode cX12_other 61 = .ok (.invokevirtual 76, 3) := by decide +kernel
theorem dX12_other_64 : decode cX12_other 64 = .ok (.ireturn, 1) := by decide +kernel
theorem dX12_op_0 : decode cX12_op 0 = .ok (.aload_n 0, 1) := by decide +kernel
theorem dX12_op_1 : decode cX12_op 1 = .ok (.lconst 0, 1) := by decide +kernel
theorem dX12_op_2 : decode cX12_op 2 = .ok (.putfield 98, 3) := by decide +kernel
theorem dX12_op_5 : decode cX12_op 5 = .ok (.iload_n 1, 1) := by decide +kernel
theorem dX12_op_6 : decode cX12_op 6 = .ok (.iconst 3, 1) := by decide +kernel
theorem dX12_op_7 : decode cX12_op 7 = .ok (.if_icmp .eq 8, 3) := by decide +kernel
theorem dX12_op_10 : decode cX12_op 10 = .ok (.iload_n 1, 1) := by decide +kernel
theorem dX12_op_11 : decode cX12_op 11 = .ok (.iconst 4, 1) := by decide +kernel
theorem dX12_op_12 : decode cX12_op 12 = .ok (.if_icmp .ne 12, 3) := by decide +kernel
theorem dX12_op_15 : decode cX12_op 15 = .ok (.lload 4, 2) := by decide +kernel
theorem dX12_op_17 : decode cX12_op 17 = .ok (.lconst 0, 1) := by decide +kernel
theorem dX12_op_18 : decode cX12_op 18 = .ok (.lcmp, 1) := by decide +kernel
theorem dX12_op_19 : decode cX12_op 19 = .ok (.ifCond .ne 5, 3) := by decide +kernel
theorem dX12_op_22 : decode cX12_op 22 = .ok (.iconst 4, 1) := by decide +kernel
theorem dX12_op_23 : decode cX12_op 23 = .ok (.ireturn, 1) := by decide +kernel
theorem dX12_op_24 : decode cX12_op 24 = .ok (.iload_n 1, 1) := by decide +kernel
theorem dX12_op_25 : decode cX12_op 25 = .ok (.iconst 3, 1) := by decide +kernel
theorem dX12_op_26 : decode cX12_op 26 = .ok (.if_icmp .eq 8, 3) := by decide +kernel
theorem dX12_op_29 : decode cX12_op 29 = .ok (.iload_n 1, 1) := by decide +kernel
theorem dX12_op_30 : decode cX12_op 30 = .ok (.iconst 4, 1) := by decide +kernel
theorem dX12_op_31 : decode cX12_op 31 = .ok (.if_icmp .ne 12, 3) := by decide +kernel
theorem dX12_op_34 : decode cX12_op 34 = .ok (.lload_n 2, 1) := by decide +kernel
theorem dX12_op_35 : decode cX12_op 35 = .ok (.lload 4, 2) := by decide +kernel
theorem dX12_op_37 : decode cX12_op 37 = .ok (.invokestatic 102, 3) := by decide +kernel
theorem dX12_op_40 : decode cX12_op 40 = .ok (.goto 4, 3) := by decide +kernel
theorem dX12_op_43 : decode cX12_op 43 = .ok (.lconst 0, 1) := by decide +kernel
theorem dX12_op_44 : decode cX12_op 44 = .ok (.lstore 6, 2) := by decide +kernel
theorem dX12_op_46 : decode cX12_op 46 = .ok (.iload_n 1, 1) := by decide +kernel
theorem dX12_op_47 : decode cX12_op 47 = .ok (.tableswitch 149 0 7 #[45, 56, 67, 78, 87, 101, 121, 141], 45) := by decide +kernel
theorem dX12_op_92 : decode cX12_op 92 = .ok (.aload_n 0, 1) := by decide +kernel
theorem dX12_op_93 : decode cX12_op 93 = .ok (.lload_n 2, 1) := by decide +kernel
theorem dX12_op_94 : decode cX12_op 94 = .ok (.lload 4, 2) := by decide +kernel
theorem dX12_op_96 : decode cX12_op 96 = .ok (.ladd, 1) := by decide +kernel
theorem dX12_op_97 : decode cX12_op 97 = .ok (.putfield 98, 3) := by decide +kernel
theorem dX12_op_100 : decode cX12_op 100 = .ok (.goto 102, 3) := by decide +kernel
theorem dX12_op_103 : decode cX12_op 103 = .ok (.aload_n 0, 1) := by decide +kernel
theorem dX12_op_104 : decode cX12_op 104 = .ok (.lload_n 2, 1) := by decide +kernel
theorem dX12_op_105 : decode cX12_op 105 = .ok (.lload 4, 2) := by decide +kernel
theorem dX12_op_107 : decode cX12_op 107 = .ok (.lsub, 1) := by decide +kernel
theorem dX12_op_108 : decode cX12_op 108 = .ok (.putfield 98, 3) := by decide +kernel
theorem dX12_op_111 : decode cX12_op 111 = .ok (.goto 91, 3) := by decide +kernel
theorem dX12_op_114 : decode cX12_op 114 = .ok (.aload_n 0, 1) := by decide +kernel
theorem dX12_op_115 : decode cX12_op 115 = .ok (.lload_n 2, 1) := by decide +kernel
theorem dX12_op_116 : decode cX12_op 116 = .ok (.lload 4, 2) := by decide +kernel
theorem dX12_op_118 : decode cX12_op 118 = .ok (.lmul, 1) := by decide +kernel
theorem dX12_op_119 : decode cX12_op 119 = .ok (.putfield 98, 3) := by decide +kernel
theorem dX12_op_122 : decode cX12_op 122 = .ok (.goto 80, 3) := by decide +kernel
theorem dX12_op_125 : decode cX12_op 125 = .ok (.aload_n 0, 1) := by decide +kernel
theorem dX12_op_126 : decode cX12_op 126 = .ok (.lload 6, 2) := by decide +kernel
theorem dX12_op_128 : decode cX12_op 128 = .ok (.putfield 98, 3) := by decide +kernel
theorem dX12_op_131 : decode cX12_op 131 = .ok (.goto 71, 3) := by decide +kernel
theorem dX12_op_134 : decode cX12_op 134 = .ok (.aload_n 0, 1) := by decide +kernel
theorem dX12_op_135 : decode cX12_op 135 = .ok (.lload_n 2, 1) := by decide +kernel
theorem dX12_op_136 : decode cX12_op 136 = .ok (.lload 4, 2) := by decide +kernel
theorem dX12_op_138 : decode cX12_op 138 = .ok (.lload 6, 2) := by decide +kernel
theorem dX12_op_140 : decode cX12_op 140 = .ok (.lmul, 1) := by decide +kernel
theorem dX12_op_141 : decode cX12_op 141 = .ok (.lsub, 1) := by decide +kernel
theorem dX12_op_142 : decode cX12_op 142 = .ok (.putfield 98, 3) := by decide +kernel
theorem dX12_op_145 : decode cX12_op 145 = .ok (.goto 57, 3) := by decide +kernel
theorem dX12_op_148 : decode cX12_op 148 = .ok (.aload_n 0, 1) := by decide +kernel
theorem dX12_op_149 : decode cX12_op 149 = .ok (.lload_n 2, 1) := by decide +kernel
theorem dX12_op_150 : decode cX12_op 150 = .ok (.lload 4, 2) := by decide +kernel
theorem dX12_op_152 : decode cX12_op 152 = .ok (.lcmp, 1) := by decide +kernel
theorem dX12_op_153 : decode cX12_op 153 = .ok (.ifCond .ge 7, 3) := by decide +kernel
theorem dX12_op_156 : decode cX12_op 156 = .ok (.lload_n 2, 1) := by decide +kernel
theorem dX12_op_157 : decode cX12_op 157 = .ok (.goto 5, 3) := by decide +kernel
theorem dX12_op_160 : decode cX12_op 160 = .ok (.lload 4, 2) := by decide +kernel
theorem dX12_op_162 : decode cX12_op 162 = .ok (.putfield 98, 3) := by decide +kernel
theorem dX12_op_165 : decode cX12_op 165 = .ok (.goto 37, 3) := by decide +kernel
theorem dX12_op_168 : decode cX12_op 168 = .ok (.aload_n 0, 1) := by decide +kernel
theorem dX12_op_169 : decode cX12_op 169 = .ok (.lload_n 2, 1) := by decide +kernel
theorem dX12_op_170 : decode cX12_op 170 = .ok (.lload 4, 2) := by decide +kernel
theorem dX12_op_172 : decode cX12_op 172 = .ok (.lcmp, 1) := by decide +kernel
theorem dX12_op_173 : decode cX12_op 173 = .ok (.ifCond .le 7, 3) := by decide +kernel
theorem dX12_op_176 : decode cX12_op 176 = .ok (.lload_n 2, 1) := by decide +kernel
theorem dX12_op_177 : decode cX12_op 177 = .ok (.goto 5, 3) := by decide +kernel
theorem dX12_op_180 : decode cX12_op 180 = .ok (.lload 4, 2) := by decide +kernel
theorem dX12_op_182 : decode cX12_op 182 = .ok (.putfield 98, 3) := by decide +kernel
theorem dX12_op_185 : decode cX12_op 185 = .ok (.goto 17, 3) := by decide +kernel
theorem dX12_op_188 : decode cX12_op 188 = .ok (.aload_n 0, 1) := by decide +kernel
theorem dX12_op_189 : decode cX12_op 189 = .ok (.lload_n 2, 1) := by decide +kernel
theorem dX12_op_190 : decode cX12_op 190 = .ok (.putfield 98, 3) := by decide +kernel
theorem dX12_op_193 : decode cX12_op 193 = .ok (.goto 9, 3) := by decide +kernel
theorem dX12_op_196 : decode cX12_op 196 = .ok (.aload_n 0, 1) := by decide +kernel
theorem dX12_op_197 : decode cX12_op 197 = .ok (.lload 4, 2) := by decide +kernel
theorem dX12_op_199 : decode cX12_op 199 = .ok (.putfield 98, 3) := by decide +kernel
theorem dX12_op_202 : decode cX12_op 202 = .ok (.iconst 1, 1) := by decide +kernel
theorem dX12_op_203 : decode cX12_op 203 = .ok (.ireturn, 1) := by decide +kernel
theorem dX12_needCell_0 : decode cX12_needCell 0 = .ok (.iconst 0, 1) := by decide +kernel
theorem dX12_needCell_1 : decode cX12_needCell 1 = .ok (.istore_n 3, 1) := by decide +kernel
theorem dX12_needCell_2 : decode cX12_needCell 2 = .ok (.iload_n 3, 1) := by decide +kernel
theorem dX12_needCell_3 : decode cX12_needCell 3 = .ok (.iload_n 2, 1) := by decide +kernel
theorem dX12_needCell_4 : decode cX12_needCell 4 = .ok (.if_icmp .gt 63, 3) := by decide +kernel
theorem dX12_needCell_7 : decode cX12_needCell 7 = .ok (.iload_n 3, 1) := by decide +kernel
theorem dX12_needCell_8 : decode cX12_needCell 8 = .ok (.sipush 400, 3) := by decide +kernel
theorem dX12_needCell_11 : decode cX12_needCell 11 = .ok (.if_icmp .lt 6, 3) := by decide +kernel
theorem dX12_needCell_14 : decode cX12_needCell 14 = .ok (.bipush (-2), 2) := by decide +kernel
theorem dX12_needCell_16 : decode cX12_needCell 16 = .ok (.ireturn, 1) := by decide +kernel
theorem dX12_needCell_17 : decode cX12_needCell 17 = .ok (.aload_n 0, 1) := by decide +kernel
theorem dX12_needCell_18 : decode cX12_needCell 18 = .ok (.aload_n 0, 1) := by decide +kernel
theorem dX12_needCell_19 : decode cX12_needCell 19 = .ok (.getfield 29, 3) := by decide +kernel
theorem dX12_needCell_22 : decode cX12_needCell 22 = .ok (.iload_n 1, 1) := by decide +kernel
theorem dX12_needCell_23 : decode cX12_needCell 23 = .ok (.iload_n 3, 1) := by decide +kernel
theorem dX12_needCell_24 : decode cX12_needCell 24 = .ok (.invokestatic 106, 3) := by decide +kernel
theorem dX12_needCell_27 : decode cX12_needCell 27 = .ok (.iaload, 1) := by decide +kernel
theorem dX12_needCell_28 : decode cX12_needCell 28 = .ok (.putfield 110, 3) := by decide +kernel
theorem dX12_needCell_31 : decode cX12_needCell 31 = .ok (.aload_n 0, 1) := by decide +kernel
theorem dX12_needCell_32 : decode cX12_needCell 32 = .ok (.iload_n 3, 1) := by decide +kernel
theorem dX12_needCell_33 : decode cX12_needCell 33 = .ok (.putfield 113, 3) := by decide +kernel
theorem dX12_needCell_36 : decode cX12_needCell 36 = .ok (.aload_n 0, 1) := by decide +kernel
theorem dX12_needCell_37 : decode cX12_needCell 37 = .ok (.getfield 110, 3) := by decide +kernel
theorem dX12_needCell_40 : decode cX12_needCell 40 = .ok (.ifCond .ne 11, 3) := by decide +kernel
theorem dX12_needCell_43 : decode cX12_needCell 43 = .ok (.iconst 2, 1) := by decide +kernel
theorem dX12_needCell_44 : decode cX12_needCell 44 = .ok (.iload_n 1, 1) := by decide +kernel
theorem dX12_needCell_45 : decode cX12_needCell 45 = .ok (.iload_n 3, 1) := by decide +kernel
theorem dX12_needCell_46 : decode cX12_needCell 46 = .ok (.invokestatic 106, 3) := by decide +kernel
theorem dX12_needCell_49 : decode cX12_needCell 49 = .ok (.imul, 1) := by decide +kernel
theorem dX12_needCell_50 : decode cX12_needCell 50 = .ok (.ireturn, 1) := by decide +kernel
theorem dX12_needCell_51 : decode cX12_needCell 51 = .ok (.aload_n 0, 1) := by decide +kernel
theorem dX12_needCell_52 : decode cX12_needCell 52 = .ok (.getfield 110, 3) := by decide +kernel
theorem dX12_needCell_55 : decode cX12_needCell 55 = .ok (.iconst 1, 1) := by decide +kernel
theorem dX12_needCell_56 : decode cX12_needCell 56 = .ok (.if_icmp .eq 5, 3) := by decide +kernel
theorem dX12_needCell_59 : decode cX12_needCell 59 = .ok (.iconst (-1), 1) := by decide +kernel
theorem dX12_needCell_60 : decode cX12_needCell 60 = .ok (.ireturn, 1) := by decide +kernel
theorem dX12_needCell_61 : decode cX12_needCell 61 = .ok (.iinc 3 1, 3) := by decide +kernel
theorem dX12_needCell_64 : decode cX12_needCell 64 = .ok (.goto (-62), 3) := by decide +kernel
theorem dX12_needCell_67 : decode cX12_needCell 67 = .ok (.iconst (-1), 1) := by decide +kernel
theorem dX12_needCell_68 : decode cX12_needCell 68 = .ok (.ireturn, 1) := by decide +kernel
theorem dX12_ownPlace_0 : decode cX12_ownPlace 0 = .ok (.iload_n 1, 1) := by decide +kernel
theorem dX12_ownPlace_1 : decode cX12_ownPlace 1 = .ok (.iload_n 2, 1) := by decide +kernel
theorem dX12_ownPlace_2 : decode cX12_ownPlace 2 = .ok (.invokestatic 106, 3) := by decide +kernel
theorem dX12_ownPlace_5 : decode cX12_ownPlace 5 = .ok (.istore_n 3, 1) := by decide +kernel
theorem dX12_ownPlace_6 : decode cX12_ownPlace 6 = .ok (.aload_n 0, 1) := by decide +kernel
theorem dX12_ownPlace_7 : decode cX12_ownPlace 7 = .ok (.getfield 38, 3) := by decide +kernel
theorem dX12_ownPlace_10 : decode cX12_ownPlace 10 = .ok (.iload_n 3, 1) := by decide +kernel
theorem dX12_ownPlace_11 : decode cX12_ownPlace 11 = .ok (.iaload, 1) := by decide +kernel
theorem dX12_ownPlace_12 : decode cX12_ownPlace 12 = .ok (.ifCond .eq 24, 3) := by decide +kernel
theorem dX12_ownPlace_15 : decode cX12_ownPlace 15 = .ok (.aload_n 0, 1) := by decide +kernel
theorem dX12_ownPlace_16 : decode cX12_ownPlace 16 = .ok (.getfield 38, 3) := by decide +kernel
theorem dX12_ownPlace_19 : decode cX12_ownPlace 19 = .ok (.iload_n 3, 1) := by decide +kernel
theorem dX12_ownPlace_20 : decode cX12_ownPlace 20 = .ok (.iaload, 1) := by decide +kernel
theorem dX12_ownPlace_21 : decode cX12_ownPlace 21 = .ok (.iconst 1, 1) := by decide +kernel
theorem dX12_ownPlace_22 : decode cX12_ownPlace 22 = .ok (.isub, 1) := by decide +kernel
theorem dX12_ownPlace_23 : decode cX12_ownPlace 23 = .ok (.aload_n 0, 1) := by decide +kernel
theorem dX12_ownPlace_24 : decode cX12_ownPlace 24 = .ok (.getfield 41, 3) := by decide +kernel
theorem dX12_ownPlace_27 : decode cX12_ownPlace 27 = .ok (.iload_n 3, 1) := by decide +kernel
theorem dX12_ownPlace_28 : decode cX12_ownPlace 28 = .ok (.iaload, 1) := by decide +kernel
theorem dX12_ownPlace_29 : decode cX12_ownPlace 29 = .ok (.invokestatic 106, 3) := by decide +kernel
theorem dX12_ownPlace_32 : decode cX12_ownPlace 32 = .ok (.istore_n 3, 1) := by decide +kernel
theorem dX12_ownPlace_33 : decode cX12_ownPlace 33 = .ok (.goto (-27), 3) := by decide +kernel
theorem dX12_ownPlace_36 : decode cX12_ownPlace 36 = .ok (.iload_n 3, 1) := by decide +kernel
theorem dX12_ownPlace_37 : decode cX12_ownPlace 37 = .ok (.ireturn, 1) := by decide +kernel
theorem dX12_needItem_0 : decode cX12_needItem 0 = .ok (.aload_n 0, 1) := by decide +kernel
theorem dX12_needItem_1 : decode cX12_needItem 1 = .ok (.iload_n 1, 1) := by decide +kernel
theorem dX12_needItem_2 : decode cX12_needItem 2 = .ok (.iload_n 2, 1) := by decide +kernel
theorem dX12_needItem_3 : decode cX12_needItem 3 = .ok (.invokevirtual 116, 3) := by decide +kernel
theorem dX12_needItem_6 : decode cX12_needItem 6 = .ok (.istore_n 3, 1) := by decide +kernel
theorem dX12_needItem_7 : decode cX12_needItem 7 = .ok (.aload_n 0, 1) := by decide +kernel
theorem dX12_needItem_8 : decode cX12_needItem 8 = .ok (.aload_n 0, 1) := by decide +kernel
theorem dX12_needItem_9 : decode cX12_needItem 9 = .ok (.getfield 32, 3) := by decide +kernel
theorem dX12_needItem_12 : decode cX12_needItem 12 = .ok (.iload_n 3, 1) := by decide +kernel
theorem dX12_needItem_13 : decode cX12_needItem 13 = .ok (.iaload, 1) := by decide +kernel
theorem dX12_needItem_14 : decode cX12_needItem 14 = .ok (.putfield 110, 3) := by decide +kernel
theorem dX12_needItem_17 : decode cX12_needItem 17 = .ok (.aload_n 0, 1) := by decide +kernel
theorem dX12_needItem_18 : decode cX12_needItem 18 = .ok (.aload_n 0, 1) := by decide +kernel
theorem dX12_needItem_19 : decode cX12_needItem 19 = .ok (.getfield 35, 3) := by decide +kernel
theorem dX12_needItem_22 : decode cX12_needItem 22 = .ok (.iload_n 3, 1) := by decide +kernel
theorem dX12_needItem_23 : decode cX12_needItem 23 = .ok (.laload, 1) := by decide +kernel
theorem dX12_needItem_24 : decode cX12_needItem 24 = .ok (.putfield 119, 3) := by decide +kernel
theorem dX12_needItem_27 : decode cX12_needItem 27 = .ok (.aload_n 0, 1) := by decide +kernel
theorem dX12_needItem_28 : decode cX12_needItem 28 = .ok (.getfield 110, 3) := by decide +kernel
theorem dX12_needItem_31 : decode cX12_needItem 31 = .ok (.ifCond .ne 11, 3) := by decide +kernel
theorem dX12_needItem_34 : decode cX12_needItem 34 = .ok (.iconst 2, 1) := by decide +kernel
theorem dX12_needItem_35 : decode cX12_needItem 35 = .ok (.iload_n 3, 1) := by decide +kernel
theorem dX12_needItem_36 : decode cX12_needItem 36 = .ok (.imul, 1) := by decide +kernel
theorem dX12_needItem_37 : decode cX12_needItem 37 = .ok (.iconst 1, 1) := by decide +kernel
theorem dX12_needItem_38 : decode cX12_needItem 38 = .ok (.iadd, 1) := by decide +kernel
theorem dX12_needItem_39 : decode cX12_needItem 39 = .ok (.goto 4, 3) := by decide +kernel
theorem dX12_needItem_42 : decode cX12_needItem 42 = .ok (.iconst (-1), 1) := by decide +kernel
theorem dX12_needItem_43 : decode cX12_needItem 43 = .ok (.ireturn, 1) := by decide +kernel
theorem dX12_like_0 : decode cX12_like 0 = .ok (.aload_n 0, 1) := by decide +kernel
theorem dX12_like_1 : decode cX12_like 1 = .ok (.iload_n 1, 1) := by decide +kernel
theorem dX12_like_2 : decode cX12_like 2 = .ok (.iload_n 2, 1) := by decide +kernel
theorem dX12_like_3 : decode cX12_like 3 = .ok (.invokevirtual 131, 3) := by decide +kernel
theorem dX12_like_6 : decode cX12_like 6 = .ok (.istore 4, 2) := by decide +kernel
theorem dX12_like_8 : decode cX12_like 8 = .ok (.iload 4, 2) := by decide +kernel
theorem dX12_like_10 : decode cX12_like 10 = .ok (.iconst (-1), 1) := by decide +kernel
theorem dX12_like_11 : decode cX12_like 11 = .ok (.if_icmp .eq 6, 3) := by decide +kernel
theorem dX12_like_14 : decode cX12_like 14 = .ok (.iload 4, 2) := by decide +kernel
theorem dX12_like_16 : decode cX12_like 16 = .ok (.ireturn, 1) := by decide +kernel
theorem dX12_like_17 : decode cX12_like 17 = .ok (.aload_n 0, 1) := by decide +kernel
theorem dX12_like_18 : decode cX12_like 18 = .ok (.getfield 110, 3) := by decide +kernel
theorem dX12_like_21 : decode cX12_like 21 = .ok (.iconst 1, 1) := by decide +kernel
theorem dX12_like_22 : decode cX12_like 22 = .ok (.if_icmp .ne 16, 3) := by decide +kernel
theorem dX12_like_25 : decode cX12_like 25 = .ok (.iload_n 3, 1) := by decide +kernel
theorem dX12_like_26 : decode cX12_like 26 = .ok (.ifCond .eq 12, 3) := by decide +kernel
theorem dX12_like_29 : decode cX12_like 29 = .ok (.aload_n 0, 1) := by decide +kernel
theorem dX12_like_30 : decode cX12_like 30 = .ok (.iload_n 1, 1) := by decide +kernel
theorem dX12_like_31 : decode cX12_like 31 = .ok (.iload_n 2, 1) := by decide +kernel
theorem dX12_like_32 : decode cX12_like 32 = .ok (.invokevirtual 134, 3) := by decide +kernel
theorem dX12_like_35 : decode cX12_like 35 = .ok (.goto 11, 3) := by decide +kernel
theorem dX12_like_38 : decode cX12_like 38 = .ok (.aload_n 0, 1) := by decide +kernel
theorem dX12_like_39 : decode cX12_like 39 = .ok (.aload_n 0, 1) := by decide +kernel
theorem dX12_like_40 : decode cX12_like 40 = .ok (.getfield 110, 3) := by decide +kernel
theorem dX12_like_43 : decode cX12_like 43 = .ok (.invokevirtual 137, 3) := by decide +kernel
theorem dX12_like_46 : decode cX12_like 46 = .ok (.ireturn, 1) := by decide +kernel
theorem dX12_isRight_0 : decode cX12_isRight 0 = .ok (.aload_n 0, 1) := by decide +kernel
theorem dX12_isRight_1 : decode cX12_isRight 1 = .ok (.getfield 7, 3) := by decide +kernel
theorem dX12_isRight_4 : decode cX12_isRight 4 = .ok (.iload_n 1, 1) := by decide +kernel
theorem dX12_isRight_5 : decode cX12_isRight 5 = .ok (.iaload, 1) := by decide +kernel
theorem dX12_isRight_6 : decode cX12_isRight 6 = .ok (.bipush 8, 2) := by decide +kernel
theorem dX12_isRight_8 : decode cX12_isRight 8 = .ok (.if_icmp .ne 20, 3) := by decide +kernel
theorem dX12_isRight_11 : decode cX12_isRight 11 = .ok (.aload_n 0, 1) := by decide +kernel
theorem dX12_isRight_12 : decode cX12_isRight 12 = .ok (.getfield 19, 3) := by decide +kernel
theorem dX12_isRight_15 : decode cX12_isRight 15 = .ok (.iload_n 1, 1) := by decide +kernel
theorem dX12_isRight_16 : decode cX12_isRight 16 = .ok (.iaload, 1) := by decide +kernel
theorem dX12_isRight_17 : decode cX12_isRight 17 = .ok (.lload_n 3, 1) := by decide +kernel
theorem dX12_isRight_18 : decode cX12_isRight 18 = .ok (.aload_n 0, 1) := by decide +kernel
theorem dX12_isRight_19 : decode cX12_isRight 19 = .ok (.getfield 22, 3) := by decide +kernel
theorem dX12_isRight_22 : decode cX12_isRight 22 = .ok (.iload_n 1, 1) := by decide +kernel
theorem dX12_isRight_23 : decode cX12_isRight 23 = .ok (.laload, 1) := by decide +kernel
theorem dX12_isRight_24 : decode cX12_isRight 24 = .ok (.invokestatic 172, 3) := by decide +kernel
theorem dX12_isRight_27 : decode cX12_isRight 27 = .ok (.ireturn, 1) := by decide +kernel
theorem dX12_isRight_28 : decode cX12_isRight 28 = .ok (.aload_n 0, 1) := by decide +kernel
theorem dX12_isRight_29 : decode cX12_isRight 29 = .ok (.getfield 7, 3) := by decide +kernel
theorem dX12_isRight_32 : decode cX12_isRight 32 = .ok (.iload_n 1, 1) := by decide +kernel
theorem dX12_isRight_33 : decode cX12_isRight 33 = .ok (.iaload, 1) := by decide +kernel
theorem dX12_isRight_34 : decode cX12_isRight 34 = .ok (.bipush 10, 2) := by decide +kernel
theorem dX12_isRight_36 : decode cX12_isRight 36 = .ok (.if_icmp .ne 28, 3) := by decide +kernel
theorem dX12_isRight_39 : decode cX12_isRight 39 = .ok (.aload_n 0, 1) := by decide +kernel
theorem dX12_isRight_40 : decode cX12_isRight 40 = .ok (.getfield 19, 3) := by decide +kernel
theorem dX12_isRight_43 : decode cX12_isRight 43 = .ok (.iload_n 1, 1) := by decide +kernel
theorem dX12_isRight_44 : decode cX12_isRight 44 = .ok (.iaload, 1) := by decide +kernel
theorem dX12_isRight_45 : decode cX12_isRight 45 = .ok (.lload_n 3, 1) := by decide +kernel
theorem dX12_isRight_46 : decode cX12_isRight 46 = .ok (.aload_n 0, 1) := by decide +kernel
theorem dX12_isRight_47 : decode cX12_isRight 47 = .ok (.getfield 22, 3) := by decide +kernel
theorem dX12_isRight_50 : decode cX12_isRight 50 = .ok (.iload_n 1, 1) := by decide +kernel
theorem dX12_isRight_51 : decode cX12_isRight 51 = .ok (.laload, 1) := by decide +kernel
theorem dX12_isRight_52 : decode cX12_isRight 52 = .ok (.invokestatic 172, 3) := by decide +kernel
theorem dX12_isRight_55 : decode cX12_isRight 55 = .ok (.ifCond .ne 7, 3) := by decide +kernel
theorem dX12_isRight_58 : decode cX12_isRight 58 = .ok (.iconst 1, 1) := by decide +kernel
theorem dX12_isRight_59 : decode cX12_isRight 59 = .ok (.goto 4, 3) := by decide +kernel
theorem dX12_isRight_62 : decode cX12_isRight 62 = .ok (.iconst 0, 1) := by decide +kernel
theorem dX12_isRight_63 : decode cX12_isRight 63 = .ok (.ireturn, 1) := by decide +kernel
theorem dX12_isRight_64 : decode cX12_isRight 64 = .ok (.iconst 1, 1) := by decide +kernel
theorem dX12_isRight_65 : decode cX12_isRight 65 = .ok (.istore 5, 2) := by decide +kernel
theorem dX12_isRight_67 : decode cX12_isRight 67 = .ok (.iconst 0, 1) := by decide +kernel
theorem dX12_isRight_68 : decode cX12_isRight 68 = .ok (.istore 6, 2) := by decide +kernel
theorem dX12_isRight_70 : decode cX12_isRight 70 = .ok (.iload 6, 2) := by decide +kernel
theorem dX12_isRight_72 : decode cX12_isRight 72 = .ok (.iload_n 2, 1) := by decide +kernel
theorem dX12_isRight_73 : decode cX12_isRight 73 = .ok (.if_icmp .ge 36, 3) := by decide +kernel
theorem dX12_isRight_76 : decode cX12_isRight 76 = .ok (.iload 5, 2) := by decide +kernel
theorem dX12_isRight_78 : decode cX12_isRight 78 = .ok (.aload_n 0, 1) := by decide +kernel
theorem dX12_isRight_79 : decode cX12_isRight 79 = .ok (.getfield 35, 3) := by decide +kernel
theorem dX12_isRight_82 : decode cX12_isRight 82 = .ok (.aload_n 0, 1) := by decide +kernel
theorem dX12_isRight_83 : decode cX12_isRight 83 = .ok (.iload_n 1, 1) := by decide +kernel
theorem dX12_isRight_84 : decode cX12_isRight 84 = .ok (.iload 6, 2) := by decide +kernel
theorem dX12_isRight_86 : decode cX12_isRight 86 = .ok (.invokevirtual 116, 3) := by decide +kernel
theorem dX12_isRight_89 : decode cX12_isRight 89 = .ok (.laload, 1) := by decide +kernel
theorem dX12_isRight_90 : decode cX12_isRight 90 = .ok (.lload_n 3, 1) := by decide +kernel
theorem dX12_isRight_91 : decode cX12_isRight 91 = .ok (.lcmp, 1) := by decide +kernel
theorem dX12_isRight_92 : decode cX12_isRight 92 = .ok (.ifCond .eq 7, 3) := by decide +kernel
theorem dX12_isRight_95 : decode cX12_isRight 95 = .ok (.iconst 1, 1) := by decide +kernel
theorem dX12_isRight_96 : decode cX12_isRight 96 = .ok (.goto 4, 3) := by decide +kernel
theorem dX12_isRight_99 : decode cX12_isRight 99 = .ok (.iconst 0, 1) := by decide +kernel
theorem dX12_isRight_100 : decode cX12_isRight 100 = .ok (.iand, 1) := by decide +kernel
theorem dX12_isRight_101 : decode cX12_isRight 101 = .ok (.istore 5, 2) := by decide +kernel
theorem dX12_isRight_103 : decode cX12_isRight 103 = .ok (.iinc 6 1, 3) := by decide +kernel
theorem dX12_isRight_106 : decode cX12_isRight 106 = .ok (.goto (-36), 3) := by decide +kernel
theorem dX12_isRight_109 : decode cX12_isRight 109 = .ok (.iload 5, 2) := by decide +kernel
theorem dX12_isRight_111 : decode cX12_isRight 111 = .ok (.ireturn, 1) := by decide +kernel
theorem dX12_steps_0 : decode cX12_steps 0 = .ok (.aload_n 0, 1) := by decide +kernel
theorem dX12_steps_1 : decode cX12_steps 1 = .ok (.iconst 0, 1) := by decide +kernel
theorem dX12_steps_2 : decode cX12_steps 2 = .ok (.putfield 63, 3) := by decide +kernel
theorem dX12_steps_5 : decode cX12_steps 5 = .ok (.iload_n 1, 1) := by decide +kernel
theorem dX12_steps_6 : decode cX12_steps 6 = .ok (.iconst 1, 1) := by decide +kernel
theorem dX12_steps_7 : decode cX12_steps 7 = .ok (.if_icmp .lt 10, 3) := by decide +kernel
theorem dX12_steps_10 : decode cX12_steps 10 = .ok (.iload_n 1, 1) := by decide +kernel
theorem dX12_steps_11 : decode cX12_steps 11 = .ok (.sipush 5000, 3) := by decide +kernel
theorem dX12_steps_14 : decode cX12_steps 14 = .ok (.if_icmp .le 9, 3) := by decide +kernel
theorem dX12_steps_17 : decode cX12_steps 17 = .ok (.aload_n 0, 1) := by decide +kernel
theorem dX12_steps_18 : decode cX12_steps 18 = .ok (.iconst 1, 1) := by decide +kernel
theorem dX12_steps_19 : decode cX12_steps 19 = .ok (.invokevirtual 72, 3) := by decide +kernel
theorem dX12_steps_22 : decode cX12_steps 22 = .ok (.ireturn, 1) := by decide +kernel
theorem dX12_steps_23 : decode cX12_steps 23 = .ok (.aload_n 0, 1) := by decide +kernel
theorem dX12_steps_24 : decode cX12_steps 24 = .ok (.getfield 50, 3) := by decide +kernel
theorem dX12_steps_27 : decode cX12_steps 27 = .ok (.istore_n 2, 1) := by decide +kernel
theorem dX12_steps_28 : decode cX12_steps 28 = .ok (.aload_n 0, 1) := by decide +kernel
theorem dX12_steps_29 : decode cX12_steps 29 = .ok (.iload_n 1, 1) := by decide +kernel
theorem dX12_steps_30 : decode cX12_steps 30 = .ok (.putfield 50, 3) := by decide +kernel
theorem dX12_steps_33 : decode cX12_steps 33 = .ok (.iload_n 2, 1) := by decide +kernel
theorem dX12_steps_34 : decode cX12_steps 34 = .ok (.ireturn, 1) := by decide +kernel
theorem dX12_told_0 : decode cX12_told 0 = .ok (.iload_n 1, 1) := by decide +kernel
theorem dX12_told_1 : decode cX12_told 1 = .ok (.bipush (-2), 2) := by decide +kernel
theorem dX12_told_3 : decode cX12_told 3 = .ok (.if_icmp .ne 10, 3) := by decide +kernel
theorem dX12_told_6 : decode cX12_told 6 = .ok (.aload_n 0, 1) := by decide +kernel
theorem dX12_told_7 : decode cX12_told 7 = .ok (.invokevirtual 212, 3) := by decide +kernel
theorem dX12_told_10 : decode cX12_told 10 = .ok (.goto 20, 3) := by decide +kernel
theorem dX12_told_13 : decode cX12_told 13 = .ok (.iload_n 1, 1) := by decide +kernel
theorem dX12_told_14 : decode cX12_told 14 = .ok (.iconst 1, 1) := by decide +kernel
theorem dX12_told_15 : decode cX12_told 15 = .ok (.if_icmp .ne 10, 3) := by decide +kernel
theorem dX12_told_18 : decode cX12_told 18 = .ok (.aload_n 0, 1) := by decide +kernel
theorem dX12_told_19 : decode cX12_told 19 = .ok (.getfield 119, 3) := by decide +kernel
theorem dX12_told_22 : decode cX12_told 22 = .ok (.goto 8, 3) := by decide +kernel
theorem dX12_told_25 : decode cX12_told 25 = .ok (.aload_n 0, 1) := by decide +kernel
theorem dX12_told_26 : decode cX12_told 26 = .ok (.iload_n 1, 1) := by decide +kernel
theorem dX12_told_27 : decode cX12_told 27 = .ok (.invokevirtual 216, 3) := by decide +kernel
theorem dX12_told_30 : decode cX12_told 30 = .ok (.lreturn, 1) := by decide +kernel
theorem dX12_reached_0 : decode cX12_reached 0 = .ok (.aload_n 0, 1) := by decide +kernel
theorem dX12_reached_1 : decode cX12_reached 1 = .ok (.iconst 0, 1) := by decide +kernel
theorem dX12_reached_2 : decode cX12_reached 2 = .ok (.putfield 63, 3) := by decide +kernel
theorem dX12_reached_5 : decode cX12_reached 5 = .ok (.aload_n 0, 1) := by decide +kernel
theorem dX12_reached_6 : decode cX12_reached 6 = .ok (.iload_n 1, 1) := by decide +kernel
theorem dX12_reached_7 : decode cX12_reached 7 = .ok (.invokevirtual 84, 3) := by decide +kernel
theorem dX12_reached_10 : decode cX12_reached 10 = .ok (.ifCond .ne 9, 3) := by decide +kernel
theorem dX12_reached_13 : decode cX12_reached 13 = .ok (.aload_n 0, 1) := by decide +kernel
theorem dX12_reached_14 : decode cX12_reached 14 = .ok (.iconst 1, 1) := by decide +kernel
theorem dX12_reached_15 : decode cX12_reached 15 = .ok (.invokevirtual 72, 3) := by decide +kernel
theorem dX12_reached_18 : decode cX12_reached 18 = .ok (.ireturn, 1) := by decide +kernel
theorem dX12_reached_19 : decode cX12_reached 19 = .ok (.iconst 0, 1) := by decide +kernel
theorem dX12_reached_20 : decode cX12_reached 20 = .ok (.istore_n 2, 1) := by decide +kernel
theorem dX12_reached_21 : decode cX12_reached 21 = .ok (.iload_n 2, 1) := by decide +kernel
theorem dX12_reached_22 : decode cX12_reached 22 = .ok (.sipush 400, 3) := by decide +kernel
theorem dX12_reached_25 : decode cX12_reached 25 = .ok (.if_icmp .ge 22, 3) := by decide +kernel
theorem dX12_reached_28 : decode cX12_reached 28 = .ok (.aload_n 0, 1) := by decide +kernel
theorem dX12_reached_29 : decode cX12_reached 29 = .ok (.getfield 29, 3) := by decide +kernel
theorem dX12_reached_32 : decode cX12_reached 32 = .ok (.iload_n 1, 1) := by decide +kernel
theorem dX12_reached_33 : decode cX12_reached 33 = .ok (.iload_n 2, 1) := by decide +kernel
theorem dX12_reached_34 : decode cX12_reached 34 = .ok (.invokestatic 106, 3) := by decide +kernel
theorem dX12_reached_37 : decode cX12_reached 37 = .ok (.iaload, 1) := by decide +kernel
theorem dX12_reached_38 : decode cX12_reached 38 = .ok (.ifCond .eq 9, 3) := by decide +kernel
theorem dX12_reached_41 : decode cX12_reached 41 = .ok (.iinc 2 1, 3) := by decide +kernel
theorem dX12_reached_44 : decode cX12_reached 44 = .ok (.goto (-23), 3) := by decide +kernel
theorem dX12_reached_47 : decode cX12_reached 47 = .ok (.iload_n 2, 1) := by decide +kernel
theorem dX12_reached_48 : decode cX12_reached 48 = .ok (.ireturn, 1) := by decide +kernel
abbrev wmX12_some : List Cond := .code yX12_some cX12_some 4 (some .int) :: WM
theorem hd_X12_some : yX12_some.cls = RX12 ∧ yX12_some.cls ≠ "java/lang/invoke/MethodHandle" ∧ yX12_some.cls ≠ "java/lang/invoke/VarHandle" ∧ (parseMethodDescriptor yX12_some.desc).map (fun d => d.parameters.length) = some 3 := by decide +kernel
def P_X12_some (v : Nat → Int32) (w : Nat → Int64) (fi : Nat → Nat → Int32) (fl : Nat → Nat → Int64) (p0 : Int32) (p1 : Int32) (p2 : Int32) (Q : Int32 → (Nat → Int32) → (Nat → Int64) → (Nat → Nat → Int32) → (Nat → Nat → Int64) → Prop) : Prop := P_X12_isList v w fi fl p1 (fun r1 v1 w1 fi1 fl1 => ((¬ r1 = 0) → (((p2 < 0) → (P_X12_fail v1 w1 fi1 fl1 2 (fun r2 v2 w2 fi2 fl2 => Q r2 v2 w2 fi2 fl2))) ∧ ((¬ p2 < 0) → (((p2 ≤ 400) → (((¬ (v1 0) = 24) → (P_X12_made v1 w1 fi1 fl1 p0 p1 0 p2 0 0 (fun r3 v3 w3 fi3 fl3 => Q r3 v3 w3 fi3 fl3))) ∧ (((v1 0) = 24) → (P_X12_fail v1 w1 fi1 fl1 3 (fun r4 v4 w4 fi4 fl4 => Q r4 v4 w4 fi4 fl4))))) ∧ ((¬ p2 ≤ 400) → (P_X12_fail v1 w1 fi1 fl1 2 (fun r5 v5 w5 fi5 fl5 => Q r5 v5 w5 fi5 fl5))))))) ∧ ((r1 = 0) → (P_X12_fail v1 w1 fi1 fl1 1 (fun r6 v6 w6 fi6 fl6 => Q r6 v6 w6 fi6 fl6))))
set_option maxHeartbeats 4000000 in
set_option maxRecDepth 100000 in
theorem p_X12_some (l : Launch) (dC : Nat → ClassId) (dI : Nat → Nat → Nat) (a : Nat → Nat) (ca : Nat → ClassId) (g0 : Nat) (v : Nat → Int32) (w : Nat → Int64) (fi : Nat → Nat → Int32) (fl : Nat → Nat → Int64) (p0 : Int32) (p1 : Int32) (p2 : Int32) (Q : Int32 → (Nat → Int32) → (Nat → Int64) → (Nat → Nat → Int32) → (Nat → Nat → Int64) → Prop) (h : P_X12_some v w fi fl p0 p1 p2 Q) (sz : Nat) : Met l yX12_some wmX12_some ({ frames := 8, cells := 0, slots := 0, locals := 120 }) (va_Pc [.ref g0, .int p0, .int p1, .int p2] (mPre dC dI a ca g0 v w fi fl sz)) (va_Qi (S := MSt) (pI Q) (mB dC dI a ca g0 (va_A (mW a ca g0 v w fi fl) sz)) (va_A (mW a ca g0 v w fi fl) sz)) 0 0 (va_A (mW a ca g0 v w fi fl) sz) := by
  refine Met.ofW (cc := cX12_some) (maxL := 4) (ret := (some .int)) (by decide) rfl ?_
  intro p e s m args below meth c s₁ B hml hv
  obtain ⟨rfl, hsz, hP, hK, hD0⟩ := hv
  have hx := B.exec
  have hb := B.bytes
  have hr := B.returns
  have hts : ∀ w ∈ WM, w.before _ s = true := fun w h => atoms_spec (ws := wmX12_some) B.pre w (List.mem_cons_of_mem _ h)
  have hown : s.vm.findClass RX12 = some m.cls := findClass_of_methodNamed B.named
  have hlocks := B.notSynchronized
  subst hsz
  have hD := hD0.self (sz := s.heap.size)
  generalize hAe : va_A (mW a ca g0 v w fi fl) s.heap.size = A at hD ⊢
  have hA : ∀ q : Nat, s.heap.size ≤ q → A q := fun q h => by rw [← hAe]; exact Or.inr h
  generalize hH : s.heap = H at hP ⊢
  have hS : va_S A s.heap H [] := by rw [← hH]; exact va_S.rf
  have hl := lv_entry [.ref g0, .int p0, .int p1, .int p2] (n := 4) (Nat.le_of_ble_eq_true rfl)
  rw [lg_entry_eq]
  generalize (lg_sl [.ref g0, .int p0, .int p1, .int p2] ++ List.replicate (4 - (lg_sl [.ref g0, .int p0, .int p1, .int p2]).length) Slot.unset).toArray = ls at hl ⊢
  have hl : lv_has ls 4 [(0, .ref g0), (1, .int p0), (2, .int p1), (3, .int p2)] := hl
  unfold P_X12_some at h
  refine lv_aload_n hx hb dX12_some_0 rfl (lv_at hl 0 rfl) ?_
  refine lv_iload_n hx hb dX12_some_1 rfl (lv_at hl 2 rfl) ?_
  refine m_calli (rm := ({ frames := 4, cells := 0, slots := 0, locals := 60 })) (As := [.int p1]) (rest := []) (fun sz => p_X12_isList l dC dI a ca g0 _ _ _ _ p1 _ h sz) ⟨hx, hb, hml, hown, hts⟩ (cwV 1 hts (g_V gdM mwM_33 mwM_34 mwM_35 mwM_22 mwM_32) rfl rfl rfl hd_X12_isList ⟨Nat.le_of_ble_eq_true rfl, Nat.le_of_ble_eq_true rfl⟩) rfl hl.1 rfl hK hP hD hS hA (Nat.le_of_ble_eq_true rfl) ⟨Nat.le_of_ble_eq_true rfl, Nat.le_of_ble_eq_true rfl⟩ dX12_some_2 (fun r1 v1 w1 fi1 fl1 H locs h hP hD hS => ?_)
  refine lv_if_ne (tgt := 14) hx hb dX12_some_5 (by decide) (fun c_5 => ?_) (fun c_5 => ?_)
  · have h := h.1 c_5
    refine lv_iload_n hx hb dX12_some_14 rfl (lv_at hl 3 rfl) ?_
    refine lv_if_lt (tgt := 25) hx hb dX12_some_15 (by decide) (fun c_15 => ?_) (fun c_15 => ?_)
    · have h := h.1 c_15
      refine lv_aload_n hx hb dX12_some_25 rfl (lv_at hl 0 rfl) ?_
      refine lv_iconst (v := 2) hx hb dX12_some_26 (by decide) ?_
      refine m_calli (rm := ({ frames := 4, cells := 0, slots := 0, locals := 60 })) (As := [.int 2]) (rest := []) (fun sz => p_X12_fail l dC dI a ca g0 _ _ _ _ 2 _ h sz) ⟨hx, hb, hml, hown, hts⟩ (cwV 1 hts (g_V gdM mwM_19 mwM_20 mwM_21 mwM_22 mwM_18) rfl rfl rfl hd_X12_fail ⟨Nat.le_of_ble_eq_true rfl, Nat.le_of_ble_eq_true rfl⟩) rfl hl.1 rfl hK hP hD hS hA (Nat.le_of_ble_eq_true rfl) ⟨Nat.le_of_ble_eq_true rfl, Nat.le_of_ble_eq_true rfl⟩ dX12_some_27 (fun r2 v2 w2 fi2 fl2 H locs h hP hD hS => ?_)
      exact W.iret (v := r2) hx hb hr (fun t ht hW => ⟨⟨_, (v2, w2, fi2, fl2), rfl, h, by rw [ht]; exact hP, va_K.moved hW.alike hK, hD⟩, hS.F ht⟩) hS.2.2 dX12_some_30
    · have h := h.2 c_15
      refine lv_iload_n hx hb dX12_some_18 rfl (lv_at hl 3 rfl) ?_
      refine lv_sipush (v := 400) hx hb dX12_some_19 (by decide) ?_
      refine lv_icmp_le (tgt := 31) hx hb dX12_some_22 (by decide) (fun c_22 => ?_) (fun c_22 => ?_)
      · have h := h.1 c_22
        refine lv_aload_n hx hb dX12_some_31 rfl (lv_at hl 0 rfl) ?_
        refine va_get (D := (dC, dI)) (ci := 11) (v := .int (v1 0)) (C := RX12) (T := TX12) (N := 32) hx hb hts hinM hown hK hP 0 rfl rfl 0 (by decide) (hts _ mwM_1) (fun _ h9 => h9) rfl dX12_some_32 ?_
        refine lv_bipush (v := 24) hx hb dX12_some_35 (by decide) ?_
        refine lv_icmp_ne (tgt := 48) hx hb dX12_some_37 (by decide) (fun c_37 => ?_) (fun c_37 => ?_)
        · have h := h.1 c_37
          refine lv_aload_n hx hb dX12_some_48 rfl (lv_at hl 0 rfl) ?_
          refine lv_iload_n hx hb dX12_some_49 rfl (lv_at hl 1 rfl) ?_
          refine lv_iload_n hx hb dX12_some_50 rfl (lv_at hl 2 rfl) ?_
          refine lv_iconst (v := 0) hx hb dX12_some_51 (by decide) ?_
          refine lv_iload_n hx hb dX12_some_52 rfl (lv_at hl 3 rfl) ?_
          refine lv_lconst (v := 0) hx hb dX12_some_53 (by decide) ?_
          refine lv_lconst (v := 0) hx hb dX12_some_54 (by decide) ?_
          refine m_calli (rm := ({ frames := 4, cells := 0, slots := 0, locals := 60 })) (As := [.int p0, .int p1, .int 0, .int p2, .long 0, .long 0]) (rest := []) (fun sz => p_X12_made l dC dI a ca g0 _ _ _ _ p0 p1 0 p2 0 0 _ h sz) ⟨hx, hb, hml, hown, hts⟩ (cwV 6 hts (g_V gdM mwM_24 mwM_25 mwM_26 mwM_22 mwM_23) rfl rfl rfl hd_X12_made ⟨Nat.le_of_ble_eq_true rfl, Nat.le_of_ble_eq_true rfl⟩) rfl hl.1 rfl hK hP hD hS hA (Nat.le_of_ble_eq_true rfl) ⟨Nat.le_of_ble_eq_true rfl, Nat.le_of_ble_eq_true rfl⟩ dX12_some_55 (fun r3 v3 w3 fi3 fl3 H locs h hP hD hS => ?_)
          exact W.iret (v := r3) hx hb hr (fun t ht hW => ⟨⟨_, (v3, w3, fi3, fl3), rfl, h, by rw [ht]; exact hP, va_K.moved hW.alike hK, hD⟩, hS.F ht⟩) hS.2.2 dX12_some_58
        · have h := h.2 c_37
          refine lv_aload_n hx hb dX12_some_40 rfl (lv_at hl 0 rfl) ?_
          refine lv_iconst (v := 3) hx hb dX12_some_41 (by decide) ?_
          refine m_calli (rm := ({ frames := 4, cells := 0, slots := 0, locals := 60 })) (As := [.int 3]) (rest := []) (fun sz => p_X12_fail l dC dI a ca g0 _ _ _ _ 3 _ h sz) ⟨hx, hb, hml, hown, hts⟩ (cwV 1 hts (g_V gdM mwM_19 mwM_20 mwM_21 mwM_22 mwM_18) rfl rfl rfl hd_X12_fail ⟨Nat.le_of_ble_eq_true rfl, Nat.le_of_ble_eq_true rfl⟩) rfl hl.1 rfl hK hP hD hS hA (Nat.le_of_ble_eq_true rfl) ⟨Nat.le_of_ble_eq_true rfl, Nat.le_of_ble_eq_true rfl⟩ dX12_some_42 (fun r4 v4 w4 fi4 fl4 H locs h hP hD hS => ?_)
          refine lv_goto (tgt := 58) hx hb dX12_some_45 (by decide) ?_
          exact W.iret (v := r4) hx hb hr (fun t ht hW => ⟨⟨_, (v4, w4, fi4, fl4), rfl, h, by rw [ht]; exact hP, va_K.moved hW.alike hK, hD⟩, hS.F ht⟩) hS.2.2 dX12_some_58
      · have h := h.2 c_22
        refine lv_aload_n hx hb dX12_some_25 rfl (lv_at hl 0 rfl) ?_
        refine lv_iconst (v := 2) hx hb dX12_some_26 (by decide) ?_
        refine m_calli (rm := ({ frames := 4, cells := 0, slots := 0, locals := 60 })) (As := [.int 2]) (rest := []) (fun sz => p_X12_fail l dC dI a ca g0 _ _ _ _ 2 _ h sz) ⟨hx, hb, hml, hown, hts⟩ (cwV 1 hts (g_V gdM mwM_19 mwM_20 mwM_21 mwM_22 mwM_18) rfl rfl rfl hd_X12_fail ⟨Nat.le_of_ble_eq_true rfl, Nat.le_of_ble_eq_true rfl⟩) rfl hl.1 rfl hK hP hD hS hA (Nat.le_of_ble_eq_true rfl) ⟨Nat.le_of_ble_eq_true rfl, Nat.le_of_ble_eq_true rfl⟩ dX12_some_27 (fun r5 v5 w5 fi5 fl5 H locs h hP hD hS => ?_)
        exact W.iret (v := r5) hx hb hr (fun t ht hW => ⟨⟨_, (v5, w5, fi5, fl5), rfl, h, by rw [ht]; exact hP, va_K.moved hW.alike hK, hD⟩, hS.F ht⟩) hS.2.2 dX12_some_30
  · have h := h.2 c_5
    refine lv_aload_n hx hb dX12_some_8 rfl (lv_at hl 0 rfl) ?_
    refine lv_iconst (v := 1) hx hb dX12_some_9 (by decide) ?_
    refine m_calli (rm := ({ frames := 4, cells := 0, slots := 0, locals := 60 })) (As := [.int 1]) (rest := []) (fun sz => p_X12_fail l dC dI a ca g0 _ _ _ _ 1 _ h sz) ⟨hx, hb, hml, hown, hts⟩ (cwV 1 hts (g_V gdM mwM_19 mwM_20 mwM_21 mwM_22 mwM_18) rfl rfl rfl hd_X12_fail ⟨Nat.le_of_ble_eq_true rfl, Nat.le_of_ble_eq_true rfl⟩) rfl hl.1 rfl hK hP hD hS hA (Nat.le_of_ble_eq_true rfl) ⟨Nat.le_of_ble_eq_true rfl, Nat.le_of_ble_eq_true rfl⟩ dX12_some_10 (fun r6 v6 w6 fi6 fl6 H locs h hP hD hS => ?_)
    exact W.iret (v := r6) hx hb hr (fun t ht hW => ⟨⟨_, (v6, w6, fi6, fl6), rfl, h, by rw [ht]; exact hP, va_K.moved hW.alike hK, hD⟩, hS.F ht⟩) hS.2.2 dX12_some_13

abbrev wmX12_by : List Cond := .code yX12_by cX12_by 6 (some .int) :: WM
theorem hd_X12_by : yX12_by.cls = RX12 ∧ yX12_by.cls ≠ "java/lang/invoke/MethodHandle" ∧ yX12_by.cls ≠ "java/lang/invoke/VarHandle" ∧ (parseMethodDescriptor yX12_by.desc).map (fun d => d.parameters.length) = some 4 := by decide +kernel
def P_X12_by (v : Nat → Int32) (w : Nat → Int64) (fi : Nat → Nat → Int32) (fl : Nat → Nat → Int64) (p0 : Int32) (p1 : Int32) (p2 : Int32) (p3 : Int64) (Q : Int32 → (Nat → Int32) → (Nat → Int64) → (Nat → Nat → Int32) → (Nat → Nat → Int64) → Prop) : Prop := P_X12_isList v w fi fl p1 (fun r1 v1 w1 fi1 fl1 => ((¬ r1 = 0) → (P_X12_isCond p2 (fun r2 => ((¬ r2 = 0) → (((¬ (v1 0) = 24) → (P_X12_made v1 w1 fi1 fl1 p0 p1 0 p2 p3 0 (fun r3 v3 w3 fi3 fl3 => Q r3 v3 w3 fi3 fl3))) ∧ (((v1 0) = 24) → (P_X12_fail v1 w1 fi1 fl1 3 (fun r4 v4 w4 fi4 fl4 => Q r4 v4 w4 fi4 fl4))))) ∧ ((r2 = 0) → (P_X12_fail v1 w1 fi1 fl1 2 (fun r5 v5 w5 fi5 fl5 => Q r5 v5 w5 fi5 fl5)))))) ∧ ((r1 = 0) → (P_X12_fail v1 w1 fi1 fl1 1 (fun r6 v6 w6 fi6 fl6 => Q r6 v6 w6 fi6 fl6))))
set_option maxHeartbeats 4000000 in
set_option maxRecDepth 100000 in
theorem p_X12_by (l : Launch) (dC : Nat → ClassId) (dI : Nat → Nat → Nat) (a : Nat → Nat) (ca : Nat → ClassId) (g0 : Nat) (v : Nat → Int32) (w : Nat → Int64) (fi : Nat → Nat → Int32) (fl : Nat → Nat → Int64) (p0 : Int32) (p1 : Int32) (p2 : Int32) (p3 : Int64) (Q : Int32 → (Nat → Int32) → (Nat → Int64) → (Nat → Nat → Int32) → (Nat → Nat → Int64) → Prop) (h : P_X12_by v w fi fl p0 p1 p2 p3 Q) (sz : Nat) : Met l yX12_by wmX12_by ({ frames := 8, cells := 0, slots := 0, locals := 120 }) (va_Pc [.ref g0, .int p0, .int p1, .int p2, .long p3] (mPre dC dI a ca g0 v w fi fl sz)) (va_Qi (S := MSt) (pI Q) (mB dC dI a ca g0 (va_A (mW a ca g0 v w fi fl) sz)) (va_A (mW a ca g0 v w fi fl) sz)) 0 0 (va_A (mW a ca g0 v w fi fl) sz) := by
  refine Met.ofW (cc := cX12_by) (maxL := 6) (ret := (some .int)) (by decide) rfl ?_
  intro p e s m args below meth c s₁ B hml hv
  obtain ⟨rfl, hsz, hP, hK, hD0⟩ := hv
  have hx := B.exec
  have hb := B.bytes
  have hr := B.returns
  have hts : ∀ w ∈ WM, w.before _ s = true := fun w h => atoms_spec (ws := wmX12_by) B.pre w (List.mem_cons_of_mem _ h)
  have hown : s.vm.findClass RX12 = some m.cls := findClass_of_methodNamed B.named
  have hlocks := B.notSynchronized
  subst hsz
  have hD := hD0.self (sz := s.heap.size)
  generalize hAe : va_A (mW a ca g0 v w fi fl) s.heap.size = A at hD ⊢
  have hA : ∀ q : Nat, s.heap.size ≤ q → A q := fun q h => by rw [← hAe]; exact Or.inr h
  generalize hH : s.heap = H at hP ⊢
  have hS : va_S A s.heap H [] := by rw [← hH]; exact va_S.rf
  have hl := lv_entry [.ref g0, .int p0, .int p1, .int p2, .long p3] (n := 6) (Nat.le_of_ble_eq_true rfl)
  rw [lg_entry_eq]
  generalize (lg_sl [.ref g0, .int p0, .int p1, .int p2, .long p3] ++ List.replicate (6 - (lg_sl [.ref g0, .int p0, .int p1, .int p2, .long p3]).length) Slot.unset).toArray = ls at hl ⊢
  have hl : lv_has ls 6 [(0, .ref g0), (1, .int p0), (2, .int p1), (3, .int p2), (4, .long p3)] := hl
  unfold P_X12_by at h
  refine lv_aload_n hx hb dX12_by_0 rfl (lv_at hl 0 rfl) ?_
  refine lv_iload_n hx hb dX12_by_1 rfl (lv_at hl 2 rfl) ?_
  refine m_calli (rm := ({ frames := 4, cells := 0, slots := 0, locals := 60 })) (As := [.int p1]) (rest := []) (fun sz => p_X12_isList l dC dI a ca g0 _ _ _ _ p1 _ h sz) ⟨hx, hb, hml, hown, hts⟩ (cwV 1 hts (g_V gdM mwM_33 mwM_34 mwM_35 mwM_22 mwM_32) rfl rfl rfl hd_X12_isList ⟨Nat.le_of_ble_eq_true rfl, Nat.le_of_ble_eq_true rfl⟩) rfl hl.1 rfl hK hP hD hS hA (Nat.le_of_ble_eq_true rfl) ⟨Nat.le_of_ble_eq_true rfl, Nat.le_of_ble_eq_true rfl⟩ dX12_by_2 (fun r1 v1 w1 fi1 fl1 H locs h hP hD hS => ?_)
  refine lv_if_ne (tgt := 14) hx hb dX12_by_5 (by decide) (fun c_5 => ?_) (fun c_5 => ?_)
  · have h := h.1 c_5
    refine lv_iload_n hx hb dX12_by_14 rfl (lv_at hl 3 rfl) ?_
    refine s_calli (rm := ({ frames := 4, cells := 0, slots := 0, locals := 60 })) (As := [.int p2]) (rest := []) (fun sz => p_X12_isCond l dC dI p2 _ h sz) ⟨hx, hb, hml, hown, hts⟩ (va_cwS 1 hts (g_S gdM mwM_37 mwM_38 mwM_22 mwM_36) rfl rfl rfl hd_X12_isCond ⟨Nat.le_of_ble_eq_true rfl, Nat.le_of_ble_eq_true rfl⟩) rfl hl.1 rfl hP hD hS hA (Nat.le_of_ble_eq_true rfl) ⟨Nat.le_of_ble_eq_true rfl, Nat.le_of_ble_eq_true rfl⟩ dX12_by_15 (fun r2 H locs h hP hS => ?_)
    refine lv_if_ne (tgt := 27) hx hb dX12_by_18 (by decide) (fun c_18 => ?_) (fun c_18 => ?_)
    · have h := h.1 c_18
      refine lv_aload_n hx hb dX12_by_27 rfl (lv_at hl 0 rfl) ?_
      refine va_get (D := (dC, dI)) (ci := 11) (v := .int (v1 0)) (C := RX12) (T := TX12) (N := 32) hx hb hts hinM hown hK hP 0 rfl rfl 0 (by decide) (hts _ mwM_1) (fun _ h9 => h9) rfl dX12_by_28 ?_
      refine lv_bipush (v := 24) hx hb dX12_by_31 (by decide) ?_
      refine lv_icmp_ne (tgt := 44) hx hb dX12_by_33 (by decide) (fun c_33 => ?_) (fun c_33 => ?_)
      · have h := h.1 c_33
        refine lv_aload_n hx hb dX12_by_44 rfl (lv_at hl 0 rfl) ?_
        refine lv_iload_n hx hb dX12_by_45 rfl (lv_at hl 1 rfl) ?_
        refine lv_iload_n hx hb dX12_by_46 rfl (lv_at hl 2 rfl) ?_
        refine lv_iconst (v := 0) hx hb dX12_by_47 (by decide) ?_
        refine lv_iload_n hx hb dX12_by_48 rfl (lv_at hl 3 rfl) ?_
        refine lv_lload hx hb dX12_by_49 (lv_at hl 4 rfl) ?_
        refine lv_lconst (v := 0) hx hb dX12_by_51 (by decide) ?_
        refine m_calli (rm := ({ frames := 4, cells := 0, slots := 0, locals := 60 })) (As := [.int p0, .int p1, .int 0, .int p2, .long p3, .long 0]) (rest := []) (fun sz => p_X12_made l dC dI a ca g0 _ _ _ _ p0 p1 0 p2 p3 0 _ h sz) ⟨hx, hb, hml, hown, hts⟩ (cwV 6 hts (g_V gdM mwM_24 mwM_25 mwM_26 mwM_22 mwM_23) rfl rfl rfl hd_X12_made ⟨Nat.le_of_ble_eq_true rfl, Nat.le_of_ble_eq_true rfl⟩) rfl hl.1 rfl hK hP hD hS hA (Nat.le_of_ble_eq_true rfl) ⟨Nat.le_of_ble_eq_true rfl, Nat.le_of_ble_eq_true rfl⟩ dX12_by_52 (fun r3 v3 w3 fi3 fl3 H locs h hP hD hS => ?_)
        exact W.iret (v := r3) hx hb hr (fun t ht hW => ⟨⟨_, (v3, w3, fi3, fl3), rfl, h, by rw [ht]; exact hP, va_K.moved hW.alike hK, hD⟩, hS.F ht⟩) hS.2.2 dX12_by_55
      · have h := h.2 c_33
        refine lv_aload_n hx hb dX12_by_36 rfl (lv_at hl 0 rfl) ?_
        refine lv_iconst (v := 3) hx hb dX12_by_37 (by decide) ?_
        refine m_calli (rm := ({ frames := 4, cells := 0, slots := 0, locals := 60 })) (As := [.int 3]) (rest := []) (fun sz => p_X12_fail l dC dI a ca g0 _ _ _ _ 3 _ h sz) ⟨hx, hb, hml, hown, hts⟩ (cwV 1 hts (g_V gdM mwM_19 mwM_20 mwM_21 mwM_22 mwM_18) rfl rfl rfl hd_X12_fail ⟨Nat.le_of_ble_eq_true rfl, Nat.le_of_ble_eq_true rfl⟩) rfl hl.1 rfl hK hP hD hS hA (Nat.le_of_ble_eq_true rfl) ⟨Nat.le_of_ble_eq_true rfl, Nat.le_of_ble_eq_true rfl⟩ dX12_by_38 (fun r4 v4 w4 fi4 fl4 H locs h hP hD hS => ?_)
        refine lv_goto (tgt := 55) hx hb dX12_by_41 (by decide) ?_
        exact W.iret (v := r4) hx hb hr (fun t ht hW => ⟨⟨_, (v4, w4, fi4, fl4), rfl, h, by rw [ht]; exact hP, va_K.moved hW.alike hK, hD⟩, hS.F ht⟩) hS.2.2 dX12_by_55
    · have h := h.2 c_18
      refine lv_aload_n hx hb dX12_by_21 rfl (lv_at hl 0 rfl) ?_
      refine lv_iconst (v := 2) hx hb dX12_by_22 (by decide) ?_
      refine m_calli (rm := ({ frames := 4, cells := 0, slots := 0, locals := 60 })) (As := [.int 2]) (rest := []) (fun sz => p_X12_fail l dC dI a ca g0 _ _ _ _ 2 _ h sz) ⟨hx, hb, hml, hown, hts⟩ (cwV 1 hts (g_V gdM mwM_19 mwM_20 mwM_21 mwM_22 mwM_18) rfl rfl rfl hd_X12_fail ⟨Nat.le_of_ble_eq_true rfl, Nat.le_of_ble_eq_true rfl⟩) rfl hl.1 rfl hK hP hD hS hA (Nat.le_of_ble_eq_true rfl) ⟨Nat.le_of_ble_eq_true rfl, Nat.le_of_ble_eq_true rfl⟩ dX12_by_23 (fun r5 v5 w5 fi5 fl5 H locs h hP hD hS => ?_)
      exact W.iret (v := r5) hx hb hr (fun t ht hW => ⟨⟨_, (v5, w5, fi5, fl5), rfl, h, by rw [ht]; exact hP, va_K.moved hW.alike hK, hD⟩, hS.F ht⟩) hS.2.2 dX12_by_26
  · have h := h.2 c_5
    refine lv_aload_n hx hb dX12_by_8 rfl (lv_at hl 0 rfl) ?_
    refine lv_iconst (v := 1) hx hb dX12_by_9 (by decide) ?_
    refine m_calli (rm := ({ frames := 4, cells := 0, slots := 0, locals := 60 })) (As := [.int 1]) (rest := []) (fun sz => p_X12_fail l dC dI a ca g0 _ _ _ _ 1 _ h sz) ⟨hx, hb, hml, hown, hts⟩ (cwV 1 hts (g_V gdM mwM_19 mwM_20 mwM_21 mwM_22 mwM_18) rfl rfl rfl hd_X12_fail ⟨Nat.le_of_ble_eq_true rfl, Nat.le_of_ble_eq_true rfl⟩) rfl hl.1 rfl hK hP hD hS hA (Nat.le_of_ble_eq_true rfl) ⟨Nat.le_of_ble_eq_true rfl, Nat.le_of_ble_eq_true rfl⟩ dX12_by_10 (fun r6 v6 w6 fi6 fl6 H locs h hP hD hS => ?_)
    exact W.iret (v := r6) hx hb hr (fun t ht hW => ⟨⟨_, (v6, w6, fi6, fl6), rfl, h, by rw [ht]; exact hP, va_K.moved hW.alike hK, hD⟩, hS.F ht⟩) hS.2.2 dX12_by_13

abbrev wmX12_join : List Cond := .code yX12_join cX12_join 3 (some .int) :: WM
theorem hd_X12_join : yX12_join.cls = RX12 ∧ yX12_join.cls ≠ "java/lang/invoke/MethodHandle" ∧ yX12_join.cls ≠ "java/lang/invoke/VarHandle" ∧ (parseMethodDescriptor yX12_join.desc).map (fun d => d.parameters.length) = some 2 := by decide +kernel
def P_X12_join (v : Nat → Int32) (w : Nat → Int64) (fi : Nat → Nat → Int32) (fl : Nat → Nat → Int64) (p0 : Int32) (p1 : Int32) (Q : Int32 → (Nat → Int32) → (Nat → Int64) → (Nat → Nat → Int32) → (Nat → Nat → Int64) → Prop) : Prop := P_X12_isList (va_up v 19 0) w fi fl p0 (fun r1 v1 w1 fi1 fl1 => ((r1 = 0) → (P_X12_fail v1 w1 fi1 fl1 1 (fun r2 v2 w2 fi2 fl2 => Q r2 v2 w2 fi2 fl2))) ∧ ((¬ r1 = 0) → (P_X12_isList v1 w1 fi1 fl1 p1 (fun r3 v3 w3 fi3 fl3 => ((¬ r3 = 0) → (((¬ (v3 0) = 24) → (P_X12_made v3 w3 fi3 fl3 11 p0 p1 0 0 0 (fun r4 v4 w4 fi4 fl4 => Q r4 v4 w4 fi4 fl4))) ∧ (((v3 0) = 24) → (P_X12_fail v3 w3 fi3 fl3 2 (fun r5 v5 w5 fi5 fl5 => Q r5 v5 w5 fi5 fl5))))) ∧ ((r3 = 0) → (P_X12_fail v3 w3 fi3 fl3 1 (fun r6 v6 w6 fi6 fl6 => Q r6 v6 w6 fi6 fl6)))))))
set_option maxHeartbeats 4000000 in
set_option maxRecDepth 100000 in
theorem p_X12_join (l : Launch) (dC : Nat → ClassId) (dI : Nat → Nat → Nat) (a : Nat → Nat) (ca : Nat → ClassId) (g0 : Nat) (v : Nat → Int32) (w : Nat → Int64) (fi : Nat → Nat → Int32) (fl : Nat → Nat → Int64) (p0 : Int32) (p1 : Int32) (Q : Int32 → (Nat → Int32) → (Nat → Int64) → (Nat → Nat → Int32) → (Nat → Nat → Int64) → Prop) (h : P_X12_join v w fi fl p0 p1 Q) (sz : Nat) : Met l yX12_join wmX12_join ({ frames := 8, cells := 0, slots := 0, locals := 120 }) (va_Pc [.ref g0, .int p0, .int p1] (mPre dC dI a ca g0 v w fi fl sz)) (va_Qi (S := MSt) (pI Q) (mB dC dI a ca g0 (va_A (mW a ca g0 v w fi fl) sz)) (va_A (mW a ca g0 v w fi fl) sz)) 0 0 (va_A (mW a ca g0 v w fi fl) sz) := by
  refine Met.ofW (cc := cX12_join) (maxL := 3) (ret := (some .int)) (by decide) rfl ?_
  intro p e s m args below meth c s₁ B hml hv
  obtain ⟨rfl, hsz, hP, hK, hD0⟩ := hv
  have hx := B.exec
  have hb := B.bytes
  have hr := B.returns
  have hts : ∀ w ∈ WM, w.before _ s = true := fun w h => atoms_spec (ws := wmX12_join) B.pre w (List.mem_cons_of_mem _ h)
  have hown : s.vm.findClass RX12 = some m.cls := findClass_of_methodNamed B.named
  have hlocks := B.notSynchronized
  subst hsz
  have hD := hD0.self (sz := s.heap.size)
  generalize hAe : va_A (mW a ca g0 v w fi fl) s.heap.size = A at hD ⊢
  have hA : ∀ q : Nat, s.heap.size ≤ q → A q := fun q h => by rw [← hAe]; exact Or.inr h
  generalize hH : s.heap = H at hP ⊢
  have hS : va_S A s.heap H [] := by rw [← hH]; exact va_S.rf
  have hl := lv_entry [.ref g0, .int p0, .int p1] (n := 3) (Nat.le_of_ble_eq_true rfl)
  rw [lg_entry_eq]
  generalize (lg_sl [.ref g0, .int p0, .int p1] ++ List.replicate (3 - (lg_sl [.ref g0, .int p0, .int p1]).length) Slot.unset).toArray = ls at hl ⊢
  have hl : lv_has ls 3 [(0, .ref g0), (1, .int p0), (2, .int p1)] := hl
  unfold P_X12_join at h
  refine lv_aload_n hx hb dX12_join_0 rfl (lv_at hl 0 rfl) ?_
  refine lv_iconst (v := 0) hx hb dX12_join_1 (by decide) ?_
  refine m_put_19 hx hb hts hinM hown hK hP hD hS (hts _ mwM_0) dX12_join_2 (fun H locs hP hD hS => ?_)
  refine lv_aload_n hx hb dX12_join_5 rfl (lv_at hl 0 rfl) ?_
  refine lv_iload_n hx hb dX12_join_6 rfl (lv_at hl 1 rfl) ?_
  refine m_calli (rm := ({ frames := 4, cells := 0, slots := 0, locals := 60 })) (As := [.int p0]) (rest := []) (fun sz => p_X12_isList l dC dI a ca g0 _ _ _ _ p0 _ h sz) ⟨hx, hb, hml, hown, hts⟩ (cwV 1 hts (g_V gdM mwM_33 mwM_34 mwM_35 mwM_22 mwM_32) rfl rfl rfl hd_X12_isList ⟨Nat.le_of_ble_eq_true rfl, Nat.le_of_ble_eq_true rfl⟩) rfl hl.1 rfl hK hP hD hS hA (Nat.le_of_ble_eq_true rfl) ⟨Nat.le_of_ble_eq_true rfl, Nat.le_of_ble_eq_true rfl⟩ dX12_join_7 (fun r1 v1 w1 fi1 fl1 H locs h hP hD hS => ?_)
  refine lv_if_eq (tgt := 21) hx hb dX12_join_10 (by decide) (fun c_10 => ?_) (fun c_10 => ?_)
  · have h := h.1 c_10
    refine lv_aload_n hx hb dX12_join_21 rfl (lv_at hl 0 rfl) ?_
    refine lv_iconst (v := 1) hx hb dX12_join_22 (by decide) ?_
    refine m_calli (rm := ({ frames := 4, cells := 0, slots := 0, locals := 60 })) (As := [.int 1]) (rest := []) (fun sz => p_X12_fail l dC dI a ca g0 _ _ _ _ 1 _ h sz) ⟨hx, hb, hml, hown, hts⟩ (cwV 1 hts (g_V gdM mwM_19 mwM_20 mwM_21 mwM_22 mwM_18) rfl rfl rfl hd_X12_fail ⟨Nat.le_of_ble_eq_true rfl, Nat.le_of_ble_eq_true rfl⟩) rfl hl.1 rfl hK hP hD hS hA (Nat.le_of_ble_eq_true rfl) ⟨Nat.le_of_ble_eq_true rfl, Nat.le_of_ble_eq_true rfl⟩ dX12_join_23 (fun r2 v2 w2 fi2 fl2 H locs h hP hD hS => ?_)
    exact W.iret (v := r2) hx hb hr (fun t ht hW => ⟨⟨_, (v2, w2, fi2, fl2), rfl, h, by rw [ht]; exact hP, va_K.moved hW.alike hK, hD⟩, hS.F ht⟩) hS.2.2 dX12_join_26
  · have h := h.2 c_10
    refine lv_aload_n hx hb dX12_join_13 rfl (lv_at hl 0 rfl) ?_
    refine lv_iload_n hx hb dX12_join_14 rfl (lv_at hl 2 rfl) ?_
    refine m_calli (rm := ({ frames := 4, cells := 0, slots := 0, locals := 60 })) (As := [.int p1]) (rest := []) (fun sz => p_X12_isList l dC dI a ca g0 _ _ _ _ p1 _ h sz) ⟨hx, hb, hml, hown, hts⟩ (cwV 1 hts (g_V gdM mwM_33 mwM_34 mwM_35 mwM_22 mwM_32) rfl rfl rfl hd_X12_isList ⟨Nat.le_of_ble_eq_true rfl, Nat.le_of_ble_eq_true rfl⟩) rfl hl.1 rfl hK hP hD hS hA (Nat.le_of_ble_eq_true rfl) ⟨Nat.le_of_ble_eq_true rfl, Nat.le_of_ble_eq_true rfl⟩ dX12_join_15 (fun r3 v3 w3 fi3 fl3 H locs h hP hD hS => ?_)
    refine lv_if_ne (tgt := 27) hx hb dX12_join_18 (by decide) (fun c_18 => ?_) (fun c_18 => ?_)
    · have h := h.1 c_18
      refine lv_aload_n hx hb dX12_join_27 rfl (lv_at hl 0 rfl) ?_
      refine va_get (D := (dC, dI)) (ci := 11) (v := .int (v3 0)) (C := RX12) (T := TX12) (N := 32) hx hb hts hinM hown hK hP 0 rfl rfl 0 (by decide) (hts _ mwM_1) (fun _ h9 => h9) rfl dX12_join_28 ?_
      refine lv_bipush (v := 24) hx hb dX12_join_31 (by decide) ?_
      refine lv_icmp_ne (tgt := 44) hx hb dX12_join_33 (by decide) (fun c_33 => ?_) (fun c_33 => ?_)
      · have h := h.1 c_33
        refine lv_aload_n hx hb dX12_join_44 rfl (lv_at hl 0 rfl) ?_
        refine lv_bipush (v := 11) hx hb dX12_join_45 (by decide) ?_
        refine lv_iload_n hx hb dX12_join_47 rfl (lv_at hl 1 rfl) ?_
        refine lv_iload_n hx hb dX12_join_48 rfl (lv_at hl 2 rfl) ?_
        refine lv_iconst (v := 0) hx hb dX12_join_49 (by decide) ?_
        refine lv_lconst (v := 0) hx hb dX12_join_50 (by decide) ?_
        refine lv_lconst (v := 0) hx hb dX12_join_51 (by decide) ?_
        refine m_calli (rm := ({ frames := 4, cells := 0, slots := 0, locals := 60 })) (As := [.int 11, .int p0, .int p1, .int 0, .long 0, .long 0]) (rest := []) (fun sz => p_X12_made l dC dI a ca g0 _ _ _ _ 11 p0 p1 0 0 0 _ h sz) ⟨hx, hb, hml, hown, hts⟩ (cwV 6 hts (g_V gdM mwM_24 mwM_25 mwM_26 mwM_22 mwM_23) rfl rfl rfl hd_X12_made ⟨Nat.le_of_ble_eq_true rfl, Nat.le_of_ble_eq_true rfl⟩) rfl hl.1 rfl hK hP hD hS hA (Nat.le_of_ble_eq_true rfl) ⟨Nat.le_of_ble_eq_true rfl, Nat.le_of_ble_eq_true rfl⟩ dX12_join_52 (fun r4 v4 w4 fi4 fl4 H locs h hP hD hS => ?_)
        exact W.iret (v := r4) hx hb hr (fun t ht hW => ⟨⟨_, (v4, w4, fi4, fl4), rfl, h, by rw [ht]; exact hP, va_K.moved hW.alike hK, hD⟩, hS.F ht⟩) hS.2.2 dX12_join_55
      · have h := h.2 c_33
        refine lv_aload_n hx hb dX12_join_36 rfl (lv_at hl 0 rfl) ?_
        refine lv_iconst (v := 2) hx hb dX12_join_37 (by decide) ?_
        refine m_calli (rm := ({ frames := 4, cells := 0, slots := 0, locals := 60 })) (As := [.int 2]) (rest := []) (fun sz => p_X12_fail l dC dI a ca g0 _ _ _ _ 2 _ h sz) ⟨hx, hb, hml, hown, hts⟩ (cwV 1 hts (g_V gdM mwM_19 mwM_20 mwM_21 mwM_22 mwM_18) rfl rfl rfl hd_X12_fail ⟨Nat.le_of_ble_eq_true rfl, Nat.le_of_ble_eq_true rfl⟩) rfl hl.1 rfl hK hP hD hS hA (Nat.le_of_ble_eq_true rfl) ⟨Nat.le_of_ble_eq_true rfl, Nat.le_of_ble_eq_true rfl⟩ dX12_join_38 (fun r5 v5 w5 fi5 fl5 H locs h hP hD hS => ?_)
        refine lv_goto (tgt := 55) hx hb dX12_join_41 (by decide) ?_
        exact W.iret (v := r5) hx hb hr (fun t ht hW => ⟨⟨_, (v5, w5, fi5, fl5), rfl, h, by rw [ht]; exact hP, va_K.moved hW.alike hK, hD⟩, hS.F ht⟩) hS.2.2 dX12_join_55
    · have h := h.2 c_18
      refine lv_aload_n hx hb dX12_join_21 rfl (lv_at hl 0 rfl) ?_
      refine lv_iconst (v := 1) hx hb dX12_join_22 (by decide) ?_
      refine m_calli (rm := ({ frames := 4, cells := 0, slots := 0, locals := 60 })) (As := [.int 1]) (rest := []) (fun sz => p_X12_fail l dC dI a ca g0 _ _ _ _ 1 _ h sz) ⟨hx, hb, hml, hown, hts⟩ (cwV 1 hts (g_V gdM mwM_19 mwM_20 mwM_21 mwM_22 mwM_18) rfl rfl rfl hd_X12_fail ⟨Nat.le_of_ble_eq_true rfl, Nat.le_of_ble_eq_true rfl⟩) rfl hl.1 rfl hK hP hD hS hA (Nat.le_of_ble_eq_true rfl) ⟨Nat.le_of_ble_eq_true rfl, Nat.le_of_ble_eq_true rfl⟩ dX12_join_23 (fun r6 v6 w6 fi6 fl6 H locs h hP hD hS => ?_)
      exact W.iret (v := r6) hx hb hr (fun t ht hW => ⟨⟨_, (v6, w6, fi6, fl6), rfl, h, by rw [ht]; exact hP, va_K.moved hW.alike hK, hD⟩, hS.F ht⟩) hS.2.2 dX12_join_26

abbrev wmX12_other : List Cond := .code yX12_other cX12_other 3 (some .int) :: WM
theorem hd_X12_other : yX12_other.cls = RX12 ∧ yX12_other.cls ≠ "java/lang/invoke/MethodHandle" ∧ yX12_other.cls ≠ "java/lang/invoke/VarHandle" ∧ (parseMethodDescriptor yX12_other.desc).map (fun d => d.parameters.length) = some 2 := by decide +kernel
def P_X12_other (v : Nat → Int32) (w : Nat → Int64) (fi : Nat → Nat → Int32) (fl : Nat → Nat → Int64) (p0 : Int32) (p1 : Int32) (Q : Int32 → (Nat → Int32) → (Nat → Int64) → (Nat → Nat → Int32) → (Nat → Nat → Int64) → Prop) : Prop := P_X12_isList (va_up v 19 0) w fi fl p0 (fun r1 v1 w1 fi1 fl1 => ((¬ r1 = 0) → (((p1 < 0) → (P_X12_fail v1 w1 fi1 fl1 2 (fun r2 v2 w2 fi2 fl2 => Q r2 v2 w2 fi2 fl2))) ∧ ((¬ p1 < 0) → (((p1 ≤ 4) → (((¬ (v1 0) = 24) → (P_X12_made v1 w1 fi1 fl1 (12 + p1) p0 0 0 0 0 (fun r3 v3 w3 fi3 fl3 => Q r3 v3 w3 fi3 fl3))) ∧ (((v1 0) = 24) → (P_X12_fail v1 w1 fi1 fl1 3 (fun r4 v4 w4 fi4 fl4 => Q r4 v4 w4 fi4 fl4))))) ∧ ((¬ p1 ≤ 4) → (P_X12_fail v1 w1 fi1 fl1 2 (fun r5 v5 w5 fi5 fl5 => Q r5 v5 w5 fi5 fl5))))))) ∧ ((r1 = 0) → (P_X12_fail v1 w1 fi1 fl1 1 (fun r6 v6 w6 fi6 fl6 => Q r6 v6 w6 fi6 fl6))))
set_option maxHeartbeats 4000000 in
set_option maxRecDepth 100000 in
theorem p_X12_other (l : Launch) (dC : Nat → ClassId) (dI : Nat → Nat → Nat) (a : Nat → Nat) (ca : Nat → ClassId) (g0 : Nat) (v : Nat → Int32) (w : Nat → Int64) (fi : Nat → Nat → Int32) (fl : Nat → Nat → Int64) (p0 : Int32) (p1 : Int32) (Q : Int32 → (Nat → Int32) → (Nat → Int64) → (Nat → Nat → Int32) → (Nat → Nat → Int64) → Prop) (h : P_X12_other v w fi fl p0 p1 Q) (sz : Nat) : Met l yX12_other wmX12_other ({ frames := 8, cells := 0, slots := 0, locals := 120 }) (va_Pc [.ref g0, .int p0, .int p1] (mPre dC dI a ca g0 v w fi fl sz)) (va_Qi (S := MSt) (pI Q) (mB dC dI a ca g0 (va_A (mW a ca g0 v w fi fl) sz)) (va_A (mW a ca g0 v w fi fl) sz)) 0 0 (va_A (mW a ca g0 v w fi fl) sz) := by
  refine Met.ofW (cc := cX12_other) (maxL := 3) (ret := (some .int)) (by decide) rfl ?_
  intro p e s m args below meth c s₁ B hml hv
  obtain ⟨rfl, hsz, hP, hK, hD0⟩ := hv
  have hx := B.exec
  have hb := B.bytes
  have hr := B.returns
  have hts : ∀ w ∈ WM, w.before _ s = true := fun w h => atoms_spec (ws := wmX12_other) B.pre w (List.mem_cons_of_mem _ h)
  have hown : s.vm.findClass RX12 = some m.cls := findClass_of_methodNamed B.named
  have hlocks := B.notSynchronized
  subst hsz
  have hD := hD0.self (sz := s.heap.size)
  generalize hAe : va_A (mW a ca g0 v w fi fl) s.heap.size = A at hD ⊢
  have hA : ∀ q : Nat, s.heap.size ≤ q → A q := fun q h => by rw [← hAe]; exact Or.inr h
  generalize hH : s.heap = H at hP ⊢
  have hS : va_S A s.heap H [] := by rw [← hH]; exact va_S.rf
  have hl := lv_entry [.ref g0, .int p0, .int p1] (n := 3) (Nat.le_of_ble_eq_true rfl)
  rw [lg_entry_eq]
  generalize (lg_sl [.ref g0, .int p0, .int p1] ++ List.replicate (3 - (lg_sl [.ref g0, .int p0, .int p1]).length) Slot.unset).toArray = ls at hl ⊢
  have hl : lv_has ls 3 [(0, .ref g0), (1, .int p0), (2, .int p1)] := hl
  unfold P_X12_other at h
  refine lv_aload_n hx hb dX12_other_0 rfl (lv_at hl 0 rfl) ?_
  refine lv_iconst (v := 0) hx hb dX12_other_1 (by decide) ?_
  refine m_put_19 hx hb hts hinM hown hK hP hD hS (hts _ mwM_0) dX12_other_2 (fun H locs hP hD hS => ?_)
  refine lv_aload_n hx hb dX12_other_5 rfl (lv_at hl 0 rfl) ?_
  refine lv_iload_n hx hb dX12_other_6 rfl (lv_at hl 1 rfl) ?_
  refine m_calli (rm := ({ frames := 4, cells := 0, slots := 0, locals := 60 })) (As := [.int p0]) (rest := []) (fun sz => p_X12_isList l dC dI a ca g0 _ _ _ _ p0 _ h sz) ⟨hx, hb, hml, hown, hts⟩ (cwV 1 hts (g_V gdM mwM_33 mwM_34 mwM_35 mwM_22 mwM_32) rfl rfl rfl hd_X12_isList ⟨Nat.le_of_ble_eq_true rfl, Nat.le_of_ble_eq_true rfl⟩) rfl hl.1 rfl hK hP hD hS hA (Nat.le_of_ble_eq_true rfl) ⟨Nat.le_of_ble_eq_true rfl, Nat.le_of_ble_eq_true rfl⟩ dX12_other_7 (fun r1 v1 w1 fi1 fl1 H locs h hP hD hS => ?_)
  refine lv_if_ne (tgt := 19) hx hb dX12_other_10 (by decide) (fun c_10 => ?_) (fun c_10 => ?_)
  · have h := h.1 c_10
    refine lv_iload_n hx hb dX12_other_19 rfl (lv_at hl 2 rfl) ?_
    refine lv_if_lt (tgt := 28) hx hb dX12_other_20 (by decide) (fun c_20 => ?_) (fun c_20 => ?_)
    · have h := h.1 c_20
      refine lv_aload_n hx hb dX12_other_28 rfl (lv_at hl 0 rfl) ?_
      refine lv_iconst (v := 2) hx hb dX12_other_29 (by decide) ?_
      refine m_calli (rm := ({ frames := 4, cells := 0, slots := 0, locals := 60 })) (As := [.int 2]) (rest := []) (fun sz => p_X12_fail l dC dI a ca g0 _ _ _ _ 2 _ h sz) ⟨hx, hb, hml, hown, hts⟩ (cwV 1 hts (g_V gdM mwM_19 mwM_20 mwM_21 mwM_22 mwM_18) rfl rfl rfl hd_X12_fail ⟨Nat.le_of_ble_eq_true rfl, Nat.le_of_ble_eq_true rfl⟩) rfl hl.1 rfl hK hP hD hS hA (Nat.le_of_ble_eq_true rfl) ⟨Nat.le_of_ble_eq_true rfl, Nat.le_of_ble_eq_true rfl⟩ dX12_other_30 (fun r2 v2 w2 fi2 fl2 H locs h hP hD hS => ?_)
      exact W.iret (v := r2) hx hb hr (fun t ht hW => ⟨⟨_, (v2, w2, fi2, fl2), rfl, h, by rw [ht]; exact hP, va_K.moved hW.alike hK, hD⟩, hS.F ht⟩) hS.2.2 dX12_other_33
    · have h := h.2 c_20
      refine lv_iload_n hx hb dX12_other_23 rfl (lv_at hl 2 rfl) ?_
      refine lv_iconst (v := 4) hx hb dX12_other_24 (by decide) ?_
      refine lv_icmp_le (tgt := 34) hx hb dX12_other_25 (by decide) (fun c_25 => ?_) (fun c_25 => ?_)
      · have h := h.1 c_25
        refine lv_aload_n hx hb dX12_other_34 rfl (lv_at hl 0 rfl) ?_
        refine va_get (D := (dC, dI)) (ci := 11) (v := .int (v1 0)) (C := RX12) (T := TX12) (N := 32) hx hb hts hinM hown hK hP 0 rfl rfl 0 (by decide) (hts _ mwM_1) (fun _ h9 => h9) rfl dX12_other_35 ?_
        refine lv_bipush (v := 24) hx hb dX12_other_38 (by decide) ?_
        refine lv_icmp_ne (tgt := 51) hx hb dX12_other_40 (by decide) (fun c_40 => ?_) (fun c_40 => ?_)
        · have h := h.1 c_40
          refine lv_aload_n hx hb dX12_other_51 rfl (lv_at hl 0 rfl) ?_
          refine lv_bipush (v := 12) hx hb dX12_other_52 (by decide) ?_
          refine lv_iload_n hx hb dX12_other_54 rfl (lv_at hl 2 rfl) ?_
          refine lv_iadd hx hb dX12_other_55 ?_
          refine lv_iload_n hx hb dX12_other_56 rfl (lv_at hl 1 rfl) ?_
          refine lv_iconst (v := 0) hx hb dX12_other_57 (by decide) ?_
          refine lv_iconst (v := 0) hx hb dX12_other_58 (by decide) ?_
          refine lv_lconst (v := 0) hx hb dX12_other_59 (by decide) ?_
          refine lv_lconst (v := 0) hx hb dX12_other_60 (by decide) ?_
          refine m_calli (rm := ({ frames := 4, cells := 0, slots := 0, locals := 60 })) (As := [.int (12 + p1), .int p0, .int 0, .int 0, .long 0, .long 0]) (rest := []) (fun sz => p_X12_made l dC dI a ca g0 _ _ _ _ (12 + p1) p0 0 0 0 0 _ h sz) ⟨hx, hb, hml, hown, hts⟩ (cwV 6 hts (g_V gdM mwM_24 mwM_25 mwM_26 mwM_22 mwM_23) rfl rfl rfl hd_X12_made ⟨Nat.le_of_ble_eq_true rfl, Nat.le_of_ble_eq_true rfl⟩) rfl hl.1 rfl hK hP hD hS hA (Nat.le_of_ble_eq_true rfl) ⟨Nat.le_of_ble_eq_true rfl, Nat.le_of_ble_eq_true rfl⟩ dX12_other_61 (fun r3 v3 w3 fi3 fl3 H locs h hP hD hS => ?_)
          exact W.iret (v := r3) hx hb hr (fun t ht hW => ⟨⟨_, (v3, w3, fi3, fl3), rfl, h, by rw [ht]; exact hP, va_K.moved hW.alike hK, hD⟩, hS.F ht⟩) hS.2.2 dX12_other_64
        · have h := h.2 c_40
          refine lv_aload_n hx hb dX12_other_43 rfl (lv_at hl 0 rfl) ?_
          refine lv_iconst (v := 3) hx hb dX12_other_44 (by decide) ?_
          refine m_calli (rm := ({ frames := 4, cells := 0, slots := 0, locals := 60 })) (As := [.int 3]) (rest := []) (fun sz => p_X12_fail l dC dI a ca g0 _ _ _ _ 3 _ h sz) ⟨hx, hb, hml, hown, hts⟩ (cwV 1 hts (g_V gdM mwM_19 mwM_20 mwM_21 mwM_22 mwM_18) rfl rfl rfl hd_X12_fail ⟨Nat.le_of_ble_eq_true rfl, Nat.le_of_ble_eq_true rfl⟩) rfl hl.1 rfl hK hP hD hS hA (Nat.le_of_ble_eq_true rfl) ⟨Nat.le_of_ble_eq_true rfl, Nat.le_of_ble_eq_true rfl⟩ dX12_other_45 (fun r4 v4 w4 fi4 fl4 H locs h hP hD hS => ?_)
          refine lv_goto (tgt := 64) hx hb dX12_other_48 (by decide) ?_
          exact W.iret (v := r4) hx hb hr (fun t ht hW => ⟨⟨_, (v4, w4, fi4, fl4), rfl, h, by rw [ht]; exact hP, va_K.moved hW.alike hK, hD⟩, hS.F ht⟩) hS.2.2 dX12_other_64
      · have h := h.2 c_25
        refine lv_aload_n hx hb dX12_other_28 rfl (lv_at hl 0 rfl) ?_
        refine lv_iconst (v := 2) hx hb dX12_other_29 (by decide) ?_
        refine m_calli (rm := ({ frames := 4, cells := 0, slots := 0, locals := 60 })) (As := [.int 2]) (rest := []) (fun sz => p_X12_fail l dC dI a ca g0 _ _ _ _ 2 _ h sz) ⟨hx, hb, hml, hown, hts⟩ (cwV 1 hts (g_V gdM mwM_19 mwM_20 mwM_21 mwM_22 mwM_18) rfl rfl rfl hd_X12_fail ⟨Nat.le_of_ble_eq_true rfl, Nat.le_of_ble_eq_true rfl⟩) rfl hl.1 rfl hK hP hD hS hA (Nat.le_of_ble_eq_true rfl) ⟨Nat.le_of_ble_eq_true rfl, Nat.le_of_ble_eq_true rfl⟩ dX12_other_30 (fun r5 v5 w5 fi5 fl5 H locs h hP hD hS => ?_)
        exact W.iret (v := r5) hx hb hr (fun t ht hW => ⟨⟨_, (v5, w5, fi5, fl5), rfl, h, by rw [ht]; exact hP, va_K.moved hW.alike hK, hD⟩, hS.F ht⟩) hS.2.2 dX12_other_33
  · have h := h.2 c_10
    refine lv_aload_n hx hb dX12_other_13 rfl (lv_at hl 0 rfl) ?_
    refine lv_iconst (v := 1) hx hb dX12_other_14 (by decide) ?_
    refine m_calli (rm := ({ frames := 4, cells := 0, slots := 0, locals := 60 })) (As := [.int 1]) (rest := []) (fun sz => p_X12_fail l dC dI a ca g0 _ _ _ _ 1 _ h sz) ⟨hx, hb, hml, hown, hts⟩ (cwV 1 hts (g_V gdM mwM_19 mwM_20 mwM_21 mwM_22 mwM_18) rfl rfl rfl hd_X12_fail ⟨Nat.le_of_ble_eq_true rfl, Nat.le_of_ble_eq_true rfl⟩) rfl hl.1 rfl hK hP hD hS hA (Nat.le_of_ble_eq_true rfl) ⟨Nat.le_of_ble_eq_true rfl, Nat.le_of_ble_eq_true rfl⟩ dX12_other_15 (fun r6 v6 w6 fi6 fl6 H locs h hP hD hS => ?_)
    exact W.iret (v := r6) hx hb hr (fun t ht hW => ⟨⟨_, (v6, w6, fi6, fl6), rfl, h, by rw [ht]; exact hP, va_K.moved hW.alike hK, hD⟩, hS.F ht⟩) hS.2.2 dX12_other_18

abbrev wmX12_op : List Cond := .code yX12_op cX12_op 8 (some .int) :: WM
theorem hd_X12_op : yX12_op.cls = RX12 ∧ yX12_op.cls ≠ "java/lang/invoke/MethodHandle" ∧ yX12_op.cls ≠ "java/lang/invoke/VarHandle" ∧ (parseMethodDescriptor yX12_op.desc).map (fun d => d.parameters.length) = some 3 := by decide +kernel
def P_X12_op (v : Nat → Int32) (w : Nat → Int64) (fi : Nat → Nat → Int32) (fl : Nat → Nat → Int64) (p0 : Int32) (p1 : Int64) (p2 : Int64) (Q : Int32 → (Nat → Int32) → (Nat → Int64) → (Nat → Nat → Int32) → (Nat → Nat → Int64) → Prop) : Prop := ((p0 = 3) → (((¬ (lg_cmp p2 0) = 0) → (P_X12_floor p1 p2 (fun r1 => Q 1 v (va_up (va_up w 22 0) 22 r1) fi fl))) ∧ (((lg_cmp p2 0) = 0) → (Q 4 v (va_up w 22 0) fi fl)))) ∧ ((¬ p0 = 3) → (((¬ p0 = 4) → (((p0 = 0) → (Q 1 v (va_up (va_up w 22 0) 22 (p1 + p2)) fi fl)) ∧ ((¬ p0 = 0) → ((p0 = 1) → (Q 1 v (va_up (va_up w 22 0) 22 (p1 - p2)) fi fl)) ∧ ((¬ p0 = 1) → ((p0 = 2) → (Q 1 v (va_up (va_up w 22 0) 22 (p1 * p2)) fi fl)) ∧ ((¬ p0 = 2) → ((p0 = 5) → (((0 ≤ (lg_cmp p1 p2)) → (Q 1 v (va_up (va_up w 22 0) 22 p2) fi fl)) ∧ ((¬ 0 ≤ (lg_cmp p1 p2)) → (Q 1 v (va_up (va_up w 22 0) 22 p1) fi fl)))) ∧ ((¬ p0 = 5) → ((p0 = 6) → ((((lg_cmp p1 p2) ≤ 0) → (Q 1 v (va_up (va_up w 22 0) 22 p2) fi fl)) ∧ ((¬ (lg_cmp p1 p2) ≤ 0) → (Q 1 v (va_up (va_up w 22 0) 22 p1) fi fl)))) ∧ ((¬ p0 = 6) → ((p0 = 7) → (Q 1 v (va_up (va_up w 22 0) 22 p1) fi fl)) ∧ ((¬ p0 = 7) → (Q 1 v (va_up (va_up w 22 0) 22 p2) fi fl))))))))) ∧ ((p0 = 4) → (((¬ (lg_cmp p2 0) = 0) → (P_X12_floor p1 p2 (fun r2 => Q 1 v (va_up (va_up w 22 0) 22 (p1 - (p2 * r2))) fi fl))) ∧ (((lg_cmp p2 0) = 0) → (Q 4 v (va_up w 22 0) fi fl))))))
set_option maxHeartbeats 4000000 in
set_option maxRecDepth 100000 in
theorem p_X12_op (l : Launch) (dC : Nat → ClassId) (dI : Nat → Nat → Nat) (a : Nat → Nat) (ca : Nat → ClassId) (g0 : Nat) (v : Nat → Int32) (w : Nat → Int64) (fi : Nat → Nat → Int32) (fl : Nat → Nat → Int64) (p0 : Int32) (p1 : Int64) (p2 : Int64) (Q : Int32 → (Nat → Int32) → (Nat → Int64) → (Nat → Nat → Int32) → (Nat → Nat → Int64) → Prop) (h : P_X12_op v w fi fl p0 p1 p2 Q) (sz : Nat) : Met l yX12_op wmX12_op ({ frames := 8, cells := 0, slots := 0, locals := 120 }) (va_Pc [.ref g0, .int p0, .long p1, .long p2] (mPre dC dI a ca g0 v w fi fl sz)) (va_Qi (S := MSt) (pI Q) (mB dC dI a ca g0 (va_A (mW a ca g0 v w fi fl) sz)) (va_A (mW a ca g0 v w fi fl) sz)) 0 0 (va_A (mW a ca g0 v w fi fl) sz) := by
  refine Met.ofW (cc := cX12_op) (maxL := 8) (ret := (some .int)) (by decide) rfl ?_
  intro p e s m args below meth c s₁ B hml hv
  obtain ⟨rfl, hsz, hP, hK, hD0⟩ := hv
  have hx := B.exec
  have hb := B.bytes
  have hr := B.returns
  have hts : ∀ w ∈ WM, w.before _ s = true := fun w h => atoms_spec (ws := wmX12_op) B.pre w (List.mem_cons_of_mem _ h)
  have hown : s.vm.findClass RX12 = some m.cls := findClass_of_methodNamed B.named
  have hlocks := B.notSynchronized
  subst hsz
  have hD := hD0.self (sz := s.heap.size)
  generalize hAe : va_A (mW a ca g0 v w fi fl) s.heap.size = A at hD ⊢
  have hA : ∀ q : Nat, s.heap.size ≤ q → A q := fun q h => by rw [← hAe]; exact Or.inr h
  generalize hH : s.heap = H at hP ⊢
  have hS : va_S A s.heap H [] := by rw [← hH]; exact va_S.rf
  have hl := lv_entry [.ref g0, .int p0, .long p1, .long p2] (n := 8) (Nat.le_of_ble_eq_true rfl)
  rw [lg_entry_eq]
  generalize (lg_sl [.ref g0, .int p0, .long p1, .long p2] ++ List.replicate (8 - (lg_sl [.ref g0, .int p0, .long p1, .long p2]).length) Slot.unset).toArray = ls at hl ⊢
  have hl : lv_has ls 8 [(0, .ref g0), (1, .int p0), (2, .long p1), (4, .long p2)] := hl
  unfold P_X12_op at h
  refine lv_aload_n hx hb dX12_op_0 rfl (lv_at hl 0 rfl) ?_
  refine lv_lconst (v := 0) hx hb dX12_op_1 (by decide) ?_
  refine m_put_22 hx hb hts hinM hown hK hP hD hS (hts _ mwM_39) dX12_op_2 (fun H locs hP hD hS => ?_)
  refine lv_iload_n hx hb dX12_op_5 rfl (lv_at hl 1 rfl) ?_
  refine lv_iconst (v := 3) hx hb dX12_op_6 (by decide) ?_
  refine lv_icmp_eq (tgt := 15) hx hb dX12_op_7 (by decide) (fun c_7 => ?_) (fun c_7 => ?_)
  · have h := h.1 c_7
    refine lv_lload hx hb dX12_op_15 (lv_at hl 3 rfl) ?_
    refine lv_lconst (v := 0) hx hb dX12_op_17 (by decide) ?_
    refine W.lcmp hx hb dX12_op_18 ?_
    refine lv_if_ne (tgt := 24) hx hb dX12_op_19 (by decide) (fun c_19 => ?_) (fun c_19 => ?_)
    · have h := h.1 c_19
      refine lv_iload_n hx hb dX12_op_24 rfl (lv_at hl 1 rfl) ?_
      refine lv_iconst (v := 3) hx hb dX12_op_25 (by decide) ?_
      refine lv_icmp_eq (tgt := 34) hx hb dX12_op_26 (by decide) (fun c_26 => ?_) (fun c_26 => ?_)
      · refine lv_lload_n hx hb dX12_op_34 rfl (lv_at hl 2 rfl) ?_
        refine lv_lload hx hb dX12_op_35 (lv_at hl 3 rfl) ?_
        refine s_calll (rm := ({ frames := 4, cells := 0, slots := 0, locals := 60 })) (As := [.long p1, .long p2]) (rest := []) (fun sz => p_X12_floor l dC dI p1 p2 _ h sz) ⟨hx, hb, hml, hown, hts⟩ (va_cwS 2 hts (g_S gdM mwM_41 mwM_42 mwM_22 mwM_40) rfl rfl rfl hd_X12_floor ⟨Nat.le_of_ble_eq_true rfl, Nat.le_of_ble_eq_true rfl⟩) rfl hl.1 rfl hP hD hS hA (Nat.le_of_ble_eq_true rfl) ⟨Nat.le_of_ble_eq_true rfl, Nat.le_of_ble_eq_true rfl⟩ dX12_op_37 (fun r1 H locs h hP hS => ?_)
        refine lv_goto (tgt := 44) hx hb dX12_op_40 (by decide) ?_
        refine lv_lstore (lv' := [(6, .long r1), (0, .ref g0), (1, .int p0), (2, .long p1), (4, .long p2)]) hx hb dX12_op_44 hl (by decide) rfl (fun ls hl => ?_)
        refine lv_iload_n hx hb dX12_op_46 rfl (lv_at hl 2 rfl) ?_
        refine lv_tableIn (tgt := 125) hx hb dX12_op_47 (by rw [c_7]; decide) (by rw [c_7]; decide) (off := 78) (by rw [c_7]; decide) (by decide) ?_
        refine lv_aload_n hx hb dX12_op_125 rfl (lv_at hl 1 rfl) ?_
        refine lv_lload hx hb dX12_op_126 (lv_at hl 0 rfl) ?_
        refine m_put_22 hx hb hts hinM hown hK hP hD hS (hts _ mwM_39) dX12_op_128 (fun H locs hP hD hS => ?_)
        refine lv_goto (tgt := 202) hx hb dX12_op_131 (by decide) ?_
        refine lv_iconst (v := 1) hx hb dX12_op_202 (by decide) ?_
        exact W.iret (v := 1) hx hb hr (fun t ht hW => ⟨⟨_, (v, va_up (va_up w 22 0) 22 r1, fi, fl), rfl, h, by rw [ht]; exact hP, va_K.moved hW.alike hK, hD⟩, hS.F ht⟩) hS.2.2 dX12_op_203
      · exact (c_26 c_7).elim
    · have h := h.2 c_19
      refine lv_iconst (v := 4) hx hb dX12_op_22 (by decide) ?_
      exact W.iret (v := 4) hx hb hr (fun t ht hW => ⟨⟨_, (v, va_up w 22 0, fi, fl), rfl, h, by rw [ht]; exact hP, va_K.moved hW.alike hK, hD⟩, hS.F ht⟩) hS.2.2 dX12_op_23
  · have h := h.2 c_7
    refine lv_iload_n hx hb dX12_op_10 rfl (lv_at hl 1 rfl) ?_
    refine lv_iconst (v := 4) hx hb dX12_op_11 (by decide) ?_
    refine lv_icmp_ne (tgt := 24) hx hb dX12_op_12 (by decide) (fun c_12 => ?_) (fun c_12 => ?_)
    · have h := h.1 c_12
      refine lv_iload_n hx hb dX12_op_24 rfl (lv_at hl 1 rfl) ?_
      refine lv_iconst (v := 3) hx hb dX12_op_25 (by decide) ?_
      refine lv_icmp_eq (tgt := 34) hx hb dX12_op_26 (by decide) (fun c_26 => ?_) (fun c_26 => ?_)
      · exact (c_7 c_26).elim
      · refine lv_iload_n hx hb dX12_op_29 rfl (lv_at hl 1 rfl) ?_
        refine lv_iconst (v := 4) hx hb dX12_op_30 (by decide) ?_
        refine lv_icmp_ne (tgt := 43) hx hb dX12_op_31 (by decide) (fun c_31 => ?_) (fun c_31 => ?_)
        · refine lv_lconst (v := 0) hx hb dX12_op_43 (by decide) ?_
          refine lv_lstore (lv' := [(6, .long 0), (0, .ref g0), (1, .int p0), (2, .long p1), (4, .long p2)]) hx hb dX12_op_44 hl (by decide) rfl (fun ls hl => ?_)
          refine lv_iload_n hx hb dX12_op_46 rfl (lv_at hl 2 rfl) ?_
          by_cases hs_47_0 : p0 = 0
          · have h := h.1 hs_47_0
            refine lv_tableIn (tgt := 92) hx hb dX12_op_47 (by rw [hs_47_0]; decide) (by rw [hs_47_0]; decide) (off := 45) (by rw [hs_47_0]; decide) (by decide) ?_
            refine lv_aload_n hx hb dX12_op_92 rfl (lv_at hl 1 rfl) ?_
            refine lv_lload_n hx hb dX12_op_93 rfl (lv_at hl 3 rfl) ?_
            refine lv_lload hx hb dX12_op_94 (lv_at hl 4 rfl) ?_
            refine lv_ladd hx hb dX12_op_96 ?_
            refine m_put_22 hx hb hts hinM hown hK hP hD hS (hts _ mwM_39) dX12_op_97 (fun H locs hP hD hS => ?_)
            refine lv_goto (tgt := 202) hx hb dX12_op_100 (by decide) ?_
            refine lv_iconst (v := 1) hx hb dX12_op_202 (by decide) ?_
            exact W.iret (v := 1) hx hb hr (fun t ht hW => ⟨⟨_, (v, va_up (va_up w 22 0) 22 (p1 + p2), fi, fl), rfl, h, by rw [ht]; exact hP, va_K.moved hW.alike hK, hD⟩, hS.F ht⟩) hS.2.2 dX12_op_203
          replace h := h.2 hs_47_0
          by_cases hs_47_1 : p0 = 1
          · have h := h.1 hs_47_1
            refine lv_tableIn (tgt := 103) hx hb dX12_op_47 (by rw [hs_47_1]; decide) (by rw [hs_47_1]; decide) (off := 56) (by rw [hs_47_1]; decide) (by decide) ?_
            refine lv_aload_n hx hb dX12_op_103 rfl (lv_at hl 1 rfl) ?_
            refine lv_lload_n hx hb dX12_op_104 rfl (lv_at hl 3 rfl) ?_
            refine lv_lload hx hb dX12_op_105 (lv_at hl 4 rfl) ?_
            refine lv_lsub hx hb dX12_op_107 ?_
            refine m_put_22 hx hb hts hinM hown hK hP hD hS (hts _ mwM_39) dX12_op_108 (fun H locs hP hD hS => ?_)
            refine lv_goto (tgt := 202) hx hb dX12_op_111 (by decide) ?_
            refine lv_iconst (v := 1) hx hb dX12_op_202 (by decide) ?_
            exact W.iret (v := 1) hx hb hr (fun t ht hW => ⟨⟨_, (v, va_up (va_up w 22 0) 22 (p1 - p2), fi, fl), rfl, h, by rw [ht]; exact hP, va_K.moved hW.alike hK, hD⟩, hS.F ht⟩) hS.2.2 dX12_op_203
          replace h := h.2 hs_47_1
          by_cases hs_47_2 : p0 = 2
          · have h := h.1 hs_47_2
            refine lv_tableIn (tgt := 114) hx hb dX12_op_47 (by rw [hs_47_2]; decide) (by rw [hs_47_2]; decide) (off := 67) (by rw [hs_47_2]; decide) (by decide) ?_
            refine lv_aload_n hx hb dX12_op_114 rfl (lv_at hl 1 rfl) ?_
            refine lv_lload_n hx hb dX12_op_115 rfl (lv_at hl 3 rfl) ?_
            refine lv_lload hx hb dX12_op_116 (lv_at hl 4 rfl) ?_
            refine lv_lmul hx hb dX12_op_118 ?_
            refine m_put_22 hx hb hts hinM hown hK hP hD hS (hts _ mwM_39) dX12_op_119 (fun H locs hP hD hS => ?_)
            refine lv_goto (tgt := 202) hx hb dX12_op_122 (by decide) ?_
            refine lv_iconst (v := 1) hx hb dX12_op_202 (by decide) ?_
            exact W.iret (v := 1) hx hb hr (fun t ht hW => ⟨⟨_, (v, va_up (va_up w 22 0) 22 (p1 * p2), fi, fl), rfl, h, by rw [ht]; exact hP, va_K.moved hW.alike hK, hD⟩, hS.F ht⟩) hS.2.2 dX12_op_203
          replace h := h.2 hs_47_2
          have hs_47_3 : ¬ p0 = 3 := c_7
          have hs_47_4 : ¬ p0 = 4 := c_12
          by_cases hs_47_5 : p0 = 5
          · have h := h.1 hs_47_5
            refine lv_tableIn (tgt := 148) hx hb dX12_op_47 (by rw [hs_47_5]; decide) (by rw [hs_47_5]; decide) (off := 101) (by rw [hs_47_5]; decide) (by decide) ?_
            refine lv_aload_n hx hb dX12_op_148 rfl (lv_at hl 1 rfl) ?_
            refine lv_lload_n hx hb dX12_op_149 rfl (lv_at hl 3 rfl) ?_
            refine lv_lload hx hb dX12_op_150 (lv_at hl 4 rfl) ?_
            refine W.lcmp hx hb dX12_op_152 ?_
            refine lv_if_ge (tgt := 160) hx hb dX12_op_153 (by decide) (fun c_153 => ?_) (fun c_153 => ?_)
            · have h := h.1 c_153
              refine lv_lload hx hb dX12_op_160 (lv_at hl 4 rfl) ?_
              refine m_put_22 hx hb hts hinM hown hK hP hD hS (hts _ mwM_39) dX12_op_162 (fun H locs hP hD hS => ?_)
              refine lv_goto (tgt := 202) hx hb dX12_op_165 (by decide) ?_
              refine lv_iconst (v := 1) hx hb dX12_op_202 (by decide) ?_
              exact W.iret (v := 1) hx hb hr (fun t ht hW => ⟨⟨_, (v, va_up (va_up w 22 0) 22 p2, fi, fl), rfl, h, by rw [ht]; exact hP, va_K.moved hW.alike hK, hD⟩, hS.F ht⟩) hS.2.2 dX12_op_203
            · have h := h.2 c_153
              refine lv_lload_n hx hb dX12_op_156 rfl (lv_at hl 3 rfl) ?_
              refine lv_goto (tgt := 162) hx hb dX12_op_157 (by decide) ?_
              refine m_put_22 hx hb hts hinM hown hK hP hD hS (hts _ mwM_39) dX12_op_162 (fun H locs hP hD hS => ?_)
              refine lv_goto (tgt := 202) hx hb dX12_op_165 (by decide) ?_
              refine lv_iconst (v := 1) hx hb dX12_op_202 (by decide) ?_
              exact W.iret (v := 1) hx hb hr (fun t ht hW => ⟨⟨_, (v, va_up (va_up w 22 0) 22 p1, fi, fl), rfl, h, by rw [ht]; exact hP, va_K.moved hW.alike hK, hD⟩, hS.F ht⟩) hS.2.2 dX12_op_203
          replace h := h.2 hs_47_5
          by_cases hs_47_6 : p0 = 6
          · have h := h.1 hs_47_6
            refine lv_tableIn (tgt := 168) hx hb dX12_op_47 (by rw [hs_47_6]; decide) (by rw [hs_47_6]; decide) (off := 121) (by rw [hs_47_6]; decide) (by decide) ?_
            refine lv_aload_n hx hb dX12_op_168 rfl (lv_at hl 1 rfl) ?_
            refine lv_lload_n hx hb dX12_op_169 rfl (lv_at hl 3 rfl) ?_
            refine lv_lload hx hb dX12_op_170 (lv_at hl 4 rfl) ?_
            refine W.lcmp hx hb dX12_op_172 ?_
            refine lv_if_le (tgt := 180) hx hb dX12_op_173 (by decide) (fun c_173 => ?_) (fun c_173 => ?_)
            · have h := h.1 c_173
              refine lv_lload hx hb dX12_op_180 (lv_at hl 4 rfl) ?_
              refine m_put_22 hx hb hts hinM hown hK hP hD hS (hts _ mwM_39) dX12_op_182 (fun H locs hP hD hS => ?_)
              refine lv_goto (tgt := 202) hx hb dX12_op_185 (by decide) ?_
              refine lv_iconst (v := 1) hx hb dX12_op_202 (by decide) ?_
              exact W.iret (v := 1) hx hb hr (fun t ht hW => ⟨⟨_, (v, va_up (va_up w 22 0) 22 p2, fi, fl), rfl, h, by rw [ht]; exact hP, va_K.moved hW.alike hK, hD⟩, hS.F ht⟩) hS.2.2 dX12_op_203
            · have h := h.2 c_173
              refine lv_lload_n hx hb dX12_op_176 rfl (lv_at hl 3 rfl) ?_
              refine lv_goto (tgt := 182) hx hb dX12_op_177 (by decide) ?_
              refine m_put_22 hx hb hts hinM hown hK hP hD hS (hts _ mwM_39) dX12_op_182 (fun H locs hP hD hS => ?_)
              refine lv_goto (tgt := 202) hx hb dX12_op_185 (by decide) ?_
              refine lv_iconst (v := 1) hx hb dX12_op_202 (by decide) ?_
              exact W.iret (v := 1) hx hb hr (fun t ht hW => ⟨⟨_, (v, va_up (va_up w 22 0) 22 p1, fi, fl), rfl, h, by rw [ht]; exact hP, va_K.moved hW.alike hK, hD⟩, hS.F ht⟩) hS.2.2 dX12_op_203
          replace h := h.2 hs_47_6
          by_cases hs_47_7 : p0 = 7
          · have h := h.1 hs_47_7
            refine lv_tableIn (tgt := 188) hx hb dX12_op_47 (by rw [hs_47_7]; decide) (by rw [hs_47_7]; decide) (off := 141) (by rw [hs_47_7]; decide) (by decide) ?_
            refine lv_aload_n hx hb dX12_op_188 rfl (lv_at hl 1 rfl) ?_
            refine lv_lload_n hx hb dX12_op_189 rfl (lv_at hl 3 rfl) ?_
            refine m_put_22 hx hb hts hinM hown hK hP hD hS (hts _ mwM_39) dX12_op_190 (fun H locs hP hD hS => ?_)
            refine lv_goto (tgt := 202) hx hb dX12_op_193 (by decide) ?_
            refine lv_iconst (v := 1) hx hb dX12_op_202 (by decide) ?_
            exact W.iret (v := 1) hx hb hr (fun t ht hW => ⟨⟨_, (v, va_up (va_up w 22 0) 22 p1, fi, fl), rfl, h, by rw [ht]; exact hP, va_K.moved hW.alike hK, hD⟩, hS.F ht⟩) hS.2.2 dX12_op_203
          replace h := h.2 hs_47_7
          refine lv_tableOut (tgt := 196) hx hb dX12_op_47 (by have n0 := lv_neT hs_47_0 (a := 0) (by decide); have n1 := lv_neT hs_47_1 (a := 1) (by decide); have n2 := lv_neT hs_47_2 (a := 2) (by decide); have n3 := lv_neT hs_47_3 (a := 3) (by decide); have n4 := lv_neT hs_47_4 (a := 4) (by decide); have n5 := lv_neT hs_47_5 (a := 5) (by decide); have n6 := lv_neT hs_47_6 (a := 6) (by decide); have n7 := lv_neT hs_47_7 (a := 7) (by decide); omega) (by decide) ?_
          refine lv_aload_n hx hb dX12_op_196 rfl (lv_at hl 1 rfl) ?_
          refine lv_lload hx hb dX12_op_197 (lv_at hl 4 rfl) ?_
          refine m_put_22 hx hb hts hinM hown hK hP hD hS (hts _ mwM_39) dX12_op_199 (fun H locs hP hD hS => ?_)
          refine lv_iconst (v := 1) hx hb dX12_op_202 (by decide) ?_
          exact W.iret (v := 1) hx hb hr (fun t ht hW => ⟨⟨_, (v, va_up (va_up w 22 0) 22 p2, fi, fl), rfl, h, by rw [ht]; exact hP, va_K.moved hW.alike hK, hD⟩, hS.F ht⟩) hS.2.2 dX12_op_203
        · exact (c_12 c_31).elim
    · have h := h.2 c_12
      refine lv_lload hx hb dX12_op_15 (lv_at hl 3 rfl) ?_
      refine lv_lconst (v := 0) hx hb dX12_op_17 (by decide) ?_
      refine W.lcmp hx hb dX12_op_18 ?_
      refine lv_if_ne (tgt := 24) hx hb dX12_op_19 (by decide) (fun c_19 => ?_) (fun c_19 => ?_)
      · have h := h.1 c_19
        refine lv_iload_n hx hb dX12_op_24 rfl (lv_at hl 1 rfl) ?_
        refine lv_iconst (v := 3) hx hb dX12_op_25 (by decide) ?_
        refine lv_icmp_eq (tgt := 34) hx hb dX12_op_26 (by decide) (fun c_26 => ?_) (fun c_26 => ?_)
        · exact (c_7 c_26).elim
        · refine lv_iload_n hx hb dX12_op_29 rfl (lv_at hl 1 rfl) ?_
          refine lv_iconst (v := 4) hx hb dX12_op_30 (by decide) ?_
          refine lv_icmp_ne (tgt := 43) hx hb dX12_op_31 (by decide) (fun c_31 => ?_) (fun c_31 => ?_)
          · exact (c_31 c_12).elim
          · refine lv_lload_n hx hb dX12_op_34 rfl (lv_at hl 2 rfl) ?_
            refine lv_lload hx hb dX12_op_35 (lv_at hl 3 rfl) ?_
            refine s_calll (rm := ({ frames := 4, cells := 0, slots := 0, locals := 60 })) (As := [.long p1, .long p2]) (rest := []) (fun sz => p_X12_floor l dC dI p1 p2 _ h sz) ⟨hx, hb, hml, hown, hts⟩ (va_cwS 2 hts (g_S gdM mwM_41 mwM_42 mwM_22 mwM_40) rfl rfl rfl hd_X12_floor ⟨Nat.le_of_ble_eq_true rfl, Nat.le_of_ble_eq_true rfl⟩) rfl hl.1 rfl hP hD hS hA (Nat.le_of_ble_eq_true rfl) ⟨Nat.le_of_ble_eq_true rfl, Nat.le_of_ble_eq_true rfl⟩ dX12_op_37 (fun r2 H locs h hP hS => ?_)
            refine lv_goto (tgt := 44) hx hb dX12_op_40 (by decide) ?_
            refine lv_lstore (lv' := [(6, .long r2), (0, .ref g0), (1, .int p0), (2, .long p1), (4, .long p2)]) hx hb dX12_op_44 hl (by decide) rfl (fun ls hl => ?_)
            refine lv_iload_n hx hb dX12_op_46 rfl (lv_at hl 2 rfl) ?_
            refine lv_tableIn (tgt := 134) hx hb dX12_op_47 (by rw [c_12]; decide) (by rw [c_12]; decide) (off := 87) (by rw [c_12]; decide) (by decide) ?_
            refine lv_aload_n hx hb dX12_op_134 rfl (lv_at hl 1 rfl) ?_
            refine lv_lload_n hx hb dX12_op_135 rfl (lv_at hl 3 rfl) ?_
            refine lv_lload hx hb dX12_op_136 (lv_at hl 4 rfl) ?_
            refine lv_lload hx hb dX12_op_138 (lv_at hl 0 rfl) ?_
            refine lv_lmul hx hb dX12_op_140 ?_
            refine lv_lsub hx hb dX12_op_141 ?_
            refine m_put_22 hx hb hts hinM hown hK hP hD hS (hts _ mwM_39) dX12_op_142 (fun H locs hP hD hS => ?_)
            refine lv_goto (tgt := 202) hx hb dX12_op_145 (by decide) ?_
            refine lv_iconst (v := 1) hx hb dX12_op_202 (by decide) ?_
            exact W.iret (v := 1) hx hb hr (fun t ht hW => ⟨⟨_, (v, va_up (va_up w 22 0) 22 (p1 - (p2 * r2)), fi, fl), rfl, h, by rw [ht]; exact hP, va_K.moved hW.alike hK, hD⟩, hS.F ht⟩) hS.2.2 dX12_op_203
      · have h := h.2 c_19
        refine lv_iconst (v := 4) hx hb dX12_op_22 (by decide) ?_
        exact W.iret (v := 4) hx hb hr (fun t ht hW => ⟨⟨_, (v, va_up w 22 0, fi, fl), rfl, h, by rw [ht]; exact hP, va_K.moved hW.alike hK, hD⟩, hS.F ht⟩) hS.2.2 dX12_op_23

abbrev wmX12_needCell : List Cond := .code yX12_needCell cX12_needCell 4 (some .int) :: WM
theorem hd_X12_needCell : yX12_needCell.cls = RX12 ∧ yX12_needCell.cls ≠ "java/lang/invoke/MethodHandle" ∧ yX12_needCell.cls ≠ "java/lang/invoke/VarHandle" ∧ (parseMethodDescriptor yX12_needCell.desc).map (fun d => d.parameters.length) = some 2 := by decide +kernel
def B_X12_needCell_2  (K2 : (Nat → Int32) → (Nat → Int64) → (Nat → Nat → Int32) → (Nat → Nat → Int64) → Int32 → Int32 → Int32 → Prop) (Q : Int32 → (Nat → Int32) → (Nat → Int64) → (Nat → Nat → Int32) → (Nat → Nat → Int64) → Prop) (v : Nat → Int32) (w : Nat → Int64) (fi : Nat → Nat → Int32) (fl : Nat → Nat → Int64) (x1 : Int32) (x2 : Int32) (x3 : Int32) : Prop := ((x2 < x3) → (Q (-1) v w fi fl)) ∧ ((¬ x2 < x3) → (((x3 < 400) → (P_X12_place x1 x3 (fun r1 => vp_in r1 9600 ∧ ((¬ (fi 7 r1.toNatClampNeg) = 0) → ((((fi 7 r1.toNatClampNeg) = 1) → (K2 (va_up (va_up v 23 (fi 7 r1.toNatClampNeg)) 24 x3) w fi fl x1 x2 (x3 + 1))) ∧ ((¬ (fi 7 r1.toNatClampNeg) = 1) → (Q (-1) (va_up (va_up v 23 (fi 7 r1.toNatClampNeg)) 24 x3) w fi fl)))) ∧ (((fi 7 r1.toNatClampNeg) = 0) → (P_X12_place x1 x3 (fun r3 => Q (2 * r3) (va_up (va_up v 23 (fi 7 r1.toNatClampNeg)) 24 x3) w fi fl)))))) ∧ ((¬ x3 < 400) → (Q (-2) v w fi fl))))
def P_X12_needCell_2  (Q : Int32 → (Nat → Int32) → (Nat → Int64) → (Nat → Nat → Int32) → (Nat → Nat → Int64) → Prop) : Nat → (Nat → Int32) → (Nat → Int64) → (Nat → Nat → Int32) → (Nat → Nat → Int64) → Int32 → Int32 → Int32 → Prop
  | 0 => fun _ _ _ _ _ _ _ => False
  | n + 1 => B_X12_needCell_2  (P_X12_needCell_2  Q n) Q
set_option maxHeartbeats 4000000 in
set_option maxRecDepth 100000 in
theorem b_X12_needCell_2 {p : Program} {l : Launch} {e : Env} {s : State} {m : MethodId} {args : Array Value} {below : List Frame} {meth : Method} {c : Code} {A : Nat → Prop} {dC : Nat → ClassId} {dI : Nat → Nat → Nat} {a : Nat → Nat} {ca : Nat → ClassId} {g0 : Nat}  {K2 : (Nat → Int32) → (Nat → Int64) → (Nat → Nat → Int32) → (Nat → Nat → Int64) → Int32 → Int32 → Int32 → Prop} {Q : Int32 → (Nat → Int32) → (Nat → Int64) → (Nat → Nat → Int32) → (Nat → Nat → Int64) → Prop} (hx : p.tables.exec = Jvm.exec) (hb : c.code = cX12_needCell) (hr : meth.sig.returnType = (some .int)) (hts : ∀ w ∈ WM, w.before args s = true) (hown : s.vm.findClass RX12 = some m.cls) (hlocks : meth.locks = false) (hml : c.maxLocals = 4) (hA : ∀ q : Nat, s.heap.size ≤ q → A q) (hK : va_K (dC, dI) vwCl (mT ca) s)  (hK2 : ∀ (v : Nat → Int32) (w : Nat → Int64) (fi : Nat → Nat → Int32) (fl : Nat → Nat → Int64) (x1 : Int32) (x2 : Int32) (x3 : Int32) (H : Heap) (locs : List Loc) (ls : Array Slot), K2 v w fi fl x1 x2 x3 → va_P (dC, dI) vwCl (mW a ca g0 v w fi fl) H → va_D A (mW a ca g0 v w fi fl) → va_S A s.heap H locs → lv_has ls 4 [(0, .ref g0), (1, .int x1), (2, .int x2), (3, .int x3)] → W p l e (headSpec wmX12_needCell ({ frames := 8, cells := 0, slots := 0, locals := 120 })).room s m args below meth c H locs 0 0 (MQ below (va_Qi (S := MSt) (pI Q) (mB dC dI a ca g0 A) A) args s 0 0 A) (F0 m 2 ls [])) : ∀ (v : Nat → Int32) (w : Nat → Int64) (fi : Nat → Nat → Int32) (fl : Nat → Nat → Int64) (x1 : Int32) (x2 : Int32) (x3 : Int32) (H : Heap) (locs : List Loc) (ls : Array Slot), B_X12_needCell_2  K2 Q v w fi fl x1 x2 x3 → va_P (dC, dI) vwCl (mW a ca g0 v w fi fl) H → va_D A (mW a ca g0 v w fi fl) → va_S A s.heap H locs → lv_has ls 4 [(0, .ref g0), (1, .int x1), (2, .int x2), (3, .int x3)] → W p l e (headSpec wmX12_needCell ({ frames := 8, cells := 0, slots := 0, locals := 120 })).room s m args below meth c H locs 0 0 (MQ below (va_Qi (S := MSt) (pI Q) (mB dC dI a ca g0 A) A) args s 0 0 A) (F0 m 2 ls []) := by
  intro v w fi fl x1 x2 x3 H locs ls h hP hD hS hl
  unfold B_X12_needCell_2 at h
  refine lv_iload_n hx hb dX12_needCell_2 rfl (lv_at hl 3 rfl) ?_
  refine lv_iload_n hx hb dX12_needCell_3 rfl (lv_at hl 2 rfl) ?_
  refine lv_icmp_gt (tgt := 67) hx hb dX12_needCell_4 (by decide) (fun c_4 => ?_) (fun c_4 => ?_)
  · have h := h.1 c_4
    refine lv_iconst (v := (-1)) hx hb dX12_needCell_67 (by decide) ?_
    exact W.iret (v := (-1)) hx hb hr (fun t ht hW => ⟨⟨_, (v, w, fi, fl), rfl, h, by rw [ht]; exact hP, va_K.moved hW.alike hK, hD⟩, hS.F ht⟩) hS.2.2 dX12_needCell_68
  · have h := h.2 c_4
    refine lv_iload_n hx hb dX12_needCell_7 rfl (lv_at hl 3 rfl) ?_
    refine lv_sipush (v := 400) hx hb dX12_needCell_8 (by decide) ?_
    refine lv_icmp_lt (tgt := 17) hx hb dX12_needCell_11 (by decide) (fun c_11 => ?_) (fun c_11 => ?_)
    · have h := h.1 c_11
      refine lv_aload_n hx hb dX12_needCell_17 rfl (lv_at hl 0 rfl) ?_
      refine lv_aload_n hx hb dX12_needCell_18 rfl (lv_at hl 0 rfl) ?_
      refine va_get (D := (dC, dI)) (ci := 11) (v := .ref (a 7)) (C := RX12) (T := TX12) (N := 32) hx hb hts hinM hown hK hP 0 rfl rfl 7 (by decide) (hts _ mwM_43) (fun _ h9 => h9) rfl dX12_needCell_19 ?_
      refine lv_iload_n hx hb dX12_needCell_22 rfl (lv_at hl 1 rfl) ?_
      refine lv_iload_n hx hb dX12_needCell_23 rfl (lv_at hl 3 rfl) ?_
      refine s_calli (rm := ({ frames := 4, cells := 0, slots := 0, locals := 60 })) (As := [.int x1, .int x3]) (rest := [.ref (a 7), .ref g0]) (fun sz => p_X12_place l dC dI x1 x3 _ h sz) ⟨hx, hb, hml, hown, hts⟩ (va_cwS 2 hts (g_S gdM mwM_45 mwM_46 mwM_22 mwM_44) rfl rfl rfl hd_X12_place ⟨Nat.le_of_ble_eq_true rfl, Nat.le_of_ble_eq_true rfl⟩) rfl hl.1 rfl hP hD hS hA (Nat.le_of_ble_eq_true rfl) ⟨Nat.le_of_ble_eq_true rfl, Nat.le_of_ble_eq_true rfl⟩ dX12_needCell_24 (fun r1 H locs h hP hS => ?_)
      obtain ⟨hi2, h⟩ := h
      refine va_iald (f := fi 7) hx hb hK hP 7 6 rfl rfl hi2 dX12_needCell_27 ?_
      refine m_put_23 hx hb hts hinM hown hK hP hD hS (hts _ mwM_47) dX12_needCell_28 (fun H locs hP hD hS => ?_)
      refine lv_aload_n hx hb dX12_needCell_31 rfl (lv_at hl 0 rfl) ?_
      refine lv_iload_n hx hb dX12_needCell_32 rfl (lv_at hl 3 rfl) ?_
      refine m_put_24 hx hb hts hinM hown hK hP hD hS (hts _ mwM_48) dX12_needCell_33 (fun H locs hP hD hS => ?_)
      refine lv_aload_n hx hb dX12_needCell_36 rfl (lv_at hl 0 rfl) ?_
      refine va_get (D := (dC, dI)) (ci := 11) (v := .int (fi 7 r1.toNatClampNeg)) (C := RX12) (T := TX12) (N := 32) hx hb hts hinM hown hK hP 0 rfl rfl 23 (by decide) (hts _ mwM_47) (fun _ h9 => h9) rfl dX12_needCell_37 ?_
      refine lv_if_ne (tgt := 51) hx hb dX12_needCell_40 (by decide) (fun c_40 => ?_) (fun c_40 => ?_)
      · have h := h.1 c_40
        refine lv_aload_n hx hb dX12_needCell_51 rfl (lv_at hl 0 rfl) ?_
        refine va_get (D := (dC, dI)) (ci := 11) (v := .int (fi 7 r1.toNatClampNeg)) (C := RX12) (T := TX12) (N := 32) hx hb hts hinM hown hK hP 0 rfl rfl 23 (by decide) (hts _ mwM_47) (fun _ h9 => h9) rfl dX12_needCell_52 ?_
        refine lv_iconst (v := 1) hx hb dX12_needCell_55 (by decide) ?_
        refine lv_icmp_eq (tgt := 61) hx hb dX12_needCell_56 (by decide) (fun c_56 => ?_) (fun c_56 => ?_)
        · have h := h.1 c_56
          refine lv_iinc (v := x3 + 1) (lv' := [(3, .int (x3 + 1)), (0, .ref g0), (1, .int x1), (2, .int x2)]) hx hb dX12_needCell_61 hl (k := 3) rfl (iinc_1 _) (by decide) rfl (fun ls hl => ?_)
          refine lv_goto (tgt := 2) hx hb dX12_needCell_64 (by decide) ?_
          exact hK2 _ _ _ _ _ _ _ H _ ls h hP hD hS (lv_sub hl [1, 2, 3, 0] rfl)
        · have h := h.2 c_56
          refine lv_iconst (v := (-1)) hx hb dX12_needCell_59 (by decide) ?_
          exact W.iret (v := (-1)) hx hb hr (fun t ht hW => ⟨⟨_, (va_up (va_up v 23 (fi 7 r1.toNatClampNeg)) 24 x3, w, fi, fl), rfl, h, by rw [ht]; exact hP, va_K.moved hW.alike hK, hD⟩, hS.F ht⟩) hS.2.2 dX12_needCell_60
      · have h := h.2 c_40
        refine lv_iconst (v := 2) hx hb dX12_needCell_43 (by decide) ?_
        refine lv_iload_n hx hb dX12_needCell_44 rfl (lv_at hl 1 rfl) ?_
        refine lv_iload_n hx hb dX12_needCell_45 rfl (lv_at hl 3 rfl) ?_
        refine s_calli (rm := ({ frames := 4, cells := 0, slots := 0, locals := 60 })) (As := [.int x1, .int x3]) (rest := [.int 2]) (fun sz => p_X12_place l dC dI x1 x3 _ h sz) ⟨hx, hb, hml, hown, hts⟩ (va_cwS 2 hts (g_S gdM mwM_45 mwM_46 mwM_22 mwM_44) rfl rfl rfl hd_X12_place ⟨Nat.le_of_ble_eq_true rfl, Nat.le_of_ble_eq_true rfl⟩) rfl hl.1 rfl hP hD hS hA (Nat.le_of_ble_eq_true rfl) ⟨Nat.le_of_ble_eq_true rfl, Nat.le_of_ble_eq_true rfl⟩ dX12_needCell_46 (fun r3 H locs h hP hS => ?_)
        refine lv_imul hx hb dX12_needCell_49 ?_
        exact W.iret (v := (2 * r3)) hx hb hr (fun t ht hW => ⟨⟨_, (va_up (va_up v 23 (fi 7 r1.toNatClampNeg)) 24 x3, w, fi, fl), rfl, h, by rw [ht]; exact hP, va_K.moved hW.alike hK, hD⟩, hS.F ht⟩) hS.2.2 dX12_needCell_50
    · have h := h.2 c_11
      refine lv_bipush (v := (-2)) hx hb dX12_needCell_14 (by decide) ?_
      exact W.iret (v := (-2)) hx hb hr (fun t ht hW => ⟨⟨_, (v, w, fi, fl), rfl, h, by rw [ht]; exact hP, va_K.moved hW.alike hK, hD⟩, hS.F ht⟩) hS.2.2 dX12_needCell_16
set_option maxHeartbeats 4000000 in
set_option maxRecDepth 100000 in
theorem t_X12_needCell_2 {p : Program} {l : Launch} {e : Env} {s : State} {m : MethodId} {args : Array Value} {below : List Frame} {meth : Method} {c : Code} {A : Nat → Prop} {dC : Nat → ClassId} {dI : Nat → Nat → Nat} {a : Nat → Nat} {ca : Nat → ClassId} {g0 : Nat}  {Q : Int32 → (Nat → Int32) → (Nat → Int64) → (Nat → Nat → Int32) → (Nat → Nat → Int64) → Prop} (hx : p.tables.exec = Jvm.exec) (hb : c.code = cX12_needCell) (hr : meth.sig.returnType = (some .int)) (hts : ∀ w ∈ WM, w.before args s = true) (hown : s.vm.findClass RX12 = some m.cls) (hlocks : meth.locks = false) (hml : c.maxLocals = 4) (hA : ∀ q : Nat, s.heap.size ≤ q → A q) (hK : va_K (dC, dI) vwCl (mT ca) s)  : ∀ n : Nat, ∀ (v : Nat → Int32) (w : Nat → Int64) (fi : Nat → Nat → Int32) (fl : Nat → Nat → Int64) (x1 : Int32) (x2 : Int32) (x3 : Int32) (H : Heap) (locs : List Loc) (ls : Array Slot), P_X12_needCell_2  Q n v w fi fl x1 x2 x3 → va_P (dC, dI) vwCl (mW a ca g0 v w fi fl) H → va_D A (mW a ca g0 v w fi fl) → va_S A s.heap H locs → lv_has ls 4 [(0, .ref g0), (1, .int x1), (2, .int x2), (3, .int x3)] → W p l e (headSpec wmX12_needCell ({ frames := 8, cells := 0, slots := 0, locals := 120 })).room s m args below meth c H locs 0 0 (MQ below (va_Qi (S := MSt) (pI Q) (mB dC dI a ca g0 A) A) args s 0 0 A) (F0 m 2 ls []) := by
  intro n
  induction n with
  | zero => intro v w fi fl x1 x2 x3 H locs ls h; exact h.elim
  | succ n ih => exact b_X12_needCell_2 hx hb hr hts hown hlocks hml hA hK  ih
def P_X12_needCell (v : Nat → Int32) (w : Nat → Int64) (fi : Nat → Nat → Int32) (fl : Nat → Nat → Int64) (p0 : Int32) (p1 : Int32) (Q : Int32 → (Nat → Int32) → (Nat → Int64) → (Nat → Nat → Int32) → (Nat → Nat → Int64) → Prop) : Prop := ∃ n9 : Nat, P_X12_needCell_2  Q n9 v w fi fl p0 p1 (0 : Int32)
set_option maxHeartbeats 4000000 in
set_option maxRecDepth 100000 in
theorem p_X12_needCell (l : Launch) (dC : Nat → ClassId) (dI : Nat → Nat → Nat) (a : Nat → Nat) (ca : Nat → ClassId) (g0 : Nat) (v : Nat → Int32) (w : Nat → Int64) (fi : Nat → Nat → Int32) (fl : Nat → Nat → Int64) (p0 : Int32) (p1 : Int32) (Q : Int32 → (Nat → Int32) → (Nat → Int64) → (Nat → Nat → Int32) → (Nat → Nat → Int64) → Prop) (h : P_X12_needCell v w fi fl p0 p1 Q) (sz : Nat) : Met l yX12_needCell wmX12_needCell ({ frames := 8, cells := 0, slots := 0, locals := 120 }) (va_Pc [.ref g0, .int p0, .int p1] (mPre dC dI a ca g0 v w fi fl sz)) (va_Qi (S := MSt) (pI Q) (mB dC dI a ca g0 (va_A (mW a ca g0 v w fi fl) sz)) (va_A (mW a ca g0 v w fi fl) sz)) 0 0 (va_A (mW a ca g0 v w fi fl) sz) := by
  refine Met.ofW (cc := cX12_needCell) (maxL := 4) (ret := (some .int)) (by decide) rfl ?_
  intro p e s m args below meth c s₁ B hml hv
  obtain ⟨rfl, hsz, hP, hK, hD0⟩ := hv
  have hx := B.exec
  have hb := B.bytes
  have hr := B.returns
  have hts : ∀ w ∈ WM, w.before _ s = true := fun w h => atoms_spec (ws := wmX12_needCell) B.pre w (List.mem_cons_of_mem _ h)
  have hown : s.vm.findClass RX12 = some m.cls := findClass_of_methodNamed B.named
  have hlocks := B.notSynchronized
  subst hsz
  have hD := hD0.self (sz := s.heap.size)
  generalize hAe : va_A (mW a ca g0 v w fi fl) s.heap.size = A at hD ⊢
  have hA : ∀ q : Nat, s.heap.size ≤ q → A q := fun q h => by rw [← hAe]; exact Or.inr h
  generalize hH : s.heap = H at hP ⊢
  have hS : va_S A s.heap H [] := by rw [← hH]; exact va_S.rf
  have hl := lv_entry [.ref g0, .int p0, .int p1] (n := 4) (Nat.le_of_ble_eq_true rfl)
  rw [lg_entry_eq]
  generalize (lg_sl [.ref g0, .int p0, .int p1] ++ List.replicate (4 - (lg_sl [.ref g0, .int p0, .int p1]).length) Slot.unset).toArray = ls at hl ⊢
  have hl : lv_has ls 4 [(0, .ref g0), (1, .int p0), (2, .int p1)] := hl
  unfold P_X12_needCell at h
  refine lv_iconst (v := 0) hx hb dX12_needCell_0 (by decide) ?_
  refine lv_istore_n (lv' := [(3, .int 0), (0, .ref g0), (1, .int p0), (2, .int p1)]) hx hb dX12_needCell_1 rfl hl (by decide) rfl (fun ls hl => ?_)
  obtain ⟨n9, h⟩ := h
  exact t_X12_needCell_2 hx hb hr hts hown hlocks hml hA hK  n9 _ _ _ _ _ _ _ H _ ls h hP hD hS (lv_sub hl [1, 2, 3, 0] rfl)

abbrev wmX12_ownPlace : List Cond := .code yX12_ownPlace cX12_ownPlace 4 (some .int) :: WM
theorem hd_X12_ownPlace : yX12_ownPlace.cls = RX12 ∧ yX12_ownPlace.cls ≠ "java/lang/invoke/MethodHandle" ∧ yX12_ownPlace.cls ≠ "java/lang/invoke/VarHandle" ∧ (parseMethodDescriptor yX12_ownPlace.desc).map (fun d => d.parameters.length) = some 2 := by decide +kernel
def B_X12_ownPlace_6  (K6 : (Nat → Int32) → (Nat → Int64) → (Nat → Nat → Int32) → (Nat → Nat → Int64) → Int32 → Prop) (Q : Int32 → (Nat → Int32) → (Nat → Int64) → (Nat → Nat → Int32) → (Nat → Nat → Int64) → Prop) (v : Nat → Int32) (w : Nat → Int64) (fi : Nat → Nat → Int32) (fl : Nat → Nat → Int64) (x3 : Int32) : Prop := vp_in x3 9600 ∧ (((fi 10 x3.toNatClampNeg) = 0) → (Q x3 v w fi fl)) ∧ ((¬ (fi 10 x3.toNatClampNeg) = 0) → (vp_in x3 9600 ∧ vp_in x3 9600 ∧ P_X12_place ((fi 10 x3.toNatClampNeg) - 1) (fi 11 x3.toNatClampNeg) (fun r4 => K6 v w fi fl r4)))
def P_X12_ownPlace_6  (Q : Int32 → (Nat → Int32) → (Nat → Int64) → (Nat → Nat → Int32) → (Nat → Nat → Int64) → Prop) : Nat → (Nat → Int32) → (Nat → Int64) → (Nat → Nat → Int32) → (Nat → Nat → Int64) → Int32 → Prop
  | 0 => fun _ _ _ _ _ => False
  | n + 1 => B_X12_ownPlace_6  (P_X12_ownPlace_6  Q n) Q
set_option maxHeartbeats 4000000 in
set_option maxRecDepth 100000 in
theorem b_X12_ownPlace_6 {p : Program} {l : Launch} {e : Env} {s : State} {m : MethodId} {args : Array Value} {below : List Frame} {meth : Method} {c : Code} {A : Nat → Prop} {dC : Nat → ClassId} {dI : Nat → Nat → Nat} {a : Nat → Nat} {ca : Nat → ClassId} {g0 : Nat}  {K6 : (Nat → Int32) → (Nat → Int64) → (Nat → Nat → Int32) → (Nat → Nat → Int64) → Int32 → Prop} {Q : Int32 → (Nat → Int32) → (Nat → Int64) → (Nat → Nat → Int32) → (Nat → Nat → Int64) → Prop} (hx : p.tables.exec = Jvm.exec) (hb : c.code = cX12_ownPlace) (hr : meth.sig.returnType = (some .int)) (hts : ∀ w ∈ WM, w.before args s = true) (hown : s.vm.findClass RX12 = some m.cls) (hlocks : meth.locks = false) (hml : c.maxLocals = 4) (hA : ∀ q : Nat, s.heap.size ≤ q → A q) (hK : va_K (dC, dI) vwCl (mT ca) s)  (hK6 : ∀ (v : Nat → Int32) (w : Nat → Int64) (fi : Nat → Nat → Int32) (fl : Nat → Nat → Int64) (x3 : Int32) (H : Heap) (locs : List Loc) (ls : Array Slot), K6 v w fi fl x3 → va_P (dC, dI) vwCl (mW a ca g0 v w fi fl) H → va_D A (mW a ca g0 v w fi fl) → va_S A s.heap H locs → lv_has ls 4 [(0, .ref g0), (3, .int x3)] → W p l e (headSpec wmX12_ownPlace ({ frames := 8, cells := 0, slots := 0, locals := 120 })).room s m args below meth c H locs 0 0 (MQ below (va_Qi (S := MSt) (pI Q) (mB dC dI a ca g0 A) A) args s 0 0 A) (F0 m 6 ls [])) : ∀ (v : Nat → Int32) (w : Nat → Int64) (fi : Nat → Nat → Int32) (fl : Nat → Nat → Int64) (x3 : Int32) (H : Heap) (locs : List Loc) (ls : Array Slot), B_X12_ownPlace_6  K6 Q v w fi fl x3 → va_P (dC, dI) vwCl (mW a ca g0 v w fi fl) H → va_D A (mW a ca g0 v w fi fl) → va_S A s.heap H locs → lv_has ls 4 [(0, .ref g0), (3, .int x3)] → W p l e (headSpec wmX12_ownPlace ({ frames := 8, cells := 0, slots := 0, locals := 120 })).room s m args below meth c H locs 0 0 (MQ below (va_Qi (S := MSt) (pI Q) (mB dC dI a ca g0 A) A) args s 0 0 A) (F0 m 6 ls []) := by
  intro v w fi fl x3 H locs ls h hP hD hS hl
  unfold B_X12_ownPlace_6 at h
  refine lv_aload_n hx hb dX12_ownPlace_6 rfl (lv_at hl 0 rfl) ?_
  refine va_get (D := (dC, dI)) (ci := 11) (v := .ref (a 10)) (C := RX12) (T := TX12) (N := 32) hx hb hts hinM hown hK hP 0 rfl rfl 10 (by decide) (hts _ mwM_49) (fun _ h9 => h9) rfl dX12_ownPlace_7 ?_
  refine lv_iload_n hx hb dX12_ownPlace_10 rfl (lv_at hl 1 rfl) ?_
  obtain ⟨hi1, h⟩ := h
  refine va_iald (f := fi 10) hx hb hK hP 10 9 rfl rfl hi1 dX12_ownPlace_11 ?_
  refine lv_if_eq (tgt := 36) hx hb dX12_ownPlace_12 (by decide) (fun c_12 => ?_) (fun c_12 => ?_)
  · have h := h.1 c_12
    refine lv_iload_n hx hb dX12_ownPlace_36 rfl (lv_at hl 1 rfl) ?_
    exact W.iret (v := x3) hx hb hr (fun t ht hW => ⟨⟨_, (v, w, fi, fl), rfl, h, by rw [ht]; exact hP, va_K.moved hW.alike hK, hD⟩, hS.F ht⟩) hS.2.2 dX12_ownPlace_37
  · have h := h.2 c_12
    refine lv_aload_n hx hb dX12_ownPlace_15 rfl (lv_at hl 0 rfl) ?_
    refine va_get (D := (dC, dI)) (ci := 11) (v := .ref (a 10)) (C := RX12) (T := TX12) (N := 32) hx hb hts hinM hown hK hP 0 rfl rfl 10 (by decide) (hts _ mwM_49) (fun _ h9 => h9) rfl dX12_ownPlace_16 ?_
    refine lv_iload_n hx hb dX12_ownPlace_19 rfl (lv_at hl 1 rfl) ?_
    obtain ⟨hi2, h⟩ := h
    refine va_iald (f := fi 10) hx hb hK hP 10 9 rfl rfl hi2 dX12_ownPlace_20 ?_
    refine lv_iconst (v := 1) hx hb dX12_ownPlace_21 (by decide) ?_
    refine lv_isub hx hb dX12_ownPlace_22 ?_
    refine lv_aload_n hx hb dX12_ownPlace_23 rfl (lv_at hl 0 rfl) ?_
    refine va_get (D := (dC, dI)) (ci := 11) (v := .ref (a 11)) (C := RX12) (T := TX12) (N := 32) hx hb hts hinM hown hK hP 0 rfl rfl 11 (by decide) (hts _ mwM_50) (fun _ h9 => h9) rfl dX12_ownPlace_24 ?_
    refine lv_iload_n hx hb dX12_ownPlace_27 rfl (lv_at hl 1 rfl) ?_
    obtain ⟨hi3, h⟩ := h
    refine va_iald (f := fi 11) hx hb hK hP 11 10 rfl rfl hi3 dX12_ownPlace_28 ?_
    refine s_calli (rm := ({ frames := 4, cells := 0, slots := 0, locals := 60 })) (As := [.int ((fi 10 x3.toNatClampNeg) - 1), .int (fi 11 x3.toNatClampNeg)]) (rest := []) (fun sz => p_X12_place l dC dI ((fi 10 x3.toNatClampNeg) - 1) (fi 11 x3.toNatClampNeg) _ h sz) ⟨hx, hb, hml, hown, hts⟩ (va_cwS 2 hts (g_S gdM mwM_45 mwM_46 mwM_22 mwM_44) rfl rfl rfl hd_X12_place ⟨Nat.le_of_ble_eq_true rfl, Nat.le_of_ble_eq_true rfl⟩) rfl hl.1 rfl hP hD hS hA (Nat.le_of_ble_eq_true rfl) ⟨Nat.le_of_ble_eq_true rfl, Nat.le_of_ble_eq_true rfl⟩ dX12_ownPlace_29 (fun r4 H locs h hP hS => ?_)
    refine lv_istore_n (lv' := [(3, .int r4), (0, .ref g0)]) hx hb dX12_ownPlace_32 rfl hl (by decide) rfl (fun ls hl => ?_)
    refine lv_goto (tgt := 6) hx hb dX12_ownPlace_33 (by decide) ?_
    exact hK6 _ _ _ _ _ H _ ls h hP hD hS (lv_sub hl [1, 0] rfl)
set_option maxHeartbeats 4000000 in
set_option maxRecDepth 100000 in
theorem t_X12_ownPlace_6 {p : Program} {l : Launch} {e : Env} {s : State} {m : MethodId} {args : Array Value} {below : List Frame} {meth : Method} {c : Code} {A : Nat → Prop} {dC : Nat → ClassId} {dI : Nat → Nat → Nat} {a : Nat → Nat} {ca : Nat → ClassId} {g0 : Nat}  {Q : Int32 → (Nat → Int32) → (Nat → Int64) → (Nat → Nat → Int32) → (Nat → Nat → Int64) → Prop} (hx : p.tables.exec = Jvm.exec) (hb : c.code = cX12_ownPlace) (hr : meth.sig.returnType = (some .int)) (hts : ∀ w ∈ WM, w.before args s = true) (hown : s.vm.findClass RX12 = some m.cls) (hlocks : meth.locks = false) (hml : c.maxLocals = 4) (hA : ∀ q : Nat, s.heap.size ≤ q → A q) (hK : va_K (dC, dI) vwCl (mT ca) s)  : ∀ n : Nat, ∀ (v : Nat → Int32) (w : Nat → Int64) (fi : Nat → Nat → Int32) (fl : Nat → Nat → Int64) (x3 : Int32) (H : Heap) (locs : List Loc) (ls : Array Slot), P_X12_ownPlace_6  Q n v w fi fl x3 → va_P (dC, dI) vwCl (mW a ca g0 v w fi fl) H → va_D A (mW a ca g0 v w fi fl) → va_S A s.heap H locs → lv_has ls 4 [(0, .ref g0), (3, .int x3)] → W p l e (headSpec wmX12_ownPlace ({ frames := 8, cells := 0, slots := 0, locals := 120 })).room s m args below meth c H locs 0 0 (MQ below (va_Qi (S := MSt) (pI Q) (mB dC dI a ca g0 A) A) args s 0 0 A) (F0 m 6 ls []) := by
  intro n
  induction n with
  | zero => intro v w fi fl x3 H locs ls h; exact h.elim
  | succ n ih => exact b_X12_ownPlace_6 hx hb hr hts hown hlocks hml hA hK  ih
def P_X12_ownPlace (v : Nat → Int32) (w : Nat → Int64) (fi : Nat → Nat → Int32) (fl : Nat → Nat → Int64) (p0 : Int32) (p1 : Int32) (Q : Int32 → (Nat → Int32) → (Nat → Int64) → (Nat → Nat → Int32) → (Nat → Nat → Int64) → Prop) : Prop := P_X12_place p0 p1 (fun r1 => ∃ n9 : Nat, P_X12_ownPlace_6  Q n9 v w fi fl r1)
set_option maxHeartbeats 4000000 in
set_option maxRecDepth 100000 in
theorem p_X12_ownPlace (l : Launch) (dC : Nat → ClassId) (dI : Nat → Nat → Nat) (a : Nat → Nat) (ca : Nat → ClassId) (g0 : Nat) (v : Nat → Int32) (w : Nat → Int64) (fi : Nat → Nat → Int32) (fl : Nat → Nat → Int64) (p0 : Int32) (p1 : Int32) (Q : Int32 → (Nat → Int32) → (Nat → Int64) → (Nat → Nat → Int32) → (Nat → Nat → Int64) → Prop) (h : P_X12_ownPlace v w fi fl p0 p1 Q) (sz : Nat) : Met l yX12_ownPlace wmX12_ownPlace ({ frames := 8, cells := 0, slots := 0, locals := 120 }) (va_Pc [.ref g0, .int p0, .int p1] (mPre dC dI a ca g0 v w fi fl sz)) (va_Qi (S := MSt) (pI Q) (mB dC dI a ca g0 (va_A (mW a ca g0 v w fi fl) sz)) (va_A (mW a ca g0 v w fi fl) sz)) 0 0 (va_A (mW a ca g0 v w fi fl) sz) := by
  refine Met.ofW (cc := cX12_ownPlace) (maxL := 4) (ret := (some .int)) (by decide) rfl ?_
  intro p e s m args below meth c s₁ B hml hv
  obtain ⟨rfl, hsz, hP, hK, hD0⟩ := hv
  have hx := B.exec
  have hb := B.bytes
  have hr := B.returns
  have hts : ∀ w ∈ WM, w.before _ s = true := fun w h => atoms_spec (ws := wmX12_ownPlace) B.pre w (List.mem_cons_of_mem _ h)
  have hown : s.vm.findClass RX12 = some m.cls := findClass_of_methodNamed B.named
  have hlocks := B.notSynchronized
  subst hsz
  have hD := hD0.self (sz := s.heap.size)
  generalize hAe : va_A (mW a ca g0 v w fi fl) s.heap.size = A at hD ⊢
  have hA : ∀ q : Nat, s.heap.size ≤ q → A q := fun q h => by rw [← hAe]; exact Or.inr h
  generalize hH : s.heap = H at hP ⊢
  have hS : va_S A s.heap H [] := by rw [← hH]; exact va_S.rf
  have hl := lv_entry [.ref g0, .int p0, .int p1] (n := 4) (Nat.le_of_ble_eq_true rfl)
  rw [lg_entry_eq]
  generalize (lg_sl [.ref g0, .int p0, .int p1] ++ List.replicate (4 - (lg_sl [.ref g0, .int p0, .int p1]).length) Slot.unset).toArray = ls at hl ⊢
  have hl : lv_has ls 4 [(0, .ref g0), (1, .int p0), (2, .int p1)] := hl
  unfold P_X12_ownPlace at h
  refine lv_iload_n hx hb dX12_ownPlace_0 rfl (lv_at hl 1 rfl) ?_
  refine lv_iload_n hx hb dX12_ownPlace_1 rfl (lv_at hl 2 rfl) ?_
  refine s_calli (rm := ({ frames := 4, cells := 0, slots := 0, locals := 60 })) (As := [.int p0, .int p1]) (rest := []) (fun sz => p_X12_place l dC dI p0 p1 _ h sz) ⟨hx, hb, hml, hown, hts⟩ (va_cwS 2 hts (g_S gdM mwM_45 mwM_46 mwM_22 mwM_44) rfl rfl rfl hd_X12_place ⟨Nat.le_of_ble_eq_true rfl, Nat.le_of_ble_eq_true rfl⟩) rfl hl.1 rfl hP hD hS hA (Nat.le_of_ble_eq_true rfl) ⟨Nat.le_of_ble_eq_true rfl, Nat.le_of_ble_eq_true rfl⟩ dX12_ownPlace_2 (fun r1 H locs h hP hS => ?_)
  refine lv_istore_n (lv' := [(3, .int r1), (0, .ref g0), (1, .int p0), (2, .int p1)]) hx hb dX12_ownPlace_5 rfl hl (by decide) rfl (fun ls hl => ?_)
  obtain ⟨n9, h⟩ := h
  exact t_X12_ownPlace_6 hx hb hr hts hown hlocks hml hA hK  n9 _ _ _ _ _ H _ ls h hP hD hS (lv_sub hl [1, 0] rfl)

abbrev wmX12_steps : List Cond := .code yX12_steps cX12_steps 3 (some .int) :: WM
theorem hd_X12_steps : yX12_steps.cls = RX12 ∧ yX12_steps.cls ≠ "java/lang/invoke/MethodHandle" ∧ yX12_steps.cls ≠ "java/lang/invoke/VarHandle" ∧ (parseMethodDescriptor yX12_steps.desc).map (fun d => d.parameters.length) = some 1 := by decide +kernel
def P_X12_steps (v : Nat → Int32) (w : Nat → Int64) (fi : Nat → Nat → Int32) (fl : Nat → Nat → Int64) (p0 : Int32) (Q : Int32 → (Nat → Int32) → (Nat → Int64) → (Nat → Nat → Int32) → (Nat → Nat → Int64) → Prop) : Prop := ((p0 < 1) → (P_X12_fail (va_up v 19 0) w fi fl 1 (fun r1 v1 w1 fi1 fl1 => Q r1 v1 w1 fi1 fl1))) ∧ ((¬ p0 < 1) → (((p0 ≤ 5000) → (Q (v 15) (va_up (va_up v 19 0) 15 p0) w fi fl)) ∧ ((¬ p0 ≤ 5000) → (P_X12_fail (va_up v 19 0) w fi fl 1 (fun r2 v2 w2 fi2 fl2 => Q r2 v2 w2 fi2 fl2)))))
set_option maxHeartbeats 4000000 in
set_option maxRecDepth 100000 in
theorem p_X12_steps (l : Launch) (dC : Nat → ClassId) (dI : Nat → Nat → Nat) (a : Nat → Nat) (ca : Nat → ClassId) (g0 : Nat) (v : Nat → Int32) (w : Nat → Int64) (fi : Nat → Nat → Int32) (fl : Nat → Nat → Int64) (p0 : Int32) (Q : Int32 → (Nat → Int32) → (Nat → Int64) → (Nat → Nat → Int32) → (Nat → Nat → Int64) → Prop) (h : P_X12_steps v w fi fl p0 Q) (sz : Nat) : Met l yX12_steps wmX12_steps ({ frames := 8, cells := 0, slots := 0, locals := 120 }) (va_Pc [.ref g0, .int p0] (mPre dC dI a ca g0 v w fi fl sz)) (va_Qi (S := MSt) (pI Q) (mB dC dI a ca g0 (va_A (mW a ca g0 v w fi fl) sz)) (va_A (mW a ca g0 v w fi fl) sz)) 0 0 (va_A (mW a ca g0 v w fi fl) sz) := by
  refine Met.ofW (cc := cX12_steps) (maxL := 3) (ret := (some .int)) (by decide) rfl ?_
  intro p e s m args below meth c s₁ B hml hv
  obtain ⟨rfl, hsz, hP, hK, hD0⟩ := hv
  have hx := B.exec
  have hb := B.bytes
  have hr := B.returns
  have hts : ∀ w ∈ WM, w.before _ s = true := fun w h => atoms_spec (ws := wmX12_steps) B.pre w (List.mem_cons_of_mem _ h)
  have hown : s.vm.findClass RX12 = some m.cls := findClass_of_methodNamed B.named
  have hlocks := B.notSynchronized
  subst hsz
  have hD := hD0.self (sz := s.heap.size)
  generalize hAe : va_A (mW a ca g0 v w fi fl) s.heap.size = A at hD ⊢
  have hA : ∀ q : Nat, s.heap.size ≤ q → A q := fun q h => by rw [← hAe]; exact Or.inr h
  generalize hH : s.heap = H at hP ⊢
  have hS : va_S A s.heap H [] := by rw [← hH]; exact va_S.rf
  have hl := lv_entry [.ref g0, .int p0] (n := 3) (Nat.le_of_ble_eq_true rfl)
  rw [lg_entry_eq]
  generalize (lg_sl [.ref g0, .int p0] ++ List.replicate (3 - (lg_sl [.ref g0, .int p0]).length) Slot.unset).toArray = ls at hl ⊢
  have hl : lv_has ls 3 [(0, .ref g0), (1, .int p0)] := hl
  unfold P_X12_steps at h
  refine lv_aload_n hx hb dX12_steps_0 rfl (lv_at hl 0 rfl) ?_
  refine lv_iconst (v := 0) hx hb dX12_steps_1 (by decide) ?_
  refine m_put_19 hx hb hts hinM hown hK hP hD hS (hts _ mwM_0) dX12_steps_2 (fun H locs hP hD hS => ?_)
  refine lv_iload_n hx hb dX12_steps_5 rfl (lv_at hl 1 rfl) ?_
  refine lv_iconst (v := 1) hx hb dX12_steps_6 (by decide) ?_
  refine lv_icmp_lt (tgt := 17) hx hb dX12_steps_7 (by decide) (fun c_7 => ?_) (fun c_7 => ?_)
  · have h := h.1 c_7
    refine lv_aload_n hx hb dX12_steps_17 rfl (lv_at hl 0 rfl) ?_
    refine lv_iconst (v := 1) hx hb dX12_steps_18 (by decide) ?_
    refine m_calli (rm := ({ frames := 4, cells := 0, slots := 0, locals := 60 })) (As := [.int 1]) (rest := []) (fun sz => p_X12_fail l dC dI a ca g0 _ _ _ _ 1 _ h sz) ⟨hx, hb, hml, hown, hts⟩ (cwV 1 hts (g_V gdM mwM_19 mwM_20 mwM_21 mwM_22 mwM_18) rfl rfl rfl hd_X12_fail ⟨Nat.le_of_ble_eq_true rfl, Nat.le_of_ble_eq_true rfl⟩) rfl hl.1 rfl hK hP hD hS hA (Nat.le_of_ble_eq_true rfl) ⟨Nat.le_of_ble_eq_true rfl, Nat.le_of_ble_eq_true rfl⟩ dX12_steps_19 (fun r1 v1 w1 fi1 fl1 H locs h hP hD hS => ?_)
    exact W.iret (v := r1) hx hb hr (fun t ht hW => ⟨⟨_, (v1, w1, fi1, fl1), rfl, h, by rw [ht]; exact hP, va_K.moved hW.alike hK, hD⟩, hS.F ht⟩) hS.2.2 dX12_steps_22
  · have h := h.2 c_7
    refine lv_iload_n hx hb dX12_steps_10 rfl (lv_at hl 1 rfl) ?_
    refine lv_sipush (v := 5000) hx hb dX12_steps_11 (by decide) ?_
    refine lv_icmp_le (tgt := 23) hx hb dX12_steps_14 (by decide) (fun c_14 => ?_) (fun c_14 => ?_)
    · have h := h.1 c_14
      refine lv_aload_n hx hb dX12_steps_23 rfl (lv_at hl 0 rfl) ?_
      refine va_get (D := (dC, dI)) (ci := 11) (v := .int (v 15)) (C := RX12) (T := TX12) (N := 32) hx hb hts hinM hown hK hP 0 rfl rfl 15 (by decide) (hts _ mwM_51) (fun _ h9 => h9) rfl dX12_steps_24 ?_
      refine lv_istore_n (lv' := [(2, .int (v 15)), (0, .ref g0), (1, .int p0)]) hx hb dX12_steps_27 rfl hl (by decide) rfl (fun ls hl => ?_)
      refine lv_aload_n hx hb dX12_steps_28 rfl (lv_at hl 1 rfl) ?_
      refine lv_iload_n hx hb dX12_steps_29 rfl (lv_at hl 2 rfl) ?_
      refine m_put_15 hx hb hts hinM hown hK hP hD hS (hts _ mwM_51) dX12_steps_30 (fun H locs hP hD hS => ?_)
      refine lv_iload_n hx hb dX12_steps_33 rfl (lv_at hl 0 rfl) ?_
      exact W.iret (v := (v 15)) hx hb hr (fun t ht hW => ⟨⟨_, (va_up (va_up v 19 0) 15 p0, w, fi, fl), rfl, h, by rw [ht]; exact hP, va_K.moved hW.alike hK, hD⟩, hS.F ht⟩) hS.2.2 dX12_steps_34
    · have h := h.2 c_14
      refine lv_aload_n hx hb dX12_steps_17 rfl (lv_at hl 0 rfl) ?_
      refine lv_iconst (v := 1) hx hb dX12_steps_18 (by decide) ?_
      refine m_calli (rm := ({ frames := 4, cells := 0, slots := 0, locals := 60 })) (As := [.int 1]) (rest := []) (fun sz => p_X12_fail l dC dI a ca g0 _ _ _ _ 1 _ h sz) ⟨hx, hb, hml, hown, hts⟩ (cwV 1 hts (g_V gdM mwM_19 mwM_20 mwM_21 mwM_22 mwM_18) rfl rfl rfl hd_X12_fail ⟨Nat.le_of_ble_eq_true rfl, Nat.le_of_ble_eq_true rfl⟩) rfl hl.1 rfl hK hP hD hS hA (Nat.le_of_ble_eq_true rfl) ⟨Nat.le_of_ble_eq_true rfl, Nat.le_of_ble_eq_true rfl⟩ dX12_steps_19 (fun r2 v2 w2 fi2 fl2 H locs h hP hD hS => ?_)
      exact W.iret (v := r2) hx hb hr (fun t ht hW => ⟨⟨_, (v2, w2, fi2, fl2), rfl, h, by rw [ht]; exact hP, va_K.moved hW.alike hK, hD⟩, hS.F ht⟩) hS.2.2 dX12_steps_22

abbrev wmX12_told : List Cond := .code yX12_told cX12_told 2 (some .long) :: WM
theorem hd_X12_told : yX12_told.cls = RX12 ∧ yX12_told.cls ≠ "java/lang/invoke/MethodHandle" ∧ yX12_told.cls ≠ "java/lang/invoke/VarHandle" ∧ (parseMethodDescriptor yX12_told.desc).map (fun d => d.parameters.length) = some 1 := by decide +kernel
def P_X12_told (v : Nat → Int32) (w : Nat → Int64) (fi : Nat → Nat → Int32) (fl : Nat → Nat → Int64) (p0 : Int32) (Q : Int64 → (Nat → Int32) → (Nat → Int64) → (Nat → Nat → Int32) → (Nat → Nat → Int64) → Prop) : Prop := ((¬ p0 = (-2)) → (((¬ p0 = 1) → (P_X12_failed v w fi fl p0 (fun r1 v1 w1 fi1 fl1 => Q r1 v1 w1 fi1 fl1))) ∧ ((p0 = 1) → (Q (w 25) v w fi fl)))) ∧ ((p0 = (-2)) → (P_X12_out v w fi fl (fun r2 v2 w2 fi2 fl2 => Q r2 v2 w2 fi2 fl2)))
set_option maxHeartbeats 4000000 in
set_option maxRecDepth 100000 in
theorem p_X12_told (l : Launch) (dC : Nat → ClassId) (dI : Nat → Nat → Nat) (a : Nat → Nat) (ca : Nat → ClassId) (g0 : Nat) (v : Nat → Int32) (w : Nat → Int64) (fi : Nat → Nat → Int32) (fl : Nat → Nat → Int64) (p0 : Int32) (Q : Int64 → (Nat → Int32) → (Nat → Int64) → (Nat → Nat → Int32) → (Nat → Nat → Int64) → Prop) (h : P_X12_told v w fi fl p0 Q) (sz : Nat) : Met l yX12_told wmX12_told ({ frames := 8, cells := 0, slots := 0, locals := 120 }) (va_Pc [.ref g0, .int p0] (mPre dC dI a ca g0 v w fi fl sz)) (va_Ql (S := MSt) (pL Q) (mB dC dI a ca g0 (va_A (mW a ca g0 v w fi fl) sz)) (va_A (mW a ca g0 v w fi fl) sz)) 0 0 (va_A (mW a ca g0 v w fi fl) sz) := by
  refine Met.ofW (cc := cX12_told) (maxL := 2) (ret := (some .long)) (by decide) rfl ?_
  intro p e s m args below meth c s₁ B hml hv
  obtain ⟨rfl, hsz, hP, hK, hD0⟩ := hv
  have hx := B.exec
  have hb := B.bytes
  have hr := B.returns
  have hts : ∀ w ∈ WM, w.before _ s = true := fun w h => atoms_spec (ws := wmX12_told) B.pre w (List.mem_cons_of_mem _ h)
  have hown : s.vm.findClass RX12 = some m.cls := findClass_of_methodNamed B.named
  have hlocks := B.notSynchronized
  subst hsz
  have hD := hD0.self (sz := s.heap.size)
  generalize hAe : va_A (mW a ca g0 v w fi fl) s.heap.size = A at hD ⊢
  have hA : ∀ q : Nat, s.heap.size ≤ q → A q := fun q h => by rw [← hAe]; exact Or.inr h
  generalize hH : s.heap = H at hP ⊢
  have hS : va_S A s.heap H [] := by rw [← hH]; exact va_S.rf
  have hl := lv_entry [.ref g0, .int p0] (n := 2) (Nat.le_of_ble_eq_true rfl)
  rw [lg_entry_eq]
  generalize (lg_sl [.ref g0, .int p0] ++ List.replicate (2 - (lg_sl [.ref g0, .int p0]).length) Slot.unset).toArray = ls at hl ⊢
  have hl : lv_has ls 2 [(0, .ref g0), (1, .int p0)] := hl
  unfold P_X12_told at h
  refine lv_iload_n hx hb dX12_told_0 rfl (lv_at hl 1 rfl) ?_
  refine lv_bipush (v := (-2)) hx hb dX12_told_1 (by decide) ?_
  refine lv_icmp_ne (tgt := 13) hx hb dX12_told_3 (by decide) (fun c_3 => ?_) (fun c_3 => ?_)
  · have h := h.1 c_3
    refine lv_iload_n hx hb dX12_told_13 rfl (lv_at hl 1 rfl) ?_
    refine lv_iconst (v := 1) hx hb dX12_told_14 (by decide) ?_
    refine lv_icmp_ne (tgt := 25) hx hb dX12_told_15 (by decide) (fun c_15 => ?_) (fun c_15 => ?_)
    · have h := h.1 c_15
      refine lv_aload_n hx hb dX12_told_25 rfl (lv_at hl 0 rfl) ?_
      refine lv_iload_n hx hb dX12_told_26 rfl (lv_at hl 1 rfl) ?_
      refine m_calll (rm := ({ frames := 4, cells := 0, slots := 0, locals := 60 })) (As := [.int p0]) (rest := []) (fun sz => p_X12_failed l dC dI a ca g0 _ _ _ _ p0 _ h sz) ⟨hx, hb, hml, hown, hts⟩ (cwV 1 hts (g_V gdM mwM_53 mwM_54 mwM_55 mwM_22 mwM_52) rfl rfl rfl hd_X12_failed ⟨Nat.le_of_ble_eq_true rfl, Nat.le_of_ble_eq_true rfl⟩) rfl hl.1 rfl hK hP hD hS hA (Nat.le_of_ble_eq_true rfl) ⟨Nat.le_of_ble_eq_true rfl, Nat.le_of_ble_eq_true rfl⟩ dX12_told_27 (fun r1 v1 w1 fi1 fl1 H locs h hP hD hS => ?_)
      exact W.lret (v := r1) hx hb hr (fun t ht hW => ⟨⟨_, (v1, w1, fi1, fl1), rfl, h, by rw [ht]; exact hP, va_K.moved hW.alike hK, hD⟩, hS.F ht⟩) hS.2.2 dX12_told_30
    · have h := h.2 c_15
      refine lv_aload_n hx hb dX12_told_18 rfl (lv_at hl 0 rfl) ?_
      refine va_get (D := (dC, dI)) (ci := 11) (v := .long (w 25)) (C := RX12) (T := TX12) (N := 32) hx hb hts hinM hown hK hP 0 rfl rfl 25 (by decide) (hts _ mwM_56) (fun _ h9 => h9) rfl dX12_told_19 ?_
      refine lv_goto (tgt := 30) hx hb dX12_told_22 (by decide) ?_
      exact W.lret (v := (w 25)) hx hb hr (fun t ht hW => ⟨⟨_, (v, w, fi, fl), rfl, h, by rw [ht]; exact hP, va_K.moved hW.alike hK, hD⟩, hS.F ht⟩) hS.2.2 dX12_told_30
  · have h := h.2 c_3
    refine lv_aload_n hx hb dX12_told_6 rfl (lv_at hl 0 rfl) ?_
    refine m_calll (rm := ({ frames := 4, cells := 0, slots := 0, locals := 60 })) (As := []) (rest := []) (fun sz => p_X12_out l dC dI a ca g0 _ _ _ _  _ h sz) ⟨hx, hb, hml, hown, hts⟩ (cwV 0 hts (g_V gdM mwM_58 mwM_59 mwM_60 mwM_22 mwM_57) rfl rfl rfl hd_X12_out ⟨Nat.le_of_ble_eq_true rfl, Nat.le_of_ble_eq_true rfl⟩) rfl hl.1 rfl hK hP hD hS hA (Nat.le_of_ble_eq_true rfl) ⟨Nat.le_of_ble_eq_true rfl, Nat.le_of_ble_eq_true rfl⟩ dX12_told_7 (fun r2 v2 w2 fi2 fl2 H locs h hP hD hS => ?_)
    refine lv_goto (tgt := 30) hx hb dX12_told_10 (by decide) ?_
    exact W.lret (v := r2) hx hb hr (fun t ht hW => ⟨⟨_, (v2, w2, fi2, fl2), rfl, h, by rw [ht]; exact hP, va_K.moved hW.alike hK, hD⟩, hS.F ht⟩) hS.2.2 dX12_told_30

abbrev wmX12_reached : List Cond := .code yX12_reached cX12_reached 3 (some .int) :: WM
theorem hd_X12_reached : yX12_reached.cls = RX12 ∧ yX12_reached.cls ≠ "java/lang/invoke/MethodHandle" ∧ yX12_reached.cls ≠ "java/lang/invoke/VarHandle" ∧ (parseMethodDescriptor yX12_reached.desc).map (fun d => d.parameters.length) = some 1 := by decide +kernel
def B_X12_reached_21  (K21 : (Nat → Int32) → (Nat → Int64) → (Nat → Nat → Int32) → (Nat → Nat → Int64) → Int32 → Int32 → Prop) (Q : Int32 → (Nat → Int32) → (Nat → Int64) → (Nat → Nat → Int32) → (Nat → Nat → Int64) → Prop) (v : Nat → Int32) (w : Nat → Int64) (fi : Nat → Nat → Int32) (fl : Nat → Nat → Int64) (x1 : Int32) (x2 : Int32) : Prop := ((400 ≤ x2) → (Q x2 v w fi fl)) ∧ ((¬ 400 ≤ x2) → (P_X12_place x1 x2 (fun r1 => vp_in r1 9600 ∧ (((fi 7 r1.toNatClampNeg) = 0) → (Q x2 v w fi fl)) ∧ ((¬ (fi 7 r1.toNatClampNeg) = 0) → (K21 v w fi fl x1 (x2 + 1))))))
def P_X12_reached_21  (Q : Int32 → (Nat → Int32) → (Nat → Int64) → (Nat → Nat → Int32) → (Nat → Nat → Int64) → Prop) : Nat → (Nat → Int32) → (Nat → Int64) → (Nat → Nat → Int32) → (Nat → Nat → Int64) → Int32 → Int32 → Prop
  | 0 => fun _ _ _ _ _ _ => False
  | n + 1 => B_X12_reached_21  (P_X12_reached_21  Q n) Q
set_option maxHeartbeats 4000000 in
set_option maxRecDepth 100000 in
theorem b_X12_reached_21 {p : Program} {l : Launch} {e : Env} {s : State} {m : MethodId} {args : Array Value} {below : List Frame} {meth : Method} {c : Code} {A : Nat → Prop} {dC : Nat → ClassId} {dI : Nat → Nat → Nat} {a : Nat → Nat} {ca : Nat → ClassId} {g0 : Nat}  {K21 : (Nat → Int32) → (Nat → Int64) → (Nat → Nat → Int32) → (Nat → Nat → Int64) → Int32 → Int32 → Prop} {Q : Int32 → (Nat → Int32) → (Nat → Int64) → (Nat → Nat → Int32) → (Nat → Nat → Int64) → Prop} (hx : p.tables.exec = Jvm.exec) (hb : c.code = cX12_reached) (hr : meth.sig.returnType = (some .int)) (hts : ∀ w ∈ WM, w.before args s = true) (hown : s.vm.findClass RX12 = some m.cls) (hlocks : meth.locks = false) (hml : c.maxLocals = 3) (hA : ∀ q : Nat, s.heap.size ≤ q → A q) (hK : va_K (dC, dI) vwCl (mT ca) s)  (hK21 : ∀ (v : Nat → Int32) (w : Nat → Int64) (fi : Nat → Nat → Int32) (fl : Nat → Nat → Int64) (x1 : Int32) (x2 : Int32) (H : Heap) (locs : List Loc) (ls : Array Slot), K21 v w fi fl x1 x2 → va_P (dC, dI) vwCl (mW a ca g0 v w fi fl) H → va_D A (mW a ca g0 v w fi fl) → va_S A s.heap H locs → lv_has ls 3 [(0, .ref g0), (1, .int x1), (2, .int x2)] → W p l e (headSpec wmX12_reached ({ frames := 8, cells := 0, slots := 0, locals := 120 })).room s m args below meth c H locs 0 0 (MQ below (va_Qi (S := MSt) (pI Q) (mB dC dI a ca g0 A) A) args s 0 0 A) (F0 m 21 ls [])) : ∀ (v : Nat → Int32) (w : Nat → Int64) (fi : Nat → Nat → Int32) (fl : Nat → Nat → Int64) (x1 : Int32) (x2 : Int32) (H : Heap) (locs : List Loc) (ls : Array Slot), B_X12_reached_21  K21 Q v w fi fl x1 x2 → va_P (dC, dI) vwCl (mW a ca g0 v w fi fl) H → va_D A (mW a ca g0 v w fi fl) → va_S A s.heap H locs → lv_has ls 3 [(0, .ref g0), (1, .int x1), (2, .int x2)] → W p l e (headSpec wmX12_reached ({ frames := 8, cells := 0, slots := 0, locals := 120 })).room s m args below meth c H locs 0 0 (MQ below (va_Qi (S := MSt) (pI Q) (mB dC dI a ca g0 A) A) args s 0 0 A) (F0 m 21 ls []) := by
  intro v w fi fl x1 x2 H locs ls h hP hD hS hl
  unfold B_X12_reached_21 at h
  refine lv_iload_n hx hb dX12_reached_21 rfl (lv_at hl 2 rfl) ?_
  refine lv_sipush (v := 400) hx hb dX12_reached_22 (by decide) ?_
  refine lv_icmp_ge (tgt := 47) hx hb dX12_reached_25 (by decide) (fun c_25 => ?_) (fun c_25 => ?_)
  · have h := h.1 c_25
    refine lv_iload_n hx hb dX12_reached_47 rfl (lv_at hl 2 rfl) ?_
    exact W.iret (v := x2) hx hb hr (fun t ht hW => ⟨⟨_, (v, w, fi, fl), rfl, h, by rw [ht]; exact hP, va_K.moved hW.alike hK, hD⟩, hS.F ht⟩) hS.2.2 dX12_reached_48
  · have h := h.2 c_25
    refine lv_aload_n hx hb dX12_reached_28 rfl (lv_at hl 0 rfl) ?_
    refine va_get (D := (dC, dI)) (ci := 11) (v := .ref (a 7)) (C := RX12) (T := TX12) (N := 32) hx hb hts hinM hown hK hP 0 rfl rfl 7 (by decide) (hts _ mwM_43) (fun _ h9 => h9) rfl dX12_reached_29 ?_
    refine lv_iload_n hx hb dX12_reached_32 rfl (lv_at hl 1 rfl) ?_
    refine lv_iload_n hx hb dX12_reached_33 rfl (lv_at hl 2 rfl) ?_
    refine s_calli (rm := ({ frames := 4, cells := 0, slots := 0, locals := 60 })) (As := [.int x1, .int x2]) (rest := [.ref (a 7)]) (fun sz => p_X12_place l dC dI x1 x2 _ h sz) ⟨hx, hb, hml, hown, hts⟩ (va_cwS 2 hts (g_S gdM mwM_45 mwM_46 mwM_22 mwM_44) rfl rfl rfl hd_X12_place ⟨Nat.le_of_ble_eq_true rfl, Nat.le_of_ble_eq_true rfl⟩) rfl hl.1 rfl hP hD hS hA (Nat.le_of_ble_eq_true rfl) ⟨Nat.le_of_ble_eq_true rfl, Nat.le_of_ble_eq_true rfl⟩ dX12_reached_34 (fun r1 H locs h hP hS => ?_)
    obtain ⟨hi2, h⟩ := h
    refine va_iald (f := fi 7) hx hb hK hP 7 6 rfl rfl hi2 dX12_reached_37 ?_
    refine lv_if_eq (tgt := 47) hx hb dX12_reached_38 (by decide) (fun c_38 => ?_) (fun c_38 => ?_)
    · have h := h.1 c_38
      refine lv_iload_n hx hb dX12_reached_47 rfl (lv_at hl 2 rfl) ?_
      exact W.iret (v := x2) hx hb hr (fun t ht hW => ⟨⟨_, (v, w, fi, fl), rfl, h, by rw [ht]; exact hP, va_K.moved hW.alike hK, hD⟩, hS.F ht⟩) hS.2.2 dX12_reached_48
    · have h := h.2 c_38
      refine lv_iinc (v := x2 + 1) (lv' := [(2, .int (x2 + 1)), (0, .ref g0), (1, .int x1)]) hx hb dX12_reached_41 hl (k := 2) rfl (iinc_1 _) (by decide) rfl (fun ls hl => ?_)
      refine lv_goto (tgt := 21) hx hb dX12_reached_44 (by decide) ?_
      exact hK21 _ _ _ _ _ _ H _ ls h hP hD hS (lv_sub hl [1, 2, 0] rfl)
set_option maxHeartbeats 4000000 in
set_option maxRecDepth 100000 in
theorem t_X12_reached_21 {p : Program} {l : Launch} {e : Env} {s : State} {m : MethodId} {args : Array Value} {below : List Frame} {meth : Method} {c : Code} {A : Nat → Prop} {dC : Nat → ClassId} {dI : Nat → Nat → Nat} {a : Nat → Nat} {ca : Nat → ClassId} {g0 : Nat}  {Q : Int32 → (Nat → Int32) → (Nat → Int64) → (Nat → Nat → Int32) → (Nat → Nat → Int64) → Prop} (hx : p.tables.exec = Jvm.exec) (hb : c.code = cX12_reached) (hr : meth.sig.returnType = (some .int)) (hts : ∀ w ∈ WM, w.before args s = true) (hown : s.vm.findClass RX12 = some m.cls) (hlocks : meth.locks = false) (hml : c.maxLocals = 3) (hA : ∀ q : Nat, s.heap.size ≤ q → A q) (hK : va_K (dC, dI) vwCl (mT ca) s)  : ∀ n : Nat, ∀ (v : Nat → Int32) (w : Nat → Int64) (fi : Nat → Nat → Int32) (fl : Nat → Nat → Int64) (x1 : Int32) (x2 : Int32) (H : Heap) (locs : List Loc) (ls : Array Slot), P_X12_reached_21  Q n v w fi fl x1 x2 → va_P (dC, dI) vwCl (mW a ca g0 v w fi fl) H → va_D A (mW a ca g0 v w fi fl) → va_S A s.heap H locs → lv_has ls 3 [(0, .ref g0), (1, .int x1), (2, .int x2)] → W p l e (headSpec wmX12_reached ({ frames := 8, cells := 0, slots := 0, locals := 120 })).room s m args below meth c H locs 0 0 (MQ below (va_Qi (S := MSt) (pI Q) (mB dC dI a ca g0 A) A) args s 0 0 A) (F0 m 21 ls []) := by
  intro n
  induction n with
  | zero => intro v w fi fl x1 x2 H locs ls h; exact h.elim
  | succ n ih => exact b_X12_reached_21 hx hb hr hts hown hlocks hml hA hK  ih
def P_X12_reached (v : Nat → Int32) (w : Nat → Int64) (fi : Nat → Nat → Int32) (fl : Nat → Nat → Int64) (p0 : Int32) (Q : Int32 → (Nat → Int32) → (Nat → Int64) → (Nat → Nat → Int32) → (Nat → Nat → Int64) → Prop) : Prop := P_X12_isList (va_up v 19 0) w fi fl p0 (fun r1 v1 w1 fi1 fl1 => ((¬ r1 = 0) → (∃ n9 : Nat, P_X12_reached_21  Q n9 v1 w1 fi1 fl1 p0 (0 : Int32))) ∧ ((r1 = 0) → (P_X12_fail v1 w1 fi1 fl1 1 (fun r2 v2 w2 fi2 fl2 => Q r2 v2 w2 fi2 fl2))))
set_option maxHeartbeats 4000000 in
set_option maxRecDepth 100000 in
theorem p_X12_reached (l : Launch) (dC : Nat → ClassId) (dI : Nat → Nat → Nat) (a : Nat → Nat) (ca : Nat → ClassId) (g0 : Nat) (v : Nat → Int32) (w : Nat → Int64) (fi : Nat → Nat → Int32) (fl : Nat → Nat → Int64) (p0 : Int32) (Q : Int32 → (Nat → Int32) → (Nat → Int64) → (Nat → Nat → Int32) → (Nat → Nat → Int64) → Prop) (h : P_X12_reached v w fi fl p0 Q) (sz : Nat) : Met l yX12_reached wmX12_reached ({ frames := 8, cells := 0, slots := 0, locals := 120 }) (va_Pc [.ref g0, .int p0] (mPre dC dI a ca g0 v w fi fl sz)) (va_Qi (S := MSt) (pI Q) (mB dC dI a ca g0 (va_A (mW a ca g0 v w fi fl) sz)) (va_A (mW a ca g0 v w fi fl) sz)) 0 0 (va_A (mW a ca g0 v w fi fl) sz) := by
  refine Met.ofW (cc := cX12_reached) (maxL := 3) (ret := (some .int)) (by decide) rfl ?_
  intro p e s m args below meth c s₁ B hml hv
  obtain ⟨rfl, hsz, hP, hK, hD0⟩ := hv
  have hx := B.exec
  have hb := B.bytes
  have hr := B.returns
  have hts : ∀ w ∈ WM, w.before _ s = true := fun w h => atoms_spec (ws := wmX12_reached) B.pre w (List.mem_cons_of_mem _ h)
  have hown : s.vm.findClass RX12 = some m.cls := findClass_of_methodNamed B.named
  have hlocks := B.notSynchronized
  subst hsz
  have hD := hD0.self (sz := s.heap.size)
  generalize hAe : va_A (mW a ca g0 v w fi fl) s.heap.size = A at hD ⊢
  have hA : ∀ q : Nat, s.heap.size ≤ q → A q := fun q h => by rw [← hAe]; exact Or.inr h
  generalize hH : s.heap = H at hP ⊢
  have hS : va_S A s.heap H [] := by rw [← hH]; exact va_S.rf
  have hl := lv_entry [.ref g0, .int p0] (n := 3) (Nat.le_of_ble_eq_true rfl)
  rw [lg_entry_eq]
  generalize (lg_sl [.ref g0, .int p0] ++ List.replicate (3 - (lg_sl [.ref g0, .int p0]).length) Slot.unset).toArray = ls at hl ⊢
  have hl : lv_has ls 3 [(0, .ref g0), (1, .int p0)] := hl
  unfold P_X12_reached at h
  refine lv_aload_n hx hb dX12_reached_0 rfl (lv_at hl 0 rfl) ?_
  refine lv_iconst (v := 0) hx hb dX12_reached_1 (by decide) ?_
  refine m_put_19 hx hb hts hinM hown hK hP hD hS (hts _ mwM_0) dX12_reached_2 (fun H locs hP hD hS => ?_)
  refine lv_aload_n hx hb dX12_reached_5 rfl (lv_at hl 0 rfl) ?_
  refine lv_iload_n hx hb dX12_reached_6 rfl (lv_at hl 1 rfl) ?_
  refine m_calli (rm := ({ frames := 4, cells := 0, slots := 0, locals := 60 })) (As := [.int p0]) (rest := []) (fun sz => p_X12_isList l dC dI a ca g0 _ _ _ _ p0 _ h sz) ⟨hx, hb, hml, hown, hts⟩ (cwV 1 hts (g_V gdM mwM_33 mwM_34 mwM_35 mwM_22 mwM_32) rfl rfl rfl hd_X12_isList ⟨Nat.le_of_ble_eq_true rfl, Nat.le_of_ble_eq_true rfl⟩) rfl hl.1 rfl hK hP hD hS hA (Nat.le_of_ble_eq_true rfl) ⟨Nat.le_of_ble_eq_true rfl, Nat.le_of_ble_eq_true rfl⟩ dX12_reached_7 (fun r1 v1 w1 fi1 fl1 H locs h hP hD hS => ?_)
  refine lv_if_ne (tgt := 19) hx hb dX12_reached_10 (by decide) (fun c_10 => ?_) (fun c_10 => ?_)
  · have h := h.1 c_10
    refine lv_iconst (v := 0) hx hb dX12_reached_19 (by decide) ?_
    refine lv_istore_n (lv' := [(2, .int 0), (0, .ref g0), (1, .int p0)]) hx hb dX12_reached_20 rfl hl (by decide) rfl (fun ls hl => ?_)
    obtain ⟨n9, h⟩ := h
    exact t_X12_reached_21 hx hb hr hts hown hlocks hml hA hK  n9 _ _ _ _ _ _ H _ ls h hP hD hS (lv_sub hl [1, 2, 0] rfl)
  · have h := h.2 c_10
    refine lv_aload_n hx hb dX12_reached_13 rfl (lv_at hl 0 rfl) ?_
    refine lv_iconst (v := 1) hx hb dX12_reached_14 (by decide) ?_
    refine m_calli (rm := ({ frames := 4, cells := 0, slots := 0, locals := 60 })) (As := [.int 1]) (rest := []) (fun sz => p_X12_fail l dC dI a ca g0 _ _ _ _ 1 _ h sz) ⟨hx, hb, hml, hown, hts⟩ (cwV 1 hts (g_V gdM mwM_19 mwM_20 mwM_21 mwM_22 mwM_18) rfl rfl rfl hd_X12_fail ⟨Nat.le_of_ble_eq_true rfl, Nat.le_of_ble_eq_true rfl⟩) rfl hl.1 rfl hK hP hD hS hA (Nat.le_of_ble_eq_true rfl) ⟨Nat.le_of_ble_eq_true rfl, Nat.le_of_ble_eq_true rfl⟩ dX12_reached_15 (fun r2 v2 w2 fi2 fl2 H locs h hP hD hS => ?_)
    exact W.iret (v := r2) hx hb hr (fun t ht hW => ⟨⟨_, (v2, w2, fi2, fl2), rfl, h, by rw [ht]; exact hP, va_K.moved hW.alike hK, hD⟩, hS.F ht⟩) hS.2.2 dX12_reached_18

abbrev wmX12_take : List Cond := .code yX12_take cX12_take 3 (some .int) :: WM
theorem hd_X12_take : yX12_take.cls = RX12 ∧ yX12_take.cls ≠ "java/lang/invoke/MethodHandle" ∧ yX12_take.cls ≠ "java/lang/invoke/VarHandle" ∧ (parseMethodDescriptor yX12_take.desc).map (fun d => d.parameters.length) = some 2 := by decide +kernel
def P_X12_take (v : Nat → Int32) (w : Nat → Int64) (fi : Nat → Nat → Int32) (fl : Nat → Nat → Int64) (p0 : Int32) (p1 : Int32) (Q : Int32 → (Nat → Int32) → (Nat → Int64) → (Nat → Nat → Int32) → (Nat → Nat → Int64) → Prop) : Prop := P_X12_some (va_up v 19 0) w fi fl 6 p0 p1 (fun r1 v1 w1 fi1 fl1 => Q r1 v1 w1 fi1 fl1)
set_option maxHeartbeats 4000000 in
set_option maxRecDepth 100000 in
theorem p_X12_take (l : Launch) (dC : Nat → ClassId) (dI : Nat → Nat → Nat) (a : Nat → Nat) (ca : Nat → ClassId) (g0 : Nat) (v : Nat → Int32) (w : Nat → Int64) (fi : Nat → Nat → Int32) (fl : Nat → Nat → Int64) (p0 : Int32) (p1 : Int32) (Q : Int32 → (Nat → Int32) → (Nat → Int64) → (Nat → Nat → Int32) → (Nat → Nat → Int64) → Prop) (h : P_X12_take v w fi fl p0 p1 Q) (sz : Nat) : Met l yX12_take wmX12_take ({ frames := 12, cells := 0, slots := 0, locals := 180 }) (va_Pc [.ref g0, .int p0, .int p1] (mPre dC dI a ca g0 v w fi fl sz)) (va_Qi (S := MSt) (pI Q) (mB dC dI a ca g0 (va_A (mW a ca g0 v w fi fl) sz)) (va_A (mW a ca g0 v w fi fl) sz)) 0 0 (va_A (mW a ca g0 v w fi fl) sz) := by
  refine Met.ofW (cc := cX12_take) (maxL := 3) (ret := (some .int)) (by decide) rfl ?_
  intro p e s m args below meth c s₁ B hml hv
  obtain ⟨rfl, hsz, hP, hK, hD0⟩ := hv
  have hx := B.exec
  have hb := B.bytes
  have hr := B.returns
  have hts : ∀ w ∈ WM, w.before _ s = true := fun w h => atoms_spec (ws := wmX12_take) B.pre w (List.mem_cons_of_mem _ h)
  have hown : s.vm.findClass RX12 = some m.cls := findClass_of_methodNamed B.named
  have hlocks := B.notSynchronized
  subst hsz
  have hD := hD0.self (sz := s.heap.size)
  generalize hAe : va_A (mW a ca g0 v w fi fl) s.heap.size = A at hD ⊢
  have hA : ∀ q : Nat, s.heap.size ≤ q → A q := fun q h => by rw [← hAe]; exact Or.inr h
  generalize hH : s.heap = H at hP ⊢
  have hS : va_S A s.heap H [] := by rw [← hH]; exact va_S.rf
  have hl := lv_entry [.ref g0, .int p0, .int p1] (n := 3) (Nat.le_of_ble_eq_true rfl)
  rw [lg_entry_eq]
  generalize (lg_sl [.ref g0, .int p0, .int p1] ++ List.replicate (3 - (lg_sl [.ref g0, .int p0, .int p1]).length) Slot.unset).toArray = ls at hl ⊢
  have hl : lv_has ls 3 [(0, .ref g0), (1, .int p0), (2, .int p1)] := hl
  unfold P_X12_take at h
  refine lv_aload_n hx hb dX12_take_0 rfl (lv_at hl 0 rfl) ?_
  refine lv_iconst (v := 0) hx hb dX12_take_1 (by decide) ?_
  refine m_put_19 hx hb hts hinM hown hK hP hD hS (hts _ mwM_0) dX12_take_2 (fun H locs hP hD hS => ?_)
  refine lv_aload_n hx hb dX12_take_5 rfl (lv_at hl 0 rfl) ?_
  refine lv_bipush (v := 6) hx hb dX12_take_6 (by decide) ?_
  refine lv_iload_n hx hb dX12_take_8 rfl (lv_at hl 1 rfl) ?_
  refine lv_iload_n hx hb dX12_take_9 rfl (lv_at hl 2 rfl) ?_
  refine m_calli (rm := ({ frames := 8, cells := 0, slots := 0, locals := 120 })) (As := [.int 6, .int p0, .int p1]) (rest := []) (fun sz => p_X12_some l dC dI a ca g0 _ _ _ _ 6 p0 p1 _ h sz) ⟨hx, hb, hml, hown, hts⟩ (cwV 3 hts (g_V gdM mwM_62 mwM_63 mwM_64 mwM_22 mwM_61) rfl rfl rfl hd_X12_some ⟨Nat.le_of_ble_eq_true rfl, Nat.le_of_ble_eq_true rfl⟩) rfl hl.1 rfl hK hP hD hS hA (Nat.le_of_ble_eq_true rfl) ⟨Nat.le_of_ble_eq_true rfl, Nat.le_of_ble_eq_true rfl⟩ dX12_take_10 (fun r1 v1 w1 fi1 fl1 H locs h hP hD hS => ?_)
  exact W.iret (v := r1) hx hb hr (fun t ht hW => ⟨⟨_, (v1, w1, fi1, fl1), rfl, h, by rw [ht]; exact hP, va_K.moved hW.alike hK, hD⟩, hS.F ht⟩) hS.2.2 dX12_take_13

abbrev wmX12_drop : List Cond := .code yX12_drop cX12_drop 3 (some .int) :: WM
theorem hd_X12_drop : yX12_drop.cls = RX12 ∧ yX12_drop.cls ≠ "java/lang/invoke/MethodHandle" ∧ yX12_drop.cls ≠ "java/lang/invoke/VarHandle" ∧ (parseMethodDescriptor yX12_drop.desc).map (fun d => d.parameters.length) = some 2 := by decide +kernel
def P_X12_drop (v : Nat → Int32) (w : Nat → Int64) (fi : Nat → Nat → Int32) (fl : Nat → Nat → Int64) (p0 : Int32) (p1 : Int32) (Q : Int32 → (Nat → Int32) → (Nat → Int64) → (Nat → Nat → Int32) → (Nat → Nat → Int64) → Prop) : Prop := P_X12_some (va_up v 19 0) w fi fl 7 p0 p1 (fun r1 v1 w1 fi1 fl1 => Q r1 v1 w1 fi1 fl1)
set_option maxHeartbeats 4000000 in
set_option maxRecDepth 100000 in
theorem p_X12_drop (l : Launch) (dC : Nat → ClassId) (dI : Nat → Nat → Nat) (a : Nat → Nat) (ca : Nat → ClassId) (g0 : Nat) (v : Nat → Int32) (w : Nat → Int64) (fi : Nat → Nat → Int32) (fl : Nat → Nat → Int64) (p0 : Int32) (p1 : Int32) (Q : Int32 → (Nat → Int32) → (Nat → Int64) → (Nat → Nat → Int32) → (Nat → Nat → Int64) → Prop) (h : P_X12_drop v w fi fl p0 p1 Q) (sz : Nat) : Met l yX12_drop wmX12_drop ({ frames := 12, cells := 0, slots := 0, locals := 180 }) (va_Pc [.ref g0, .int p0, .int p1] (mPre dC dI a ca g0 v w fi fl sz)) (va_Qi (S := MSt) (pI Q) (mB dC dI a ca g0 (va_A (mW a ca g0 v w fi fl) sz)) (va_A (mW a ca g0 v w fi fl) sz)) 0 0 (va_A (mW a ca g0 v w fi fl) sz) := by
  refine Met.ofW (cc := cX12_drop) (maxL := 3) (ret := (some .int)) (by decide) rfl ?_
  intro p e s m args below meth c s₁ B hml hv
  obtain ⟨rfl, hsz, hP, hK, hD0⟩ := hv
  have hx := B.exec
  have hb := B.bytes
  have hr := B.returns
  have hts : ∀ w ∈ WM, w.before _ s = true := fun w h => atoms_spec (ws := wmX12_drop) B.pre w (List.mem_cons_of_mem _ h)
  have hown : s.vm.findClass RX12 = some m.cls := findClass_of_methodNamed B.named
  have hlocks := B.notSynchronized
  subst hsz
  have hD := hD0.self (sz := s.heap.size)
  generalize hAe : va_A (mW a ca g0 v w fi fl) s.heap.size = A at hD ⊢
  have hA : ∀ q : Nat, s.heap.size ≤ q → A q := fun q h => by rw [← hAe]; exact Or.inr h
  generalize hH : s.heap = H at hP ⊢
  have hS : va_S A s.heap H [] := by rw [← hH]; exact va_S.rf
  have hl := lv_entry [.ref g0, .int p0, .int p1] (n := 3) (Nat.le_of_ble_eq_true rfl)
  rw [lg_entry_eq]
  generalize (lg_sl [.ref g0, .int p0, .int p1] ++ List.replicate (3 - (lg_sl [.ref g0, .int p0, .int p1]).length) Slot.unset).toArray = ls at hl ⊢
  have hl : lv_has ls 3 [(0, .ref g0), (1, .int p0), (2, .int p1)] := hl
  unfold P_X12_drop at h
  refine lv_aload_n hx hb dX12_drop_0 rfl (lv_at hl 0 rfl) ?_
  refine lv_iconst (v := 0) hx hb dX12_drop_1 (by decide) ?_
  refine m_put_19 hx hb hts hinM hown hK hP hD hS (hts _ mwM_0) dX12_drop_2 (fun H locs hP hD hS => ?_)
  refine lv_aload_n hx hb dX12_drop_5 rfl (lv_at hl 0 rfl) ?_
  refine lv_bipush (v := 7) hx hb dX12_drop_6 (by decide) ?_
  refine lv_iload_n hx hb dX12_drop_8 rfl (lv_at hl 1 rfl) ?_
  refine lv_iload_n hx hb dX12_drop_9 rfl (lv_at hl 2 rfl) ?_
  refine m_calli (rm := ({ frames := 8, cells := 0, slots := 0, locals := 120 })) (As := [.int 7, .int p0, .int p1]) (rest := []) (fun sz => p_X12_some l dC dI a ca g0 _ _ _ _ 7 p0 p1 _ h sz) ⟨hx, hb, hml, hown, hts⟩ (cwV 3 hts (g_V gdM mwM_62 mwM_63 mwM_64 mwM_22 mwM_61) rfl rfl rfl hd_X12_some ⟨Nat.le_of_ble_eq_true rfl, Nat.le_of_ble_eq_true rfl⟩) rfl hl.1 rfl hK hP hD hS hA (Nat.le_of_ble_eq_true rfl) ⟨Nat.le_of_ble_eq_true rfl, Nat.le_of_ble_eq_true rfl⟩ dX12_drop_10 (fun r1 v1 w1 fi1 fl1 H locs h hP hD hS => ?_)
  exact W.iret (v := r1) hx hb hr (fun t ht hW => ⟨⟨_, (v1, w1, fi1, fl1), rfl, h, by rw [ht]; exact hP, va_K.moved hW.alike hK, hD⟩, hS.F ht⟩) hS.2.2 dX12_drop_13

abbrev wmX12_keep : List Cond := .code yX12_keep cX12_keep 5 (some .int) :: WM
theorem hd_X12_keep : yX12_keep.cls = RX12 ∧ yX12_keep.cls ≠ "java/lang/invoke/MethodHandle" ∧ yX12_keep.cls ≠ "java/lang/invoke/VarHandle" ∧ (parseMethodDescriptor yX12_keep.desc).map (fun d => d.parameters.length) = some 3 := by decide +kernel
def P_X12_keep (v : Nat → Int32) (w : Nat → Int64) (fi : Nat → Nat → Int32) (fl : Nat → Nat → Int64) (p0 : Int32) (p1 : Int32) (p2 : Int64) (Q : Int32 → (Nat → Int32) → (Nat → Int64) → (Nat → Nat → Int32) → (Nat → Nat → Int64) → Prop) : Prop := P_X12_by (va_up v 19 0) w fi fl 8 p0 p1 p2 (fun r1 v1 w1 fi1 fl1 => Q r1 v1 w1 fi1 fl1)
set_option maxHeartbeats 4000000 in
set_option maxRecDepth 100000 in
theorem p_X12_keep (l : Launch) (dC : Nat → ClassId) (dI : Nat → Nat → Nat) (a : Nat → Nat) (ca : Nat → ClassId) (g0 : Nat) (v : Nat → Int32) (w : Nat → Int64) (fi : Nat → Nat → Int32) (fl : Nat → Nat → Int64) (p0 : Int32) (p1 : Int32) (p2 : Int64) (Q : Int32 → (Nat → Int32) → (Nat → Int64) → (Nat → Nat → Int32) → (Nat → Nat → Int64) → Prop) (h : P_X12_keep v w fi fl p0 p1 p2 Q) (sz : Nat) : Met l yX12_keep wmX12_keep ({ frames := 12, cells := 0, slots := 0, locals := 180 }) (va_Pc [.ref g0, .int p0, .int p1, .long p2] (mPre dC dI a ca g0 v w fi fl sz)) (va_Qi (S := MSt) (pI Q) (mB dC dI a ca g0 (va_A (mW a ca g0 v w fi fl) sz)) (va_A (mW a ca g0 v w fi fl) sz)) 0 0 (va_A (mW a ca g0 v w fi fl) sz) := by
  refine Met.ofW (cc := cX12_keep) (maxL := 5) (ret := (some .int)) (by decide) rfl ?_
  intro p e s m args below meth c s₁ B hml hv
  obtain ⟨rfl, hsz, hP, hK, hD0⟩ := hv
  have hx := B.exec
  have hb := B.bytes
  have hr := B.returns
  have hts : ∀ w ∈ WM, w.before _ s = true := fun w h => atoms_spec (ws := wmX12_keep) B.pre w (List.mem_cons_of_mem _ h)
  have hown : s.vm.findClass RX12 = some m.cls := findClass_of_methodNamed B.named
  have hlocks := B.notSynchronized
  subst hsz
  have hD := hD0.self (sz := s.heap.size)
  generalize hAe : va_A (mW a ca g0 v w fi fl) s.heap.size = A at hD ⊢
  have hA : ∀ q : Nat, s.heap.size ≤ q → A q := fun q h => by rw [← hAe]; exact Or.inr h
  generalize hH : s.heap = H at hP ⊢
  have hS : va_S A s.heap H [] := by rw [← hH]; exact va_S.rf
  have hl := lv_entry [.ref g0, .int p0, .int p1, .long p2] (n := 5) (Nat.le_of_ble_eq_true rfl)
  rw [lg_entry_eq]
  generalize (lg_sl [.ref g0, .int p0, .int p1, .long p2] ++ List.replicate (5 - (lg_sl [.ref g0, .int p0, .int p1, .long p2]).length) Slot.unset).toArray = ls at hl ⊢
  have hl : lv_has ls 5 [(0, .ref g0), (1, .int p0), (2, .int p1), (3, .long p2)] := hl
  unfold P_X12_keep at h
  refine lv_aload_n hx hb dX12_keep_0 rfl (lv_at hl 0 rfl) ?_
  refine lv_iconst (v := 0) hx hb dX12_keep_1 (by decide) ?_
  refine m_put_19 hx hb hts hinM hown hK hP hD hS (hts _ mwM_0) dX12_keep_2 (fun H locs hP hD hS => ?_)
  refine lv_aload_n hx hb dX12_keep_5 rfl (lv_at hl 0 rfl) ?_
  refine lv_bipush (v := 8) hx hb dX12_keep_6 (by decide) ?_
  refine lv_iload_n hx hb dX12_keep_8 rfl (lv_at hl 1 rfl) ?_
  refine lv_iload_n hx hb dX12_keep_9 rfl (lv_at hl 2 rfl) ?_
  refine lv_lload_n hx hb dX12_keep_10 rfl (lv_at hl 3 rfl) ?_
  refine m_calli (rm := ({ frames := 8, cells := 0, slots := 0, locals := 120 })) (As := [.int 8, .int p0, .int p1, .long p2]) (rest := []) (fun sz => p_X12_by l dC dI a ca g0 _ _ _ _ 8 p0 p1 p2 _ h sz) ⟨hx, hb, hml, hown, hts⟩ (cwV 4 hts (g_V gdM mwM_66 mwM_67 mwM_68 mwM_22 mwM_65) rfl rfl rfl hd_X12_by ⟨Nat.le_of_ble_eq_true rfl, Nat.le_of_ble_eq_true rfl⟩) rfl hl.1 rfl hK hP hD hS hA (Nat.le_of_ble_eq_true rfl) ⟨Nat.le_of_ble_eq_true rfl, Nat.le_of_ble_eq_true rfl⟩ dX12_keep_11 (fun r1 v1 w1 fi1 fl1 H locs h hP hD hS => ?_)
  exact W.iret (v := r1) hx hb hr (fun t ht hW => ⟨⟨_, (v1, w1, fi1, fl1), rfl, h, by rw [ht]; exact hP, va_K.moved hW.alike hK, hD⟩, hS.F ht⟩) hS.2.2 dX12_keep_14

abbrev wmX12_during : List Cond := .code yX12_during cX12_during 5 (some .int) :: WM
theorem hd_X12_during : yX12_during.cls = RX12 ∧ yX12_during.cls ≠ "java/lang/invoke/MethodHandle" ∧ yX12_during.cls ≠ "java/lang/invoke/VarHandle" ∧ (parseMethodDescriptor yX12_during.desc).map (fun d => d.parameters.length) = some 3 := by decide +kernel
def P_X12_during (v : Nat → Int32) (w : Nat → Int64) (fi : Nat → Nat → Int32) (fl : Nat → Nat → Int64) (p0 : Int32) (p1 : Int32) (p2 : Int64) (Q : Int32 → (Nat → Int32) → (Nat → Int64) → (Nat → Nat → Int32) → (Nat → Nat → Int64) → Prop) : Prop := P_X12_by (va_up v 19 0) w fi fl 9 p0 p1 p2 (fun r1 v1 w1 fi1 fl1 => Q r1 v1 w1 fi1 fl1)
set_option maxHeartbeats 4000000 in
set_option maxRecDepth 100000 in
theorem p_X12_during (l : Launch) (dC : Nat → ClassId) (dI : Nat → Nat → Nat) (a : Nat → Nat) (ca : Nat → ClassId) (g0 : Nat) (v : Nat → Int32) (w : Nat → Int64) (fi : Nat → Nat → Int32) (fl : Nat → Nat → Int64) (p0 : Int32) (p1 : Int32) (p2 : Int64) (Q : Int32 → (Nat → Int32) → (Nat → Int64) → (Nat → Nat → Int32) → (Nat → Nat → Int64) → Prop) (h : P_X12_during v w fi fl p0 p1 p2 Q) (sz : Nat) : Met l yX12_during wmX12_during ({ frames := 12, cells := 0, slots := 0, locals := 180 }) (va_Pc [.ref g0, .int p0, .int p1, .long p2] (mPre dC dI a ca g0 v w fi fl sz)) (va_Qi (S := MSt) (pI Q) (mB dC dI a ca g0 (va_A (mW a ca g0 v w fi fl) sz)) (va_A (mW a ca g0 v w fi fl) sz)) 0 0 (va_A (mW a ca g0 v w fi fl) sz) := by
  refine Met.ofW (cc := cX12_during) (maxL := 5) (ret := (some .int)) (by decide) rfl ?_
  intro p e s m args below meth c s₁ B hml hv
  obtain ⟨rfl, hsz, hP, hK, hD0⟩ := hv
  have hx := B.exec
  have hb := B.bytes
  have hr := B.returns
  have hts : ∀ w ∈ WM, w.before _ s = true := fun w h => atoms_spec (ws := wmX12_during) B.pre w (List.mem_cons_of_mem _ h)
  have hown : s.vm.findClass RX12 = some m.cls := findClass_of_methodNamed B.named
  have hlocks := B.notSynchronized
  subst hsz
  have hD := hD0.self (sz := s.heap.size)
  generalize hAe : va_A (mW a ca g0 v w fi fl) s.heap.size = A at hD ⊢
  have hA : ∀ q : Nat, s.heap.size ≤ q → A q := fun q h => by rw [← hAe]; exact Or.inr h
  generalize hH : s.heap = H at hP ⊢
  have hS : va_S A s.heap H [] := by rw [← hH]; exact va_S.rf
  have hl := lv_entry [.ref g0, .int p0, .int p1, .long p2] (n := 5) (Nat.le_of_ble_eq_true rfl)
  rw [lg_entry_eq]
  generalize (lg_sl [.ref g0, .int p0, .int p1, .long p2] ++ List.replicate (5 - (lg_sl [.ref g0, .int p0, .int p1, .long p2]).length) Slot.unset).toArray = ls at hl ⊢
  have hl : lv_has ls 5 [(0, .ref g0), (1, .int p0), (2, .int p1), (3, .long p2)] := hl
  unfold P_X12_during at h
  refine lv_aload_n hx hb dX12_during_0 rfl (lv_at hl 0 rfl) ?_
  refine lv_iconst (v := 0) hx hb dX12_during_1 (by decide) ?_
  refine m_put_19 hx hb hts hinM hown hK hP hD hS (hts _ mwM_0) dX12_during_2 (fun H locs hP hD hS => ?_)
  refine lv_aload_n hx hb dX12_during_5 rfl (lv_at hl 0 rfl) ?_
  refine lv_bipush (v := 9) hx hb dX12_during_6 (by decide) ?_
  refine lv_iload_n hx hb dX12_during_8 rfl (lv_at hl 1 rfl) ?_
  refine lv_iload_n hx hb dX12_during_9 rfl (lv_at hl 2 rfl) ?_
  refine lv_lload_n hx hb dX12_during_10 rfl (lv_at hl 3 rfl) ?_
  refine m_calli (rm := ({ frames := 8, cells := 0, slots := 0, locals := 120 })) (As := [.int 9, .int p0, .int p1, .long p2]) (rest := []) (fun sz => p_X12_by l dC dI a ca g0 _ _ _ _ 9 p0 p1 p2 _ h sz) ⟨hx, hb, hml, hown, hts⟩ (cwV 4 hts (g_V gdM mwM_66 mwM_67 mwM_68 mwM_22 mwM_65) rfl rfl rfl hd_X12_by ⟨Nat.le_of_ble_eq_true rfl, Nat.le_of_ble_eq_true rfl⟩) rfl hl.1 rfl hK hP hD hS hA (Nat.le_of_ble_eq_true rfl) ⟨Nat.le_of_ble_eq_true rfl, Nat.le_of_ble_eq_true rfl⟩ dX12_during_11 (fun r1 v1 w1 fi1 fl1 H locs h hP hD hS => ?_)
  exact W.iret (v := r1) hx hb hr (fun t ht hW => ⟨⟨_, (v1, w1, fi1, fl1), rfl, h, by rw [ht]; exact hP, va_K.moved hW.alike hK, hD⟩, hS.F ht⟩) hS.2.2 dX12_during_14

abbrev wmX12_after : List Cond := .code yX12_after cX12_after 5 (some .int) :: WM
theorem hd_X12_after : yX12_after.cls = RX12 ∧ yX12_after.cls ≠ "java/lang/invoke/MethodHandle" ∧ yX12_after.cls ≠ "java/lang/invoke/VarHandle" ∧ (parseMethodDescriptor yX12_after.desc).map (fun d => d.parameters.length) = some 3 := by decide +kernel
def P_X12_after (v : Nat → Int32) (w : Nat → Int64) (fi : Nat → Nat → Int32) (fl : Nat → Nat → Int64) (p0 : Int32) (p1 : Int32) (p2 : Int64) (Q : Int32 → (Nat → Int32) → (Nat → Int64) → (Nat → Nat → Int32) → (Nat → Nat → Int64) → Prop) : Prop := P_X12_by (va_up v 19 0) w fi fl 10 p0 p1 p2 (fun r1 v1 w1 fi1 fl1 => Q r1 v1 w1 fi1 fl1)
set_option maxHeartbeats 4000000 in
set_option maxRecDepth 100000 in
theorem p_X12_after (l : Launch) (dC : Nat → ClassId) (dI : Nat → Nat → Nat) (a : Nat → Nat) (ca : Nat → ClassId) (g0 : Nat) (v : Nat → Int32) (w : Nat → Int64) (fi : Nat → Nat → Int32) (fl : Nat → Nat → Int64) (p0 : Int32) (p1 : Int32) (p2 : Int64) (Q : Int32 → (Nat → Int32) → (Nat → Int64) → (Nat → Nat → Int32) → (Nat → Nat → Int64) → Prop) (h : P_X12_after v w fi fl p0 p1 p2 Q) (sz : Nat) : Met l yX12_after wmX12_after ({ frames := 12, cells := 0, slots := 0, locals := 180 }) (va_Pc [.ref g0, .int p0, .int p1, .long p2] (mPre dC dI a ca g0 v w fi fl sz)) (va_Qi (S := MSt) (pI Q) (mB dC dI a ca g0 (va_A (mW a ca g0 v w fi fl) sz)) (va_A (mW a ca g0 v w fi fl) sz)) 0 0 (va_A (mW a ca g0 v w fi fl) sz) := by
  refine Met.ofW (cc := cX12_after) (maxL := 5) (ret := (some .int)) (by decide) rfl ?_
  intro p e s m args below meth c s₁ B hml hv
  obtain ⟨rfl, hsz, hP, hK, hD0⟩ := hv
  have hx := B.exec
  have hb := B.bytes
  have hr := B.returns
  have hts : ∀ w ∈ WM, w.before _ s = true := fun w h => atoms_spec (ws := wmX12_after) B.pre w (List.mem_cons_of_mem _ h)
  have hown : s.vm.findClass RX12 = some m.cls := findClass_of_methodNamed B.named
  have hlocks := B.notSynchronized
  subst hsz
  have hD := hD0.self (sz := s.heap.size)
  generalize hAe : va_A (mW a ca g0 v w fi fl) s.heap.size = A at hD ⊢
  have hA : ∀ q : Nat, s.heap.size ≤ q → A q := fun q h => by rw [← hAe]; exact Or.inr h
  generalize hH : s.heap = H at hP ⊢
  have hS : va_S A s.heap H [] := by rw [← hH]; exact va_S.rf
  have hl := lv_entry [.ref g0, .int p0, .int p1, .long p2] (n := 5) (Nat.le_of_ble_eq_true rfl)
  rw [lg_entry_eq]
  generalize (lg_sl [.ref g0, .int p0, .int p1, .long p2] ++ List.replicate (5 - (lg_sl [.ref g0, .int p0, .int p1, .long p2]).length) Slot.unset).toArray = ls at hl ⊢
  have hl : lv_has ls 5 [(0, .ref g0), (1, .int p0), (2, .int p1), (3, .long p2)] := hl
  unfold P_X12_after at h
  refine lv_aload_n hx hb dX12_after_0 rfl (lv_at hl 0 rfl) ?_
  refine lv_iconst (v := 0) hx hb dX12_after_1 (by decide) ?_
  refine m_put_19 hx hb hts hinM hown hK hP hD hS (hts _ mwM_0) dX12_after_2 (fun H locs hP hD hS => ?_)
  refine lv_aload_n hx hb dX12_after_5 rfl (lv_at hl 0 rfl) ?_
  refine lv_bipush (v := 10) hx hb dX12_after_6 (by decide) ?_
  refine lv_iload_n hx hb dX12_after_8 rfl (lv_at hl 1 rfl) ?_
  refine lv_iload_n hx hb dX12_after_9 rfl (lv_at hl 2 rfl) ?_
  refine lv_lload_n hx hb dX12_after_10 rfl (lv_at hl 3 rfl) ?_
  refine m_calli (rm := ({ frames := 8, cells := 0, slots := 0, locals := 120 })) (As := [.int 10, .int p0, .int p1, .long p2]) (rest := []) (fun sz => p_X12_by l dC dI a ca g0 _ _ _ _ 10 p0 p1 p2 _ h sz) ⟨hx, hb, hml, hown, hts⟩ (cwV 4 hts (g_V gdM mwM_66 mwM_67 mwM_68 mwM_22 mwM_65) rfl rfl rfl hd_X12_by ⟨Nat.le_of_ble_eq_true rfl, Nat.le_of_ble_eq_true rfl⟩) rfl hl.1 rfl hK hP hD hS hA (Nat.le_of_ble_eq_true rfl) ⟨Nat.le_of_ble_eq_true rfl, Nat.le_of_ble_eq_true rfl⟩ dX12_after_11 (fun r1 v1 w1 fi1 fl1 H locs h hP hD hS => ?_)
  exact W.iret (v := r1) hx hb hr (fun t ht hW => ⟨⟨_, (v1, w1, fi1, fl1), rfl, h, by rw [ht]; exact hP, va_K.moved hW.alike hK, hD⟩, hS.F ht⟩) hS.2.2 dX12_after_14

abbrev wmX12_needItem : List Cond := .code yX12_needItem cX12_needItem 4 (some .int) :: WM
theorem hd_X12_needItem : yX12_needItem.cls = RX12 ∧ yX12_needItem.cls ≠ "java/lang/invoke/MethodHandle" ∧ yX12_needItem.cls ≠ "java/lang/invoke/VarHandle" ∧ (parseMethodDescriptor yX12_needItem.desc).map (fun d => d.parameters.length) = some 2 := by decide +kernel
def P_X12_needItem (v : Nat → Int32) (w : Nat → Int64) (fi : Nat → Nat → Int32) (fl : Nat → Nat → Int64) (p0 : Int32) (p1 : Int32) (Q : Int32 → (Nat → Int32) → (Nat → Int64) → (Nat → Nat → Int32) → (Nat → Nat → Int64) → Prop) : Prop := P_X12_ownPlace v w fi fl p0 p1 (fun r1 v1 w1 fi1 fl1 => vp_in r1 9600 ∧ vp_in r1 9600 ∧ ((¬ (fi1 8 r1.toNatClampNeg) = 0) → (Q (-1) (va_up v1 23 (fi1 8 r1.toNatClampNeg)) (va_up w1 25 (fl1 9 r1.toNatClampNeg)) fi1 fl1)) ∧ (((fi1 8 r1.toNatClampNeg) = 0) → (Q ((2 * r1) + 1) (va_up v1 23 (fi1 8 r1.toNatClampNeg)) (va_up w1 25 (fl1 9 r1.toNatClampNeg)) fi1 fl1)))
set_option maxHeartbeats 4000000 in
set_option maxRecDepth 100000 in
theorem p_X12_needItem (l : Launch) (dC : Nat → ClassId) (dI : Nat → Nat → Nat) (a : Nat → Nat) (ca : Nat → ClassId) (g0 : Nat) (v : Nat → Int32) (w : Nat → Int64) (fi : Nat → Nat → Int32) (fl : Nat → Nat → Int64) (p0 : Int32) (p1 : Int32) (Q : Int32 → (Nat → Int32) → (Nat → Int64) → (Nat → Nat → Int32) → (Nat → Nat → Int64) → Prop) (h : P_X12_needItem v w fi fl p0 p1 Q) (sz : Nat) : Met l yX12_needItem wmX12_needItem ({ frames := 12, cells := 0, slots := 0, locals := 180 }) (va_Pc [.ref g0, .int p0, .int p1] (mPre dC dI a ca g0 v w fi fl sz)) (va_Qi (S := MSt) (pI Q) (mB dC dI a ca g0 (va_A (mW a ca g0 v w fi fl) sz)) (va_A (mW a ca g0 v w fi fl) sz)) 0 0 (va_A (mW a ca g0 v w fi fl) sz) := by
  refine Met.ofW (cc := cX12_needItem) (maxL := 4) (ret := (some .int)) (by decide) rfl ?_
  intro p e s m args below meth c s₁ B hml hv
  obtain ⟨rfl, hsz, hP, hK, hD0⟩ := hv
  have hx := B.exec
  have hb := B.bytes
  have hr := B.returns
  have hts : ∀ w ∈ WM, w.before _ s = true := fun w h => atoms_spec (ws := wmX12_needItem) B.pre w (List.mem_cons_of_mem _ h)
  have hown : s.vm.findClass RX12 = some m.cls := findClass_of_methodNamed B.named
  have hlocks := B.notSynchronized
  subst hsz
  have hD := hD0.self (sz := s.heap.size)
  generalize hAe : va_A (mW a ca g0 v w fi fl) s.heap.size = A at hD ⊢
  have hA : ∀ q : Nat, s.heap.size ≤ q → A q := fun q h => by rw [← hAe]; exact Or.inr h
  generalize hH : s.heap = H at hP ⊢
  have hS : va_S A s.heap H [] := by rw [← hH]; exact va_S.rf
  have hl := lv_entry [.ref g0, .int p0, .int p1] (n := 4) (Nat.le_of_ble_eq_true rfl)
  rw [lg_entry_eq]
  generalize (lg_sl [.ref g0, .int p0, .int p1] ++ List.replicate (4 - (lg_sl [.ref g0, .int p0, .int p1]).length) Slot.unset).toArray = ls at hl ⊢
  have hl : lv_has ls 4 [(0, .ref g0), (1, .int p0), (2, .int p1)] := hl
  unfold P_X12_needItem at h
  refine lv_aload_n hx hb dX12_needItem_0 rfl (lv_at hl 0 rfl) ?_
  refine lv_iload_n hx hb dX12_needItem_1 rfl (lv_at hl 1 rfl) ?_
  refine lv_iload_n hx hb dX12_needItem_2 rfl (lv_at hl 2 rfl) ?_
  refine m_calli (rm := ({ frames := 8, cells := 0, slots := 0, locals := 120 })) (As := [.int p0, .int p1]) (rest := []) (fun sz => p_X12_ownPlace l dC dI a ca g0 _ _ _ _ p0 p1 _ h sz) ⟨hx, hb, hml, hown, hts⟩ (cwV 2 hts (g_V gdM mwM_70 mwM_71 mwM_72 mwM_22 mwM_69) rfl rfl rfl hd_X12_ownPlace ⟨Nat.le_of_ble_eq_true rfl, Nat.le_of_ble_eq_true rfl⟩) rfl hl.1 rfl hK hP hD hS hA (Nat.le_of_ble_eq_true rfl) ⟨Nat.le_of_ble_eq_true rfl, Nat.le_of_ble_eq_true rfl⟩ dX12_needItem_3 (fun r1 v1 w1 fi1 fl1 H locs h hP hD hS => ?_)
  refine lv_istore_n (lv' := [(3, .int r1), (0, .ref g0), (1, .int p0), (2, .int p1)]) hx hb dX12_needItem_6 rfl hl (by decide) rfl (fun ls hl => ?_)
  refine lv_aload_n hx hb dX12_needItem_7 rfl (lv_at hl 1 rfl) ?_
  refine lv_aload_n hx hb dX12_needItem_8 rfl (lv_at hl 1 rfl) ?_
  refine va_get (D := (dC, dI)) (ci := 11) (v := .ref (a 8)) (C := RX12) (T := TX12) (N := 32) hx hb hts hinM hown hK hP 0 rfl rfl 8 (by decide) (hts _ mwM_73) (fun _ h9 => h9) rfl dX12_needItem_9 ?_
  refine lv_iload_n hx hb dX12_needItem_12 rfl (lv_at hl 0 rfl) ?_
  obtain ⟨hi2, h⟩ := h
  refine va_iald (f := fi1 8) hx hb hK hP 8 7 rfl rfl hi2 dX12_needItem_13 ?_
  refine m_put_23 hx hb hts hinM hown hK hP hD hS (hts _ mwM_47) dX12_needItem_14 (fun H locs hP hD hS => ?_)
  refine lv_aload_n hx hb dX12_needItem_17 rfl (lv_at hl 1 rfl) ?_
  refine lv_aload_n hx hb dX12_needItem_18 rfl (lv_at hl 1 rfl) ?_
  refine va_get (D := (dC, dI)) (ci := 11) (v := .ref (a 9)) (C := RX12) (T := TX12) (N := 32) hx hb hts hinM hown hK hP 0 rfl rfl 9 (by decide) (hts _ mwM_74) (fun _ h9 => h9) rfl dX12_needItem_19 ?_
  refine lv_iload_n hx hb dX12_needItem_22 rfl (lv_at hl 0 rfl) ?_
  obtain ⟨hi3, h⟩ := h
  refine va_lald (f := fl1 9) hx hb hK hP 9 8 rfl rfl hi3 dX12_needItem_23 ?_
  refine m_put_25 hx hb hts hinM hown hK hP hD hS (hts _ mwM_56) dX12_needItem_24 (fun H locs hP hD hS => ?_)
  refine lv_aload_n hx hb dX12_needItem_27 rfl (lv_at hl 1 rfl) ?_
  refine va_get (D := (dC, dI)) (ci := 11) (v := .int (fi1 8 r1.toNatClampNeg)) (C := RX12) (T := TX12) (N := 32) hx hb hts hinM hown hK hP 0 rfl rfl 23 (by decide) (hts _ mwM_47) (fun _ h9 => h9) rfl dX12_needItem_28 ?_
  refine lv_if_ne (tgt := 42) hx hb dX12_needItem_31 (by decide) (fun c_31 => ?_) (fun c_31 => ?_)
  · have h := h.1 c_31
    refine lv_iconst (v := (-1)) hx hb dX12_needItem_42 (by decide) ?_
    exact W.iret (v := (-1)) hx hb hr (fun t ht hW => ⟨⟨_, (va_up v1 23 (fi1 8 r1.toNatClampNeg), va_up w1 25 (fl1 9 r1.toNatClampNeg), fi1, fl1), rfl, h, by rw [ht]; exact hP, va_K.moved hW.alike hK, hD⟩, hS.F ht⟩) hS.2.2 dX12_needItem_43
  · have h := h.2 c_31
    refine lv_iconst (v := 2) hx hb dX12_needItem_34 (by decide) ?_
    refine lv_iload_n hx hb dX12_needItem_35 rfl (lv_at hl 0 rfl) ?_
    refine lv_imul hx hb dX12_needItem_36 ?_
    refine lv_iconst (v := 1) hx hb dX12_needItem_37 (by decide) ?_
    refine lv_iadd hx hb dX12_needItem_38 ?_
    refine lv_goto (tgt := 43) hx hb dX12_needItem_39 (by decide) ?_
    exact W.iret (v := ((2 * r1) + 1)) hx hb hr (fun t ht hW => ⟨⟨_, (va_up v1 23 (fi1 8 r1.toNatClampNeg), va_up w1 25 (fl1 9 r1.toNatClampNeg), fi1, fl1), rfl, h, by rw [ht]; exact hP, va_K.moved hW.alike hK, hD⟩, hS.F ht⟩) hS.2.2 dX12_needItem_43

abbrev wmX12_like : List Cond := .code yX12_like cX12_like 5 (some .int) :: WM
theorem hd_X12_like : yX12_like.cls = RX12 ∧ yX12_like.cls ≠ "java/lang/invoke/MethodHandle" ∧ yX12_like.cls ≠ "java/lang/invoke/VarHandle" ∧ (parseMethodDescriptor yX12_like.desc).map (fun d => d.parameters.length) = some 3 := by decide +kernel
def P_X12_like (v : Nat → Int32) (w : Nat → Int64) (fi : Nat → Nat → Int32) (fl : Nat → Nat → Int64) (p0 : Int32) (p1 : Int32) (p2 : Int32) (Q : Int32 → (Nat → Int32) → (Nat → Int64) → (Nat → Nat → Int32) → (Nat → Nat → Int64) → Prop) : Prop := P_X12_needCell v w fi fl p0 p1 (fun r1 v1 w1 fi1 fl1 => ((r1 = (-1)) → (((¬ (v1 23) = 1) → (P_X12_as v1 w1 fi1 fl1 (v1 23) (fun r2 v2 w2 fi2 fl2 => Q r2 v2 w2 fi2 fl2))) ∧ (((v1 23) = 1) → (((p2 = 0) → (P_X12_as v1 w1 fi1 fl1 (v1 23) (fun r3 v3 w3 fi3 fl3 => Q r3 v3 w3 fi3 fl3))) ∧ ((¬ p2 = 0) → (P_X12_shares v1 w1 fi1 fl1 p0 p1 (fun r4 v4 w4 fi4 fl4 => Q r4 v4 w4 fi4 fl4))))))) ∧ ((¬ r1 = (-1)) → (Q r1 v1 w1 fi1 fl1)))
set_option maxHeartbeats 4000000 in
set_option maxRecDepth 100000 in
theorem p_X12_like (l : Launch) (dC : Nat → ClassId) (dI : Nat → Nat → Nat) (a : Nat → Nat) (ca : Nat → ClassId) (g0 : Nat) (v : Nat → Int32) (w : Nat → Int64) (fi : Nat → Nat → Int32) (fl : Nat → Nat → Int64) (p0 : Int32) (p1 : Int32) (p2 : Int32) (Q : Int32 → (Nat → Int32) → (Nat → Int64) → (Nat → Nat → Int32) → (Nat → Nat → Int64) → Prop) (h : P_X12_like v w fi fl p0 p1 p2 Q) (sz : Nat) : Met l yX12_like wmX12_like ({ frames := 12, cells := 0, slots := 0, locals := 180 }) (va_Pc [.ref g0, .int p0, .int p1, .int p2] (mPre dC dI a ca g0 v w fi fl sz)) (va_Qi (S := MSt) (pI Q) (mB dC dI a ca g0 (va_A (mW a ca g0 v w fi fl) sz)) (va_A (mW a ca g0 v w fi fl) sz)) 0 0 (va_A (mW a ca g0 v w fi fl) sz) := by
  refine Met.ofW (cc := cX12_like) (maxL := 5) (ret := (some .int)) (by decide) rfl ?_
  intro p e s m args below meth c s₁ B hml hv
  obtain ⟨rfl, hsz, hP, hK, hD0⟩ := hv
  have hx := B.exec
  have hb := B.bytes
  have hr := B.returns
  have hts : ∀ w ∈ WM, w.before _ s = true := fun w h => atoms_spec (ws := wmX12_like) B.pre w (List.mem_cons_of_mem _ h)
  have hown : s.vm.findClass RX12 = some m.cls := findClass_of_methodNamed B.named
  have hlocks := B.notSynchronized
  subst hsz
  have hD := hD0.self (sz := s.heap.size)
  generalize hAe : va_A (mW a ca g0 v w fi fl) s.heap.size = A at hD ⊢
  have hA : ∀ q : Nat, s.heap.size ≤ q → A q := fun q h => by rw [← hAe]; exact Or.inr h
  generalize hH : s.heap = H at hP ⊢
  have hS : va_S A s.heap H [] := by rw [← hH]; exact va_S.rf
  have hl := lv_entry [.ref g0, .int p0, .int p1, .int p2] (n := 5) (Nat.le_of_ble_eq_true rfl)
  rw [lg_entry_eq]
  generalize (lg_sl [.ref g0, .int p0, .int p1, .int p2] ++ List.replicate (5 - (lg_sl [.ref g0, .int p0, .int p1, .int p2]).length) Slot.unset).toArray = ls at hl ⊢
  have hl : lv_has ls 5 [(0, .ref g0), (1, .int p0), (2, .int p1), (3, .int p2)] := hl
  unfold P_X12_like at h
  refine lv_aload_n hx hb dX12_like_0 rfl (lv_at hl 0 rfl) ?_
  refine lv_iload_n hx hb dX12_like_1 rfl (lv_at hl 1 rfl) ?_
  refine lv_iload_n hx hb dX12_like_2 rfl (lv_at hl 2 rfl) ?_
  refine m_calli (rm := ({ frames := 8, cells := 0, slots := 0, locals := 120 })) (As := [.int p0, .int p1]) (rest := []) (fun sz => p_X12_needCell l dC dI a ca g0 _ _ _ _ p0 p1 _ h sz) ⟨hx, hb, hml, hown, hts⟩ (cwV 2 hts (g_V gdM mwM_76 mwM_77 mwM_78 mwM_22 mwM_75) rfl rfl rfl hd_X12_needCell ⟨Nat.le_of_ble_eq_true rfl, Nat.le_of_ble_eq_true rfl⟩) rfl hl.1 rfl hK hP hD hS hA (Nat.le_of_ble_eq_true rfl) ⟨Nat.le_of_ble_eq_true rfl, Nat.le_of_ble_eq_true rfl⟩ dX12_like_3 (fun r1 v1 w1 fi1 fl1 H locs h hP hD hS => ?_)
  refine lv_istore (lv' := [(4, .int r1), (0, .ref g0), (1, .int p0), (2, .int p1), (3, .int p2)]) hx hb dX12_like_6 hl (by decide) rfl (fun ls hl => ?_)
  refine lv_iload hx hb dX12_like_8 (lv_at hl 0 rfl) ?_
  refine lv_iconst (v := (-1)) hx hb dX12_like_10 (by decide) ?_
  refine lv_icmp_eq (tgt := 17) hx hb dX12_like_11 (by decide) (fun c_11 => ?_) (fun c_11 => ?_)
  · have h := h.1 c_11
    refine lv_aload_n hx hb dX12_like_17 rfl (lv_at hl 1 rfl) ?_
    refine va_get (D := (dC, dI)) (ci := 11) (v := .int (v1 23)) (C := RX12) (T := TX12) (N := 32) hx hb hts hinM hown hK hP 0 rfl rfl 23 (by decide) (hts _ mwM_47) (fun _ h9 => h9) rfl dX12_like_18 ?_
    refine lv_iconst (v := 1) hx hb dX12_like_21 (by decide) ?_
    refine lv_icmp_ne (tgt := 38) hx hb dX12_like_22 (by decide) (fun c_22 => ?_) (fun c_22 => ?_)
    · have h := h.1 c_22
      refine lv_aload_n hx hb dX12_like_38 rfl (lv_at hl 1 rfl) ?_
      refine lv_aload_n hx hb dX12_like_39 rfl (lv_at hl 1 rfl) ?_
      refine va_get (D := (dC, dI)) (ci := 11) (v := .int (v1 23)) (C := RX12) (T := TX12) (N := 32) hx hb hts hinM hown hK hP 0 rfl rfl 23 (by decide) (hts _ mwM_47) (fun _ h9 => h9) rfl dX12_like_40 ?_
      refine m_calli (rm := ({ frames := 4, cells := 0, slots := 0, locals := 60 })) (As := [.int (v1 23)]) (rest := []) (fun sz => p_X12_as l dC dI a ca g0 _ _ _ _ (v1 23) _ h sz) ⟨hx, hb, hml, hown, hts⟩ (cwV 1 hts (g_V gdM mwM_80 mwM_81 mwM_82 mwM_22 mwM_79) rfl rfl rfl hd_X12_as ⟨Nat.le_of_ble_eq_true rfl, Nat.le_of_ble_eq_true rfl⟩) rfl hl.1 rfl hK hP hD hS hA (Nat.le_of_ble_eq_true rfl) ⟨Nat.le_of_ble_eq_true rfl, Nat.le_of_ble_eq_true rfl⟩ dX12_like_43 (fun r2 v2 w2 fi2 fl2 H locs h hP hD hS => ?_)
      exact W.iret (v := r2) hx hb hr (fun t ht hW => ⟨⟨_, (v2, w2, fi2, fl2), rfl, h, by rw [ht]; exact hP, va_K.moved hW.alike hK, hD⟩, hS.F ht⟩) hS.2.2 dX12_like_46
    · have h := h.2 c_22
      refine lv_iload_n hx hb dX12_like_25 rfl (lv_at hl 4 rfl) ?_
      refine lv_if_eq (tgt := 38) hx hb dX12_like_26 (by decide) (fun c_26 => ?_) (fun c_26 => ?_)
      · have h := h.1 c_26
        refine lv_aload_n hx hb dX12_like_38 rfl (lv_at hl 1 rfl) ?_
        refine lv_aload_n hx hb dX12_like_39 rfl (lv_at hl 1 rfl) ?_
        refine va_get (D := (dC, dI)) (ci := 11) (v := .int (v1 23)) (C := RX12) (T := TX12) (N := 32) hx hb hts hinM hown hK hP 0 rfl rfl 23 (by decide) (hts _ mwM_47) (fun _ h9 => h9) rfl dX12_like_40 ?_
        refine m_calli (rm := ({ frames := 4, cells := 0, slots := 0, locals := 60 })) (As := [.int (v1 23)]) (rest := []) (fun sz => p_X12_as l dC dI a ca g0 _ _ _ _ (v1 23) _ h sz) ⟨hx, hb, hml, hown, hts⟩ (cwV 1 hts (g_V gdM mwM_80 mwM_81 mwM_82 mwM_22 mwM_79) rfl rfl rfl hd_X12_as ⟨Nat.le_of_ble_eq_true rfl, Nat.le_of_ble_eq_true rfl⟩) rfl hl.1 rfl hK hP hD hS hA (Nat.le_of_ble_eq_true rfl) ⟨Nat.le_of_ble_eq_true rfl, Nat.le_of_ble_eq_true rfl⟩ dX12_like_43 (fun r3 v3 w3 fi3 fl3 H locs h hP hD hS => ?_)
        exact W.iret (v := r3) hx hb hr (fun t ht hW => ⟨⟨_, (v3, w3, fi3, fl3), rfl, h, by rw [ht]; exact hP, va_K.moved hW.alike hK, hD⟩, hS.F ht⟩) hS.2.2 dX12_like_46
      · have h := h.2 c_26
        refine lv_aload_n hx hb dX12_like_29 rfl (lv_at hl 1 rfl) ?_
        refine lv_iload_n hx hb dX12_like_30 rfl (lv_at hl 2 rfl) ?_
        refine lv_iload_n hx hb dX12_like_31 rfl (lv_at hl 3 rfl) ?_
        refine m_calli (rm := ({ frames := 4, cells := 0, slots := 0, locals := 60 })) (As := [.int p0, .int p1]) (rest := []) (fun sz => p_X12_shares l dC dI a ca g0 _ _ _ _ p0 p1 _ h sz) ⟨hx, hb, hml, hown, hts⟩ (cwV 2 hts (g_V gdM mwM_84 mwM_85 mwM_86 mwM_22 mwM_83) rfl rfl rfl hd_X12_shares ⟨Nat.le_of_ble_eq_true rfl, Nat.le_of_ble_eq_true rfl⟩) rfl hl.1 rfl hK hP hD hS hA (Nat.le_of_ble_eq_true rfl) ⟨Nat.le_of_ble_eq_true rfl, Nat.le_of_ble_eq_true rfl⟩ dX12_like_32 (fun r4 v4 w4 fi4 fl4 H locs h hP hD hS => ?_)
        refine lv_goto (tgt := 46) hx hb dX12_like_35 (by decide) ?_
        exact W.iret (v := r4) hx hb hr (fun t ht hW => ⟨⟨_, (v4, w4, fi4, fl4), rfl, h, by rw [ht]; exact hP, va_K.moved hW.alike hK, hD⟩, hS.F ht⟩) hS.2.2 dX12_like_46
  · have h := h.2 c_11
    refine lv_iload hx hb dX12_like_14 (lv_at hl 0 rfl) ?_
    exact W.iret (v := r1) hx hb hr (fun t ht hW => ⟨⟨_, (v1, w1, fi1, fl1), rfl, h, by rw [ht]; exact hP, va_K.moved hW.alike hK, hD⟩, hS.F ht⟩) hS.2.2 dX12_like_16

abbrev wmX12_isRight : List Cond := .code yX12_isRight cX12_isRight 7 (some .boolean) :: WM
theorem hd_X12_isRight : yX12_isRight.cls = RX12 ∧ yX12_isRight.cls ≠ "java/lang/invoke/MethodHandle" ∧ yX12_isRight.cls ≠ "java/lang/invoke/VarHandle" ∧ (parseMethodDescriptor yX12_isRight.desc).map (fun d => d.parameters.length) = some 3 := by decide +kernel
def B_X12_isRight_70  (K70 : (Nat → Int32) → (Nat → Int64) → (Nat → Nat → Int32) → (Nat → Nat → Int64) → Int32 → Int32 → Int64 → Int32 → Int32 → Prop) (Q : Int32 → (Nat → Int32) → (Nat → Int64) → (Nat → Nat → Int32) → (Nat → Nat → Int64) → Prop) (v : Nat → Int32) (w : Nat → Int64) (fi : Nat → Nat → Int32) (fl : Nat → Nat → Int64) (x1 : Int32) (x2 : Int32) (x3 : Int64) (x5 : Int32) (x6 : Int32) : Prop := ((x2 ≤ x6) → (narrow .boolean (.int x5) = .int x5 ∧ Q x5 v w fi fl)) ∧ ((¬ x2 ≤ x6) → (P_X12_ownPlace v w fi fl x1 x6 (fun r2 v2 w2 fi2 fl2 => vp_in r2 9600 ∧ (((lg_cmp (fl2 9 r2.toNatClampNeg) x3) = 0) → (K70 v2 w2 fi2 fl2 x1 x2 x3 (x5 &&& 0) (x6 + 1))) ∧ ((¬ (lg_cmp (fl2 9 r2.toNatClampNeg) x3) = 0) → (K70 v2 w2 fi2 fl2 x1 x2 x3 (x5 &&& 1) (x6 + 1))))))
def P_X12_isRight_70  (Q : Int32 → (Nat → Int32) → (Nat → Int64) → (Nat → Nat → Int32) → (Nat → Nat → Int64) → Prop) : Nat → (Nat → Int32) → (Nat → Int64) → (Nat → Nat → Int32) → (Nat → Nat → Int64) → Int32 → Int32 → Int64 → Int32 → Int32 → Prop
  | 0 => fun _ _ _ _ _ _ _ _ _ => False
  | n + 1 => B_X12_isRight_70  (P_X12_isRight_70  Q n) Q
set_option maxHeartbeats 4000000 in
set_option maxRecDepth 100000 in
theorem b_X12_isRight_70 {p : Program} {l : Launch} {e : Env} {s : State} {m : MethodId} {args : Array Value} {below : List Frame} {meth : Method} {c : Code} {A : Nat → Prop} {dC : Nat → ClassId} {dI : Nat → Nat → Nat} {a : Nat → Nat} {ca : Nat → ClassId} {g0 : Nat}  {K70 : (Nat → Int32) → (Nat → Int64) → (Nat → Nat → Int32) → (Nat → Nat → Int64) → Int32 → Int32 → Int64 → Int32 → Int32 → Prop} {Q : Int32 → (Nat → Int32) → (Nat → Int64) → (Nat → Nat → Int32) → (Nat → Nat → Int64) → Prop} (hx : p.tables.exec = Jvm.exec) (hb : c.code = cX12_isRight) (hr : meth.sig.returnType = (some .boolean)) (hts : ∀ w ∈ WM, w.before args s = true) (hown : s.vm.findClass RX12 = some m.cls) (hlocks : meth.locks = false) (hml : c.maxLocals = 7) (hA : ∀ q : Nat, s.heap.size ≤ q → A q) (hK : va_K (dC, dI) vwCl (mT ca) s)  (hK70 : ∀ (v : Nat → Int32) (w : Nat → Int64) (fi : Nat → Nat → Int32) (fl : Nat → Nat → Int64) (x1 : Int32) (x2 : Int32) (x3 : Int64) (x5 : Int32) (x6 : Int32) (H : Heap) (locs : List Loc) (ls : Array Slot), K70 v w fi fl x1 x2 x3 x5 x6 → va_P (dC, dI) vwCl (mW a ca g0 v w fi fl) H → va_D A (mW a ca g0 v w fi fl) → va_S A s.heap H locs → lv_has ls 7 [(0, .ref g0), (1, .int x1), (2, .int x2), (3, .long x3), (5, .int x5), (6, .int x6)] → W p l e (headSpec wmX12_isRight ({ frames := 12, cells := 0, slots := 0, locals := 180 })).room s m args below meth c H locs 0 0 (MQ below (va_Qi (S := MSt) (pI Q) (mB dC dI a ca g0 A) A) args s 0 0 A) (F0 m 70 ls [])) : ∀ (v : Nat → Int32) (w : Nat → Int64) (fi : Nat → Nat → Int32) (fl : Nat → Nat → Int64) (x1 : Int32) (x2 : Int32) (x3 : Int64) (x5 : Int32) (x6 : Int32) (H : Heap) (locs : List Loc) (ls : Array Slot), B_X12_isRight_70  K70 Q v w fi fl x1 x2 x3 x5 x6 → va_P (dC, dI) vwCl (mW a ca g0 v w fi fl) H → va_D A (mW a ca g0 v w fi fl) → va_S A s.heap H locs → lv_has ls 7 [(0, .ref g0), (1, .int x1), (2, .int x2), (3, .long x3), (5, .int x5), (6, .int x6)] → W p l e (headSpec wmX12_isRight ({ frames := 12, cells := 0, slots := 0, locals := 180 })).room s m args below meth c H locs 0 0 (MQ below (va_Qi (S := MSt) (pI Q) (mB dC dI a ca g0 A) A) args s 0 0 A) (F0 m 70 ls []) := by
  intro v w fi fl x1 x2 x3 x5 x6 H locs ls h hP hD hS hl
  unfold B_X12_isRight_70 at h
  refine lv_iload hx hb dX12_isRight_70 (lv_at hl 5 rfl) ?_
  refine lv_iload_n hx hb dX12_isRight_72 rfl (lv_at hl 2 rfl) ?_
  refine lv_icmp_ge (tgt := 109) hx hb dX12_isRight_73 (by decide) (fun c_73 => ?_) (fun c_73 => ?_)
  · have h := h.1 c_73
    refine lv_iload hx hb dX12_isRight_109 (lv_at hl 4 rfl) ?_
    obtain ⟨hz1, h⟩ := h
    exact W.zret (v := x5) hx hb hr hz1 (fun t ht hW => ⟨⟨_, (v, w, fi, fl), rfl, h, by rw [ht]; exact hP, va_K.moved hW.alike hK, hD⟩, hS.F ht⟩) hS.2.2 dX12_isRight_111
  · have h := h.2 c_73
    refine lv_iload hx hb dX12_isRight_76 (lv_at hl 4 rfl) ?_
    refine lv_aload_n hx hb dX12_isRight_78 rfl (lv_at hl 0 rfl) ?_
    refine va_get (D := (dC, dI)) (ci := 11) (v := .ref (a 9)) (C := RX12) (T := TX12) (N := 32) hx hb hts hinM hown hK hP 0 rfl rfl 9 (by decide) (hts _ mwM_74) (fun _ h9 => h9) rfl dX12_isRight_79 ?_
    refine lv_aload_n hx hb dX12_isRight_82 rfl (lv_at hl 0 rfl) ?_
    refine lv_iload_n hx hb dX12_isRight_83 rfl (lv_at hl 1 rfl) ?_
    refine lv_iload hx hb dX12_isRight_84 (lv_at hl 5 rfl) ?_
    refine m_calli (rm := ({ frames := 8, cells := 0, slots := 0, locals := 120 })) (As := [.int x1, .int x6]) (rest := [.ref (a 9), .int x5]) (fun sz => p_X12_ownPlace l dC dI a ca g0 _ _ _ _ x1 x6 _ h sz) ⟨hx, hb, hml, hown, hts⟩ (cwV 2 hts (g_V gdM mwM_70 mwM_71 mwM_72 mwM_22 mwM_69) rfl rfl rfl hd_X12_ownPlace ⟨Nat.le_of_ble_eq_true rfl, Nat.le_of_ble_eq_true rfl⟩) rfl hl.1 rfl hK hP hD hS hA (Nat.le_of_ble_eq_true rfl) ⟨Nat.le_of_ble_eq_true rfl, Nat.le_of_ble_eq_true rfl⟩ dX12_isRight_86 (fun r2 v2 w2 fi2 fl2 H locs h hP hD hS => ?_)
    obtain ⟨hi3, h⟩ := h
    refine va_lald (f := fl2 9) hx hb hK hP 9 8 rfl rfl hi3 dX12_isRight_89 ?_
    refine lv_lload_n hx hb dX12_isRight_90 rfl (lv_at hl 3 rfl) ?_
    refine W.lcmp hx hb dX12_isRight_91 ?_
    refine lv_if_eq (tgt := 99) hx hb dX12_isRight_92 (by decide) (fun c_92 => ?_) (fun c_92 => ?_)
    · have h := h.1 c_92
      refine lv_iconst (v := 0) hx hb dX12_isRight_99 (by decide) ?_
      refine lv_iand hx hb dX12_isRight_100 ?_
      refine lv_istore (lv' := [(5, .int (x5 &&& 0)), (0, .ref g0), (1, .int x1), (2, .int x2), (3, .long x3), (6, .int x6)]) hx hb dX12_isRight_101 hl (by decide) rfl (fun ls hl => ?_)
      refine lv_iinc (v := x6 + 1) (lv' := [(6, .int (x6 + 1)), (5, .int (x5 &&& 0)), (0, .ref g0), (1, .int x1), (2, .int x2), (3, .long x3)]) hx hb dX12_isRight_103 hl (k := 5) rfl (iinc_1 _) (by decide) rfl (fun ls hl => ?_)
      refine lv_goto (tgt := 70) hx hb dX12_isRight_106 (by decide) ?_
      exact hK70 _ _ _ _ _ _ _ _ _ H _ ls h hP hD hS (lv_sub hl [2, 3, 4, 5, 1, 0] rfl)
    · have h := h.2 c_92
      refine lv_iconst (v := 1) hx hb dX12_isRight_95 (by decide) ?_
      refine lv_goto (tgt := 100) hx hb dX12_isRight_96 (by decide) ?_
      refine lv_iand hx hb dX12_isRight_100 ?_
      refine lv_istore (lv' := [(5, .int (x5 &&& 1)), (0, .ref g0), (1, .int x1), (2, .int x2), (3, .long x3), (6, .int x6)]) hx hb dX12_isRight_101 hl (by decide) rfl (fun ls hl => ?_)
      refine lv_iinc (v := x6 + 1) (lv' := [(6, .int (x6 + 1)), (5, .int (x5 &&& 1)), (0, .ref g0), (1, .int x1), (2, .int x2), (3, .long x3)]) hx hb dX12_isRight_103 hl (k := 5) rfl (iinc_1 _) (by decide) rfl (fun ls hl => ?_)
      refine lv_goto (tgt := 70) hx hb dX12_isRight_106 (by decide) ?_
      exact hK70 _ _ _ _ _ _ _ _ _ H _ ls h hP hD hS (lv_sub hl [2, 3, 4, 5, 1, 0] rfl)
set_option maxHeartbeats 4000000 in
set_option maxRecDepth 100000 in
theorem t_X12_isRight_70 {p : Program} {l : Launch} {e : Env} {s : State} {m : MethodId} {args : Array Value} {below : List Frame} {meth : Method} {c : Code} {A : Nat → Prop} {dC : Nat → ClassId} {dI : Nat → Nat → Nat} {a : Nat → Nat} {ca : Nat → ClassId} {g0 : Nat}  {Q : Int32 → (Nat → Int32) → (Nat → Int64) → (Nat → Nat → Int32) → (Nat → Nat → Int64) → Prop} (hx : p.tables.exec = Jvm.exec) (hb : c.code = cX12_isRight) (hr : meth.sig.returnType = (some .boolean)) (hts : ∀ w ∈ WM, w.before args s = true) (hown : s.vm.findClass RX12 = some m.cls) (hlocks : meth.locks = false) (hml : c.maxLocals = 7) (hA : ∀ q : Nat, s.heap.size ≤ q → A q) (hK : va_K (dC, dI) vwCl (mT ca) s)  : ∀ n : Nat, ∀ (v : Nat → Int32) (w : Nat → Int64) (fi : Nat → Nat → Int32) (fl : Nat → Nat → Int64) (x1 : Int32) (x2 : Int32) (x3 : Int64) (x5 : Int32) (x6 : Int32) (H : Heap) (locs : List Loc) (ls : Array Slot), P_X12_isRight_70  Q n v w fi fl x1 x2 x3 x5 x6 → va_P (dC, dI) vwCl (mW a ca g0 v w fi fl) H → va_D A (mW a ca g0 v w fi fl) → va_S A s.heap H locs → lv_has ls 7 [(0, .ref g0), (1, .int x1), (2, .int x2), (3, .long x3), (5, .int x5), (6, .int x6)] → W p l e (headSpec wmX12_isRight ({ frames := 12, cells := 0, slots := 0, locals := 180 })).room s m args below meth c H locs 0 0 (MQ below (va_Qi (S := MSt) (pI Q) (mB dC dI a ca g0 A) A) args s 0 0 A) (F0 m 70 ls []) := by
  intro n
  induction n with
  | zero => intro v w fi fl x1 x2 x3 x5 x6 H locs ls h; exact h.elim
  | succ n ih => exact b_X12_isRight_70 hx hb hr hts hown hlocks hml hA hK  ih
def P_X12_isRight (v : Nat → Int32) (w : Nat → Int64) (fi : Nat → Nat → Int32) (fl : Nat → Nat → Int64) (p0 : Int32) (p1 : Int32) (p2 : Int64) (Q : Int32 → (Nat → Int32) → (Nat → Int64) → (Nat → Nat → Int32) → (Nat → Nat → Int64) → Prop) : Prop := vp_in p0 24 ∧ ((¬ (fi 1 p0.toNatClampNeg) = 8) → (vp_in p0 24 ∧ ((¬ (fi 1 p0.toNatClampNeg) = 10) → (∃ n9 : Nat, P_X12_isRight_70  Q n9 v w fi fl p0 p1 p2 (1 : Int32) (0 : Int32))) ∧ (((fi 1 p0.toNatClampNeg) = 10) → (vp_in p0 24 ∧ vp_in p0 24 ∧ P_X12_meets (fi 4 p0.toNatClampNeg) p2 (fl 5 p0.toNatClampNeg) (fun r5 => ((¬ r5 = 0) → (Q 0 v w fi fl)) ∧ ((r5 = 0) → (Q 1 v w fi fl))))))) ∧ (((fi 1 p0.toNatClampNeg) = 8) → (vp_in p0 24 ∧ vp_in p0 24 ∧ P_X12_meets (fi 4 p0.toNatClampNeg) p2 (fl 5 p0.toNatClampNeg) (fun r8 => narrow .boolean (.int r8) = .int r8 ∧ Q r8 v w fi fl)))
set_option maxHeartbeats 4000000 in
set_option maxRecDepth 100000 in
theorem p_X12_isRight (l : Launch) (dC : Nat → ClassId) (dI : Nat → Nat → Nat) (a : Nat → Nat) (ca : Nat → ClassId) (g0 : Nat) (v : Nat → Int32) (w : Nat → Int64) (fi : Nat → Nat → Int32) (fl : Nat → Nat → Int64) (p0 : Int32) (p1 : Int32) (p2 : Int64) (Q : Int32 → (Nat → Int32) → (Nat → Int64) → (Nat → Nat → Int32) → (Nat → Nat → Int64) → Prop) (h : P_X12_isRight v w fi fl p0 p1 p2 Q) (sz : Nat) : Met l yX12_isRight wmX12_isRight ({ frames := 12, cells := 0, slots := 0, locals := 180 }) (va_Pc [.ref g0, .int p0, .int p1, .long p2] (mPre dC dI a ca g0 v w fi fl sz)) (va_Qi (S := MSt) (pI Q) (mB dC dI a ca g0 (va_A (mW a ca g0 v w fi fl) sz)) (va_A (mW a ca g0 v w fi fl) sz)) 0 0 (va_A (mW a ca g0 v w fi fl) sz) := by
  refine Met.ofW (cc := cX12_isRight) (maxL := 7) (ret := (some .boolean)) (by decide) rfl ?_
  intro p e s m args below meth c s₁ B hml hv
  obtain ⟨rfl, hsz, hP, hK, hD0⟩ := hv
  have hx := B.exec
  have hb := B.bytes
  have hr := B.returns
  have hts : ∀ w ∈ WM, w.before _ s = true := fun w h => atoms_spec (ws := wmX12_isRight) B.pre w (List.mem_cons_of_mem _ h)
  have hown : s.vm.findClass RX12 = some m.cls := findClass_of_methodNamed B.named
  have hlocks := B.notSynchronized
  subst hsz
  have hD := hD0.self (sz := s.heap.size)
  generalize hAe : va_A (mW a ca g0 v w fi fl) s.heap.size = A at hD ⊢
  have hA : ∀ q : Nat, s.heap.size ≤ q → A q := fun q h => by rw [← hAe]; exact Or.inr h
  generalize hH : s.heap = H at hP ⊢
  have hS : va_S A s.heap H [] := by rw [← hH]; exact va_S.rf
  have hl := lv_entry [.ref g0, .int p0, .int p1, .long p2] (n := 7) (Nat.le_of_ble_eq_true rfl)
  rw [lg_entry_eq]
  generalize (lg_sl [.ref g0, .int p0, .int p1, .long p2] ++ List.replicate (7 - (lg_sl [.ref g0, .int p0, .int p1, .long p2]).length) Slot.unset).toArray = ls at hl ⊢
  have hl : lv_has ls 7 [(0, .ref g0), (1, .int p0), (2, .int p1), (3, .long p2)] := hl
  unfold P_X12_isRight at h
  refine lv_aload_n hx hb dX12_isRight_0 rfl (lv_at hl 0 rfl) ?_
  refine va_get (D := (dC, dI)) (ci := 11) (v := .ref (a 1)) (C := RX12) (T := TX12) (N := 32) hx hb hts hinM hown hK hP 0 rfl rfl 1 (by decide) (hts _ mwM_2) (fun _ h9 => h9) rfl dX12_isRight_1 ?_
  refine lv_iload_n hx hb dX12_isRight_4 rfl (lv_at hl 1 rfl) ?_
  obtain ⟨hi1, h⟩ := h
  refine va_iald (f := fi 1) hx hb hK hP 1 0 rfl rfl hi1 dX12_isRight_5 ?_
  refine lv_bipush (v := 8) hx hb dX12_isRight_6 (by decide) ?_
  refine lv_icmp_ne (tgt := 28) hx hb dX12_isRight_8 (by decide) (fun c_8 => ?_) (fun c_8 => ?_)
  · have h := h.1 c_8
    refine lv_aload_n hx hb dX12_isRight_28 rfl (lv_at hl 0 rfl) ?_
    refine va_get (D := (dC, dI)) (ci := 11) (v := .ref (a 1)) (C := RX12) (T := TX12) (N := 32) hx hb hts hinM hown hK hP 0 rfl rfl 1 (by decide) (hts _ mwM_2) (fun _ h9 => h9) rfl dX12_isRight_29 ?_
    refine lv_iload_n hx hb dX12_isRight_32 rfl (lv_at hl 1 rfl) ?_
    obtain ⟨hi2, h⟩ := h
    refine va_iald (f := fi 1) hx hb hK hP 1 0 rfl rfl hi2 dX12_isRight_33 ?_
    refine lv_bipush (v := 10) hx hb dX12_isRight_34 (by decide) ?_
    refine lv_icmp_ne (tgt := 64) hx hb dX12_isRight_36 (by decide) (fun c_36 => ?_) (fun c_36 => ?_)
    · have h := h.1 c_36
      refine lv_iconst (v := 1) hx hb dX12_isRight_64 (by decide) ?_
      refine lv_istore (lv' := [(5, .int 1), (0, .ref g0), (1, .int p0), (2, .int p1), (3, .long p2)]) hx hb dX12_isRight_65 hl (by decide) rfl (fun ls hl => ?_)
      refine lv_iconst (v := 0) hx hb dX12_isRight_67 (by decide) ?_
      refine lv_istore (lv' := [(6, .int 0), (5, .int 1), (0, .ref g0), (1, .int p0), (2, .int p1), (3, .long p2)]) hx hb dX12_isRight_68 hl (by decide) rfl (fun ls hl => ?_)
      obtain ⟨n9, h⟩ := h
      exact t_X12_isRight_70 hx hb hr hts hown hlocks hml hA hK  n9 _ _ _ _ _ _ _ _ _ H _ ls h hP hD hS (lv_sub hl [2, 3, 4, 5, 1, 0] rfl)
    · have h := h.2 c_36
      refine lv_aload_n hx hb dX12_isRight_39 rfl (lv_at hl 0 rfl) ?_
      refine va_get (D := (dC, dI)) (ci := 11) (v := .ref (a 4)) (C := RX12) (T := TX12) (N := 32) hx hb hts hinM hown hK hP 0 rfl rfl 4 (by decide) (hts _ mwM_5) (fun _ h9 => h9) rfl dX12_isRight_40 ?_
      refine lv_iload_n hx hb dX12_isRight_43 rfl (lv_at hl 1 rfl) ?_
      obtain ⟨hi3, h⟩ := h
      refine va_iald (f := fi 4) hx hb hK hP 4 3 rfl rfl hi3 dX12_isRight_44 ?_
      refine lv_lload_n hx hb dX12_isRight_45 rfl (lv_at hl 3 rfl) ?_
      refine lv_aload_n hx hb dX12_isRight_46 rfl (lv_at hl 0 rfl) ?_
      refine va_get (D := (dC, dI)) (ci := 11) (v := .ref (a 5)) (C := RX12) (T := TX12) (N := 32) hx hb hts hinM hown hK hP 0 rfl rfl 5 (by decide) (hts _ mwM_6) (fun _ h9 => h9) rfl dX12_isRight_47 ?_
      refine lv_iload_n hx hb dX12_isRight_50 rfl (lv_at hl 1 rfl) ?_
      obtain ⟨hi4, h⟩ := h
      refine va_lald (f := fl 5) hx hb hK hP 5 4 rfl rfl hi4 dX12_isRight_51 ?_
      refine s_calli (rm := ({ frames := 4, cells := 0, slots := 0, locals := 60 })) (As := [.int (fi 4 p0.toNatClampNeg), .long p2, .long (fl 5 p0.toNatClampNeg)]) (rest := []) (fun sz => p_X12_meets l dC dI (fi 4 p0.toNatClampNeg) p2 (fl 5 p0.toNatClampNeg) _ h sz) ⟨hx, hb, hml, hown, hts⟩ (va_cwS 3 hts (g_S gdM mwM_88 mwM_89 mwM_22 mwM_87) rfl rfl rfl hd_X12_meets ⟨Nat.le_of_ble_eq_true rfl, Nat.le_of_ble_eq_true rfl⟩) rfl hl.1 rfl hP hD hS hA (Nat.le_of_ble_eq_true rfl) ⟨Nat.le_of_ble_eq_true rfl, Nat.le_of_ble_eq_true rfl⟩ dX12_isRight_52 (fun r5 H locs h hP hS => ?_)
      refine lv_if_ne (tgt := 62) hx hb dX12_isRight_55 (by decide) (fun c_55 => ?_) (fun c_55 => ?_)
      · have h := h.1 c_55
        refine lv_iconst (v := 0) hx hb dX12_isRight_62 (by decide) ?_
        exact W.zret (v := 0) hx hb hr (by decide) (fun t ht hW => ⟨⟨_, (v, w, fi, fl), rfl, h, by rw [ht]; exact hP, va_K.moved hW.alike hK, hD⟩, hS.F ht⟩) hS.2.2 dX12_isRight_63
      · have h := h.2 c_55
        refine lv_iconst (v := 1) hx hb dX12_isRight_58 (by decide) ?_
        refine lv_goto (tgt := 63) hx hb dX12_isRight_59 (by decide) ?_
        exact W.zret (v := 1) hx hb hr (by decide) (fun t ht hW => ⟨⟨_, (v, w, fi, fl), rfl, h, by rw [ht]; exact hP, va_K.moved hW.alike hK, hD⟩, hS.F ht⟩) hS.2.2 dX12_isRight_63
  · have h := h.2 c_8
    refine lv_aload_n hx hb dX12_isRight_11 rfl (lv_at hl 0 rfl) ?_
    refine va_get (D := (dC, dI)) (ci := 11) (v := .ref (a 4)) (C := RX12) (T := TX12) (N := 32) hx hb hts hinM hown hK hP 0 rfl rfl 4 (by decide) (hts _ mwM_5) (fun _ h9 => h9) rfl dX12_isRight_12 ?_
    refine lv_iload_n hx hb dX12_isRight_15 rfl (lv_at hl 1 rfl) ?_
    obtain ⟨hi6, h⟩ := h
    refine va_iald (f := fi 4) hx hb hK hP 4 3 rfl rfl hi6 dX12_isRight_16 ?_
    refine lv_lload_n hx hb dX12_isRight_17 rfl (lv_at hl 3 rfl) ?_
    refine lv_aload_n hx hb dX12_isRight_18 rfl (lv_at hl 0 rfl) ?_
    refine va_get (D := (dC, dI)) (ci := 11) (v := .ref (a 5)) (C := RX12) (T := TX12) (N := 32) hx hb hts hinM hown hK hP 0 rfl rfl 5 (by decide) (hts _ mwM_6) (fun _ h9 => h9) rfl dX12_isRight_19 ?_
    refine lv_iload_n hx hb dX12_isRight_22 rfl (lv_at hl 1 rfl) ?_
    obtain ⟨hi7, h⟩ := h
    refine va_lald (f := fl 5) hx hb hK hP 5 4 rfl rfl hi7 dX12_isRight_23 ?_
    refine s_calli (rm := ({ frames := 4, cells := 0, slots := 0, locals := 60 })) (As := [.int (fi 4 p0.toNatClampNeg), .long p2, .long (fl 5 p0.toNatClampNeg)]) (rest := []) (fun sz => p_X12_meets l dC dI (fi 4 p0.toNatClampNeg) p2 (fl 5 p0.toNatClampNeg) _ h sz) ⟨hx, hb, hml, hown, hts⟩ (va_cwS 3 hts (g_S gdM mwM_88 mwM_89 mwM_22 mwM_87) rfl rfl rfl hd_X12_meets ⟨Nat.le_of_ble_eq_true rfl, Nat.le_of_ble_eq_true rfl⟩) rfl hl.1 rfl hP hD hS hA (Nat.le_of_ble_eq_true rfl) ⟨Nat.le_of_ble_eq_true rfl, Nat.le_of_ble_eq_true rfl⟩ dX12_isRight_24 (fun r8 H locs h hP hS => ?_)
    obtain ⟨hz9, h⟩ := h
    exact W.zret (v := r8) hx hb hr hz9 (fun t ht hW => ⟨⟨_, (v, w, fi, fl), rfl, h, by rw [ht]; exact hP, va_K.moved hW.alike hK, hD⟩, hS.F ht⟩) hS.2.2 dX12_isRight_27
