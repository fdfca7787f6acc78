abbrev cX12_thrown : ByteArray := prog_14_method_2_code
def yX12_thrown : MethodName := ⟨RX12, "thrown", "()I"⟩
abbrev cX12_put : ByteArray := prog_14_method_6_code
def yX12_put : MethodName := ⟨RX12, "put", "(J)I"⟩
abbrev cX12_hole : ByteArray := prog_14_method_7_code
def yX12_hole : MethodName := ⟨RX12, "hole", "(I)I"⟩
abbrev cX12_given : ByteArray := prog_14_method_8_code
def yX12_given : MethodName := ⟨RX12, "given", "(Z)I"⟩
abbrev cX12_count : ByteArray := prog_14_method_9_code
def yX12_count : MethodName := ⟨RX12, "count", "(JJ)I"⟩
abbrev cX12_iterate : ByteArray := prog_14_method_12_code
def yX12_iterate : MethodName := ⟨RX12, "iterate", "(IJJ)I"⟩
abbrev cX12_map : ByteArray := prog_14_method_13_code
def yX12_map : MethodName := ⟨RX12, "map", "(IIJ)I"⟩
abbrev cX12_both : ByteArray := prog_14_method_14_code
def yX12_both : MethodName := ⟨RX12, "both", "(III)I"⟩
abbrev cX12_scan : ByteArray := prog_14_method_15_code
def yX12_scan : MethodName := ⟨RX12, "scan", "(IIJ)I"⟩
abbrev cX12_outcome : ByteArray := prog_14_method_60_code
def yX12_outcome : MethodName := ⟨RX12, "outcome", "()I"⟩
abbrev cX12_error : ByteArray := prog_14_method_61_code
def yX12_error : MethodName := ⟨RX12, "error", "()I"⟩
abbrev cX12_spent : ByteArray := prog_14_method_62_code
def yX12_spent : MethodName := ⟨RX12, "spent", "()I"⟩
abbrev cX12_lists : ByteArray := prog_14_method_65_code
def yX12_lists : MethodName := ⟨RX12, "lists", "()I"⟩
theorem dX12_thrown_0 : decode cX12_thrown 0 = .ok (.aload_n 0, 1) := by decide +kernel
theorem dX12_thrown_1 : decode cX12_thrown 1 = .ok (.getfield 63, 3) := by decide +kernel
theorem dX12_thrown_4 : decode cX12_thrown 4 = .ok (.ireturn, 1) := by decide +kernel
theorem dX12_fail_0 : decode cX12_fail 0 = .ok (.aload_n 0, 1) := by decide +kernel
theorem dX12_fail_1 : decode cX12_fail 1 = .ok (.iload_n 1, 1) := by decide +kernel
theorem dX12_fail_2 : decode cX12_fail 2 = .ok (.putfield 63, 3) := by decide +kernel
theorem dX12_fail_5 : decode cX12_fail 5 = .ok (.iconst 0, 1) := by decide +kernel
theorem dX12_fail_6 : decode cX12_fail 6 = .ok (.ireturn, 1) := by decide +kernel
theorem dX12_isList_0 : decode cX12_isList 0 = .ok (.iload_n 1, 1) := by decide +kernel
theorem dX12_isList_1 : decode cX12_isList 1 = .ok (.ifCond .lt 15, 3) := by decide +kernel
theorem dX12_isList_4 : decode cX12_isList 4 = .ok (.iload_n 1, 1) := by decide +kernel
theorem dX12_isList_5 : decode cX12_isList 5 = .ok (.aload_n 0, 1) := by decide +kernel
theorem dX12_isList_6 : decode cX12_isList 6 = .ok (.getfield 66, 3) := by decide +kernel
theorem dX12_isList_9 : decode cX12_isList 9 = .ok (.if_icmp .ge 7, 3) := by decide +kernel
theorem dX12_isList_12 : decode cX12_isList 12 = .ok (.iconst 1, 1) := by decide +kernel
theorem dX12_isList_13 : decode cX12_isList 13 = .ok (.goto 4, 3) := by decide +kernel
theorem dX12_isList_16 : decode cX12_isList 16 = .ok (.iconst 0, 1) := by decide +kernel
theorem dX12_isList_17 : decode cX12_isList 17 = .ok (.ireturn, 1) := by decide +kernel
theorem dX12_made_0 : decode cX12_made 0 = .ok (.aload_n 0, 1) := by decide +kernel
theorem dX12_made_1 : decode cX12_made 1 = .ok (.getfield 7, 3) := by decide +kernel
theorem dX12_made_4 : decode cX12_made 4 = .ok (.aload_n 0, 1) := by decide +kernel
theorem dX12_made_5 : decode cX12_made 5 = .ok (.getfield 66, 3) := by decide +kernel
theorem dX12_made_8 : decode cX12_made 8 = .ok (.iload_n 1, 1) := by decide +kernel
theorem dX12_made_9 : decode cX12_made 9 = .ok (.iastore, 1) := by decide +kernel
theorem dX12_made_10 : decode cX12_made 10 = .ok (.aload_n 0, 1) := by decide +kernel
theorem dX12_made_11 : decode cX12_made 11 = .ok (.getfield 13, 3) := by decide +kernel
theorem dX12_made_14 : decode cX12_made 14 = .ok (.aload_n 0, 1) := by decide +kernel
theorem dX12_made_15 : decode cX12_made 15 = .ok (.getfield 66, 3) := by decide +kernel
theorem dX12_made_18 : decode cX12_made 18 = .ok (.iload_n 2, 1) := by decide +kernel
theorem dX12_made_19 : decode cX12_made 19 = .ok (.iastore, 1) := by decide +kernel
theorem dX12_made_20 : decode cX12_made 20 = .ok (.aload_n 0, 1) := by decide +kernel
theorem dX12_made_21 : decode cX12_made 21 = .ok (.getfield 16, 3) := by decide +kernel
theorem dX12_made_24 : decode cX12_made 24 = .ok (.aload_n 0, 1) := by decide +kernel
theorem dX12_made_25 : decode cX12_made 25 = .ok (.getfield 66, 3) := by decide +kernel
theorem dX12_made_28 : decode cX12_made 28 = .ok (.iload_n 3, 1) := by decide +kernel
theorem dX12_made_29 : decode cX12_made 29 = .ok (.iastore, 1) := by decide +kernel
theorem dX12_made_30 : decode cX12_made 30 = .ok (.aload_n 0, 1) := by decide +kernel
theorem dX12_made_31 : decode cX12_made 31 = .ok (.getfield 19, 3) := by decide +kernel
theorem dX12_made_34 : decode cX12_made 34 = .ok (.aload_n 0, 1) := by decide +kernel
theorem dX12_made_35 : decode cX12_made 35 = .ok (.getfield 66, 3) := by decide +kernel
theorem dX12_made_38 : decode cX12_made 38 = .ok (.iload 4, 2) := by decide +kernel
theorem dX12_made_40 : decode cX12_made 40 = .ok (.iastore, 1) := by decide +kernel
theorem dX12_made_41 : decode cX12_made 41 = .ok (.aload_n 0, 1) := by decide +kernel
theorem dX12_made_42 : decode cX12_made 42 = .ok (.getfield 22, 3) := by decide +kernel
theorem dX12_made_45 : decode cX12_made 45 = .ok (.aload_n 0, 1) := by decide +kernel
theorem dX12_made_46 : decode cX12_made 46 = .ok (.getfield 66, 3) := by decide +kernel
theorem dX12_made_49 : decode cX12_made 49 = .ok (.lload 5, 2) := by decide +kernel
theorem dX12_made_51 : decode cX12_made 51 = .ok (.lastore, 1) := by decide +kernel
theorem dX12_made_52 : decode cX12_made 52 = .ok (.aload_n 0, 1) := by decide +kernel
theorem dX12_made_53 : decode cX12_made 53 = .ok (.getfield 26, 3) := by decide +kernel
theorem dX12_made_56 : decode cX12_made 56 = .ok (.aload_n 0, 1) := by decide +kernel
theorem dX12_made_57 : decode cX12_made 57 = .ok (.getfield 66, 3) := by decide +kernel
theorem dX12_made_60 : decode cX12_made 60 = .ok (.lload 7, 2) := by decide +kernel
theorem dX12_made_62 : decode cX12_made 62 = .ok (.lastore, 1) := by decide +kernel
theorem dX12_made_63 : decode cX12_made 63 = .ok (.aload_n 0, 1) := by decide +kernel
theorem dX12_made_64 : decode cX12_made 64 = .ok (.dup, 1) := by decide +kernel
theorem dX12_made_65 : decode cX12_made 65 = .ok (.getfield 66, 3) := by decide +kernel
theorem dX12_made_68 : decode cX12_made 68 = .ok (.iconst 1, 1) := by decide +kernel
theorem dX12_made_69 : decode cX12_made 69 = .ok (.iadd, 1) := by decide +kernel
theorem dX12_made_70 : decode cX12_made 70 = .ok (.putfield 66, 3) := by decide +kernel
theorem dX12_made_73 : decode cX12_made 73 = .ok (.aload_n 0, 1) := by decide +kernel
theorem dX12_made_74 : decode cX12_made 74 = .ok (.getfield 66, 3) := by decide +kernel
theorem dX12_made_77 : decode cX12_made 77 = .ok (.iconst 1, 1) := by decide +kernel
theorem dX12_made_78 : decode cX12_made 78 = .ok (.isub, 1) := by decide +kernel
theorem dX12_made_79 : decode cX12_made 79 = .ok (.ireturn, 1) := by decide +kernel
theorem dX12_put_0 : decode cX12_put 0 = .ok (.aload_n 0, 1) := by decide +kernel
theorem dX12_put_1 : decode cX12_put 1 = .ok (.iconst 0, 1) := by decide +kernel
theorem dX12_put_2 : decode cX12_put 2 = .ok (.putfield 63, 3) := by decide +kernel
theorem dX12_put_5 : decode cX12_put 5 = .ok (.aload_n 0, 1) := by decide +kernel
theorem dX12_put_6 : decode cX12_put 6 = .ok (.getfield 69, 3) := by decide +kernel
theorem dX12_put_9 : decode cX12_put 9 = .ok (.bipush 100, 2) := by decide +kernel
theorem dX12_put_11 : decode cX12_put 11 = .ok (.if_icmp .ne 9, 3) := by decide +kernel
theorem dX12_put_14 : decode cX12_put 14 = .ok (.aload_n 0, 1) := by decide +kernel
theorem dX12_put_15 : decode cX12_put 15 = .ok (.iconst 1, 1) := by decide +kernel
theorem dX12_put_16 : decode cX12_put 16 = .ok (.invokevirtual 72, 3) := by decide +kernel
theorem dX12_put_19 : decode cX12_put 19 = .ok (.ireturn, 1) := by decide +kernel
theorem dX12_put_20 : decode cX12_put 20 = .ok (.aload_n 0, 1) := by decide +kernel
theorem dX12_put_21 : decode cX12_put 21 = .ok (.getfield 44, 3) := by decide +kernel
theorem dX12_put_24 : decode cX12_put 24 = .ok (.aload_n 0, 1) := by decide +kernel
theorem dX12_put_25 : decode cX12_put 25 = .ok (.getfield 69, 3) := by decide +kernel
theorem dX12_put_28 : decode cX12_put 28 = .ok (.iconst 1, 1) := by decide +kernel
theorem dX12_put_29 : decode cX12_put 29 = .ok (.iastore, 1) := by decide +kernel
theorem dX12_put_30 : decode cX12_put 30 = .ok (.aload_n 0, 1) := by decide +kernel
theorem dX12_put_31 : decode cX12_put 31 = .ok (.getfield 47, 3) := by decide +kernel
theorem dX12_put_34 : decode cX12_put 34 = .ok (.aload_n 0, 1) := by decide +kernel
theorem dX12_put_35 : decode cX12_put 35 = .ok (.getfield 69, 3) := by decide +kernel
theorem dX12_put_38 : decode cX12_put 38 = .ok (.lload_n 1, 1) := by decide +kernel
theorem dX12_put_39 : decode cX12_put 39 = .ok (.lastore, 1) := by decide +kernel
theorem dX12_put_40 : decode cX12_put 40 = .ok (.aload_n 0, 1) := by decide +kernel
theorem dX12_put_41 : decode cX12_put 41 = .ok (.dup, 1) := by decide +kernel
theorem dX12_put_42 : decode cX12_put 42 = .ok (.getfield 69, 3) := by decide +kernel
theorem dX12_put_45 : decode cX12_put 45 = .ok (.iconst 1, 1) := by decide +kernel
theorem dX12_put_46 : decode cX12_put 46 = .ok (.iadd, 1) := by decide +kernel
theorem dX12_put_47 : decode cX12_put 47 = .ok (.putfield 69, 3) := by decide +kernel
theorem dX12_put_50 : decode cX12_put 50 = .ok (.aload_n 0, 1) := by decide +kernel
theorem dX12_put_51 : decode cX12_put 51 = .ok (.getfield 69, 3) := by decide +kernel
theorem dX12_put_54 : decode cX12_put 54 = .ok (.ireturn, 1) := by decide +kernel
theorem dX12_hole_0 : decode cX12_hole 0 = .ok (.aload_n 0, 1) := by decide +kernel
theorem dX12_hole_1 : decode cX12_hole 1 = .ok (.iconst 0, 1) := by decide +kernel
theorem dX12_hole_2 : decode cX12_hole 2 = .ok (.putfield 63, 3) := by decide +kernel
theorem dX12_hole_5 : decode cX12_hole 5 = .ok (.iload_n 1, 1) := by decide +kernel
theorem dX12_hole_6 : decode cX12_hole 6 = .ok (.ifCond .eq 14, 3) := by decide +kernel
theorem dX12_hole_9 : decode cX12_hole 9 = .ok (.iload_n 1, 1) := by decide +kernel
theorem dX12_hole_10 : decode cX12_hole 10 = .ok (.iconst 1, 1) := by decide +kernel
theorem dX12_hole_11 : decode cX12_hole 11 = .ok (.if_icmp .eq 9, 3) := by decide +kernel
theorem dX12_hole_14 : decode cX12_hole 14 = .ok (.aload_n 0, 1) := by decide +kernel
theorem dX12_hole_15 : decode cX12_hole 15 = .ok (.iconst 1, 1) := by decide +kernel
theorem dX12_hole_16 : decode cX12_hole 16 = .ok (.invokevirtual 72, 3) := by decide +kernel
theorem dX12_hole_19 : decode cX12_hole 19 = .ok (.ireturn, 1) := by decide +kernel
theorem dX12_hole_20 : decode cX12_hole 20 = .ok (.aload_n 0, 1) := by decide +kernel
theorem dX12_hole_21 : decode cX12_hole 21 = .ok (.getfield 69, 3) := by decide +kernel
theorem dX12_hole_24 : decode cX12_hole 24 = .ok (.bipush 100, 2) := by decide +kernel
theorem dX12_hole_26 : decode cX12_hole 26 = .ok (.if_icmp .ne 9, 3) := by decide +kernel
theorem dX12_hole_29 : decode cX12_hole 29 = .ok (.aload_n 0, 1) := by decide +kernel
theorem dX12_hole_30 : decode cX12_hole 30 = .ok (.iconst 2, 1) := by decide +kernel
theorem dX12_hole_31 : decode cX12_hole 31 = .ok (.invokevirtual 72, 3) := by decide +kernel
theorem dX12_hole_34 : decode cX12_hole 34 = .ok (.ireturn, 1) := by decide +kernel
theorem dX12_hole_35 : decode cX12_hole 35 = .ok (.aload_n 0, 1) := by decide +kernel
theorem dX12_hole_36 : decode cX12_hole 36 = .ok (.getfield 44, 3) := by decide +kernel
theorem dX12_hole_39 : decode cX12_hole 39 = .ok (.aload_n 0, 1) := by decide +kernel
theorem dX12_hole_40 : decode cX12_hole 40 = .ok (.getfield 69, 3) := by decide +kernel
theorem dX12_hole_43 : decode cX12_hole 43 = .ok (.iload_n 1, 1) := by decide +kernel
theorem dX12_hole_44 : decode cX12_hole 44 = .ok (.ifCond .ne 7, 3) := by decide +kernel
theorem dX12_hole_47 : decode cX12_hole 47 = .ok (.iconst 3, 1) := by decide +kernel
theorem dX12_hole_48 : decode cX12_hole 48 = .ok (.goto 5, 3) := by decide +kernel
theorem dX12_hole_51 : decode cX12_hole 51 = .ok (.bipush 7, 2) := by decide +kernel
theorem dX12_hole_53 : decode cX12_hole 53 = .ok (.iastore, 1) := by decide +kernel
theorem dX12_hole_54 : decode cX12_hole 54 = .ok (.aload_n 0, 1) := by decide +kernel
theorem dX12_hole_55 : decode cX12_hole 55 = .ok (.dup, 1) := by decide +kernel
theorem dX12_hole_56 : decode cX12_hole 56 = .ok (.getfield 69, 3) := by decide +kernel
theorem dX12_hole_59 : decode cX12_hole 59 = .ok (.iconst 1, 1) := by decide +kernel
theorem dX12_hole_60 : decode cX12_hole 60 = .ok (.iadd, 1) := by decide +kernel
theorem dX12_hole_61 : decode cX12_hole 61 = .ok (.putfield 69, 3) := by decide +kernel
theorem dX12_hole_64 : decode cX12_hole 64 = .ok (.aload_n 0, 1) := by decide +kernel
theorem dX12_hole_65 : decode cX12_hole 65 = .ok (.getfield 69, 3) := by decide +kernel
theorem dX12_hole_68 : decode cX12_hole 68 = .ok (.ireturn, 1) := by decide +kernel
theorem dX12_given_0 : decode cX12_given 0 = .ok (.aload_n 0, 1) := by decide +kernel
theorem dX12_given_1 : decode cX12_given 1 = .ok (.iconst 0, 1) := by decide +kernel
theorem dX12_given_2 : decode cX12_given 2 = .ok (.putfield 63, 3) := by decide +kernel
theorem dX12_given_5 : decode cX12_given 5 = .ok (.aload_n 0, 1) := by decide +kernel
theorem dX12_given_6 : decode cX12_given 6 = .ok (.getfield 66, 3) := by decide +kernel
theorem dX12_given_9 : decode cX12_given 9 = .ok (.bipush 24, 2) := by decide +kernel
theorem dX12_given_11 : decode cX12_given 11 = .ok (.if_icmp .ne 9, 3) := by decide +kernel
theorem dX12_given_14 : decode cX12_given 14 = .ok (.aload_n 0, 1) := by decide +kernel
theorem dX12_given_15 : decode cX12_given 15 = .ok (.iconst 1, 1) := by decide +kernel
theorem dX12_given_16 : decode cX12_given 16 = .ok (.invokevirtual 72, 3) := by decide +kernel
theorem dX12_given_19 : decode cX12_given 19 = .ok (.ireturn, 1) := by decide +kernel
theorem dX12_given_20 : decode cX12_given 20 = .ok (.iconst 0, 1) := by decide +kernel
theorem dX12_given_21 : decode cX12_given 21 = .ok (.istore_n 2, 1) := by decide +kernel
theorem dX12_given_22 : decode cX12_given 22 = .ok (.iload_n 2, 1) := by decide +kernel
theorem dX12_given_23 : decode cX12_given 23 = .ok (.aload_n 0, 1) := by decide +kernel
theorem dX12_given_24 : decode cX12_given 24 = .ok (.getfield 69, 3) := by decide +kernel
theorem dX12_given_27 : decode cX12_given 27 = .ok (.if_icmp .ge 49, 3) := by decide +kernel
theorem dX12_given_30 : decode cX12_given 30 = .ok (.aload_n 0, 1) := by decide +kernel
theorem dX12_given_31 : decode cX12_given 31 = .ok (.getfield 54, 3) := by decide +kernel
theorem dX12_given_34 : decode cX12_given 34 = .ok (.bipush 100, 2) := by decide +kernel
theorem dX12_given_36 : decode cX12_given 36 = .ok (.aload_n 0, 1) := by decide +kernel
theorem dX12_given_37 : decode cX12_given 37 = .ok (.getfield 66, 3) := by decide +kernel
theorem dX12_given_40 : decode cX12_given 40 = .ok (.imul, 1) := by decide +kernel
theorem dX12_given_41 : decode cX12_given 41 = .ok (.iload_n 2, 1) := by decide +kernel
theorem dX12_given_42 : decode cX12_given 42 = .ok (.iadd, 1) := by decide +kernel
theorem dX12_given_43 : decode cX12_given 43 = .ok (.aload_n 0, 1) := by decide +kernel
theorem dX12_given_44 : decode cX12_given 44 = .ok (.getfield 44, 3) := by decide +kernel
theorem dX12_given_47 : decode cX12_given 47 = .ok (.iload_n 2, 1) := by decide +kernel
theorem dX12_given_48 : decode cX12_given 48 = .ok (.iaload, 1) := by decide +kernel
theorem dX12_given_49 : decode cX12_given 49 = .ok (.iastore, 1) := by decide +kernel
theorem dX12_given_50 : decode cX12_given 50 = .ok (.aload_n 0, 1) := by decide +kernel
theorem dX12_given_51 : decode cX12_given 51 = .ok (.getfield 57, 3) := by decide +kernel
theorem dX12_given_54 : decode cX12_given 54 = .ok (.bipush 100, 2) := by decide +kernel
theorem dX12_given_56 : decode cX12_given 56 = .ok (.aload_n 0, 1) := by decide +kernel
theorem dX12_given_57 : decode cX12_given 57 = .ok (.getfield 66, 3) := by decide +kernel
theorem dX12_given_60 : decode cX12_given 60 = .ok (.imul, 1) := by decide +kernel
theorem dX12_given_61 : decode cX12_given 61 = .ok (.iload_n 2, 1) := by decide +kernel
theorem dX12_given_62 : decode cX12_given 62 = .ok (.iadd, 1) := by decide +kernel
theorem dX12_given_63 : decode cX12_given 63 = .ok (.aload_n 0, 1) := by decide +kernel
theorem dX12_given_64 : decode cX12_given 64 = .ok (.getfield 47, 3) := by decide +kernel
theorem dX12_given_67 : decode cX12_given 67 = .ok (.iload_n 2, 1) := by decide +kernel
theorem dX12_given_68 : decode cX12_given 68 = .ok (.laload, 1) := by decide +kernel
theorem dX12_given_69 : decode cX12_given 69 = .ok (.lastore, 1) := by decide +kernel
theorem dX12_given_70 : decode cX12_given 70 = .ok (.iinc 2 1, 3) := by decide +kernel
theorem dX12_given_73 : decode cX12_given 73 = .ok (.goto (-51), 3) := by decide +kernel
theorem dX12_given_76 : decode cX12_given 76 = .ok (.aload_n 0, 1) := by decide +kernel
theorem dX12_given_77 : decode cX12_given 77 = .ok (.getfield 69, 3) := by decide +kernel
theorem dX12_given_80 : decode cX12_given 80 = .ok (.istore_n 2, 1) := by decide +kernel
theorem dX12_given_81 : decode cX12_given 81 = .ok (.aload_n 0, 1) := by decide +kernel
theorem dX12_given_82 : decode cX12_given 82 = .ok (.iconst 0, 1) := by decide +kernel
theorem dX12_given_83 : decode cX12_given 83 = .ok (.putfield 69, 3) := by decide +kernel
theorem dX12_given_86 : decode cX12_given 86 = .ok (.aload_n 0, 1) := by decide +kernel
theorem dX12_given_87 : decode cX12_given 87 = .ok (.iconst 0, 1) := by decide +kernel
theorem dX12_given_88 : decode cX12_given 88 = .ok (.iload_n 2, 1) := by decide +kernel
theorem dX12_given_89 : decode cX12_given 89 = .ok (.iconst 0, 1) := by decide +kernel
theorem dX12_given_90 : decode cX12_given 90 = .ok (.iload_n 1, 1) := by decide +kernel
theorem dX12_given_91 : decode cX12_given 91 = .ok (.ifCond .eq 7, 3) := by decide +kernel
theorem dX12_given_94 : decode cX12_given 94 = .ok (.iconst 1, 1) := by decide +kernel
theorem dX12_given_95 : decode cX12_given 95 = .ok (.goto 4, 3) := by decide +kernel
theorem dX12_given_98 : decode cX12_given 98 = .ok (.iconst 0, 1) := by decide +kernel
theorem dX12_given_99 : decode cX12_given 99 = .ok (.lconst 0, 1) := by decide +kernel
theorem dX12_given_100 : decode cX12_given 100 = .ok (.lconst 0, 1) := by decide +kernel
theorem dX12_given_101 : decode cX12_given 101 = .ok (.invokevirtual 76, 3) := by decide +kernel
theorem dX12_given_104 : decode cX12_given 104 = .ok (.ireturn, 1) := by decide +kernel
theorem dX12_count_0 : decode cX12_count 0 = .ok (.aload_n 0, 1) := by decide +kernel
theorem dX12_count_1 : decode cX12_count 1 = .ok (.iconst 0, 1) := by decide +kernel
theorem dX12_count_2 : decode cX12_count 2 = .ok (.putfield 63, 3) := by decide +kernel
theorem dX12_count_5 : decode cX12_count 5 = .ok (.aload_n 0, 1) := by decide +kernel
theorem dX12_count_6 : decode cX12_count 6 = .ok (.getfield 66, 3) := by decide +kernel
theorem dX12_count_9 : decode cX12_count 9 = .ok (.bipush 24, 2) := by decide +kernel
theorem dX12_count_11 : decode cX12_count 11 = .ok (.if_icmp .ne 11, 3) := by decide +kernel
theorem dX12_count_14 : decode cX12_count 14 = .ok (.aload_n 0, 1) := by decide +kernel
theorem dX12_count_15 : decode cX12_count 15 = .ok (.iconst 1, 1) := by decide +kernel
theorem dX12_count_16 : decode cX12_count 16 = .ok (.invokevirtual 72, 3) := by decide +kernel
theorem dX12_count_19 : decode cX12_count 19 = .ok (.goto 13, 3) := by decide +kernel
theorem dX12_count_22 : decode cX12_count 22 = .ok (.aload_n 0, 1) := by decide +kernel
theorem dX12_count_23 : decode cX12_count 23 = .ok (.iconst 1, 1) := by decide +kernel
theorem dX12_count_24 : decode cX12_count 24 = .ok (.iconst 0, 1) := by decide +kernel
theorem dX12_count_25 : decode cX12_count 25 = .ok (.iconst 0, 1) := by decide +kernel
theorem dX12_count_26 : decode cX12_count 26 = .ok (.iconst 0, 1) := by decide +kernel
theorem dX12_count_27 : decode cX12_count 27 = .ok (.lload_n 1, 1) := by decide +kernel
theorem dX12_count_28 : decode cX12_count 28 = .ok (.lload_n 3, 1) := by decide +kernel
theorem dX12_count_29 : decode cX12_count 29 = .ok (.invokevirtual 76, 3) := by decide +kernel
theorem dX12_count_32 : decode cX12_count 32 = .ok (.ireturn, 1) := by decide +kernel
theorem dX12_isOp_0 : decode cX12_isOp 0 = .ok (.iload_n 0, 1) := by decide +kernel
theorem dX12_isOp_1 : decode cX12_isOp 1 = .ok (.ifCond .lt 13, 3) := by decide +kernel
theorem dX12_isOp_4 : decode cX12_isOp 4 = .ok (.iload_n 0, 1) := by decide +kernel
theorem dX12_isOp_5 : decode cX12_isOp 5 = .ok (.bipush 8, 2) := by decide +kernel
theorem dX12_isOp_7 : decode cX12_isOp 7 = .ok (.if_icmp .gt 7, 3) := by decide +kernel
theorem dX12_isOp_10 : decode cX12_isOp 10 = .ok (.iconst 1, 1) := by decide +kernel
theorem dX12_isOp_11 : decode cX12_isOp 11 = .ok (.goto 4, 3) := by decide +kernel
theorem dX12_isOp_14 : decode cX12_isOp 14 = .ok (.iconst 0, 1) := by decide +kernel
theorem dX12_isOp_15 : decode cX12_isOp 15 = .ok (.ireturn, 1) := by decide +kernel
theorem dX12_isCond_0 : decode cX12_isCond 0 = .ok (.iload_n 0, 1) := by decide +kernel
theorem dX12_isCond_1 : decode cX12_isCond 1 = .ok (.ifCond .lt 12, 3) := by decide +kernel
theorem dX12_isCond_4 : decode cX12_isCond 4 = .ok (.iload_n 0, 1) := by decide +kernel
theorem dX12_isCond_5 : decode cX12_isCond 5 = .ok (.iconst 3, 1) := by decide +kernel
theorem dX12_isCond_6 : decode cX12_isCond 6 = .ok (.if_icmp .gt 7, 3) := by decide +kernel
theorem dX12_isCond_9 : decode cX12_isCond 9 = .ok (.iconst 1, 1) := by decide +kernel
theorem dX12_isCond_10 : decode cX12_isCond 10 = .ok (.goto 4, 3) := by decide +kernel
theorem dX12_isCond_13 : decode cX12_isCond 13 = .ok (.iconst 0, 1) := by decide +kernel
theorem dX12_isCond_14 : decode cX12_isCond 14 = .ok (.ireturn, 1) := by decide +kernel
theorem dX12_iterate_0 : decode cX12_iterate 0 = .ok (.aload_n 0, 1) := by decide +kernel
theorem dX12_iterate_1 : decode cX12_iterate 1 = .ok (.iconst 0, 1) := by decide +kernel
theorem dX12_iterate_2 : decode cX12_iterate 2 = .ok (.putfield 63, 3) := by decide +kernel
theorem dX12_iterate_5 : decode cX12_iterate 5 = .ok (.iload_n 1, 1) := by decide +kernel
theorem dX12_iterate_6 : decode cX12_iterate 6 = .ok (.invokestatic 80, 3) := by decide +kernel
theorem dX12_iterate_9 : decode cX12_iterate 9 = .ok (.ifCond .ne 9, 3) := by decide +kernel
theorem dX12_iterate_12 : decode cX12_iterate 12 = .ok (.aload_n 0, 1) := by decide +kernel
theorem dX12_iterate_13 : decode cX12_iterate 13 = .ok (.iconst 1, 1) := by decide +kernel
theorem dX12_iterate_14 : decode cX12_iterate 14 = .ok (.invokevirtual 72, 3) := by decide +kernel
theorem dX12_iterate_17 : decode cX12_iterate 17 = .ok (.ireturn, 1) := by decide +kernel
theorem dX12_iterate_18 : decode cX12_iterate 18 = .ok (.aload_n 0, 1) := by decide +kernel
theorem dX12_iterate_19 : decode cX12_iterate 19 = .ok (.getfield 66, 3) := by decide +kernel
theorem dX12_iterate_22 : decode cX12_iterate 22 = .ok (.bipush 24, 2) := by decide +kernel
theorem dX12_iterate_24 : decode cX12_iterate 24 = .ok (.if_icmp .ne 11, 3) := by decide +kernel
theorem dX12_iterate_27 : decode cX12_iterate 27 = .ok (.aload_n 0, 1) := by decide +kernel
theorem dX12_iterate_28 : decode cX12_iterate 28 = .ok (.iconst 2, 1) := by decide +kernel
theorem dX12_iterate_29 : decode cX12_iterate 29 = .ok (.invokevirtual 72, 3) := by decide +kernel
theorem dX12_iterate_32 : decode cX12_iterate 32 = .ok (.goto 14, 3) := by decide +kernel
theorem dX12_iterate_35 : decode cX12_iterate 35 = .ok (.aload_n 0, 1) := by decide +kernel
theorem dX12_iterate_36 : decode cX12_iterate 36 = .ok (.iconst 2, 1) := by decide +kernel
theorem dX12_iterate_37 : decode cX12_iterate 37 = .ok (.iconst 0, 1) := by decide +kernel
theorem dX12_iterate_38 : decode cX12_iterate 38 = .ok (.iconst 0, 1) := by decide +kernel
theorem dX12_iterate_39 : decode cX12_iterate 39 = .ok (.iload_n 1, 1) := by decide +kernel
theorem dX12_iterate_40 : decode cX12_iterate 40 = .ok (.lload_n 2, 1) := by decide +kernel
theorem dX12_iterate_41 : decode cX12_iterate 41 = .ok (.lload 4, 2) := by decide +kernel
theorem dX12_iterate_43 : decode cX12_iterate 43 = .ok (.invokevirtual 76, 3) := by decide +kernel
theorem dX12_iterate_46 : decode cX12_iterate 46 = .ok (.ireturn, 1) := by decide +kernel
theorem dX12_map_0 : decode cX12_map 0 = .ok (.aload_n 0, 1) := by decide +kernel
theorem dX12_map_1 : decode cX12_map 1 = .ok (.iconst 0, 1) := by decide +kernel
theorem dX12_map_2 : decode cX12_map 2 = .ok (.putfield 63, 3) := by decide +kernel
theorem dX12_map_5 : decode cX12_map 5 = .ok (.aload_n 0, 1) := by decide +kernel
theorem dX12_map_6 : decode cX12_map 6 = .ok (.iload_n 1, 1) := by decide +kernel
theorem dX12_map_7 : decode cX12_map 7 = .ok (.invokevirtual 84, 3) := by decide +kernel
theorem dX12_map_10 : decode cX12_map 10 = .ok (.ifCond .ne 9, 3) := by decide +kernel
theorem dX12_map_13 : decode cX12_map 13 = .ok (.aload_n 0, 1) := by decide +kernel
theorem dX12_map_14 : decode cX12_map 14 = .ok (.iconst 1, 1) := by decide +kernel
theorem dX12_map_15 : decode cX12_map 15 = .ok (.invokevirtual 72, 3) := by decide +kernel
theorem dX12_map_18 : decode cX12_map 18 = .ok (.ireturn, 1) := by decide +kernel
theorem dX12_map_19 : decode cX12_map 19 = .ok (.iload_n 2, 1) := by decide +kernel
theorem dX12_map_20 : decode cX12_map 20 = .ok (.invokestatic 80, 3) := by decide +kernel
theorem dX12_map_23 : decode cX12_map 23 = .ok (.ifCond .ne 9, 3) := by decide +kernel
theorem dX12_map_26 : decode cX12_map 26 = .ok (.aload_n 0, 1) := by decide +kernel
theorem dX12_map_27 : decode cX12_map 27 = .ok (.iconst 2, 1) := by decide +kernel
theorem dX12_map_28 : decode cX12_map 28 = .ok (.invokevirtual 72, 3) := by decide +kernel
theorem dX12_map_31 : decode cX12_map 31 = .ok (.ireturn, 1) := by decide +kernel
theorem dX12_map_32 : decode cX12_map 32 = .ok (.aload_n 0, 1) := by decide +kernel
theorem dX12_map_33 : decode cX12_map 33 = .ok (.getfield 66, 3) := by decide +kernel
theorem dX12_map_36 : decode cX12_map 36 = .ok (.bipush 24, 2) := by decide +kernel
theorem dX12_map_38 : decode cX12_map 38 = .ok (.if_icmp .ne 11, 3) := by decide +kernel
theorem dX12_map_41 : decode cX12_map 41 = .ok (.aload_n 0, 1) := by decide +kernel
theorem dX12_map_42 : decode cX12_map 42 = .ok (.iconst 3, 1) := by decide +kernel
theorem dX12_map_43 : decode cX12_map 43 = .ok (.invokevirtual 72, 3) := by decide +kernel
theorem dX12_map_46 : decode cX12_map 46 = .ok (.goto 13, 3) := by decide +kernel
theorem dX12_map_49 : decode cX12_map 49 = .ok (.aload_n 0, 1) := by decide +kernel
theorem dX12_map_50 : decode cX12_map 50 = .ok (.iconst 3, 1) := by decide +kernel
theorem dX12_map_51 : decode cX12_map 51 = .ok (.iload_n 1, 1) := by decide +kernel
theorem dX12_map_52 : decode cX12_map 52 = .ok (.iconst 0, 1) := by decide +kernel
theorem dX12_map_53 : decode cX12_map 53 = .ok (.iload_n 2, 1) := by decide +kernel
theorem dX12_map_54 : decode cX12_map 54 = .ok (.lload_n 3, 1) := by decide +kernel
theorem dX12_map_55 : decode cX12_map 55 = .ok (.lconst 0, 1) := by decide +kernel
theorem dX12_map_56 : decode cX12_map 56 = .ok (.invokevirtual 76, 3) := by decide +kernel
theorem dX12_map_59 : decode cX12_map 59 = .ok (.ireturn, 1) := by decide +kernel
theorem dX12_both_0 : decode cX12_both 0 = .ok (.aload_n 0, 1) := by decide +kernel
theorem dX12_both_1 : decode cX12_both 1 = .ok (.iconst 0, 1) := by decide +kernel
theorem dX12_both_2 : decode cX12_both 2 = .ok (.putfield 63, 3) := by decide +kernel
theorem dX12_both_5 : decode cX12_both 5 = .ok (.aload_n 0, 1) := by decide +kernel
theorem dX12_both_6 : decode cX12_both 6 = .ok (.iload_n 1, 1) := by decide +kernel
theorem dX12_both_7 : decode cX12_both 7 = .ok (.invokevirtual 84, 3) := by decide +kernel
theorem dX12_both_10 : decode cX12_both 10 = .ok (.ifCond .eq 11, 3) := by decide +kernel
theorem dX12_both_13 : decode cX12_both 13 = .ok (.aload_n 0, 1) := by decide +kernel
theorem dX12_both_14 : decode cX12_both 14 = .ok (.iload_n 2, 1) := by decide +kernel
theorem dX12_both_15 : decode cX12_both 15 = .ok (.invokevirtual 84, 3) := by decide +kernel
theorem dX12_both_18 : decode cX12_both 18 = .ok (.ifCond .ne 9, 3) := by decide +kernel
theorem dX12_both_21 : decode cX12_both 21 = .ok (.aload_n 0, 1) := by decide +kernel
theorem dX12_both_22 : decode cX12_both 22 = .ok (.iconst 1, 1) := by decide +kernel
theorem dX12_both_23 : decode cX12_both 23 = .ok (.invokevirtual 72, 3) := by decide +kernel
theorem dX12_both_26 : decode cX12_both 26 = .ok (.ireturn, 1) := by decide +kernel
theorem dX12_both_27 : decode cX12_both 27 = .ok (.iload_n 3, 1) := by decide +kernel
theorem dX12_both_28 : decode cX12_both 28 = .ok (.invokestatic 80, 3) := by decide +kernel
theorem dX12_both_31 : decode cX12_both 31 = .ok (.ifCond .ne 9, 3) := by decide +kernel
theorem dX12_both_34 : decode cX12_both 34 = .ok (.aload_n 0, 1) := by decide +kernel
theorem dX12_both_35 : decode cX12_both 35 = .ok (.iconst 2, 1) := by decide +kernel
theorem dX12_both_36 : decode cX12_both 36 = .ok (.invokevirtual 72, 3) := by decide +kernel
theorem dX12_both_39 : decode cX12_both 39 = .ok (.ireturn, 1) := by decide +kernel
theorem dX12_both_40 : decode cX12_both 40 = .ok (.aload_n 0, 1) := by decide +kernel
theorem dX12_both_41 : decode cX12_both 41 = .ok (.getfield 66, 3) := by decide +kernel
theorem dX12_both_44 : decode cX12_both 44 = .ok (.bipush 24, 2) := by decide +kernel
theorem dX12_both_46 : decode cX12_both 46 = .ok (.if_icmp .ne 11, 3) := by decide +kernel
theorem dX12_both_49 : decode cX12_both 49 = .ok (.aload_n 0, 1) := by decide +kernel
theorem dX12_both_50 : decode cX12_both 50 = .ok (.iconst 3, 1) := by decide +kernel
theorem dX12_both_51 : decode cX12_both 51 = .ok (.invokevirtual 72, 3) := by decide +kernel
theorem dX12_both_54 : decode cX12_both 54 = .ok (.goto 13, 3) := by decide +kernel
theorem dX12_both_57 : decode cX12_both 57 = .ok (.aload_n 0, 1) := by decide +kernel
theorem dX12_both_58 : decode cX12_both 58 = .ok (.iconst 4, 1) := by decide +kernel
theorem dX12_both_59 : decode cX12_both 59 = .ok (.iload_n 1, 1) := by decide +kernel
theorem dX12_both_60 : decode cX12_both 60 = .ok (.iload_n 2, 1) := by decide +kernel
theorem dX12_both_61 : decode cX12_both 61 = .ok (.iload_n 3, 1) := by decide +kernel
theorem dX12_both_62 : decode cX12_both 62 = .ok (.lconst 0, 1) := by decide +kernel
theorem dX12_both_63 : decode cX12_both 63 = .ok (.lconst 0, 1) := by decide +kernel
theorem dX12_both_64 : decode cX12_both 64 = .ok (.invokevirtual 76, 3) := by decide +kernel
theorem dX12_both_67 : decode cX12_both 67 = .ok (.ireturn, 1) := by decide +kernel
theorem dX12_scan_0 : decode cX12_scan 0 = .ok (.aload_n 0, 1) := by decide +kernel
theorem dX12_scan_1 : decode cX12_scan 1 = .ok (.iconst 0, 1) := by decide +kernel
theorem dX12_scan_2 : decode cX12_scan 2 = .ok (.putfield 63, 3) := by decide +kernel
theorem dX12_scan_5 : decode cX12_scan 5 = .ok (.aload_n 0, 1) := by decide +kernel
theorem dX12_scan_6 : decode cX12_scan 6 = .ok (.iload_n 1, 1) := by decide +kernel
theorem dX12_scan_7 : decode cX12_scan 7 = .ok (.invokevirtual 84, 3) := by decide +kernel
theorem dX12_scan_10 : decode cX12_scan 10 = .ok (.ifCond .ne 9, 3) := by decide +kernel
theorem dX12_scan_13 : decode cX12_scan 13 = .ok (.aload_n 0, 1) := by decide +kernel
theorem dX12_scan_14 : decode cX12_scan 14 = .ok (.iconst 1, 1) := by decide +kernel
theorem dX12_scan_15 : decode cX12_scan 15 = .ok (.invokevirtual 72, 3) := by decide +kernel
theorem dX12_scan_18 : decode cX12_scan 18 = .ok (.ireturn, 1) := by decide +kernel
theorem dX12_scan_19 : decode cX12_scan 19 = .ok (.iload_n 2, 1) := by decide +kernel
theorem dX12_scan_20 : decode cX12_scan 20 = .ok (.invokestatic 80, 3) := by decide +kernel
theorem dX12_scan_23 : decode cX12_scan 23 = .ok (.ifCond .ne 9, 3) := by decide +kernel
theorem dX12_scan_26 : decode cX12_scan 26 = .ok (.aload_n 0, 1) := by decide +kernel
theorem dX12_scan_27 : decode cX12_scan 27 = .ok (.iconst 2, 1) := by decide +kernel
theorem dX12_scan_28 : decode cX12_scan 28 = .ok (.invokevirtual 72, 3) := by decide +kernel
theorem dX12_scan_31 : decode cX12_scan 31 = .ok (.ireturn, 1) := by decide +kernel
theorem dX12_scan_32 : decode cX12_scan 32 = .ok (.aload_n 0, 1) := by decide +kernel
theorem dX12_scan_33 : decode cX12_scan 33 = .ok (.getfield 66, 3) := by decide +kernel
theorem dX12_scan_36 : decode cX12_scan 36 = .ok (.bipush 24, 2) := by decide +kernel
theorem dX12_scan_38 : decode cX12_scan 38 = .ok (.if_icmp .ne 11, 3) := by decide +kernel
theorem dX12_scan_41 : decode cX12_scan 41 = .ok (.aload_n 0, 1) := by decide +kernel
theorem dX12_scan_42 : decode cX12_scan 42 = .ok (.iconst 3, 1) := by decide +kernel
theorem dX12_scan_43 : decode cX12_scan 43 = .ok (.invokevirtual 72, 3) := by decide +kernel
theorem dX12_scan_46 : decode cX12_scan 46 = .ok (.goto 13, 3) := by decide +kernel
theorem dX12_scan_49 : decode cX12_scan 49 = .ok (.aload_n 0, 1) := by decide +kernel
theorem dX12_scan_50 : decode cX12_scan 50 = .ok (.iconst 5, 1) := by decide +kernel
theorem dX12_scan_51 : decode cX12_scan 51 = .ok (.iload_n 1, 1) := by decide +kernel
theorem dX12_scan_52 : decode cX12_scan 52 = .ok (.iconst 0, 1) := by decide +kernel
theorem dX12_scan_53 : decode cX12_scan 53 = .ok (.iload_n 2, 1) := by decide +kernel
theorem dX12_scan_54 : decode cX12_scan 54 = .ok (.lload_n 3, 1) := by decide +kernel
theorem dX12_scan_55 : decode cX12_scan 55 = .ok (.lconst 0, 1) := by decide +kernel
theorem dX12_scan_56 : decode cX12_scan 56 = .ok (.invokevirtual 76, 3) := by decide +kernel
theorem dX12_scan_59 : decode cX12_scan 59 = .ok (.ireturn, 1) := by decide +kernel
theorem dX12_floor_0 : decode cX12_floor 0 = .ok (.lload_n 0, 1) := by decide +kernel
theorem dX12_floor_1 : decode cX12_floor 1 = .ok (.lload_n 2, 1) := by decide +kernel
theorem dX12_floor_2 : decode cX12_floor 2 = .ok (.ldiv, 1) := by decide +kernel
theorem dX12_floor_3 : decode cX12_floor 3 = .ok (.lstore 4, 2) := by decide +kernel
theorem dX12_floor_5 : decode cX12_floor 5 = .ok (.lload_n 0, 1) := by decide +kernel
theorem dX12_floor_6 : decode cX12_floor 6 = .ok (.lload_n 2, 1) := by decide +kernel
theorem dX12_floor_7 : decode cX12_floor 7 = .ok (.lrem, 1) := by decide +kernel
theorem dX12_floor_8 : decode cX12_floor 8 = .ok (.lconst 0, 1) := by decide +kernel
theorem dX12_floor_9 : decode cX12_floor 9 = .ok (.lcmp, 1) := by decide +kernel
theorem dX12_floor_10 : decode cX12_floor 10 = .ok (.ifCond .eq 35, 3) := by decide +kernel
theorem dX12_floor_13 : decode cX12_floor 13 = .ok (.lload_n 0, 1) := by decide +kernel
theorem dX12_floor_14 : decode cX12_floor 14 = .ok (.lconst 0, 1) := by decide +kernel
theorem dX12_floor_15 : decode cX12_floor 15 = .ok (.lcmp, 1) := by decide +kernel
theorem dX12_floor_16 : decode cX12_floor 16 = .ok (.ifCond .ge 7, 3) := by decide +kernel
theorem dX12_floor_19 : decode cX12_floor 19 = .ok (.iconst 1, 1) := by decide +kernel
theorem dX12_floor_20 : decode cX12_floor 20 = .ok (.goto 4, 3) := by decide +kernel
theorem dX12_floor_23 : decode cX12_floor 23 = .ok (.iconst 0, 1) := by decide +kernel
theorem dX12_floor_24 : decode cX12_floor 24 = .ok (.lload_n 2, 1) := by decide +kernel
theorem dX12_floor_25 : decode cX12_floor 25 = .ok (.lconst 0, 1) := by decide +kernel
theorem dX12_floor_26 : decode cX12_floor 26 = .ok (.lcmp, 1) := by decide +kernel
theorem dX12_floor_27 : decode cX12_floor 27 = .ok (.ifCond .ge 7, 3) := by decide +kernel
theorem dX12_floor_30 : decode cX12_floor 30 = .ok (.iconst 1, 1) := by decide +kernel
theorem dX12_floor_31 : decode cX12_floor 31 = .ok (.goto 4, 3) := by decide +kernel
theorem dX12_floor_34 : decode cX12_floor 34 = .ok (.iconst 0, 1) := by decide +kernel
theorem dX12_floor_35 : decode cX12_floor 35 = .ok (.if_icmp .eq 10, 3) := by decide +kernel
theorem dX12_floor_38 : decode cX12_floor 38 = .ok (.lload 4, 2) := by decide +kernel
theorem dX12_floor_40 : decode cX12_floor 40 = .ok (.lconst 1, 1) := by decide +kernel
theorem dX12_floor_41 : decode cX12_floor 41 = .ok (.lsub, 1) := by decide +kernel
theorem dX12_floor_42 : decode cX12_floor 42 = .ok (.goto 5, 3) := by decide +kernel
theorem dX12_floor_45 : decode cX12_floor 45 = .ok (.lload 4, 2) := by decide +kernel
theorem dX12_floor_47 : decode cX12_floor 47 = .ok (.lreturn, 1) := by decide +kernel
theorem dX12_meets_0 : decode cX12_meets 0 = .ok (.iload_n 0, 1) := by decide +kernel
theorem dX12_meets_1 : decode cX12_meets 1 = .ok (.ifCond .ne 17, 3) := by decide +kernel
theorem dX12_meets_4 : decode cX12_meets 4 = .ok (.lload_n 1, 1) := by decide +kernel
theorem dX12_meets_5 : decode cX12_meets 5 = .ok (.lload_n 3, 1) := by decide +kernel
theorem dX12_meets_6 : decode cX12_meets 6 = .ok (.lcmp, 1) := by decide +kernel
theorem dX12_meets_7 : decode cX12_meets 7 = .ok (.ifCond .ge 7, 3) := by decide +kernel
theorem dX12_meets_10 : decode cX12_meets 10 = .ok (.iconst 1, 1) := by decide +kernel
theorem dX12_meets_11 : decode cX12_meets 11 = .ok (.goto 78, 3) := by decide +kernel
theorem dX12_meets_14 : decode cX12_meets 14 = .ok (.iconst 0, 1) := by decide +kernel
theorem dX12_meets_15 : decode cX12_meets 15 = .ok (.goto 74, 3) := by decide +kernel
theorem dX12_meets_18 : decode cX12_meets 18 = .ok (.iload_n 0, 1) := by decide +kernel
theorem dX12_meets_19 : decode cX12_meets 19 = .ok (.iconst 1, 1) := by decide +kernel
theorem dX12_meets_20 : decode cX12_meets 20 = .ok (.if_icmp .ne 17, 3) := by decide +kernel
theorem dX12_meets_23 : decode cX12_meets 23 = .ok (.lload_n 1, 1) := by decide +kernel
theorem dX12_meets_24 : decode cX12_meets 24 = .ok (.lload_n 3, 1) := by decide +kernel
theorem dX12_meets_25 : decode cX12_meets 25 = .ok (.lcmp, 1) := by decide +kernel
theorem dX12_meets_26 : decode cX12_meets 26 = .ok (.ifCond .ne 7, 3) := by decide +kernel
theorem dX12_meets_29 : decode cX12_meets 29 = .ok (.iconst 1, 1) := by decide +kernel
theorem dX12_meets_30 : decode cX12_meets 30 = .ok (.goto 59, 3) := by decide +kernel
theorem dX12_meets_33 : decode cX12_meets 33 = .ok (.iconst 0, 1) := by decide +kernel
theorem dX12_meets_34 : decode cX12_meets 34 = .ok (.goto 55, 3) := by decide +kernel
theorem dX12_meets_37 : decode cX12_meets 37 = .ok (.iload_n 0, 1) := by decide +kernel
theorem dX12_meets_38 : decode cX12_meets 38 = .ok (.iconst 2, 1) := by decide +kernel
theorem dX12_meets_39 : decode cX12_meets 39 = .ok (.if_icmp .ne 17, 3) := by decide +kernel
theorem dX12_meets_42 : decode cX12_meets 42 = .ok (.lload_n 1, 1) := by decide +kernel
theorem dX12_meets_43 : decode cX12_meets 43 = .ok (.lload_n 3, 1) := by decide +kernel
theorem dX12_meets_44 : decode cX12_meets 44 = .ok (.lcmp, 1) := by decide +kernel
theorem dX12_meets_45 : decode cX12_meets 45 = .ok (.ifCond .le 7, 3) := by decide +kernel
theorem dX12_meets_48 : decode cX12_meets 48 = .ok (.iconst 1, 1) := by decide +kernel
theorem dX12_meets_49 : decode cX12_meets 49 = .ok (.goto 40, 3) := by decide +kernel
theorem dX12_meets_52 : decode cX12_meets 52 = .ok (.iconst 0, 1) := by decide +kernel
theorem dX12_meets_53 : decode cX12_meets 53 = .ok (.goto 36, 3) := by decide +kernel
theorem dX12_meets_56 : decode cX12_meets 56 = .ok (.lload_n 3, 1) := by decide +kernel
theorem dX12_meets_57 : decode cX12_meets 57 = .ok (.lconst 0, 1) := by decide +kernel
theorem dX12_meets_58 : decode cX12_meets 58 = .ok (.lcmp, 1) := by decide +kernel
theorem dX12_meets_59 : decode cX12_meets 59 = .ok (.ifCond .ne 17, 3) := by decide +kernel
theorem dX12_meets_62 : decode cX12_meets 62 = .ok (.lload_n 1, 1) := by decide +kernel
theorem dX12_meets_63 : decode cX12_meets 63 = .ok (.lconst 0, 1) := by decide +kernel
theorem dX12_meets_64 : decode cX12_meets 64 = .ok (.lcmp, 1) := by decide +kernel
theorem dX12_meets_65 : decode cX12_meets 65 = .ok (.ifCond .ne 7, 3) := by decide +kernel
theorem dX12_meets_68 : decode cX12_meets 68 = .ok (.iconst 1, 1) := by decide +kernel
theorem dX12_meets_69 : decode cX12_meets 69 = .ok (.goto 20, 3) := by decide +kernel
theorem dX12_meets_72 : decode cX12_meets 72 = .ok (.iconst 0, 1) := by decide +kernel
theorem dX12_meets_73 : decode cX12_meets 73 = .ok (.goto 16, 3) := by decide +kernel
theorem dX12_meets_76 : decode cX12_meets 76 = .ok (.lload_n 1, 1) := by decide +kernel
theorem dX12_meets_77 : decode cX12_meets 77 = .ok (.lload_n 3, 1) := by decide +kernel
theorem dX12_meets_78 : decode cX12_meets 78 = .ok (.lrem, 1) := by decide +kernel
theorem dX12_meets_79 : decode cX12_meets 79 = .ok (.lconst 0, 1) := by decide +kernel
theorem dX12_meets_80 : decode cX12_meets 80 = .ok (.lcmp, 1) := by decide +kernel
theorem dX12_meets_81 : decode cX12_meets 81 = .ok (.ifCond .ne 7, 3) := by decide +kernel
theorem dX12_meets_84 : decode cX12_meets 84 = .ok (.iconst 1, 1) := by decide +kernel
theorem dX12_meets_85 : decode cX12_meets 85 = .ok (.goto 4, 3) := by decide +kernel
theorem dX12_meets_88 : decode cX12_meets 88 = .ok (.iconst 0, 1) := by decide +kernel
theorem dX12_meets_89 : decode cX12_meets 89 = .ok (.ireturn, 1) := by decide +kernel
theorem dX12_place_0 : decode cX12_place 0 = .ok (.sipush 400, 3) := by decide +kernel
theorem dX12_place_3 : decode cX12_place 3 = .ok (.iload_n 0, 1) := by decide +kernel
theorem dX12_place_4 : decode cX12_place 4 = .ok (.imul, 1) := by decide +kernel
theorem dX12_place_5 : decode cX12_place 5 = .ok (.iload_n 1, 1) := by decide +kernel
theorem dX12_place_6 : decode cX12_place 6 = .ok (.iadd, 1) := by decide +kernel
theorem dX12_place_7 : decode cX12_place 7 = .ok (.ireturn, 1) := by decide +kernel
theorem dX12_as_0 : decode cX12_as 0 = .ok (.aload_n 0, 1) := by decide +kernel
theorem dX12_as_1 : decode cX12_as 1 = .ok (.iload_n 1, 1) := by decide +kernel
theorem dX12_as_2 : decode cX12_as 2 = .ok (.putfield 122, 3) := by decide +kernel
theorem dX12_as_5 : decode cX12_as 5 = .ok (.aload_n 0, 1) := by decide +kernel
theorem dX12_as_6 : decode cX12_as 6 = .ok (.iconst (-1), 1) := by decide +kernel
theorem dX12_as_7 : decode cX12_as 7 = .ok (.putfield 125, 3) := by decide +kernel
theorem dX12_as_10 : decode cX12_as 10 = .ok (.aload_n 0, 1) := by decide +kernel
theorem dX12_as_11 : decode cX12_as 11 = .ok (.iconst 0, 1) := by decide +kernel
theorem dX12_as_12 : decode cX12_as 12 = .ok (.putfield 128, 3) := by decide +kernel
theorem dX12_as_15 : decode cX12_as 15 = .ok (.iconst (-1), 1) := by decide +kernel
theorem dX12_as_16 : decode cX12_as 16 = .ok (.ireturn, 1) := by decide +kernel
theorem dX12_shares_0 : decode cX12_shares 0 = .ok (.aload_n 0, 1) := by decide +kernel
theorem dX12_shares_1 : decode cX12_shares 1 = .ok (.iconst 1, 1) := by decide +kernel
theorem dX12_shares_2 : decode cX12_shares 2 = .ok (.putfield 122, 3) := by decide +kernel
theorem dX12_shares_5 : decode cX12_shares 5 = .ok (.aload_n 0, 1) := by decide +kernel
theorem dX12_shares_6 : decode cX12_shares 6 = .ok (.iload_n 1, 1) := by decide +kernel
theorem dX12_shares_7 : decode cX12_shares 7 = .ok (.putfield 125, 3) := by decide +kernel
theorem dX12_shares_10 : decode cX12_shares 10 = .ok (.aload_n 0, 1) := by decide +kernel
theorem dX12_shares_11 : decode cX12_shares 11 = .ok (.iload_n 2, 1) := by decide +kernel
theorem dX12_shares_12 : decode cX12_shares 12 = .ok (.putfield 128, 3) := by decide +kernel
theorem dX12_shares_15 : decode cX12_shares 15 = .ok (.iconst (-1), 1) := by decide +kernel
theorem dX12_shares_16 : decode cX12_shares 16 = .ok (.ireturn, 1) := by decide +kernel
theorem dX12_is_0 : decode cX12_is 0 = .ok (.aload_n 0, 1) := by decide +kernel
theorem dX12_is_1 : decode cX12_is 1 = .ok (.iconst 1, 1) := by decide +kernel
theorem dX12_is_2 : decode cX12_is 2 = .ok (.putfield 122, 3) := by decide +kernel
theorem dX12_is_5 : decode cX12_is 5 = .ok (.aload_n 0, 1) := by decide +kernel
theorem dX12_is_6 : decode cX12_is 6 = .ok (.lload_n 1, 1) := by decide +kernel
theorem dX12_is_7 : decode cX12_is 7 = .ok (.putfield 179, 3) := by decide +kernel
theorem dX12_is_10 : decode cX12_is 10 = .ok (.iconst (-1), 1) := by decide +kernel
theorem dX12_is_11 : decode cX12_is 11 = .ok (.ireturn, 1) := by decide +kernel
theorem dX12_begin_0 : decode cX12_begin 0 = .ok (.aload_n 0, 1) := by decide +kernel
theorem dX12_begin_1 : decode cX12_begin 1 = .ok (.iconst 0, 1) := by decide +kernel
theorem dX12_begin_2 : decode cX12_begin 2 = .ok (.putfield 200, 3) := by decide +kernel
theorem dX12_begin_5 : decode cX12_begin 5 = .ok (.aload_n 0, 1) := by decide +kernel
theorem dX12_begin_6 : decode cX12_begin 6 = .ok (.iconst 0, 1) := by decide +kernel
theorem dX12_begin_7 : decode cX12_begin 7 = .ok (.putfield 203, 3) := by decide +kernel
theorem dX12_begin_10 : decode cX12_begin 10 = .ok (.aload_n 0, 1) := by decide +kernel
theorem dX12_begin_11 : decode cX12_begin 11 = .ok (.iconst 0, 1) := by decide +kernel
theorem dX12_begin_12 : decode cX12_begin 12 = .ok (.putfield 206, 3) := by decide +kernel
theorem dX12_begin_15 : decode cX12_begin 15 = .ok (.return_, 1) := by decide +kernel
theorem dX12_out_0 : decode cX12_out 0 = .ok (.aload_n 0, 1) := by decide +kernel
theorem dX12_out_1 : decode cX12_out 1 = .ok (.iconst 3, 1) := by decide +kernel
theorem dX12_out_2 : decode cX12_out 2 = .ok (.putfield 203, 3) := by decide +kernel
theorem dX12_out_5 : decode cX12_out 5 = .ok (.lconst 0, 1) := by decide +kernel
theorem dX12_out_6 : decode cX12_out 6 = .ok (.lreturn, 1) := by decide +kernel
theorem dX12_failed_0 : decode cX12_failed 0 = .ok (.aload_n 0, 1) := by decide +kernel
theorem dX12_failed_1 : decode cX12_failed 1 = .ok (.iload_n 1, 1) := by decide +kernel
theorem dX12_failed_2 : decode cX12_failed 2 = .ok (.iconst 3, 1) := by decide +kernel
theorem dX12_failed_3 : decode cX12_failed 3 = .ok (.if_icmp .ne 7, 3) := by decide +kernel
theorem dX12_failed_6 : decode cX12_failed 6 = .ok (.iconst 1, 1) := by decide +kernel
theorem dX12_failed_7 : decode cX12_failed 7 = .ok (.goto 4, 3) := by decide +kernel
theorem dX12_failed_10 : decode cX12_failed 10 = .ok (.iconst 2, 1) := by decide +kernel
theorem dX12_failed_11 : decode cX12_failed 11 = .ok (.putfield 203, 3) := by decide +kernel
theorem dX12_failed_14 : decode cX12_failed 14 = .ok (.aload_n 0, 1) := by decide +kernel
theorem dX12_failed_15 : decode cX12_failed 15 = .ok (.iload_n 1, 1) := by decide +kernel
theorem dX12_failed_16 : decode cX12_failed 16 = .ok (.iconst 3, 1) := by decide +kernel
theorem dX12_failed_17 : decode cX12_failed 17 = .ok (.isub, 1) := by decide +kernel
theorem dX12_failed_18 : decode cX12_failed 18 = .ok (.putfield 206, 3) := by decide +kernel
theorem dX12_failed_21 : decode cX12_failed 21 = .ok (.lconst 0, 1) := by decide +kernel
theorem dX12_failed_22 : decode cX12_failed 22 = .ok (.lreturn, 1) := by decide +kernel
theorem dX12_outcome_0 : decode cX12_outcome 0 = .ok (.aload_n 0, 1) := by decide +kernel
theorem dX12_outcome_1 : decode cX12_outcome 1 = .ok (.iconst 0, 1) := by decide +kernel
theorem dX12_outcome_2 : decode cX12_outcome 2 = .ok (.putfield 63, 3) := by decide +kernel
theorem dX12_outcome_5 : decode cX12_outcome 5 = .ok (.aload_n 0, 1) := by decide +kernel
theorem dX12_outcome_6 : decode cX12_outcome 6 = .ok (.getfield 203, 3) := by decide +kernel
theorem dX12_outcome_9 : decode cX12_outcome 9 = .ok (.ireturn, 1) := by decide +kernel
theorem dX12_error_0 : decode cX12_error 0 = .ok (.aload_n 0, 1) := by decide +kernel
theorem dX12_error_1 : decode cX12_error 1 = .ok (.iconst 0, 1) := by decide +kernel
theorem dX12_error_2 : decode cX12_error 2 = .ok (.putfield 63, 3) := by decide +kernel
theorem dX12_error_5 : decode cX12_error 5 = .ok (.aload_n 0, 1) := by decide +kernel
theorem dX12_error_6 : decode cX12_error 6 = .ok (.getfield 206, 3) := by decide +kernel
theorem dX12_error_9 : decode cX12_error 9 = .ok (.ireturn, 1) := by decide +kernel
theorem dX12_spent_0 : decode cX12_spent 0 = .ok (.aload_n 0, 1) := by decide +kernel
theorem dX12_spent_1 : decode cX12_spent 1 = .ok (.iconst 0, 1) := by decide +kernel
theorem dX12_spent_2 : decode cX12_spent 2 = .ok (.putfield 63, 3) := by decide +kernel
theorem dX12_spent_5 : decode cX12_spent 5 = .ok (.aload_n 0, 1) := by decide +kernel
theorem dX12_spent_6 : decode cX12_spent 6 = .ok (.getfield 200, 3) := by decide +kernel
theorem dX12_spent_9 : decode cX12_spent 9 = .ok (.ireturn, 1) := by decide +kernel
theorem dX12_lists_0 : decode cX12_lists 0 = .ok (.aload_n 0, 1) := by decide +kernel
theorem dX12_lists_1 : decode cX12_lists 1 = .ok (.iconst 0, 1) := by decide +kernel
theorem dX12_lists_2 : decode cX12_lists 2 = .ok (.putfield 63, 3) := by decide +kernel
theorem dX12_lists_5 : decode cX12_lists 5 = .ok (.aload_n 0, 1) := by decide +kernel
theorem dX12_lists_6 : decode cX12_lists 6 = .ok (.getfield 66, 3) := by decide +kernel
theorem dX12_lists_9 : decode cX12_lists 9 = .ok (.ireturn, 1) := by decide +kernel
abbrev wmX12_thrown : List Cond := .code yX12_thrown cX12_thrown 1 (some .int) :: WM
theorem hd_X12_thrown : yX12_thrown.cls = RX12 ∧ yX12_thrown.cls ≠ "java/lang/invoke/MethodHandle" ∧ yX12_thrown.cls ≠ "java/lang/invoke/VarHandle" ∧ (parseMethodDescriptor yX12_thrown.desc).map (fun d => d.parameters.length) = some 0 := by decide +kernel
def P_X12_thrown (v : Nat → Int32) (w : Nat → Int64) (fi : Nat → Nat → Int32) (fl : Nat → Nat → Int64)  (Q : Int32 → (Nat → Int32) → (Nat → Int64) → (Nat → Nat → Int32) → (Nat → Nat → Int64) → Prop) : Prop := Q (v 19) v w fi fl
set_option maxHeartbeats 4000000 in
set_option maxRecDepth 100000 in
theorem p_X12_thrown (l : Launch) (dC : Nat → ClassId) (dI : Nat → Nat → Nat) (a : Nat → Nat) (ca : Nat → ClassId) (g0 : Nat) (v : Nat → Int32) (w : Nat → Int64) (fi : Nat → Nat → Int32) (fl : Nat → Nat → Int64)  (Q : Int32 → (Nat → Int32) → (Nat → Int64) → (Nat → Nat → Int32) → (Nat → Nat → Int64) → Prop) (h : P_X12_thrown v w fi fl  Q) (sz : Nat) : Met l yX12_thrown wmX12_thrown ({ frames := 4, cells := 0, slots := 0, locals := 60 }) (va_Pc [.ref g0] (mPre dC dI a ca g0 v w fi fl sz)) (va_Qi (S := MSt) (pI Q) (mB dC dI a ca g0 (va_A (mW a ca g0 v w fi fl) sz)) (va_A (mW a ca g0 v w fi fl) sz)) 0 0 (va_A (mW a ca g0 v w fi fl) sz) := by
  refine Met.ofW (cc := cX12_thrown) (maxL := 1) (ret := (some .int)) (by decide) rfl ?_
  intro p e s m args below meth c s₁ B hml hv
  obtain ⟨rfl, hsz, hP, hK, hD0⟩ := hv
  have hx := B.exec
  have hb := B.bytes
  have hr := B.returns
  have hts : ∀ w ∈ WM, w.before _ s = true := fun w h => atoms_spec (ws := wmX12_thrown) B.pre w (List.mem_cons_of_mem _ h)
  have hown : s.vm.findClass RX12 = some m.cls := findClass_of_methodNamed B.named
  have hlocks := B.notSynchronized
  subst hsz
  have hD := hD0.self (sz := s.heap.size)
  generalize hAe : va_A (mW a ca g0 v w fi fl) s.heap.size = A at hD ⊢
  have hA : ∀ q : Nat, s.heap.size ≤ q → A q := fun q h => by rw [← hAe]; exact Or.inr h
  generalize hH : s.heap = H at hP ⊢
  have hS : va_S A s.heap H [] := by rw [← hH]; exact va_S.rf
  have hl := lv_entry [.ref g0] (n := 1) (Nat.le_of_ble_eq_true rfl)
  rw [lg_entry_eq]
  generalize (lg_sl [.ref g0] ++ List.replicate (1 - (lg_sl [.ref g0]).length) Slot.unset).toArray = ls at hl ⊢
  have hl : lv_has ls 1 [(0, .ref g0)] := hl
  unfold P_X12_thrown at h
  refine lv_aload_n hx hb dX12_thrown_0 rfl (lv_at hl 0 rfl) ?_
  refine va_get (D := (dC, dI)) (ci := 11) (v := .int (v 19)) (C := RX12) (T := TX12) (N := 32) hx hb hts hinM hown hK hP 0 rfl rfl 19 (by decide) (hts _ mwM_0) (fun _ h9 => h9) rfl dX12_thrown_1 ?_
  exact W.iret (v := (v 19)) hx hb hr (fun t ht hW => ⟨⟨_, (v, w, fi, fl), rfl, h, by rw [ht]; exact hP, va_K.moved hW.alike hK, hD⟩, hS.F ht⟩) hS.2.2 dX12_thrown_4

abbrev wmX12_fail : List Cond := .code yX12_fail cX12_fail 2 (some .int) :: WM
theorem hd_X12_fail : yX12_fail.cls = RX12 ∧ yX12_fail.cls ≠ "java/lang/invoke/MethodHandle" ∧ yX12_fail.cls ≠ "java/lang/invoke/VarHandle" ∧ (parseMethodDescriptor yX12_fail.desc).map (fun d => d.parameters.length) = some 1 := by decide +kernel
def P_X12_fail (v : Nat → Int32) (w : Nat → Int64) (fi : Nat → Nat → Int32) (fl : Nat → Nat → Int64) (p0 : Int32) (Q : Int32 → (Nat → Int32) → (Nat → Int64) → (Nat → Nat → Int32) → (Nat → Nat → Int64) → Prop) : Prop := Q 0 (va_up v 19 p0) w fi fl
set_option maxHeartbeats 4000000 in
set_option maxRecDepth 100000 in
theorem p_X12_fail (l : Launch) (dC : Nat → ClassId) (dI : Nat → Nat → Nat) (a : Nat → Nat) (ca : Nat → ClassId) (g0 : Nat) (v : Nat → Int32) (w : Nat → Int64) (fi : Nat → Nat → Int32) (fl : Nat → Nat → Int64) (p0 : Int32) (Q : Int32 → (Nat → Int32) → (Nat → Int64) → (Nat → Nat → Int32) → (Nat → Nat → Int64) → Prop) (h : P_X12_fail v w fi fl p0 Q) (sz : Nat) : Met l yX12_fail wmX12_fail ({ frames := 4, cells := 0, slots := 0, locals := 60 }) (va_Pc [.ref g0, .int p0] (mPre dC dI a ca g0 v w fi fl sz)) (va_Qi (S := MSt) (pI Q) (mB dC dI a ca g0 (va_A (mW a ca g0 v w fi fl) sz)) (va_A (mW a ca g0 v w fi fl) sz)) 0 0 (va_A (mW a ca g0 v w fi fl) sz) := by
  refine Met.ofW (cc := cX12_fail) (maxL := 2) (ret := (some .int)) (by decide) rfl ?_
  intro p e s m args below meth c s₁ B hml hv
  obtain ⟨rfl, hsz, hP, hK, hD0⟩ := hv
  have hx := B.exec
  have hb := B.bytes
  have hr := B.returns
  have hts : ∀ w ∈ WM, w.before _ s = true := fun w h => atoms_spec (ws := wmX12_fail) B.pre w (List.mem_cons_of_mem _ h)
  have hown : s.vm.findClass RX12 = some m.cls := findClass_of_methodNamed B.named
  have hlocks := B.notSynchronized
  subst hsz
  have hD := hD0.self (sz := s.heap.size)
  generalize hAe : va_A (mW a ca g0 v w fi fl) s.heap.size = A at hD ⊢
  have hA : ∀ q : Nat, s.heap.size ≤ q → A q := fun q h => by rw [← hAe]; exact Or.inr h
  generalize hH : s.heap = H at hP ⊢
  have hS : va_S A s.heap H [] := by rw [← hH]; exact va_S.rf
  have hl := lv_entry [.ref g0, .int p0] (n := 2) (Nat.le_of_ble_eq_true rfl)
  rw [lg_entry_eq]
  generalize (lg_sl [.ref g0, .int p0] ++ List.replicate (2 - (lg_sl [.ref g0, .int p0]).length) Slot.unset).toArray = ls at hl ⊢
  have hl : lv_has ls 2 [(0, .ref g0), (1, .int p0)] := hl
  unfold P_X12_fail at h
  refine lv_aload_n hx hb dX12_fail_0 rfl (lv_at hl 0 rfl) ?_
  refine lv_iload_n hx hb dX12_fail_1 rfl (lv_at hl 1 rfl) ?_
  refine m_put_19 hx hb hts hinM hown hK hP hD hS (hts _ mwM_0) dX12_fail_2 (fun H locs hP hD hS => ?_)
  refine lv_iconst (v := 0) hx hb dX12_fail_5 (by decide) ?_
  exact W.iret (v := 0) hx hb hr (fun t ht hW => ⟨⟨_, (va_up v 19 p0, w, fi, fl), rfl, h, by rw [ht]; exact hP, va_K.moved hW.alike hK, hD⟩, hS.F ht⟩) hS.2.2 dX12_fail_6

abbrev wmX12_isList : List Cond := .code yX12_isList cX12_isList 2 (some .boolean) :: WM
theorem hd_X12_isList : yX12_isList.cls = RX12 ∧ yX12_isList.cls ≠ "java/lang/invoke/MethodHandle" ∧ yX12_isList.cls ≠ "java/lang/invoke/VarHandle" ∧ (parseMethodDescriptor yX12_isList.desc).map (fun d => d.parameters.length) = some 1 := by decide +kernel
def P_X12_isList (v : Nat → Int32) (w : Nat → Int64) (fi : Nat → Nat → Int32) (fl : Nat → Nat → Int64) (p0 : Int32) (Q : Int32 → (Nat → Int32) → (Nat → Int64) → (Nat → Nat → Int32) → (Nat → Nat → Int64) → Prop) : Prop := ((p0 < 0) → (Q 0 v w fi fl)) ∧ ((¬ p0 < 0) → ((((v 0) ≤ p0) → (Q 0 v w fi fl)) ∧ ((¬ (v 0) ≤ p0) → (Q 1 v w fi fl))))
set_option maxHeartbeats 4000000 in
set_option maxRecDepth 100000 in
theorem p_X12_isList (l : Launch) (dC : Nat → ClassId) (dI : Nat → Nat → Nat) (a : Nat → Nat) (ca : Nat → ClassId) (g0 : Nat) (v : Nat → Int32) (w : Nat → Int64) (fi : Nat → Nat → Int32) (fl : Nat → Nat → Int64) (p0 : Int32) (Q : Int32 → (Nat → Int32) → (Nat → Int64) → (Nat → Nat → Int32) → (Nat → Nat → Int64) → Prop) (h : P_X12_isList v w fi fl p0 Q) (sz : Nat) : Met l yX12_isList wmX12_isList ({ frames := 4, cells := 0, slots := 0, locals := 60 }) (va_Pc [.ref g0, .int p0] (mPre dC dI a ca g0 v w fi fl sz)) (va_Qi (S := MSt) (pI Q) (mB dC dI a ca g0 (va_A (mW a ca g0 v w fi fl) sz)) (va_A (mW a ca g0 v w fi fl) sz)) 0 0 (va_A (mW a ca g0 v w fi fl) sz) := by
  refine Met.ofW (cc := cX12_isList) (maxL := 2) (ret := (some .boolean)) (by decide) rfl ?_
  intro p e s m args below meth c s₁ B hml hv
  obtain ⟨rfl, hsz, hP, hK, hD0⟩ := hv
  have hx := B.exec
  have hb := B.bytes
  have hr := B.returns
  have hts : ∀ w ∈ WM, w.before _ s = true := fun w h => atoms_spec (ws := wmX12_isList) B.pre w (List.mem_cons_of_mem _ h)
  have hown : s.vm.findClass RX12 = some m.cls := findClass_of_methodNamed B.named
  have hlocks := B.notSynchronized
  subst hsz
  have hD := hD0.self (sz := s.heap.size)
  generalize hAe : va_A (mW a ca g0 v w fi fl) s.heap.size = A at hD ⊢
  have hA : ∀ q : Nat, s.heap.size ≤ q → A q := fun q h => by rw [← hAe]; exact Or.inr h
  generalize hH : s.heap = H at hP ⊢
  have hS : va_S A s.heap H [] := by rw [← hH]; exact va_S.rf
  have hl := lv_entry [.ref g0, .int p0] (n := 2) (Nat.le_of_ble_eq_true rfl)
  rw [lg_entry_eq]
  generalize (lg_sl [.ref g0, .int p0] ++ List.replicate (2 - (lg_sl [.ref g0, .int p0]).length) Slot.unset).toArray = ls at hl ⊢
  have hl : lv_has ls 2 [(0, .ref g0), (1, .int p0)] := hl
  unfold P_X12_isList at h
  refine lv_iload_n hx hb dX12_isList_0 rfl (lv_at hl 1 rfl) ?_
  refine lv_if_lt (tgt := 16) hx hb dX12_isList_1 (by decide) (fun c_1 => ?_) (fun c_1 => ?_)
  · have h := h.1 c_1
    refine lv_iconst (v := 0) hx hb dX12_isList_16 (by decide) ?_
    exact W.zret (v := 0) hx hb hr (by decide) (fun t ht hW => ⟨⟨_, (v, w, fi, fl), rfl, h, by rw [ht]; exact hP, va_K.moved hW.alike hK, hD⟩, hS.F ht⟩) hS.2.2 dX12_isList_17
  · have h := h.2 c_1
    refine lv_iload_n hx hb dX12_isList_4 rfl (lv_at hl 1 rfl) ?_
    refine lv_aload_n hx hb dX12_isList_5 rfl (lv_at hl 0 rfl) ?_
    refine va_get (D := (dC, dI)) (ci := 11) (v := .int (v 0)) (C := RX12) (T := TX12) (N := 32) hx hb hts hinM hown hK hP 0 rfl rfl 0 (by decide) (hts _ mwM_1) (fun _ h9 => h9) rfl dX12_isList_6 ?_
    refine lv_icmp_ge (tgt := 16) hx hb dX12_isList_9 (by decide) (fun c_9 => ?_) (fun c_9 => ?_)
    · have h := h.1 c_9
      refine lv_iconst (v := 0) hx hb dX12_isList_16 (by decide) ?_
      exact W.zret (v := 0) hx hb hr (by decide) (fun t ht hW => ⟨⟨_, (v, w, fi, fl), rfl, h, by rw [ht]; exact hP, va_K.moved hW.alike hK, hD⟩, hS.F ht⟩) hS.2.2 dX12_isList_17
    · have h := h.2 c_9
      refine lv_iconst (v := 1) hx hb dX12_isList_12 (by decide) ?_
      refine lv_goto (tgt := 17) hx hb dX12_isList_13 (by decide) ?_
      exact W.zret (v := 1) hx hb hr (by decide) (fun t ht hW => ⟨⟨_, (v, w, fi, fl), rfl, h, by rw [ht]; exact hP, va_K.moved hW.alike hK, hD⟩, hS.F ht⟩) hS.2.2 dX12_isList_17

abbrev wmX12_made : List Cond := .code yX12_made cX12_made 9 (some .int) :: WM
theorem hd_X12_made : yX12_made.cls = RX12 ∧ yX12_made.cls ≠ "java/lang/invoke/MethodHandle" ∧ yX12_made.cls ≠ "java/lang/invoke/VarHandle" ∧ (parseMethodDescriptor yX12_made.desc).map (fun d => d.parameters.length) = some 6 := by decide +kernel
def P_X12_made (v : Nat → Int32) (w : Nat → Int64) (fi : Nat → Nat → Int32) (fl : Nat → Nat → Int64) (p0 : Int32) (p1 : Int32) (p2 : Int32) (p3 : Int32) (p4 : Int64) (p5 : Int64) (Q : Int32 → (Nat → Int32) → (Nat → Int64) → (Nat → Nat → Int32) → (Nat → Nat → Int64) → Prop) : Prop := vp_in (v 0) 24 ∧ vp_in (v 0) 24 ∧ vp_in (v 0) 24 ∧ vp_in (v 0) 24 ∧ vp_in (v 0) 24 ∧ vp_in (v 0) 24 ∧ Q (((v 0) + 1) - 1) (va_up v 0 ((v 0) + 1)) w (va_up (va_up (va_up (va_up fi 1 (upd (fi 1) (v 0).toNatClampNeg p0)) 2 (upd ((va_up fi 1 (upd (fi 1) (v 0).toNatClampNeg p0)) 2) (v 0).toNatClampNeg p1)) 3 (upd ((va_up (va_up fi 1 (upd (fi 1) (v 0).toNatClampNeg p0)) 2 (upd ((va_up fi 1 (upd (fi 1) (v 0).toNatClampNeg p0)) 2) (v 0).toNatClampNeg p1)) 3) (v 0).toNatClampNeg p2)) 4 (upd ((va_up (va_up (va_up fi 1 (upd (fi 1) (v 0).toNatClampNeg p0)) 2 (upd ((va_up fi 1 (upd (fi 1) (v 0).toNatClampNeg p0)) 2) (v 0).toNatClampNeg p1)) 3 (upd ((va_up (va_up fi 1 (upd (fi 1) (v 0).toNatClampNeg p0)) 2 (upd ((va_up fi 1 (upd (fi 1) (v 0).toNatClampNeg p0)) 2) (v 0).toNatClampNeg p1)) 3) (v 0).toNatClampNeg p2)) 4) (v 0).toNatClampNeg p3)) (va_up (va_up fl 5 (vp_updL (fl 5) (v 0).toNatClampNeg p4)) 6 (vp_updL ((va_up fl 5 (vp_updL (fl 5) (v 0).toNatClampNeg p4)) 6) (v 0).toNatClampNeg p5))
set_option maxHeartbeats 4000000 in
set_option maxRecDepth 100000 in
theorem p_X12_made (l : Launch) (dC : Nat → ClassId) (dI : Nat → Nat → Nat) (a : Nat → Nat) (ca : Nat → ClassId) (g0 : Nat) (v : Nat → Int32) (w : Nat → Int64) (fi : Nat → Nat → Int32) (fl : Nat → Nat → Int64) (p0 : Int32) (p1 : Int32) (p2 : Int32) (p3 : Int32) (p4 : Int64) (p5 : Int64) (Q : Int32 → (Nat → Int32) → (Nat → Int64) → (Nat → Nat → Int32) → (Nat → Nat → Int64) → Prop) (h : P_X12_made v w fi fl p0 p1 p2 p3 p4 p5 Q) (sz : Nat) : Met l yX12_made wmX12_made ({ frames := 4, cells := 0, slots := 0, locals := 60 }) (va_Pc [.ref g0, .int p0, .int p1, .int p2, .int p3, .long p4, .long p5] (mPre dC dI a ca g0 v w fi fl sz)) (va_Qi (S := MSt) (pI Q) (mB dC dI a ca g0 (va_A (mW a ca g0 v w fi fl) sz)) (va_A (mW a ca g0 v w fi fl) sz)) 0 0 (va_A (mW a ca g0 v w fi fl) sz) := by
  refine Met.ofW (cc := cX12_made) (maxL := 9) (ret := (some .int)) (by decide) rfl ?_
  intro p e s m args below meth c s₁ B hml hv
  obtain ⟨rfl, hsz, hP, hK, hD0⟩ := hv
  have hx := B.exec
  have hb := B.bytes
  have hr := B.returns
  have hts : ∀ w ∈ WM, w.before _ s = true := fun w h => atoms_spec (ws := wmX12_made) B.pre w (List.mem_cons_of_mem _ h)
  have hown : s.vm.findClass RX12 = some m.cls := findClass_of_methodNamed B.named
  have hlocks := B.notSynchronized
  subst hsz
  have hD := hD0.self (sz := s.heap.size)
  generalize hAe : va_A (mW a ca g0 v w fi fl) s.heap.size = A at hD ⊢
  have hA : ∀ q : Nat, s.heap.size ≤ q → A q := fun q h => by rw [← hAe]; exact Or.inr h
  generalize hH : s.heap = H at hP ⊢
  have hS : va_S A s.heap H [] := by rw [← hH]; exact va_S.rf
  have hl := lv_entry [.ref g0, .int p0, .int p1, .int p2, .int p3, .long p4, .long p5] (n := 9) (Nat.le_of_ble_eq_true rfl)
  rw [lg_entry_eq]
  generalize (lg_sl [.ref g0, .int p0, .int p1, .int p2, .int p3, .long p4, .long p5] ++ List.replicate (9 - (lg_sl [.ref g0, .int p0, .int p1, .int p2, .int p3, .long p4, .long p5]).length) Slot.unset).toArray = ls at hl ⊢
  have hl : lv_has ls 9 [(0, .ref g0), (1, .int p0), (2, .int p1), (3, .int p2), (4, .int p3), (5, .long p4), (7, .long p5)] := hl
  unfold P_X12_made at h
  refine lv_aload_n hx hb dX12_made_0 rfl (lv_at hl 0 rfl) ?_
  refine va_get (D := (dC, dI)) (ci := 11) (v := .ref (a 1)) (C := RX12) (T := TX12) (N := 32) hx hb hts hinM hown hK hP 0 rfl rfl 1 (by decide) (hts _ mwM_2) (fun _ h9 => h9) rfl dX12_made_1 ?_
  refine lv_aload_n hx hb dX12_made_4 rfl (lv_at hl 0 rfl) ?_
  refine va_get (D := (dC, dI)) (ci := 11) (v := .int (v 0)) (C := RX12) (T := TX12) (N := 32) hx hb hts hinM hown hK hP 0 rfl rfl 0 (by decide) (hts _ mwM_1) (fun _ h9 => h9) rfl dX12_made_5 ?_
  refine lv_iload_n hx hb dX12_made_8 rfl (lv_at hl 1 rfl) ?_
  obtain ⟨hi1, h⟩ := h
  refine m_ast_1 hx hb hK hP hD hS hi1 dX12_made_9 (fun H locs hP hD hS => ?_)
  refine lv_aload_n hx hb dX12_made_10 rfl (lv_at hl 0 rfl) ?_
  refine va_get (D := (dC, dI)) (ci := 11) (v := .ref (a 2)) (C := RX12) (T := TX12) (N := 32) hx hb hts hinM hown hK hP 0 rfl rfl 2 (by decide) (hts _ mwM_3) (fun _ h9 => h9) rfl dX12_made_11 ?_
  refine lv_aload_n hx hb dX12_made_14 rfl (lv_at hl 0 rfl) ?_
  refine va_get (D := (dC, dI)) (ci := 11) (v := .int (v 0)) (C := RX12) (T := TX12) (N := 32) hx hb hts hinM hown hK hP 0 rfl rfl 0 (by decide) (hts _ mwM_1) (fun _ h9 => h9) rfl dX12_made_15 ?_
  refine lv_iload_n hx hb dX12_made_18 rfl (lv_at hl 2 rfl) ?_
  obtain ⟨hi2, h⟩ := h
  refine m_ast_2 hx hb hK hP hD hS hi2 dX12_made_19 (fun H locs hP hD hS => ?_)
  refine lv_aload_n hx hb dX12_made_20 rfl (lv_at hl 0 rfl) ?_
  refine va_get (D := (dC, dI)) (ci := 11) (v := .ref (a 3)) (C := RX12) (T := TX12) (N := 32) hx hb hts hinM hown hK hP 0 rfl rfl 3 (by decide) (hts _ mwM_4) (fun _ h9 => h9) rfl dX12_made_21 ?_
  refine lv_aload_n hx hb dX12_made_24 rfl (lv_at hl 0 rfl) ?_
  refine va_get (D := (dC, dI)) (ci := 11) (v := .int (v 0)) (C := RX12) (T := TX12) (N := 32) hx hb hts hinM hown hK hP 0 rfl rfl 0 (by decide) (hts _ mwM_1) (fun _ h9 => h9) rfl dX12_made_25 ?_
  refine lv_iload_n hx hb dX12_made_28 rfl (lv_at hl 3 rfl) ?_
  obtain ⟨hi3, h⟩ := h
  refine m_ast_3 hx hb hK hP hD hS hi3 dX12_made_29 (fun H locs hP hD hS => ?_)
  refine lv_aload_n hx hb dX12_made_30 rfl (lv_at hl 0 rfl) ?_
  refine va_get (D := (dC, dI)) (ci := 11) (v := .ref (a 4)) (C := RX12) (T := TX12) (N := 32) hx hb hts hinM hown hK hP 0 rfl rfl 4 (by decide) (hts _ mwM_5) (fun _ h9 => h9) rfl dX12_made_31 ?_
  refine lv_aload_n hx hb dX12_made_34 rfl (lv_at hl 0 rfl) ?_
  refine va_get (D := (dC, dI)) (ci := 11) (v := .int (v 0)) (C := RX12) (T := TX12) (N := 32) hx hb hts hinM hown hK hP 0 rfl rfl 0 (by decide) (hts _ mwM_1) (fun _ h9 => h9) rfl dX12_made_35 ?_
  refine lv_iload hx hb dX12_made_38 (lv_at hl 4 rfl) ?_
  obtain ⟨hi4, h⟩ := h
  refine m_ast_4 hx hb hK hP hD hS hi4 dX12_made_40 (fun H locs hP hD hS => ?_)
  refine lv_aload_n hx hb dX12_made_41 rfl (lv_at hl 0 rfl) ?_
  refine va_get (D := (dC, dI)) (ci := 11) (v := .ref (a 5)) (C := RX12) (T := TX12) (N := 32) hx hb hts hinM hown hK hP 0 rfl rfl 5 (by decide) (hts _ mwM_6) (fun _ h9 => h9) rfl dX12_made_42 ?_
  refine lv_aload_n hx hb dX12_made_45 rfl (lv_at hl 0 rfl) ?_
  refine va_get (D := (dC, dI)) (ci := 11) (v := .int (v 0)) (C := RX12) (T := TX12) (N := 32) hx hb hts hinM hown hK hP 0 rfl rfl 0 (by decide) (hts _ mwM_1) (fun _ h9 => h9) rfl dX12_made_46 ?_
  refine lv_lload hx hb dX12_made_49 (lv_at hl 5 rfl) ?_
  obtain ⟨hi5, h⟩ := h
  refine m_ast_5 hx hb hK hP hD hS hi5 dX12_made_51 (fun H locs hP hD hS => ?_)
  refine lv_aload_n hx hb dX12_made_52 rfl (lv_at hl 0 rfl) ?_
  refine va_get (D := (dC, dI)) (ci := 11) (v := .ref (a 6)) (C := RX12) (T := TX12) (N := 32) hx hb hts hinM hown hK hP 0 rfl rfl 6 (by decide) (hts _ mwM_7) (fun _ h9 => h9) rfl dX12_made_53 ?_
  refine lv_aload_n hx hb dX12_made_56 rfl (lv_at hl 0 rfl) ?_
  refine va_get (D := (dC, dI)) (ci := 11) (v := .int (v 0)) (C := RX12) (T := TX12) (N := 32) hx hb hts hinM hown hK hP 0 rfl rfl 0 (by decide) (hts _ mwM_1) (fun _ h9 => h9) rfl dX12_made_57 ?_
  refine lv_lload hx hb dX12_made_60 (lv_at hl 6 rfl) ?_
  obtain ⟨hi6, h⟩ := h
  refine m_ast_6 hx hb hK hP hD hS hi6 dX12_made_62 (fun H locs hP hD hS => ?_)
  refine lv_aload_n hx hb dX12_made_63 rfl (lv_at hl 0 rfl) ?_
  refine lv_dup hx hb dX12_made_64 rfl ?_
  refine va_get (D := (dC, dI)) (ci := 11) (v := .int (v 0)) (C := RX12) (T := TX12) (N := 32) hx hb hts hinM hown hK hP 0 rfl rfl 0 (by decide) (hts _ mwM_1) (fun _ h9 => h9) rfl dX12_made_65 ?_
  refine lv_iconst (v := 1) hx hb dX12_made_68 (by decide) ?_
  refine lv_iadd hx hb dX12_made_69 ?_
  refine m_put_0 hx hb hts hinM hown hK hP hD hS (hts _ mwM_1) dX12_made_70 (fun H locs hP hD hS => ?_)
  refine lv_aload_n hx hb dX12_made_73 rfl (lv_at hl 0 rfl) ?_
  refine va_get (D := (dC, dI)) (ci := 11) (v := .int ((v 0) + 1)) (C := RX12) (T := TX12) (N := 32) hx hb hts hinM hown hK hP 0 rfl rfl 0 (by decide) (hts _ mwM_1) (fun _ h9 => h9) rfl dX12_made_74 ?_
  refine lv_iconst (v := 1) hx hb dX12_made_77 (by decide) ?_
  refine lv_isub hx hb dX12_made_78 ?_
  exact W.iret (v := (((v 0) + 1) - 1)) hx hb hr (fun t ht hW => ⟨⟨_, (va_up v 0 ((v 0) + 1), w, va_up (va_up (va_up (va_up fi 1 (upd (fi 1) (v 0).toNatClampNeg p0)) 2 (upd ((va_up fi 1 (upd (fi 1) (v 0).toNatClampNeg p0)) 2) (v 0).toNatClampNeg p1)) 3 (upd ((va_up (va_up fi 1 (upd (fi 1) (v 0).toNatClampNeg p0)) 2 (upd ((va_up fi 1 (upd (fi 1) (v 0).toNatClampNeg p0)) 2) (v 0).toNatClampNeg p1)) 3) (v 0).toNatClampNeg p2)) 4 (upd ((va_up (va_up (va_up fi 1 (upd (fi 1) (v 0).toNatClampNeg p0)) 2 (upd ((va_up fi 1 (upd (fi 1) (v 0).toNatClampNeg p0)) 2) (v 0).toNatClampNeg p1)) 3 (upd ((va_up (va_up fi 1 (upd (fi 1) (v 0).toNatClampNeg p0)) 2 (upd ((va_up fi 1 (upd (fi 1) (v 0).toNatClampNeg p0)) 2) (v 0).toNatClampNeg p1)) 3) (v 0).toNatClampNeg p2)) 4) (v 0).toNatClampNeg p3), va_up (va_up fl 5 (vp_updL (fl 5) (v 0).toNatClampNeg p4)) 6 (vp_updL ((va_up fl 5 (vp_updL (fl 5) (v 0).toNatClampNeg p4)) 6) (v 0).toNatClampNeg p5)), rfl, h, by rw [ht]; exact hP, va_K.moved hW.alike hK, hD⟩, hS.F ht⟩) hS.2.2 dX12_made_79

abbrev wmX12_isOp : List Cond := .code yX12_isOp cX12_isOp 1 (some .boolean) :: WM
theorem hd_X12_isOp : yX12_isOp.cls ≠ "java/lang/invoke/MethodHandle" ∧ yX12_isOp.cls ≠ "java/lang/invoke/VarHandle" ∧ (parseMethodDescriptor yX12_isOp.desc).map (fun d => d.parameters.length) = some 1 := by decide +kernel
def P_X12_isOp (p0 : Int32) (Q : Int32 → Prop) : Prop := ((p0 < 0) → (Q 0)) ∧ ((¬ p0 < 0) → (((8 < p0) → (Q 0)) ∧ ((¬ 8 < p0) → (Q 1))))
set_option maxHeartbeats 4000000 in
set_option maxRecDepth 100000 in
theorem p_X12_isOp (l : Launch) (dC : Nat → ClassId) (dI : Nat → Nat → Nat) (p0 : Int32) (Q : Int32 → Prop) (h : P_X12_isOp p0 Q) (sz : Nat) : Met l yX12_isOp wmX12_isOp ({ frames := 4, cells := 0, slots := 0, locals := 60 }) (va_Pc [.int p0] (fun U : State => U.heap.size = sz)) (va_Qi (S := Unit) (fun r _ => Q r) (fun _ _ => True) (va_A [] sz)) 0 0 (va_A [] sz) := by
  refine Met.ofW (cc := cX12_isOp) (maxL := 1) (ret := (some .boolean)) (by decide) rfl ?_
  intro p e s m args below meth c s₁ B hml hv
  obtain ⟨rfl, hsz⟩ := hv
  have hx := B.exec
  have hb := B.bytes
  have hr := B.returns
  have hts : ∀ w ∈ WM, w.before _ s = true := fun w h => atoms_spec (ws := wmX12_isOp) B.pre w (List.mem_cons_of_mem _ h)
  have hown : s.vm.findClass RX12 = some m.cls := findClass_of_methodNamed B.named
  have hlocks := B.notSynchronized
  subst hsz
  have hP : va_P (dC, dI) vwCl [] s.heap := nd_P0
  have hD0 : va_D (fun _ => True) ([] : va_W) := nd_0
  have hD := hD0.self (sz := s.heap.size)
  generalize hAe : va_A [] s.heap.size = A at hD ⊢
  have hA : ∀ q : Nat, s.heap.size ≤ q → A q := fun q h => by rw [← hAe]; exact Or.inr h
  generalize hH : s.heap = H at hP ⊢
  have hS : va_S A s.heap H [] := by rw [← hH]; exact va_S.rf
  have hl := lv_entry [.int p0] (n := 1) (Nat.le_of_ble_eq_true rfl)
  rw [lg_entry_eq]
  generalize (lg_sl [.int p0] ++ List.replicate (1 - (lg_sl [.int p0]).length) Slot.unset).toArray = ls at hl ⊢
  have hl : lv_has ls 1 [(0, .int p0)] := hl
  unfold P_X12_isOp at h
  refine lv_iload_n hx hb dX12_isOp_0 rfl (lv_at hl 0 rfl) ?_
  refine lv_if_lt (tgt := 14) hx hb dX12_isOp_1 (by decide) (fun c_1 => ?_) (fun c_1 => ?_)
  · have h := h.1 c_1
    refine lv_iconst (v := 0) hx hb dX12_isOp_14 (by decide) ?_
    exact W.zret (v := 0) hx hb hr (by decide) (fun t ht hW => ⟨⟨_, (), rfl, h, trivial⟩, hS.F ht⟩) hS.2.2 dX12_isOp_15
  · have h := h.2 c_1
    refine lv_iload_n hx hb dX12_isOp_4 rfl (lv_at hl 0 rfl) ?_
    refine lv_bipush (v := 8) hx hb dX12_isOp_5 (by decide) ?_
    refine lv_icmp_gt (tgt := 14) hx hb dX12_isOp_7 (by decide) (fun c_7 => ?_) (fun c_7 => ?_)
    · have h := h.1 c_7
      refine lv_iconst (v := 0) hx hb dX12_isOp_14 (by decide) ?_
      exact W.zret (v := 0) hx hb hr (by decide) (fun t ht hW => ⟨⟨_, (), rfl, h, trivial⟩, hS.F ht⟩) hS.2.2 dX12_isOp_15
    · have h := h.2 c_7
      refine lv_iconst (v := 1) hx hb dX12_isOp_10 (by decide) ?_
      refine lv_goto (tgt := 15) hx hb dX12_isOp_11 (by decide) ?_
      exact W.zret (v := 1) hx hb hr (by decide) (fun t ht hW => ⟨⟨_, (), rfl, h, trivial⟩, hS.F ht⟩) hS.2.2 dX12_isOp_15

abbrev wmX12_isCond : List Cond := .code yX12_isCond cX12_isCond 1 (some .boolean) :: WM
theorem hd_X12_isCond : yX12_isCond.cls ≠ "java/lang/invoke/MethodHandle" ∧ yX12_isCond.cls ≠ "java/lang/invoke/VarHandle" ∧ (parseMethodDescriptor yX12_isCond.desc).map (fun d => d.parameters.length) = some 1 := by decide +kernel
def P_X12_isCond (p0 : Int32) (Q : Int32 → Prop) : Prop := ((p0 < 0) → (Q 0)) ∧ ((¬ p0 < 0) → (((3 < p0) → (Q 0)) ∧ ((¬ 3 < p0) → (Q 1))))
set_option maxHeartbeats 4000000 in
set_option maxRecDepth 100000 in
theorem p_X12_isCond (l : Launch) (dC : Nat → ClassId) (dI : Nat → Nat → Nat) (p0 : Int32) (Q : Int32 → Prop) (h : P_X12_isCond p0 Q) (sz : Nat) : Met l yX12_isCond wmX12_isCond ({ frames := 4, cells := 0, slots := 0, locals := 60 }) (va_Pc [.int p0] (fun U : State => U.heap.size = sz)) (va_Qi (S := Unit) (fun r _ => Q r) (fun _ _ => True) (va_A [] sz)) 0 0 (va_A [] sz) := by
  refine Met.ofW (cc := cX12_isCond) (maxL := 1) (ret := (some .boolean)) (by decide) rfl ?_
  intro p e s m args below meth c s₁ B hml hv
  obtain ⟨rfl, hsz⟩ := hv
  have hx := B.exec
  have hb := B.bytes
  have hr := B.returns
  have hts : ∀ w ∈ WM, w.before _ s = true := fun w h => atoms_spec (ws := wmX12_isCond) B.pre w (List.mem_cons_of_mem _ h)
  have hown : s.vm.findClass RX12 = some m.cls := findClass_of_methodNamed B.named
  have hlocks := B.notSynchronized
  subst hsz
  have hP : va_P (dC, dI) vwCl [] s.heap := nd_P0
  have hD0 : va_D (fun _ => True) ([] : va_W) := nd_0
  have hD := hD0.self (sz := s.heap.size)
  generalize hAe : va_A [] s.heap.size = A at hD ⊢
  have hA : ∀ q : Nat, s.heap.size ≤ q → A q := fun q h => by rw [← hAe]; exact Or.inr h
  generalize hH : s.heap = H at hP ⊢
  have hS : va_S A s.heap H [] := by rw [← hH]; exact va_S.rf
  have hl := lv_entry [.int p0] (n := 1) (Nat.le_of_ble_eq_true rfl)
  rw [lg_entry_eq]
  generalize (lg_sl [.int p0] ++ List.replicate (1 - (lg_sl [.int p0]).length) Slot.unset).toArray = ls at hl ⊢
  have hl : lv_has ls 1 [(0, .int p0)] := hl
  unfold P_X12_isCond at h
  refine lv_iload_n hx hb dX12_isCond_0 rfl (lv_at hl 0 rfl) ?_
  refine lv_if_lt (tgt := 13) hx hb dX12_isCond_1 (by decide) (fun c_1 => ?_) (fun c_1 => ?_)
  · have h := h.1 c_1
    refine lv_iconst (v := 0) hx hb dX12_isCond_13 (by decide) ?_
    exact W.zret (v := 0) hx hb hr (by decide) (fun t ht hW => ⟨⟨_, (), rfl, h, trivial⟩, hS.F ht⟩) hS.2.2 dX12_isCond_14
  · have h := h.2 c_1
    refine lv_iload_n hx hb dX12_isCond_4 rfl (lv_at hl 0 rfl) ?_
    refine lv_iconst (v := 3) hx hb dX12_isCond_5 (by decide) ?_
    refine lv_icmp_gt (tgt := 13) hx hb dX12_isCond_6 (by decide) (fun c_6 => ?_) (fun c_6 => ?_)
    · have h := h.1 c_6
      refine lv_iconst (v := 0) hx hb dX12_isCond_13 (by decide) ?_
      exact W.zret (v := 0) hx hb hr (by decide) (fun t ht hW => ⟨⟨_, (), rfl, h, trivial⟩, hS.F ht⟩) hS.2.2 dX12_isCond_14
    · have h := h.2 c_6
      refine lv_iconst (v := 1) hx hb dX12_isCond_9 (by decide) ?_
      refine lv_goto (tgt := 14) hx hb dX12_isCond_10 (by decide) ?_
      exact W.zret (v := 1) hx hb hr (by decide) (fun t ht hW => ⟨⟨_, (), rfl, h, trivial⟩, hS.F ht⟩) hS.2.2 dX12_isCond_14

abbrev wmX12_floor : List Cond := .code yX12_floor cX12_floor 6 (some .long) :: WM
theorem hd_X12_floor : yX12_floor.cls ≠ "java/lang/invoke/MethodHandle" ∧ yX12_floor.cls ≠ "java/lang/invoke/VarHandle" ∧ (parseMethodDescriptor yX12_floor.desc).map (fun d => d.parameters.length) = some 2 := by decide +kernel
def P_X12_floor (p0 : Int64) (p1 : Int64) (Q : Int64 → Prop) : Prop := ¬ p1 = 0 ∧ ¬ p1 = 0 ∧ (((lg_cmp (p0 - p0 / p1 * p1) 0) = 0) → (Q (p0 / p1))) ∧ ((¬ (lg_cmp (p0 - p0 / p1 * p1) 0) = 0) → (((0 ≤ (lg_cmp p0 0)) → (((0 ≤ (lg_cmp p1 0)) → (Q (p0 / p1))) ∧ ((¬ 0 ≤ (lg_cmp p1 0)) → (Q ((p0 / p1) - 1))))) ∧ ((¬ 0 ≤ (lg_cmp p0 0)) → (((0 ≤ (lg_cmp p1 0)) → (Q ((p0 / p1) - 1))) ∧ ((¬ 0 ≤ (lg_cmp p1 0)) → (Q (p0 / p1)))))))
set_option maxHeartbeats 4000000 in
set_option maxRecDepth 100000 in
theorem p_X12_floor (l : Launch) (dC : Nat → ClassId) (dI : Nat → Nat → Nat) (p0 : Int64) (p1 : Int64) (Q : Int64 → Prop) (h : P_X12_floor p0 p1 Q) (sz : Nat) : Met l yX12_floor wmX12_floor ({ frames := 4, cells := 0, slots := 0, locals := 60 }) (va_Pc [.long p0, .long p1] (fun U : State => U.heap.size = sz)) (va_Ql (S := Unit) (fun r _ => Q r) (fun _ _ => True) (va_A [] sz)) 0 0 (va_A [] sz) := by
  refine Met.ofW (cc := cX12_floor) (maxL := 6) (ret := (some .long)) (by decide) rfl ?_
  intro p e s m args below meth c s₁ B hml hv
  obtain ⟨rfl, hsz⟩ := hv
  have hx := B.exec
  have hb := B.bytes
  have hr := B.returns
  have hts : ∀ w ∈ WM, w.before _ s = true := fun w h => atoms_spec (ws := wmX12_floor) B.pre w (List.mem_cons_of_mem _ h)
  have hown : s.vm.findClass RX12 = some m.cls := findClass_of_methodNamed B.named
  have hlocks := B.notSynchronized
  subst hsz
  have hP : va_P (dC, dI) vwCl [] s.heap := nd_P0
  have hD0 : va_D (fun _ => True) ([] : va_W) := nd_0
  have hD := hD0.self (sz := s.heap.size)
  generalize hAe : va_A [] s.heap.size = A at hD ⊢
  have hA : ∀ q : Nat, s.heap.size ≤ q → A q := fun q h => by rw [← hAe]; exact Or.inr h
  generalize hH : s.heap = H at hP ⊢
  have hS : va_S A s.heap H [] := by rw [← hH]; exact va_S.rf
  have hl := lv_entry [.long p0, .long p1] (n := 6) (Nat.le_of_ble_eq_true rfl)
  rw [lg_entry_eq]
  generalize (lg_sl [.long p0, .long p1] ++ List.replicate (6 - (lg_sl [.long p0, .long p1]).length) Slot.unset).toArray = ls at hl ⊢
  have hl : lv_has ls 6 [(0, .long p0), (2, .long p1)] := hl
  unfold P_X12_floor at h
  refine lv_lload_n hx hb dX12_floor_0 rfl (lv_at hl 0 rfl) ?_
  refine lv_lload_n hx hb dX12_floor_1 rfl (lv_at hl 1 rfl) ?_
  obtain ⟨hz1, h⟩ := h
  refine lv_ldiv hx hb dX12_floor_2 hz1 ?_
  refine lv_lstore (lv' := [(4, .long (p0 / p1)), (0, .long p0), (2, .long p1)]) hx hb dX12_floor_3 hl (by decide) rfl (fun ls hl => ?_)
  refine lv_lload_n hx hb dX12_floor_5 rfl (lv_at hl 1 rfl) ?_
  refine lv_lload_n hx hb dX12_floor_6 rfl (lv_at hl 2 rfl) ?_
  obtain ⟨hz2, h⟩ := h
  refine lv_lrem hx hb dX12_floor_7 hz2 ?_
  refine lv_lconst (v := 0) hx hb dX12_floor_8 (by decide) ?_
  refine W.lcmp hx hb dX12_floor_9 ?_
  refine lv_if_eq (tgt := 45) hx hb dX12_floor_10 (by decide) (fun c_10 => ?_) (fun c_10 => ?_)
  · have h := h.1 c_10
    refine lv_lload hx hb dX12_floor_45 (lv_at hl 0 rfl) ?_
    exact W.lret (v := (p0 / p1)) hx hb hr (fun t ht hW => ⟨⟨_, (), rfl, h, trivial⟩, hS.F ht⟩) hS.2.2 dX12_floor_47
  · have h := h.2 c_10
    refine lv_lload_n hx hb dX12_floor_13 rfl (lv_at hl 1 rfl) ?_
    refine lv_lconst (v := 0) hx hb dX12_floor_14 (by decide) ?_
    refine W.lcmp hx hb dX12_floor_15 ?_
    refine lv_if_ge (tgt := 23) hx hb dX12_floor_16 (by decide) (fun c_16 => ?_) (fun c_16 => ?_)
    · have h := h.1 c_16
      refine lv_iconst (v := 0) hx hb dX12_floor_23 (by decide) ?_
      refine lv_lload_n hx hb dX12_floor_24 rfl (lv_at hl 2 rfl) ?_
      refine lv_lconst (v := 0) hx hb dX12_floor_25 (by decide) ?_
      refine W.lcmp hx hb dX12_floor_26 ?_
      refine lv_if_ge (tgt := 34) hx hb dX12_floor_27 (by decide) (fun c_27 => ?_) (fun c_27 => ?_)
      · have h := h.1 c_27
        refine lv_iconst (v := 0) hx hb dX12_floor_34 (by decide) ?_
        refine lv_icmp_eq (tgt := 45) hx hb dX12_floor_35 (by decide) (fun c_35 => ?_) (fun c_35 => ?_)
        · refine lv_lload hx hb dX12_floor_45 (lv_at hl 0 rfl) ?_
          exact W.lret (v := (p0 / p1)) hx hb hr (fun t ht hW => ⟨⟨_, (), rfl, h, trivial⟩, hS.F ht⟩) hS.2.2 dX12_floor_47
        · exact absurd c_35 (by decide)
      · have h := h.2 c_27
        refine lv_iconst (v := 1) hx hb dX12_floor_30 (by decide) ?_
        refine lv_goto (tgt := 35) hx hb dX12_floor_31 (by decide) ?_
        refine lv_icmp_eq (tgt := 45) hx hb dX12_floor_35 (by decide) (fun c_35 => ?_) (fun c_35 => ?_)
        · exact absurd c_35 (by decide)
        · refine lv_lload hx hb dX12_floor_38 (lv_at hl 0 rfl) ?_
          refine lv_lconst (v := 1) hx hb dX12_floor_40 (by decide) ?_
          refine lv_lsub hx hb dX12_floor_41 ?_
          refine lv_goto (tgt := 47) hx hb dX12_floor_42 (by decide) ?_
          exact W.lret (v := ((p0 / p1) - 1)) hx hb hr (fun t ht hW => ⟨⟨_, (), rfl, h, trivial⟩, hS.F ht⟩) hS.2.2 dX12_floor_47
    · have h := h.2 c_16
      refine lv_iconst (v := 1) hx hb dX12_floor_19 (by decide) ?_
      refine lv_goto (tgt := 24) hx hb dX12_floor_20 (by decide) ?_
      refine lv_lload_n hx hb dX12_floor_24 rfl (lv_at hl 2 rfl) ?_
      refine lv_lconst (v := 0) hx hb dX12_floor_25 (by decide) ?_
      refine W.lcmp hx hb dX12_floor_26 ?_
      refine lv_if_ge (tgt := 34) hx hb dX12_floor_27 (by decide) (fun c_27 => ?_) (fun c_27 => ?_)
      · have h := h.1 c_27
        refine lv_iconst (v := 0) hx hb dX12_floor_34 (by decide) ?_
        refine lv_icmp_eq (tgt := 45) hx hb dX12_floor_35 (by decide) (fun c_35 => ?_) (fun c_35 => ?_)
        · exact absurd c_35 (by decide)
        · refine lv_lload hx hb dX12_floor_38 (lv_at hl 0 rfl) ?_
          refine lv_lconst (v := 1) hx hb dX12_floor_40 (by decide) ?_
          refine lv_lsub hx hb dX12_floor_41 ?_
          refine lv_goto (tgt := 47) hx hb dX12_floor_42 (by decide) ?_
          exact W.lret (v := ((p0 / p1) - 1)) hx hb hr (fun t ht hW => ⟨⟨_, (), rfl, h, trivial⟩, hS.F ht⟩) hS.2.2 dX12_floor_47
      · have h := h.2 c_27
        refine lv_iconst (v := 1) hx hb dX12_floor_30 (by decide) ?_
        refine lv_goto (tgt := 35) hx hb dX12_floor_31 (by decide) ?_
        refine lv_icmp_eq (tgt := 45) hx hb dX12_floor_35 (by decide) (fun c_35 => ?_) (fun c_35 => ?_)
        · refine lv_lload hx hb dX12_floor_45 (lv_at hl 0 rfl) ?_
          exact W.lret (v := (p0 / p1)) hx hb hr (fun t ht hW => ⟨⟨_, (), rfl, h, trivial⟩, hS.F ht⟩) hS.2.2 dX12_floor_47
        · exact absurd c_35 (by decide)

abbrev wmX12_meets : List Cond := .code yX12_meets cX12_meets 5 (some .boolean) :: WM
theorem hd_X12_meets : yX12_meets.cls ≠ "java/lang/invoke/MethodHandle" ∧ yX12_meets.cls ≠ "java/lang/invoke/VarHandle" ∧ (parseMethodDescriptor yX12_meets.desc).map (fun d => d.parameters.length) = some 3 := by decide +kernel
def P_X12_meets (p0 : Int32) (p1 : Int64) (p2 : Int64) (Q : Int32 → Prop) : Prop := ((¬ p0 = 0) → (((¬ p0 = 1) → (((¬ p0 = 2) → (((¬ (lg_cmp p2 0) = 0) → (¬ p2 = 0 ∧ ((¬ (lg_cmp (p1 - p1 / p2 * p2) 0) = 0) → (Q 0)) ∧ (((lg_cmp (p1 - p1 / p2 * p2) 0) = 0) → (Q 1)))) ∧ (((lg_cmp p2 0) = 0) → (((¬ (lg_cmp p1 0) = 0) → (Q 0)) ∧ (((lg_cmp p1 0) = 0) → (Q 1)))))) ∧ ((p0 = 2) → ((((lg_cmp p1 p2) ≤ 0) → (Q 0)) ∧ ((¬ (lg_cmp p1 p2) ≤ 0) → (Q 1)))))) ∧ ((p0 = 1) → (((¬ (lg_cmp p1 p2) = 0) → (Q 0)) ∧ (((lg_cmp p1 p2) = 0) → (Q 1)))))) ∧ ((p0 = 0) → (((0 ≤ (lg_cmp p1 p2)) → (Q 0)) ∧ ((¬ 0 ≤ (lg_cmp p1 p2)) → (Q 1))))
set_option maxHeartbeats 4000000 in
set_option maxRecDepth 100000 in
theorem p_X12_meets (l : Launch) (dC : Nat → ClassId) (dI : Nat → Nat → Nat) (p0 : Int32) (p1 : Int64) (p2 : Int64) (Q : Int32 → Prop) (h : P_X12_meets p0 p1 p2 Q) (sz : Nat) : Met l yX12_meets wmX12_meets ({ frames := 4, cells := 0, slots := 0, locals := 60 }) (va_Pc [.int p0, .long p1, .long p2] (fun U : State => U.heap.size = sz)) (va_Qi (S := Unit) (fun r _ => Q r) (fun _ _ => True) (va_A [] sz)) 0 0 (va_A [] sz) := by
  refine Met.ofW (cc := cX12_meets) (maxL := 5) (ret := (some .boolean)) (by decide) rfl ?_
  intro p e s m args below meth c s₁ B hml hv
  obtain ⟨rfl, hsz⟩ := hv
  have hx := B.exec
  have hb := B.bytes
  have hr := B.returns
  have hts : ∀ w ∈ WM, w.before _ s = true := fun w h => atoms_spec (ws := wmX12_meets) B.pre w (List.mem_cons_of_mem _ h)
  have hown : s.vm.findClass RX12 = some m.cls := findClass_of_methodNamed B.named
  have hlocks := B.notSynchronized
  subst hsz
  have hP : va_P (dC, dI) vwCl [] s.heap := nd_P0
  have hD0 : va_D (fun _ => True) ([] : va_W) := nd_0
  have hD := hD0.self (sz := s.heap.size)
  generalize hAe : va_A [] s.heap.size = A at hD ⊢
  have hA : ∀ q : Nat, s.heap.size ≤ q → A q := fun q h => by rw [← hAe]; exact Or.inr h
  generalize hH : s.heap = H at hP ⊢
  have hS : va_S A s.heap H [] := by rw [← hH]; exact va_S.rf
  have hl := lv_entry [.int p0, .long p1, .long p2] (n := 5) (Nat.le_of_ble_eq_true rfl)
  rw [lg_entry_eq]
  generalize (lg_sl [.int p0, .long p1, .long p2] ++ List.replicate (5 - (lg_sl [.int p0, .long p1, .long p2]).length) Slot.unset).toArray = ls at hl ⊢
  have hl : lv_has ls 5 [(0, .int p0), (1, .long p1), (3, .long p2)] := hl
  unfold P_X12_meets at h
  refine lv_iload_n hx hb dX12_meets_0 rfl (lv_at hl 0 rfl) ?_
  refine lv_if_ne (tgt := 18) hx hb dX12_meets_1 (by decide) (fun c_1 => ?_) (fun c_1 => ?_)
  · have h := h.1 c_1
    refine lv_iload_n hx hb dX12_meets_18 rfl (lv_at hl 0 rfl) ?_
    refine lv_iconst (v := 1) hx hb dX12_meets_19 (by decide) ?_
    refine lv_icmp_ne (tgt := 37) hx hb dX12_meets_20 (by decide) (fun c_20 => ?_) (fun c_20 => ?_)
    · have h := h.1 c_20
      refine lv_iload_n hx hb dX12_meets_37 rfl (lv_at hl 0 rfl) ?_
      refine lv_iconst (v := 2) hx hb dX12_meets_38 (by decide) ?_
      refine lv_icmp_ne (tgt := 56) hx hb dX12_meets_39 (by decide) (fun c_39 => ?_) (fun c_39 => ?_)
      · have h := h.1 c_39
        refine lv_lload_n hx hb dX12_meets_56 rfl (lv_at hl 2 rfl) ?_
        refine lv_lconst (v := 0) hx hb dX12_meets_57 (by decide) ?_
        refine W.lcmp hx hb dX12_meets_58 ?_
        refine lv_if_ne (tgt := 76) hx hb dX12_meets_59 (by decide) (fun c_59 => ?_) (fun c_59 => ?_)
        · have h := h.1 c_59
          refine lv_lload_n hx hb dX12_meets_76 rfl (lv_at hl 1 rfl) ?_
          refine lv_lload_n hx hb dX12_meets_77 rfl (lv_at hl 2 rfl) ?_
          obtain ⟨hz1, h⟩ := h
          refine lv_lrem hx hb dX12_meets_78 hz1 ?_
          refine lv_lconst (v := 0) hx hb dX12_meets_79 (by decide) ?_
          refine W.lcmp hx hb dX12_meets_80 ?_
          refine lv_if_ne (tgt := 88) hx hb dX12_meets_81 (by decide) (fun c_81 => ?_) (fun c_81 => ?_)
          · have h := h.1 c_81
            refine lv_iconst (v := 0) hx hb dX12_meets_88 (by decide) ?_
            exact W.zret (v := 0) hx hb hr (by decide) (fun t ht hW => ⟨⟨_, (), rfl, h, trivial⟩, hS.F ht⟩) hS.2.2 dX12_meets_89
          · have h := h.2 c_81
            refine lv_iconst (v := 1) hx hb dX12_meets_84 (by decide) ?_
            refine lv_goto (tgt := 89) hx hb dX12_meets_85 (by decide) ?_
            exact W.zret (v := 1) hx hb hr (by decide) (fun t ht hW => ⟨⟨_, (), rfl, h, trivial⟩, hS.F ht⟩) hS.2.2 dX12_meets_89
        · have h := h.2 c_59
          refine lv_lload_n hx hb dX12_meets_62 rfl (lv_at hl 1 rfl) ?_
          refine lv_lconst (v := 0) hx hb dX12_meets_63 (by decide) ?_
          refine W.lcmp hx hb dX12_meets_64 ?_
          refine lv_if_ne (tgt := 72) hx hb dX12_meets_65 (by decide) (fun c_65 => ?_) (fun c_65 => ?_)
          · have h := h.1 c_65
            refine lv_iconst (v := 0) hx hb dX12_meets_72 (by decide) ?_
            refine lv_goto (tgt := 89) hx hb dX12_meets_73 (by decide) ?_
            exact W.zret (v := 0) hx hb hr (by decide) (fun t ht hW => ⟨⟨_, (), rfl, h, trivial⟩, hS.F ht⟩) hS.2.2 dX12_meets_89
          · have h := h.2 c_65
            refine lv_iconst (v := 1) hx hb dX12_meets_68 (by decide) ?_
            refine lv_goto (tgt := 89) hx hb dX12_meets_69 (by decide) ?_
            exact W.zret (v := 1) hx hb hr (by decide) (fun t ht hW => ⟨⟨_, (), rfl, h, trivial⟩, hS.F ht⟩) hS.2.2 dX12_meets_89
      · have h := h.2 c_39
        refine lv_lload_n hx hb dX12_meets_42 rfl (lv_at hl 1 rfl) ?_
        refine lv_lload_n hx hb dX12_meets_43 rfl (lv_at hl 2 rfl) ?_
        refine W.lcmp hx hb dX12_meets_44 ?_
        refine lv_if_le (tgt := 52) hx hb dX12_meets_45 (by decide) (fun c_45 => ?_) (fun c_45 => ?_)
        · have h := h.1 c_45
          refine lv_iconst (v := 0) hx hb dX12_meets_52 (by decide) ?_
          refine lv_goto (tgt := 89) hx hb dX12_meets_53 (by decide) ?_
          exact W.zret (v := 0) hx hb hr (by decide) (fun t ht hW => ⟨⟨_, (), rfl, h, trivial⟩, hS.F ht⟩) hS.2.2 dX12_meets_89
        · have h := h.2 c_45
          refine lv_iconst (v := 1) hx hb dX12_meets_48 (by decide) ?_
          refine lv_goto (tgt := 89) hx hb dX12_meets_49 (by decide) ?_
          exact W.zret (v := 1) hx hb hr (by decide) (fun t ht hW => ⟨⟨_, (), rfl, h, trivial⟩, hS.F ht⟩) hS.2.2 dX12_meets_89
    · have h := h.2 c_20
      refine lv_lload_n hx hb dX12_meets_23 rfl (lv_at hl 1 rfl) ?_
      refine lv_lload_n hx hb dX12_meets_24 rfl (lv_at hl 2 rfl) ?_
      refine W.lcmp hx hb dX12_meets_25 ?_
      refine lv_if_ne (tgt := 33) hx hb dX12_meets_26 (by decide) (fun c_26 => ?_) (fun c_26 => ?_)
      · have h := h.1 c_26
        refine lv_iconst (v := 0) hx hb dX12_meets_33 (by decide) ?_
        refine lv_goto (tgt := 89) hx hb dX12_meets_34 (by decide) ?_
        exact W.zret (v := 0) hx hb hr (by decide) (fun t ht hW => ⟨⟨_, (), rfl, h, trivial⟩, hS.F ht⟩) hS.2.2 dX12_meets_89
      · have h := h.2 c_26
        refine lv_iconst (v := 1) hx hb dX12_meets_29 (by decide) ?_
        refine lv_goto (tgt := 89) hx hb dX12_meets_30 (by decide) ?_
        exact W.zret (v := 1) hx hb hr (by decide) (fun t ht hW => ⟨⟨_, (), rfl, h, trivial⟩, hS.F ht⟩) hS.2.2 dX12_meets_89
  · have h := h.2 c_1
    refine lv_lload_n hx hb dX12_meets_4 rfl (lv_at hl 1 rfl) ?_
    refine lv_lload_n hx hb dX12_meets_5 rfl (lv_at hl 2 rfl) ?_
    refine W.lcmp hx hb dX12_meets_6 ?_
    refine lv_if_ge (tgt := 14) hx hb dX12_meets_7 (by decide) (fun c_7 => ?_) (fun c_7 => ?_)
    · have h := h.1 c_7
      refine lv_iconst (v := 0) hx hb dX12_meets_14 (by decide) ?_
      refine lv_goto (tgt := 89) hx hb dX12_meets_15 (by decide) ?_
      exact W.zret (v := 0) hx hb hr (by decide) (fun t ht hW => ⟨⟨_, (), rfl, h, trivial⟩, hS.F ht⟩) hS.2.2 dX12_meets_89
    · have h := h.2 c_7
      refine lv_iconst (v := 1) hx hb dX12_meets_10 (by decide) ?_
      refine lv_goto (tgt := 89) hx hb dX12_meets_11 (by decide) ?_
      exact W.zret (v := 1) hx hb hr (by decide) (fun t ht hW => ⟨⟨_, (), rfl, h, trivial⟩, hS.F ht⟩) hS.2.2 dX12_meets_89

abbrev wmX12_place : List Cond := .code yX12_place cX12_place 2 (some .int) :: WM
theorem hd_X12_place : yX12_place.cls ≠ "java/lang/invoke/MethodHandle" ∧ yX12_place.cls ≠ "java/lang/invoke/VarHandle" ∧ (parseMethodDescriptor yX12_place.desc).map (fun d => d.parameters.length) = some 2 := by decide +kernel
def P_X12_place (p0 : Int32) (p1 : Int32) (Q : Int32 → Prop) : Prop := Q ((400 * p0) + p1)
set_option maxHeartbeats 4000000 in
set_option maxRecDepth 100000 in
theorem p_X12_place (l : Launch) (dC : Nat → ClassId) (dI : Nat → Nat → Nat) (p0 : Int32) (p1 : Int32) (Q : Int32 → Prop) (h : P_X12_place p0 p1 Q) (sz : Nat) : Met l yX12_place wmX12_place ({ frames := 4, cells := 0, slots := 0, locals := 60 }) (va_Pc [.int p0, .int p1] (fun U : State => U.heap.size = sz)) (va_Qi (S := Unit) (fun r _ => Q r) (fun _ _ => True) (va_A [] sz)) 0 0 (va_A [] sz) := by
  refine Met.ofW (cc := cX12_place) (maxL := 2) (ret := (some .int)) (by decide) rfl ?_
  intro p e s m args below meth c s₁ B hml hv
  obtain ⟨rfl, hsz⟩ := hv
  have hx := B.exec
  have hb := B.bytes
  have hr := B.returns
  have hts : ∀ w ∈ WM, w.before _ s = true := fun w h => atoms_spec (ws := wmX12_place) B.pre w (List.mem_cons_of_mem _ h)
  have hown : s.vm.findClass RX12 = some m.cls := findClass_of_methodNamed B.named
  have hlocks := B.notSynchronized
  subst hsz
  have hP : va_P (dC, dI) vwCl [] s.heap := nd_P0
  have hD0 : va_D (fun _ => True) ([] : va_W) := nd_0
  have hD := hD0.self (sz := s.heap.size)
  generalize hAe : va_A [] s.heap.size = A at hD ⊢
  have hA : ∀ q : Nat, s.heap.size ≤ q → A q := fun q h => by rw [← hAe]; exact Or.inr h
  generalize hH : s.heap = H at hP ⊢
  have hS : va_S A s.heap H [] := by rw [← hH]; exact va_S.rf
  have hl := lv_entry [.int p0, .int p1] (n := 2) (Nat.le_of_ble_eq_true rfl)
  rw [lg_entry_eq]
  generalize (lg_sl [.int p0, .int p1] ++ List.replicate (2 - (lg_sl [.int p0, .int p1]).length) Slot.unset).toArray = ls at hl ⊢
  have hl : lv_has ls 2 [(0, .int p0), (1, .int p1)] := hl
  unfold P_X12_place at h
  refine lv_sipush (v := 400) hx hb dX12_place_0 (by decide) ?_
  refine lv_iload_n hx hb dX12_place_3 rfl (lv_at hl 0 rfl) ?_
  refine lv_imul hx hb dX12_place_4 ?_
  refine lv_iload_n hx hb dX12_place_5 rfl (lv_at hl 1 rfl) ?_
  refine lv_iadd hx hb dX12_place_6 ?_
  exact W.iret (v := ((400 * p0) + p1)) hx hb hr (fun t ht hW => ⟨⟨_, (), rfl, h, trivial⟩, hS.F ht⟩) hS.2.2 dX12_place_7

abbrev wmX12_as : List Cond := .code yX12_as cX12_as 2 (some .int) :: WM
theorem hd_X12_as : yX12_as.cls = RX12 ∧ yX12_as.cls ≠ "java/lang/invoke/MethodHandle" ∧ yX12_as.cls ≠ "java/lang/invoke/VarHandle" ∧ (parseMethodDescriptor yX12_as.desc).map (fun d => d.parameters.length) = some 1 := by decide +kernel
def P_X12_as (v : Nat → Int32) (w : Nat → Int64) (fi : Nat → Nat → Int32) (fl : Nat → Nat → Int64) (p0 : Int32) (Q : Int32 → (Nat → Int32) → (Nat → Int64) → (Nat → Nat → Int32) → (Nat → Nat → Int64) → Prop) : Prop := Q (-1) (va_up (va_up (va_up v 26 p0) 27 (-1)) 28 0) w fi fl
set_option maxHeartbeats 4000000 in
set_option maxRecDepth 100000 in
theorem p_X12_as (l : Launch) (dC : Nat → ClassId) (dI : Nat → Nat → Nat) (a : Nat → Nat) (ca : Nat → ClassId) (g0 : Nat) (v : Nat → Int32) (w : Nat → Int64) (fi : Nat → Nat → Int32) (fl : Nat → Nat → Int64) (p0 : Int32) (Q : Int32 → (Nat → Int32) → (Nat → Int64) → (Nat → Nat → Int32) → (Nat → Nat → Int64) → Prop) (h : P_X12_as v w fi fl p0 Q) (sz : Nat) : Met l yX12_as wmX12_as ({ frames := 4, cells := 0, slots := 0, locals := 60 }) (va_Pc [.ref g0, .int p0] (mPre dC dI a ca g0 v w fi fl sz)) (va_Qi (S := MSt) (pI Q) (mB dC dI a ca g0 (va_A (mW a ca g0 v w fi fl) sz)) (va_A (mW a ca g0 v w fi fl) sz)) 0 0 (va_A (mW a ca g0 v w fi fl) sz) := by
  refine Met.ofW (cc := cX12_as) (maxL := 2) (ret := (some .int)) (by decide) rfl ?_
  intro p e s m args below meth c s₁ B hml hv
  obtain ⟨rfl, hsz, hP, hK, hD0⟩ := hv
  have hx := B.exec
  have hb := B.bytes
  have hr := B.returns
  have hts : ∀ w ∈ WM, w.before _ s = true := fun w h => atoms_spec (ws := wmX12_as) B.pre w (List.mem_cons_of_mem _ h)
  have hown : s.vm.findClass RX12 = some m.cls := findClass_of_methodNamed B.named
  have hlocks := B.notSynchronized
  subst hsz
  have hD := hD0.self (sz := s.heap.size)
  generalize hAe : va_A (mW a ca g0 v w fi fl) s.heap.size = A at hD ⊢
  have hA : ∀ q : Nat, s.heap.size ≤ q → A q := fun q h => by rw [← hAe]; exact Or.inr h
  generalize hH : s.heap = H at hP ⊢
  have hS : va_S A s.heap H [] := by rw [← hH]; exact va_S.rf
  have hl := lv_entry [.ref g0, .int p0] (n := 2) (Nat.le_of_ble_eq_true rfl)
  rw [lg_entry_eq]
  generalize (lg_sl [.ref g0, .int p0] ++ List.replicate (2 - (lg_sl [.ref g0, .int p0]).length) Slot.unset).toArray = ls at hl ⊢
  have hl : lv_has ls 2 [(0, .ref g0), (1, .int p0)] := hl
  unfold P_X12_as at h
  refine lv_aload_n hx hb dX12_as_0 rfl (lv_at hl 0 rfl) ?_
  refine lv_iload_n hx hb dX12_as_1 rfl (lv_at hl 1 rfl) ?_
  refine m_put_26 hx hb hts hinM hown hK hP hD hS (hts _ mwM_8) dX12_as_2 (fun H locs hP hD hS => ?_)
  refine lv_aload_n hx hb dX12_as_5 rfl (lv_at hl 0 rfl) ?_
  refine lv_iconst (v := (-1)) hx hb dX12_as_6 (by decide) ?_
  refine m_put_27 hx hb hts hinM hown hK hP hD hS (hts _ mwM_9) dX12_as_7 (fun H locs hP hD hS => ?_)
  refine lv_aload_n hx hb dX12_as_10 rfl (lv_at hl 0 rfl) ?_
  refine lv_iconst (v := 0) hx hb dX12_as_11 (by decide) ?_
  refine m_put_28 hx hb hts hinM hown hK hP hD hS (hts _ mwM_10) dX12_as_12 (fun H locs hP hD hS => ?_)
  refine lv_iconst (v := (-1)) hx hb dX12_as_15 (by decide) ?_
  exact W.iret (v := (-1)) hx hb hr (fun t ht hW => ⟨⟨_, (va_up (va_up (va_up v 26 p0) 27 (-1)) 28 0, w, fi, fl), rfl, h, by rw [ht]; exact hP, va_K.moved hW.alike hK, hD⟩, hS.F ht⟩) hS.2.2 dX12_as_16

abbrev wmX12_shares : List Cond := .code yX12_shares cX12_shares 3 (some .int) :: WM
theorem hd_X12_shares : yX12_shares.cls = RX12 ∧ yX12_shares.cls ≠ "java/lang/invoke/MethodHandle" ∧ yX12_shares.cls ≠ "java/lang/invoke/VarHandle" ∧ (parseMethodDescriptor yX12_shares.desc).map (fun d => d.parameters.length) = some 2 := by decide +kernel
def P_X12_shares (v : Nat → Int32) (w : Nat → Int64) (fi : Nat → Nat → Int32) (fl : Nat → Nat → Int64) (p0 : Int32) (p1 : Int32) (Q : Int32 → (Nat → Int32) → (Nat → Int64) → (Nat → Nat → Int32) → (Nat → Nat → Int64) → Prop) : Prop := Q (-1) (va_up (va_up (va_up v 26 1) 27 p0) 28 p1) w fi fl
set_option maxHeartbeats 4000000 in
set_option maxRecDepth 100000 in
theorem p_X12_shares (l : Launch) (dC : Nat → ClassId) (dI : Nat → Nat → Nat) (a : Nat → Nat) (ca : Nat → ClassId) (g0 : Nat) (v : Nat → Int32) (w : Nat → Int64) (fi : Nat → Nat → Int32) (fl : Nat → Nat → Int64) (p0 : Int32) (p1 : Int32) (Q : Int32 → (Nat → Int32) → (Nat → Int64) → (Nat → Nat → Int32) → (Nat → Nat → Int64) → Prop) (h : P_X12_shares v w fi fl p0 p1 Q) (sz : Nat) : Met l yX12_shares wmX12_shares ({ frames := 4, cells := 0, slots := 0, locals := 60 }) (va_Pc [.ref g0, .int p0, .int p1] (mPre dC dI a ca g0 v w fi fl sz)) (va_Qi (S := MSt) (pI Q) (mB dC dI a ca g0 (va_A (mW a ca g0 v w fi fl) sz)) (va_A (mW a ca g0 v w fi fl) sz)) 0 0 (va_A (mW a ca g0 v w fi fl) sz) := by
  refine Met.ofW (cc := cX12_shares) (maxL := 3) (ret := (some .int)) (by decide) rfl ?_
  intro p e s m args below meth c s₁ B hml hv
  obtain ⟨rfl, hsz, hP, hK, hD0⟩ := hv
  have hx := B.exec
  have hb := B.bytes
  have hr := B.returns
  have hts : ∀ w ∈ WM, w.before _ s = true := fun w h => atoms_spec (ws := wmX12_shares) B.pre w (List.mem_cons_of_mem _ h)
  have hown : s.vm.findClass RX12 = some m.cls := findClass_of_methodNamed B.named
  have hlocks := B.notSynchronized
  subst hsz
  have hD := hD0.self (sz := s.heap.size)
  generalize hAe : va_A (mW a ca g0 v w fi fl) s.heap.size = A at hD ⊢
  have hA : ∀ q : Nat, s.heap.size ≤ q → A q := fun q h => by rw [← hAe]; exact Or.inr h
  generalize hH : s.heap = H at hP ⊢
  have hS : va_S A s.heap H [] := by rw [← hH]; exact va_S.rf
  have hl := lv_entry [.ref g0, .int p0, .int p1] (n := 3) (Nat.le_of_ble_eq_true rfl)
  rw [lg_entry_eq]
  generalize (lg_sl [.ref g0, .int p0, .int p1] ++ List.replicate (3 - (lg_sl [.ref g0, .int p0, .int p1]).length) Slot.unset).toArray = ls at hl ⊢
  have hl : lv_has ls 3 [(0, .ref g0), (1, .int p0), (2, .int p1)] := hl
  unfold P_X12_shares at h
  refine lv_aload_n hx hb dX12_shares_0 rfl (lv_at hl 0 rfl) ?_
  refine lv_iconst (v := 1) hx hb dX12_shares_1 (by decide) ?_
  refine m_put_26 hx hb hts hinM hown hK hP hD hS (hts _ mwM_8) dX12_shares_2 (fun H locs hP hD hS => ?_)
  refine lv_aload_n hx hb dX12_shares_5 rfl (lv_at hl 0 rfl) ?_
  refine lv_iload_n hx hb dX12_shares_6 rfl (lv_at hl 1 rfl) ?_
  refine m_put_27 hx hb hts hinM hown hK hP hD hS (hts _ mwM_9) dX12_shares_7 (fun H locs hP hD hS => ?_)
  refine lv_aload_n hx hb dX12_shares_10 rfl (lv_at hl 0 rfl) ?_
  refine lv_iload_n hx hb dX12_shares_11 rfl (lv_at hl 2 rfl) ?_
  refine m_put_28 hx hb hts hinM hown hK hP hD hS (hts _ mwM_10) dX12_shares_12 (fun H locs hP hD hS => ?_)
  refine lv_iconst (v := (-1)) hx hb dX12_shares_15 (by decide) ?_
  exact W.iret (v := (-1)) hx hb hr (fun t ht hW => ⟨⟨_, (va_up (va_up (va_up v 26 1) 27 p0) 28 p1, w, fi, fl), rfl, h, by rw [ht]; exact hP, va_K.moved hW.alike hK, hD⟩, hS.F ht⟩) hS.2.2 dX12_shares_16

abbrev wmX12_is : List Cond := .code yX12_is cX12_is 3 (some .int) :: WM
theorem hd_X12_is : yX12_is.cls = RX12 ∧ yX12_is.cls ≠ "java/lang/invoke/MethodHandle" ∧ yX12_is.cls ≠ "java/lang/invoke/VarHandle" ∧ (parseMethodDescriptor yX12_is.desc).map (fun d => d.parameters.length) = some 1 := by decide +kernel
def P_X12_is (v : Nat → Int32) (w : Nat → Int64) (fi : Nat → Nat → Int32) (fl : Nat → Nat → Int64) (p0 : Int64) (Q : Int32 → (Nat → Int32) → (Nat → Int64) → (Nat → Nat → Int32) → (Nat → Nat → Int64) → Prop) : Prop := Q (-1) (va_up v 26 1) (va_up w 30 p0) fi fl
set_option maxHeartbeats 4000000 in
set_option maxRecDepth 100000 in
theorem p_X12_is (l : Launch) (dC : Nat → ClassId) (dI : Nat → Nat → Nat) (a : Nat → Nat) (ca : Nat → ClassId) (g0 : Nat) (v : Nat → Int32) (w : Nat → Int64) (fi : Nat → Nat → Int32) (fl : Nat → Nat → Int64) (p0 : Int64) (Q : Int32 → (Nat → Int32) → (Nat → Int64) → (Nat → Nat → Int32) → (Nat → Nat → Int64) → Prop) (h : P_X12_is v w fi fl p0 Q) (sz : Nat) : Met l yX12_is wmX12_is ({ frames := 4, cells := 0, slots := 0, locals := 60 }) (va_Pc [.ref g0, .long p0] (mPre dC dI a ca g0 v w fi fl sz)) (va_Qi (S := MSt) (pI Q) (mB dC dI a ca g0 (va_A (mW a ca g0 v w fi fl) sz)) (va_A (mW a ca g0 v w fi fl) sz)) 0 0 (va_A (mW a ca g0 v w fi fl) sz) := by
  refine Met.ofW (cc := cX12_is) (maxL := 3) (ret := (some .int)) (by decide) rfl ?_
  intro p e s m args below meth c s₁ B hml hv
  obtain ⟨rfl, hsz, hP, hK, hD0⟩ := hv
  have hx := B.exec
  have hb := B.bytes
  have hr := B.returns
  have hts : ∀ w ∈ WM, w.before _ s = true := fun w h => atoms_spec (ws := wmX12_is) B.pre w (List.mem_cons_of_mem _ h)
  have hown : s.vm.findClass RX12 = some m.cls := findClass_of_methodNamed B.named
  have hlocks := B.notSynchronized
  subst hsz
  have hD := hD0.self (sz := s.heap.size)
  generalize hAe : va_A (mW a ca g0 v w fi fl) s.heap.size = A at hD ⊢
  have hA : ∀ q : Nat, s.heap.size ≤ q → A q := fun q h => by rw [← hAe]; exact Or.inr h
  generalize hH : s.heap = H at hP ⊢
  have hS : va_S A s.heap H [] := by rw [← hH]; exact va_S.rf
  have hl := lv_entry [.ref g0, .long p0] (n := 3) (Nat.le_of_ble_eq_true rfl)
  rw [lg_entry_eq]
  generalize (lg_sl [.ref g0, .long p0] ++ List.replicate (3 - (lg_sl [.ref g0, .long p0]).length) Slot.unset).toArray = ls at hl ⊢
  have hl : lv_has ls 3 [(0, .ref g0), (1, .long p0)] := hl
  unfold P_X12_is at h
  refine lv_aload_n hx hb dX12_is_0 rfl (lv_at hl 0 rfl) ?_
  refine lv_iconst (v := 1) hx hb dX12_is_1 (by decide) ?_
  refine m_put_26 hx hb hts hinM hown hK hP hD hS (hts _ mwM_8) dX12_is_2 (fun H locs hP hD hS => ?_)
  refine lv_aload_n hx hb dX12_is_5 rfl (lv_at hl 0 rfl) ?_
  refine lv_lload_n hx hb dX12_is_6 rfl (lv_at hl 1 rfl) ?_
  refine m_put_30 hx hb hts hinM hown hK hP hD hS (hts _ mwM_11) dX12_is_7 (fun H locs hP hD hS => ?_)
  refine lv_iconst (v := (-1)) hx hb dX12_is_10 (by decide) ?_
  exact W.iret (v := (-1)) hx hb hr (fun t ht hW => ⟨⟨_, (va_up v 26 1, va_up w 30 p0, fi, fl), rfl, h, by rw [ht]; exact hP, va_K.moved hW.alike hK, hD⟩, hS.F ht⟩) hS.2.2 dX12_is_11

abbrev wmX12_begin : List Cond := .code yX12_begin cX12_begin 1 none :: WM
theorem hd_X12_begin : yX12_begin.cls = RX12 ∧ yX12_begin.cls ≠ "java/lang/invoke/MethodHandle" ∧ yX12_begin.cls ≠ "java/lang/invoke/VarHandle" ∧ (parseMethodDescriptor yX12_begin.desc).map (fun d => d.parameters.length) = some 0 := by decide +kernel
def P_X12_begin (v : Nat → Int32) (w : Nat → Int64) (fi : Nat → Nat → Int32) (fl : Nat → Nat → Int64)  (Q : (Nat → Int32) → (Nat → Int64) → (Nat → Nat → Int32) → (Nat → Nat → Int64) → Prop) : Prop := Q (va_up (va_up (va_up v 16 0) 17 0) 18 0) w fi fl
set_option maxHeartbeats 4000000 in
set_option maxRecDepth 100000 in
theorem p_X12_begin (l : Launch) (dC : Nat → ClassId) (dI : Nat → Nat → Nat) (a : Nat → Nat) (ca : Nat → ClassId) (g0 : Nat) (v : Nat → Int32) (w : Nat → Int64) (fi : Nat → Nat → Int32) (fl : Nat → Nat → Int64)  (Q : (Nat → Int32) → (Nat → Int64) → (Nat → Nat → Int32) → (Nat → Nat → Int64) → Prop) (h : P_X12_begin v w fi fl  Q) (sz : Nat) : Met l yX12_begin wmX12_begin ({ frames := 4, cells := 0, slots := 0, locals := 60 }) (va_Pc [.ref g0] (mPre dC dI a ca g0 v w fi fl sz)) (va_Qv (S := MSt) (pV Q) (mB dC dI a ca g0 (va_A (mW a ca g0 v w fi fl) sz)) (va_A (mW a ca g0 v w fi fl) sz)) 0 0 (va_A (mW a ca g0 v w fi fl) sz) := by
  refine Met.ofW (cc := cX12_begin) (maxL := 1) (ret := none) (by decide) rfl ?_
  intro p e s m args below meth c s₁ B hml hv
  obtain ⟨rfl, hsz, hP, hK, hD0⟩ := hv
  have hx := B.exec
  have hb := B.bytes
  have hr := B.returns
  have hts : ∀ w ∈ WM, w.before _ s = true := fun w h => atoms_spec (ws := wmX12_begin) B.pre w (List.mem_cons_of_mem _ h)
  have hown : s.vm.findClass RX12 = some m.cls := findClass_of_methodNamed B.named
  have hlocks := B.notSynchronized
  subst hsz
  have hD := hD0.self (sz := s.heap.size)
  generalize hAe : va_A (mW a ca g0 v w fi fl) s.heap.size = A at hD ⊢
  have hA : ∀ q : Nat, s.heap.size ≤ q → A q := fun q h => by rw [← hAe]; exact Or.inr h
  generalize hH : s.heap = H at hP ⊢
  have hS : va_S A s.heap H [] := by rw [← hH]; exact va_S.rf
  have hl := lv_entry [.ref g0] (n := 1) (Nat.le_of_ble_eq_true rfl)
  rw [lg_entry_eq]
  generalize (lg_sl [.ref g0] ++ List.replicate (1 - (lg_sl [.ref g0]).length) Slot.unset).toArray = ls at hl ⊢
  have hl : lv_has ls 1 [(0, .ref g0)] := hl
  unfold P_X12_begin at h
  refine lv_aload_n hx hb dX12_begin_0 rfl (lv_at hl 0 rfl) ?_
  refine lv_iconst (v := 0) hx hb dX12_begin_1 (by decide) ?_
  refine m_put_16 hx hb hts hinM hown hK hP hD hS (hts _ mwM_12) dX12_begin_2 (fun H locs hP hD hS => ?_)
  refine lv_aload_n hx hb dX12_begin_5 rfl (lv_at hl 0 rfl) ?_
  refine lv_iconst (v := 0) hx hb dX12_begin_6 (by decide) ?_
  refine m_put_17 hx hb hts hinM hown hK hP hD hS (hts _ mwM_13) dX12_begin_7 (fun H locs hP hD hS => ?_)
  refine lv_aload_n hx hb dX12_begin_10 rfl (lv_at hl 0 rfl) ?_
  refine lv_iconst (v := 0) hx hb dX12_begin_11 (by decide) ?_
  refine m_put_18 hx hb hts hinM hown hK hP hD hS (hts _ mwM_14) dX12_begin_12 (fun H locs hP hD hS => ?_)
  exact W.vret hx hb hr (fun t ht hW => ⟨⟨(va_up (va_up (va_up v 16 0) 17 0) 18 0, w, fi, fl), rfl, h, by rw [ht]; exact hP, va_K.moved hW.alike hK, hD⟩, hS.F ht⟩) hS.2.2 dX12_begin_15

abbrev wmX12_out : List Cond := .code yX12_out cX12_out 1 (some .long) :: WM
theorem hd_X12_out : yX12_out.cls = RX12 ∧ yX12_out.cls ≠ "java/lang/invoke/MethodHandle" ∧ yX12_out.cls ≠ "java/lang/invoke/VarHandle" ∧ (parseMethodDescriptor yX12_out.desc).map (fun d => d.parameters.length) = some 0 := by decide +kernel
def P_X12_out (v : Nat → Int32) (w : Nat → Int64) (fi : Nat → Nat → Int32) (fl : Nat → Nat → Int64)  (Q : Int64 → (Nat → Int32) → (Nat → Int64) → (Nat → Nat → Int32) → (Nat → Nat → Int64) → Prop) : Prop := Q 0 (va_up v 17 3) w fi fl
set_option maxHeartbeats 4000000 in
set_option maxRecDepth 100000 in
theorem p_X12_out (l : Launch) (dC : Nat → ClassId) (dI : Nat → Nat → Nat) (a : Nat → Nat) (ca : Nat → ClassId) (g0 : Nat) (v : Nat → Int32) (w : Nat → Int64) (fi : Nat → Nat → Int32) (fl : Nat → Nat → Int64)  (Q : Int64 → (Nat → Int32) → (Nat → Int64) → (Nat → Nat → Int32) → (Nat → Nat → Int64) → Prop) (h : P_X12_out v w fi fl  Q) (sz : Nat) : Met l yX12_out wmX12_out ({ frames := 4, cells := 0, slots := 0, locals := 60 }) (va_Pc [.ref g0] (mPre dC dI a ca g0 v w fi fl sz)) (va_Ql (S := MSt) (pL Q) (mB dC dI a ca g0 (va_A (mW a ca g0 v w fi fl) sz)) (va_A (mW a ca g0 v w fi fl) sz)) 0 0 (va_A (mW a ca g0 v w fi fl) sz) := by
  refine Met.ofW (cc := cX12_out) (maxL := 1) (ret := (some .long)) (by decide) rfl ?_
  intro p e s m args below meth c s₁ B hml hv
  obtain ⟨rfl, hsz, hP, hK, hD0⟩ := hv
  have hx := B.exec
  have hb := B.bytes
  have hr := B.returns
  have hts : ∀ w ∈ WM, w.before _ s = true := fun w h => atoms_spec (ws := wmX12_out) B.pre w (List.mem_cons_of_mem _ h)
  have hown : s.vm.findClass RX12 = some m.cls := findClass_of_methodNamed B.named
  have hlocks := B.notSynchronized
  subst hsz
  have hD := hD0.self (sz := s.heap.size)
  generalize hAe : va_A (mW a ca g0 v w fi fl) s.heap.size = A at hD ⊢
  have hA : ∀ q : Nat, s.heap.size ≤ q → A q := fun q h => by rw [← hAe]; exact Or.inr h
  generalize hH : s.heap = H at hP ⊢
  have hS : va_S A s.heap H [] := by rw [← hH]; exact va_S.rf
  have hl := lv_entry [.ref g0] (n := 1) (Nat.le_of_ble_eq_true rfl)
  rw [lg_entry_eq]
  generalize (lg_sl [.ref g0] ++ List.replicate (1 - (lg_sl [.ref g0]).length) Slot.unset).toArray = ls at hl ⊢
  have hl : lv_has ls 1 [(0, .ref g0)] := hl
  unfold P_X12_out at h
  refine lv_aload_n hx hb dX12_out_0 rfl (lv_at hl 0 rfl) ?_
  refine lv_iconst (v := 3) hx hb dX12_out_1 (by decide) ?_
  refine m_put_17 hx hb hts hinM hown hK hP hD hS (hts _ mwM_13) dX12_out_2 (fun H locs hP hD hS => ?_)
  refine lv_lconst (v := 0) hx hb dX12_out_5 (by decide) ?_
  exact W.lret (v := 0) hx hb hr (fun t ht hW => ⟨⟨_, (va_up v 17 3, w, fi, fl), rfl, h, by rw [ht]; exact hP, va_K.moved hW.alike hK, hD⟩, hS.F ht⟩) hS.2.2 dX12_out_6

abbrev wmX12_failed : List Cond := .code yX12_failed cX12_failed 2 (some .long) :: WM
theorem hd_X12_failed : yX12_failed.cls = RX12 ∧ yX12_failed.cls ≠ "java/lang/invoke/MethodHandle" ∧ yX12_failed.cls ≠ "java/lang/invoke/VarHandle" ∧ (parseMethodDescriptor yX12_failed.desc).map (fun d => d.parameters.length) = some 1 := by decide +kernel
def P_X12_failed (v : Nat → Int32) (w : Nat → Int64) (fi : Nat → Nat → Int32) (fl : Nat → Nat → Int64) (p0 : Int32) (Q : Int64 → (Nat → Int32) → (Nat → Int64) → (Nat → Nat → Int32) → (Nat → Nat → Int64) → Prop) : Prop := ((¬ p0 = 3) → (Q 0 (va_up (va_up v 17 2) 18 (p0 - 3)) w fi fl)) ∧ ((p0 = 3) → (Q 0 (va_up (va_up v 17 1) 18 (p0 - 3)) w fi fl))
set_option maxHeartbeats 4000000 in
set_option maxRecDepth 100000 in
theorem p_X12_failed (l : Launch) (dC : Nat → ClassId) (dI : Nat → Nat → Nat) (a : Nat → Nat) (ca : Nat → ClassId) (g0 : Nat) (v : Nat → Int32) (w : Nat → Int64) (fi : Nat → Nat → Int32) (fl : Nat → Nat → Int64) (p0 : Int32) (Q : Int64 → (Nat → Int32) → (Nat → Int64) → (Nat → Nat → Int32) → (Nat → Nat → Int64) → Prop) (h : P_X12_failed v w fi fl p0 Q) (sz : Nat) : Met l yX12_failed wmX12_failed ({ frames := 4, cells := 0, slots := 0, locals := 60 }) (va_Pc [.ref g0, .int p0] (mPre dC dI a ca g0 v w fi fl sz)) (va_Ql (S := MSt) (pL Q) (mB dC dI a ca g0 (va_A (mW a ca g0 v w fi fl) sz)) (va_A (mW a ca g0 v w fi fl) sz)) 0 0 (va_A (mW a ca g0 v w fi fl) sz) := by
  refine Met.ofW (cc := cX12_failed) (maxL := 2) (ret := (some .long)) (by decide) rfl ?_
  intro p e s m args below meth c s₁ B hml hv
  obtain ⟨rfl, hsz, hP, hK, hD0⟩ := hv
  have hx := B.exec
  have hb := B.bytes
  have hr := B.returns
  have hts : ∀ w ∈ WM, w.before _ s = true := fun w h => atoms_spec (ws := wmX12_failed) B.pre w (List.mem_cons_of_mem _ h)
  have hown : s.vm.findClass RX12 = some m.cls := findClass_of_methodNamed B.named
  have hlocks := B.notSynchronized
  subst hsz
  have hD := hD0.self (sz := s.heap.size)
  generalize hAe : va_A (mW a ca g0 v w fi fl) s.heap.size = A at hD ⊢
  have hA : ∀ q : Nat, s.heap.size ≤ q → A q := fun q h => by rw [← hAe]; exact Or.inr h
  generalize hH : s.heap = H at hP ⊢
  have hS : va_S A s.heap H [] := by rw [← hH]; exact va_S.rf
  have hl := lv_entry [.ref g0, .int p0] (n := 2) (Nat.le_of_ble_eq_true rfl)
  rw [lg_entry_eq]
  generalize (lg_sl [.ref g0, .int p0] ++ List.replicate (2 - (lg_sl [.ref g0, .int p0]).length) Slot.unset).toArray = ls at hl ⊢
  have hl : lv_has ls 2 [(0, .ref g0), (1, .int p0)] := hl
  unfold P_X12_failed at h
  refine lv_aload_n hx hb dX12_failed_0 rfl (lv_at hl 0 rfl) ?_
  refine lv_iload_n hx hb dX12_failed_1 rfl (lv_at hl 1 rfl) ?_
  refine lv_iconst (v := 3) hx hb dX12_failed_2 (by decide) ?_
  refine lv_icmp_ne (tgt := 10) hx hb dX12_failed_3 (by decide) (fun c_3 => ?_) (fun c_3 => ?_)
  · have h := h.1 c_3
    refine lv_iconst (v := 2) hx hb dX12_failed_10 (by decide) ?_
    refine m_put_17 hx hb hts hinM hown hK hP hD hS (hts _ mwM_13) dX12_failed_11 (fun H locs hP hD hS => ?_)
    refine lv_aload_n hx hb dX12_failed_14 rfl (lv_at hl 0 rfl) ?_
    refine lv_iload_n hx hb dX12_failed_15 rfl (lv_at hl 1 rfl) ?_
    refine lv_iconst (v := 3) hx hb dX12_failed_16 (by decide) ?_
    refine lv_isub hx hb dX12_failed_17 ?_
    refine m_put_18 hx hb hts hinM hown hK hP hD hS (hts _ mwM_14) dX12_failed_18 (fun H locs hP hD hS => ?_)
    refine lv_lconst (v := 0) hx hb dX12_failed_21 (by decide) ?_
    exact W.lret (v := 0) hx hb hr (fun t ht hW => ⟨⟨_, (va_up (va_up v 17 2) 18 (p0 - 3), w, fi, fl), rfl, h, by rw [ht]; exact hP, va_K.moved hW.alike hK, hD⟩, hS.F ht⟩) hS.2.2 dX12_failed_22
  · have h := h.2 c_3
    refine lv_iconst (v := 1) hx hb dX12_failed_6 (by decide) ?_
    refine lv_goto (tgt := 11) hx hb dX12_failed_7 (by decide) ?_
    refine m_put_17 hx hb hts hinM hown hK hP hD hS (hts _ mwM_13) dX12_failed_11 (fun H locs hP hD hS => ?_)
    refine lv_aload_n hx hb dX12_failed_14 rfl (lv_at hl 0 rfl) ?_
    refine lv_iload_n hx hb dX12_failed_15 rfl (lv_at hl 1 rfl) ?_
    refine lv_iconst (v := 3) hx hb dX12_failed_16 (by decide) ?_
    refine lv_isub hx hb dX12_failed_17 ?_
    refine m_put_18 hx hb hts hinM hown hK hP hD hS (hts _ mwM_14) dX12_failed_18 (fun H locs hP hD hS => ?_)
    refine lv_lconst (v := 0) hx hb dX12_failed_21 (by decide) ?_
    exact W.lret (v := 0) hx hb hr (fun t ht hW => ⟨⟨_, (va_up (va_up v 17 1) 18 (p0 - 3), w, fi, fl), rfl, h, by rw [ht]; exact hP, va_K.moved hW.alike hK, hD⟩, hS.F ht⟩) hS.2.2 dX12_failed_22

abbrev wmX12_outcome : List Cond := .code yX12_outcome cX12_outcome 1 (some .int) :: WM
theorem hd_X12_outcome : yX12_outcome.cls = RX12 ∧ yX12_outcome.cls ≠ "java/lang/invoke/MethodHandle" ∧ yX12_outcome.cls ≠ "java/lang/invoke/VarHandle" ∧ (parseMethodDescriptor yX12_outcome.desc).map (fun d => d.parameters.length) = some 0 := by decide +kernel
def P_X12_outcome (v : Nat → Int32) (w : Nat → Int64) (fi : Nat → Nat → Int32) (fl : Nat → Nat → Int64)  (Q : Int32 → (Nat → Int32) → (Nat → Int64) → (Nat → Nat → Int32) → (Nat → Nat → Int64) → Prop) : Prop := Q (v 17) (va_up v 19 0) w fi fl
set_option maxHeartbeats 4000000 in
set_option maxRecDepth 100000 in
theorem p_X12_outcome (l : Launch) (dC : Nat → ClassId) (dI : Nat → Nat → Nat) (a : Nat → Nat) (ca : Nat → ClassId) (g0 : Nat) (v : Nat → Int32) (w : Nat → Int64) (fi : Nat → Nat → Int32) (fl : Nat → Nat → Int64)  (Q : Int32 → (Nat → Int32) → (Nat → Int64) → (Nat → Nat → Int32) → (Nat → Nat → Int64) → Prop) (h : P_X12_outcome v w fi fl  Q) (sz : Nat) : Met l yX12_outcome wmX12_outcome ({ frames := 4, cells := 0, slots := 0, locals := 60 }) (va_Pc [.ref g0] (mPre dC dI a ca g0 v w fi fl sz)) (va_Qi (S := MSt) (pI Q) (mB dC dI a ca g0 (va_A (mW a ca g0 v w fi fl) sz)) (va_A (mW a ca g0 v w fi fl) sz)) 0 0 (va_A (mW a ca g0 v w fi fl) sz) := by
  refine Met.ofW (cc := cX12_outcome) (maxL := 1) (ret := (some .int)) (by decide) rfl ?_
  intro p e s m args below meth c s₁ B hml hv
  obtain ⟨rfl, hsz, hP, hK, hD0⟩ := hv
  have hx := B.exec
  have hb := B.bytes
  have hr := B.returns
  have hts : ∀ w ∈ WM, w.before _ s = true := fun w h => atoms_spec (ws := wmX12_outcome) B.pre w (List.mem_cons_of_mem _ h)
  have hown : s.vm.findClass RX12 = some m.cls := findClass_of_methodNamed B.named
  have hlocks := B.notSynchronized
  subst hsz
  have hD := hD0.self (sz := s.heap.size)
  generalize hAe : va_A (mW a ca g0 v w fi fl) s.heap.size = A at hD ⊢
  have hA : ∀ q : Nat, s.heap.size ≤ q → A q := fun q h => by rw [← hAe]; exact Or.inr h
  generalize hH : s.heap = H at hP ⊢
  have hS : va_S A s.heap H [] := by rw [← hH]; exact va_S.rf
  have hl := lv_entry [.ref g0] (n := 1) (Nat.le_of_ble_eq_true rfl)
  rw [lg_entry_eq]
  generalize (lg_sl [.ref g0] ++ List.replicate (1 - (lg_sl [.ref g0]).length) Slot.unset).toArray = ls at hl ⊢
  have hl : lv_has ls 1 [(0, .ref g0)] := hl
  unfold P_X12_outcome at h
  refine lv_aload_n hx hb dX12_outcome_0 rfl (lv_at hl 0 rfl) ?_
  refine lv_iconst (v := 0) hx hb dX12_outcome_1 (by decide) ?_
  refine m_put_19 hx hb hts hinM hown hK hP hD hS (hts _ mwM_0) dX12_outcome_2 (fun H locs hP hD hS => ?_)
  refine lv_aload_n hx hb dX12_outcome_5 rfl (lv_at hl 0 rfl) ?_
  refine va_get (D := (dC, dI)) (ci := 11) (v := .int (v 17)) (C := RX12) (T := TX12) (N := 32) hx hb hts hinM hown hK hP 0 rfl rfl 17 (by decide) (hts _ mwM_13) (fun _ h9 => h9) rfl dX12_outcome_6 ?_
  exact W.iret (v := (v 17)) hx hb hr (fun t ht hW => ⟨⟨_, (va_up v 19 0, w, fi, fl), rfl, h, by rw [ht]; exact hP, va_K.moved hW.alike hK, hD⟩, hS.F ht⟩) hS.2.2 dX12_outcome_9

abbrev wmX12_error : List Cond := .code yX12_error cX12_error 1 (some .int) :: WM
theorem hd_X12_error : yX12_error.cls = RX12 ∧ yX12_error.cls ≠ "java/lang/invoke/MethodHandle" ∧ yX12_error.cls ≠ "java/lang/invoke/VarHandle" ∧ (parseMethodDescriptor yX12_error.desc).map (fun d => d.parameters.length) = some 0 := by decide +kernel
def P_X12_error (v : Nat → Int32) (w : Nat → Int64) (fi : Nat → Nat → Int32) (fl : Nat → Nat → Int64)  (Q : Int32 → (Nat → Int32) → (Nat → Int64) → (Nat → Nat → Int32) → (Nat → Nat → Int64) → Prop) : Prop := Q (v 18) (va_up v 19 0) w fi fl
set_option maxHeartbeats 4000000 in
set_option maxRecDepth 100000 in
theorem p_X12_error (l : Launch) (dC : Nat → ClassId) (dI : Nat → Nat → Nat) (a : Nat → Nat) (ca : Nat → ClassId) (g0 : Nat) (v : Nat → Int32) (w : Nat → Int64) (fi : Nat → Nat → Int32) (fl : Nat → Nat → Int64)  (Q : Int32 → (Nat → Int32) → (Nat → Int64) → (Nat → Nat → Int32) → (Nat → Nat → Int64) → Prop) (h : P_X12_error v w fi fl  Q) (sz : Nat) : Met l yX12_error wmX12_error ({ frames := 4, cells := 0, slots := 0, locals := 60 }) (va_Pc [.ref g0] (mPre dC dI a ca g0 v w fi fl sz)) (va_Qi (S := MSt) (pI Q) (mB dC dI a ca g0 (va_A (mW a ca g0 v w fi fl) sz)) (va_A (mW a ca g0 v w fi fl) sz)) 0 0 (va_A (mW a ca g0 v w fi fl) sz) := by
  refine Met.ofW (cc := cX12_error) (maxL := 1) (ret := (some .int)) (by decide) rfl ?_
  intro p e s m args below meth c s₁ B hml hv
  obtain ⟨rfl, hsz, hP, hK, hD0⟩ := hv
  have hx := B.exec
  have hb := B.bytes
  have hr := B.returns
  have hts : ∀ w ∈ WM, w.before _ s = true := fun w h => atoms_spec (ws := wmX12_error) B.pre w (List.mem_cons_of_mem _ h)
  have hown : s.vm.findClass RX12 = some m.cls := findClass_of_methodNamed B.named
  have hlocks := B.notSynchronized
  subst hsz
  have hD := hD0.self (sz := s.heap.size)
  generalize hAe : va_A (mW a ca g0 v w fi fl) s.heap.size = A at hD ⊢
  have hA : ∀ q : Nat, s.heap.size ≤ q → A q := fun q h => by rw [← hAe]; exact Or.inr h
  generalize hH : s.heap = H at hP ⊢
  have hS : va_S A s.heap H [] := by rw [← hH]; exact va_S.rf
  have hl := lv_entry [.ref g0] (n := 1) (Nat.le_of_ble_eq_true rfl)
  rw [lg_entry_eq]
  generalize (lg_sl [.ref g0] ++ List.replicate (1 - (lg_sl [.ref g0]).length) Slot.unset).toArray = ls at hl ⊢
  have hl : lv_has ls 1 [(0, .ref g0)] := hl
  unfold P_X12_error at h
  refine lv_aload_n hx hb dX12_error_0 rfl (lv_at hl 0 rfl) ?_
  refine lv_iconst (v := 0) hx hb dX12_error_1 (by decide) ?_
  refine m_put_19 hx hb hts hinM hown hK hP hD hS (hts _ mwM_0) dX12_error_2 (fun H locs hP hD hS => ?_)
  refine lv_aload_n hx hb dX12_error_5 rfl (lv_at hl 0 rfl) ?_
  refine va_get (D := (dC, dI)) (ci := 11) (v := .int (v 18)) (C := RX12) (T := TX12) (N := 32) hx hb hts hinM hown hK hP 0 rfl rfl 18 (by decide) (hts _ mwM_14) (fun _ h9 => h9) rfl dX12_error_6 ?_
  exact W.iret (v := (v 18)) hx hb hr (fun t ht hW => ⟨⟨_, (va_up v 19 0, w, fi, fl), rfl, h, by rw [ht]; exact hP, va_K.moved hW.alike hK, hD⟩, hS.F ht⟩) hS.2.2 dX12_error_9

abbrev wmX12_spent : List Cond := .code yX12_spent cX12_spent 1 (some .int) :: WM
theorem hd_X12_spent : yX12_spent.cls = RX12 ∧ yX12_spent.cls ≠ "java/lang/invoke/MethodHandle" ∧ yX12_spent.cls ≠ "java/lang/invoke/VarHandle" ∧ (parseMethodDescriptor yX12_spent.desc).map (fun d => d.parameters.length) = some 0 := by decide +kernel
def P_X12_spent (v : Nat → Int32) (w : Nat → Int64) (fi : Nat → Nat → Int32) (fl : Nat → Nat → Int64)  (Q : Int32 → (Nat → Int32) → (Nat → Int64) → (Nat → Nat → Int32) → (Nat → Nat → Int64) → Prop) : Prop := Q (v 16) (va_up v 19 0) w fi fl
set_option maxHeartbeats 4000000 in
set_option maxRecDepth 100000 in
theorem p_X12_spent (l : Launch) (dC : Nat → ClassId) (dI : Nat → Nat → Nat) (a : Nat → Nat) (ca : Nat → ClassId) (g0 : Nat) (v : Nat → Int32) (w : Nat → Int64) (fi : Nat → Nat → Int32) (fl : Nat → Nat → Int64)  (Q : Int32 → (Nat → Int32) → (Nat → Int64) → (Nat → Nat → Int32) → (Nat → Nat → Int64) → Prop) (h : P_X12_spent v w fi fl  Q) (sz : Nat) : Met l yX12_spent wmX12_spent ({ frames := 4, cells := 0, slots := 0, locals := 60 }) (va_Pc [.ref g0] (mPre dC dI a ca g0 v w fi fl sz)) (va_Qi (S := MSt) (pI Q) (mB dC dI a ca g0 (va_A (mW a ca g0 v w fi fl) sz)) (va_A (mW a ca g0 v w fi fl) sz)) 0 0 (va_A (mW a ca g0 v w fi fl) sz) := by
  refine Met.ofW (cc := cX12_spent) (maxL := 1) (ret := (some .int)) (by decide) rfl ?_
  intro p e s m args below meth c s₁ B hml hv
  obtain ⟨rfl, hsz, hP, hK, hD0⟩ := hv
  have hx := B.exec
  have hb := B.bytes
  have hr := B.returns
  have hts : ∀ w ∈ WM, w.before _ s = true := fun w h => atoms_spec (ws := wmX12_spent) B.pre w (List.mem_cons_of_mem _ h)
  have hown : s.vm.findClass RX12 = some m.cls := findClass_of_methodNamed B.named
  have hlocks := B.notSynchronized
  subst hsz
  have hD := hD0.self (sz := s.heap.size)
  generalize hAe : va_A (mW a ca g0 v w fi fl) s.heap.size = A at hD ⊢
  have hA : ∀ q : Nat, s.heap.size ≤ q → A q := fun q h => by rw [← hAe]; exact Or.inr h
  generalize hH : s.heap = H at hP ⊢
  have hS : va_S A s.heap H [] := by rw [← hH]; exact va_S.rf
  have hl := lv_entry [.ref g0] (n := 1) (Nat.le_of_ble_eq_true rfl)
  rw [lg_entry_eq]
  generalize (lg_sl [.ref g0] ++ List.replicate (1 - (lg_sl [.ref g0]).length) Slot.unset).toArray = ls at hl ⊢
  have hl : lv_has ls 1 [(0, .ref g0)] := hl
  unfold P_X12_spent at h
  refine lv_aload_n hx hb dX12_spent_0 rfl (lv_at hl 0 rfl) ?_
  refine lv_iconst (v := 0) hx hb dX12_spent_1 (by decide) ?_
  refine m_put_19 hx hb hts hinM hown hK hP hD hS (hts _ mwM_0) dX12_spent_2 (fun H locs hP hD hS => ?_)
  refine lv_aload_n hx hb dX12_spent_5 rfl (lv_at hl 0 rfl) ?_
  refine va_get (D := (dC, dI)) (ci := 11) (v := .int (v 16)) (C := RX12) (T := TX12) (N := 32) hx hb hts hinM hown hK hP 0 rfl rfl 16 (by decide) (hts _ mwM_12) (fun _ h9 => h9) rfl dX12_spent_6 ?_
  exact W.iret (v := (v 16)) hx hb hr (fun t ht hW => ⟨⟨_, (va_up v 19 0, w, fi, fl), rfl, h, by rw [ht]; exact hP, va_K.moved hW.alike hK, hD⟩, hS.F ht⟩) hS.2.2 dX12_spent_9

abbrev wmX12_lists : List Cond := .code yX12_lists cX12_lists 1 (some .int) :: WM
theorem hd_X12_lists : yX12_lists.cls = RX12 ∧ yX12_lists.cls ≠ "java/lang/invoke/MethodHandle" ∧ yX12_lists.cls ≠ "java/lang/invoke/VarHandle" ∧ (parseMethodDescriptor yX12_lists.desc).map (fun d => d.parameters.length) = some 0 := by decide +kernel
def P_X12_lists (v : Nat → Int32) (w : Nat → Int64) (fi : Nat → Nat → Int32) (fl : Nat → Nat → Int64)  (Q : Int32 → (Nat → Int32) → (Nat → Int64) → (Nat → Nat → Int32) → (Nat → Nat → Int64) → Prop) : Prop := Q (v 0) (va_up v 19 0) w fi fl
set_option maxHeartbeats 4000000 in
set_option maxRecDepth 100000 in
theorem p_X12_lists (l : Launch) (dC : Nat → ClassId) (dI : Nat → Nat → Nat) (a : Nat → Nat) (ca : Nat → ClassId) (g0 : Nat) (v : Nat → Int32) (w : Nat → Int64) (fi : Nat → Nat → Int32) (fl : Nat → Nat → Int64)  (Q : Int32 → (Nat → Int32) → (Nat → Int64) → (Nat → Nat → Int32) → (Nat → Nat → Int64) → Prop) (h : P_X12_lists v w fi fl  Q) (sz : Nat) : Met l yX12_lists wmX12_lists ({ frames := 4, cells := 0, slots := 0, locals := 60 }) (va_Pc [.ref g0] (mPre dC dI a ca g0 v w fi fl sz)) (va_Qi (S := MSt) (pI Q) (mB dC dI a ca g0 (va_A (mW a ca g0 v w fi fl) sz)) (va_A (mW a ca g0 v w fi fl) sz)) 0 0 (va_A (mW a ca g0 v w fi fl) sz) := by
  refine Met.ofW (cc := cX12_lists) (maxL := 1) (ret := (some .int)) (by decide) rfl ?_
  intro p e s m args below meth c s₁ B hml hv
  obtain ⟨rfl, hsz, hP, hK, hD0⟩ := hv
  have hx := B.exec
  have hb := B.bytes
  have hr := B.returns
  have hts : ∀ w ∈ WM, w.before _ s = true := fun w h => atoms_spec (ws := wmX12_lists) B.pre w (List.mem_cons_of_mem _ h)
  have hown : s.vm.findClass RX12 = some m.cls := findClass_of_methodNamed B.named
  have hlocks := B.notSynchronized
  subst hsz
  have hD := hD0.self (sz := s.heap.size)
  generalize hAe : va_A (mW a ca g0 v w fi fl) s.heap.size = A at hD ⊢
  have hA : ∀ q : Nat, s.heap.size ≤ q → A q := fun q h => by rw [← hAe]; exact Or.inr h
  generalize hH : s.heap = H at hP ⊢
  have hS : va_S A s.heap H [] := by rw [← hH]; exact va_S.rf
  have hl := lv_entry [.ref g0] (n := 1) (Nat.le_of_ble_eq_true rfl)
  rw [lg_entry_eq]
  generalize (lg_sl [.ref g0] ++ List.replicate (1 - (lg_sl [.ref g0]).length) Slot.unset).toArray = ls at hl ⊢
  have hl : lv_has ls 1 [(0, .ref g0)] := hl
  unfold P_X12_lists at h
  refine lv_aload_n hx hb dX12_lists_0 rfl (lv_at hl 0 rfl) ?_
  refine lv_iconst (v := 0) hx hb dX12_lists_1 (by decide) ?_
  refine m_put_19 hx hb hts hinM hown hK hP hD hS (hts _ mwM_0) dX12_lists_2 (fun H locs hP hD hS => ?_)
  refine lv_aload_n hx hb dX12_lists_5 rfl (lv_at hl 0 rfl) ?_
  refine va_get (D := (dC, dI)) (ci := 11) (v := .int (v 0)) (C := RX12) (T := TX12) (N := 32) hx hb hts hinM hown hK hP 0 rfl rfl 0 (by decide) (hts _ mwM_1) (fun _ h9 => h9) rfl dX12_lists_6 ?_
  exact W.iret (v := (v 0)) hx hb hr (fun t ht hW => ⟨⟨_, (va_up v 19 0, w, fi, fl), rfl, h, by rw [ht]; exact hP, va_K.moved hW.alike hK, hD⟩, hS.F ht⟩) hS.2.2 dX12_lists_9

abbrev wmX12_put : List Cond := .code yX12_put cX12_put 3 (some .int) :: WM
theorem hd_X12_put : yX12_put.cls = RX12 ∧ yX12_put.cls ≠ "java/lang/invoke/MethodHandle" ∧ yX12_put.cls ≠ "java/lang/invoke/VarHandle" ∧ (parseMethodDescriptor yX12_put.desc).map (fun d => d.parameters.length) = some 1 := by decide +kernel
def P_X12_put (v : Nat → Int32) (w : Nat → Int64) (fi : Nat → Nat → Int32) (fl : Nat → Nat → Int64) (p0 : Int64) (Q : Int32 → (Nat → Int32) → (Nat → Int64) → (Nat → Nat → Int32) → (Nat → Nat → Int64) → Prop) : Prop := ((¬ (v 12) = 100) → (vp_in (v 12) 100 ∧ vp_in (v 12) 100 ∧ Q ((v 12) + 1) (va_up (va_up v 19 0) 12 ((v 12) + 1)) w (va_up fi 13 (upd (fi 13) (v 12).toNatClampNeg 1)) (va_up fl 14 (vp_updL (fl 14) (v 12).toNatClampNeg p0)))) ∧ (((v 12) = 100) → (P_X12_fail (va_up v 19 0) w fi fl 1 (fun r3 v3 w3 fi3 fl3 => Q r3 v3 w3 fi3 fl3)))
set_option maxHeartbeats 4000000 in
set_option maxRecDepth 100000 in
theorem p_X12_put (l : Launch) (dC : Nat → ClassId) (dI : Nat → Nat → Nat) (a : Nat → Nat) (ca : Nat → ClassId) (g0 : Nat) (v : Nat → Int32) (w : Nat → Int64) (fi : Nat → Nat → Int32) (fl : Nat → Nat → Int64) (p0 : Int64) (Q : Int32 → (Nat → Int32) → (Nat → Int64) → (Nat → Nat → Int32) → (Nat → Nat → Int64) → Prop) (h : P_X12_put v w fi fl p0 Q) (sz : Nat) : Met l yX12_put wmX12_put ({ frames := 8, cells := 0, slots := 0, locals := 120 }) (va_Pc [.ref g0, .long p0] (mPre dC dI a ca g0 v w fi fl sz)) (va_Qi (S := MSt) (pI Q) (mB dC dI a ca g0 (va_A (mW a ca g0 v w fi fl) sz)) (va_A (mW a ca g0 v w fi fl) sz)) 0 0 (va_A (mW a ca g0 v w fi fl) sz) := by
  refine Met.ofW (cc := cX12_put) (maxL := 3) (ret := (some .int)) (by decide) rfl ?_
  intro p e s m args below meth c s₁ B hml hv
  obtain ⟨rfl, hsz, hP, hK, hD0⟩ := hv
  have hx := B.exec
  have hb := B.bytes
  have hr := B.returns
  have hts : ∀ w ∈ WM, w.before _ s = true := fun w h => atoms_spec (ws := wmX12_put) B.pre w (List.mem_cons_of_mem _ h)
  have hown : s.vm.findClass RX12 = some m.cls := findClass_of_methodNamed B.named
  have hlocks := B.notSynchronized
  subst hsz
  have hD := hD0.self (sz := s.heap.size)
  generalize hAe : va_A (mW a ca g0 v w fi fl) s.heap.size = A at hD ⊢
  have hA : ∀ q : Nat, s.heap.size ≤ q → A q := fun q h => by rw [← hAe]; exact Or.inr h
  generalize hH : s.heap = H at hP ⊢
  have hS : va_S A s.heap H [] := by rw [← hH]; exact va_S.rf
  have hl := lv_entry [.ref g0, .long p0] (n := 3) (Nat.le_of_ble_eq_true rfl)
  rw [lg_entry_eq]
  generalize (lg_sl [.ref g0, .long p0] ++ List.replicate (3 - (lg_sl [.ref g0, .long p0]).length) Slot.unset).toArray = ls at hl ⊢
  have hl : lv_has ls 3 [(0, .ref g0), (1, .long p0)] := hl
  unfold P_X12_put at h
  refine lv_aload_n hx hb dX12_put_0 rfl (lv_at hl 0 rfl) ?_
  refine lv_iconst (v := 0) hx hb dX12_put_1 (by decide) ?_
  refine m_put_19 hx hb hts hinM hown hK hP hD hS (hts _ mwM_0) dX12_put_2 (fun H locs hP hD hS => ?_)
  refine lv_aload_n hx hb dX12_put_5 rfl (lv_at hl 0 rfl) ?_
  refine va_get (D := (dC, dI)) (ci := 11) (v := .int (v 12)) (C := RX12) (T := TX12) (N := 32) hx hb hts hinM hown hK hP 0 rfl rfl 12 (by decide) (hts _ mwM_15) (fun _ h9 => h9) rfl dX12_put_6 ?_
  refine lv_bipush (v := 100) hx hb dX12_put_9 (by decide) ?_
  refine lv_icmp_ne (tgt := 20) hx hb dX12_put_11 (by decide) (fun c_11 => ?_) (fun c_11 => ?_)
  · have h := h.1 c_11
    refine lv_aload_n hx hb dX12_put_20 rfl (lv_at hl 0 rfl) ?_
    refine va_get (D := (dC, dI)) (ci := 11) (v := .ref (a 13)) (C := RX12) (T := TX12) (N := 32) hx hb hts hinM hown hK hP 0 rfl rfl 13 (by decide) (hts _ mwM_16) (fun _ h9 => h9) rfl dX12_put_21 ?_
    refine lv_aload_n hx hb dX12_put_24 rfl (lv_at hl 0 rfl) ?_
    refine va_get (D := (dC, dI)) (ci := 11) (v := .int (v 12)) (C := RX12) (T := TX12) (N := 32) hx hb hts hinM hown hK hP 0 rfl rfl 12 (by decide) (hts _ mwM_15) (fun _ h9 => h9) rfl dX12_put_25 ?_
    refine lv_iconst (v := 1) hx hb dX12_put_28 (by decide) ?_
    obtain ⟨hi1, h⟩ := h
    refine m_ast_13 hx hb hK hP hD hS hi1 dX12_put_29 (fun H locs hP hD hS => ?_)
    refine lv_aload_n hx hb dX12_put_30 rfl (lv_at hl 0 rfl) ?_
    refine va_get (D := (dC, dI)) (ci := 11) (v := .ref (a 14)) (C := RX12) (T := TX12) (N := 32) hx hb hts hinM hown hK hP 0 rfl rfl 14 (by decide) (hts _ mwM_17) (fun _ h9 => h9) rfl dX12_put_31 ?_
    refine lv_aload_n hx hb dX12_put_34 rfl (lv_at hl 0 rfl) ?_
    refine va_get (D := (dC, dI)) (ci := 11) (v := .int (v 12)) (C := RX12) (T := TX12) (N := 32) hx hb hts hinM hown hK hP 0 rfl rfl 12 (by decide) (hts _ mwM_15) (fun _ h9 => h9) rfl dX12_put_35 ?_
    refine lv_lload_n hx hb dX12_put_38 rfl (lv_at hl 1 rfl) ?_
    obtain ⟨hi2, h⟩ := h
    refine m_ast_14 hx hb hK hP hD hS hi2 dX12_put_39 (fun H locs hP hD hS => ?_)
    refine lv_aload_n hx hb dX12_put_40 rfl (lv_at hl 0 rfl) ?_
    refine lv_dup hx hb dX12_put_41 rfl ?_
    refine va_get (D := (dC, dI)) (ci := 11) (v := .int (v 12)) (C := RX12) (T := TX12) (N := 32) hx hb hts hinM hown hK hP 0 rfl rfl 12 (by decide) (hts _ mwM_15) (fun _ h9 => h9) rfl dX12_put_42 ?_
    refine lv_iconst (v := 1) hx hb dX12_put_45 (by decide) ?_
    refine lv_iadd hx hb dX12_put_46 ?_
    refine m_put_12 hx hb hts hinM hown hK hP hD hS (hts _ mwM_15) dX12_put_47 (fun H locs hP hD hS => ?_)
    refine lv_aload_n hx hb dX12_put_50 rfl (lv_at hl 0 rfl) ?_
    refine va_get (D := (dC, dI)) (ci := 11) (v := .int ((v 12) + 1)) (C := RX12) (T := TX12) (N := 32) hx hb hts hinM hown hK hP 0 rfl rfl 12 (by decide) (hts _ mwM_15) (fun _ h9 => h9) rfl dX12_put_51 ?_
    exact W.iret (v := ((v 12) + 1)) hx hb hr (fun t ht hW => ⟨⟨_, (va_up (va_up v 19 0) 12 ((v 12) + 1), w, va_up fi 13 (upd (fi 13) (v 12).toNatClampNeg 1), va_up fl 14 (vp_updL (fl 14) (v 12).toNatClampNeg p0)), rfl, h, by rw [ht]; exact hP, va_K.moved hW.alike hK, hD⟩, hS.F ht⟩) hS.2.2 dX12_put_54
  · have h := h.2 c_11
    refine lv_aload_n hx hb dX12_put_14 rfl (lv_at hl 0 rfl) ?_
    refine lv_iconst (v := 1) hx hb dX12_put_15 (by decide) ?_
    refine m_calli (rm := ({ frames := 4, cells := 0, slots := 0, locals := 60 })) (As := [.int 1]) (rest := []) (fun sz => p_X12_fail l dC dI a ca g0 _ _ _ _ 1 _ h sz) ⟨hx, hb, hml, hown, hts⟩ (cwV 1 hts (g_V gdM mwM_19 mwM_20 mwM_21 mwM_22 mwM_18) rfl rfl rfl hd_X12_fail ⟨Nat.le_of_ble_eq_true rfl, Nat.le_of_ble_eq_true rfl⟩) rfl hl.1 rfl hK hP hD hS hA (Nat.le_of_ble_eq_true rfl) ⟨Nat.le_of_ble_eq_true rfl, Nat.le_of_ble_eq_true rfl⟩ dX12_put_16 (fun r3 v3 w3 fi3 fl3 H locs h hP hD hS => ?_)
    exact W.iret (v := r3) hx hb hr (fun t ht hW => ⟨⟨_, (v3, w3, fi3, fl3), rfl, h, by rw [ht]; exact hP, va_K.moved hW.alike hK, hD⟩, hS.F ht⟩) hS.2.2 dX12_put_19

abbrev wmX12_hole : List Cond := .code yX12_hole cX12_hole 2 (some .int) :: WM
theorem hd_X12_hole : yX12_hole.cls = RX12 ∧ yX12_hole.cls ≠ "java/lang/invoke/MethodHandle" ∧ yX12_hole.cls ≠ "java/lang/invoke/VarHandle" ∧ (parseMethodDescriptor yX12_hole.desc).map (fun d => d.parameters.length) = some 1 := by decide +kernel
def P_X12_hole (v : Nat → Int32) (w : Nat → Int64) (fi : Nat → Nat → Int32) (fl : Nat → Nat → Int64) (p0 : Int32) (Q : Int32 → (Nat → Int32) → (Nat → Int64) → (Nat → Nat → Int32) → (Nat → Nat → Int64) → Prop) : Prop := ((p0 = 0) → (((¬ (v 12) = 100) → (vp_in (v 12) 100 ∧ Q ((v 12) + 1) (va_up (va_up v 19 0) 12 ((v 12) + 1)) w (va_up fi 13 (upd (fi 13) (v 12).toNatClampNeg 3)) fl)) ∧ (((v 12) = 100) → (P_X12_fail (va_up v 19 0) w fi fl 2 (fun r2 v2 w2 fi2 fl2 => Q r2 v2 w2 fi2 fl2))))) ∧ ((¬ p0 = 0) → (((p0 = 1) → (((¬ (v 12) = 100) → (vp_in (v 12) 100 ∧ Q ((v 12) + 1) (va_up (va_up v 19 0) 12 ((v 12) + 1)) w (va_up fi 13 (upd (fi 13) (v 12).toNatClampNeg 7)) fl)) ∧ (((v 12) = 100) → (P_X12_fail (va_up v 19 0) w fi fl 2 (fun r4 v4 w4 fi4 fl4 => Q r4 v4 w4 fi4 fl4))))) ∧ ((¬ p0 = 1) → (P_X12_fail (va_up v 19 0) w fi fl 1 (fun r5 v5 w5 fi5 fl5 => Q r5 v5 w5 fi5 fl5)))))
set_option maxHeartbeats 4000000 in
set_option maxRecDepth 100000 in
theorem p_X12_hole (l : Launch) (dC : Nat → ClassId) (dI : Nat → Nat → Nat) (a : Nat → Nat) (ca : Nat → ClassId) (g0 : Nat) (v : Nat → Int32) (w : Nat → Int64) (fi : Nat → Nat → Int32) (fl : Nat → Nat → Int64) (p0 : Int32) (Q : Int32 → (Nat → Int32) → (Nat → Int64) → (Nat → Nat → Int32) → (Nat → Nat → Int64) → Prop) (h : P_X12_hole v w fi fl p0 Q) (sz : Nat) : Met l yX12_hole wmX12_hole ({ frames := 8, cells := 0, slots := 0, locals := 120 }) (va_Pc [.ref g0, .int p0] (mPre dC dI a ca g0 v w fi fl sz)) (va_Qi (S := MSt) (pI Q) (mB dC dI a ca g0 (va_A (mW a ca g0 v w fi fl) sz)) (va_A (mW a ca g0 v w fi fl) sz)) 0 0 (va_A (mW a ca g0 v w fi fl) sz) := by
  refine Met.ofW (cc := cX12_hole) (maxL := 2) (ret := (some .int)) (by decide) rfl ?_
  intro p e s m args below meth c s₁ B hml hv
  obtain ⟨rfl, hsz, hP, hK, hD0⟩ := hv
  have hx := B.exec
  have hb := B.bytes
  have hr := B.returns
  have hts : ∀ w ∈ WM, w.before _ s = true := fun w h => atoms_spec (ws := wmX12_hole) B.pre w (List.mem_cons_of_mem _ h)
  have hown : s.vm.findClass RX12 = some m.cls := findClass_of_methodNamed B.named
  have hlocks := B.notSynchronized
  subst hsz
  have hD := hD0.self (sz := s.heap.size)
  generalize hAe : va_A (mW a ca g0 v w fi fl) s.heap.size = A at hD ⊢
  have hA : ∀ q : Nat, s.heap.size ≤ q → A q := fun q h => by rw [← hAe]; exact Or.inr h
  generalize hH : s.heap = H at hP ⊢
  have hS : va_S A s.heap H [] := by rw [← hH]; exact va_S.rf
  have hl := lv_entry [.ref g0, .int p0] (n := 2) (Nat.le_of_ble_eq_true rfl)
  rw [lg_entry_eq]
  generalize (lg_sl [.ref g0, .int p0] ++ List.replicate (2 - (lg_sl [.ref g0, .int p0]).length) Slot.unset).toArray = ls at hl ⊢
  have hl : lv_has ls 2 [(0, .ref g0), (1, .int p0)] := hl
  unfold P_X12_hole at h
  refine lv_aload_n hx hb dX12_hole_0 rfl (lv_at hl 0 rfl) ?_
  refine lv_iconst (v := 0) hx hb dX12_hole_1 (by decide) ?_
  refine m_put_19 hx hb hts hinM hown hK hP hD hS (hts _ mwM_0) dX12_hole_2 (fun H locs hP hD hS => ?_)
  refine lv_iload_n hx hb dX12_hole_5 rfl (lv_at hl 1 rfl) ?_
  refine lv_if_eq (tgt := 20) hx hb dX12_hole_6 (by decide) (fun c_6 => ?_) (fun c_6 => ?_)
  · have h := h.1 c_6
    refine lv_aload_n hx hb dX12_hole_20 rfl (lv_at hl 0 rfl) ?_
    refine va_get (D := (dC, dI)) (ci := 11) (v := .int (v 12)) (C := RX12) (T := TX12) (N := 32) hx hb hts hinM hown hK hP 0 rfl rfl 12 (by decide) (hts _ mwM_15) (fun _ h9 => h9) rfl dX12_hole_21 ?_
    refine lv_bipush (v := 100) hx hb dX12_hole_24 (by decide) ?_
    refine lv_icmp_ne (tgt := 35) hx hb dX12_hole_26 (by decide) (fun c_26 => ?_) (fun c_26 => ?_)
    · have h := h.1 c_26
      refine lv_aload_n hx hb dX12_hole_35 rfl (lv_at hl 0 rfl) ?_
      refine va_get (D := (dC, dI)) (ci := 11) (v := .ref (a 13)) (C := RX12) (T := TX12) (N := 32) hx hb hts hinM hown hK hP 0 rfl rfl 13 (by decide) (hts _ mwM_16) (fun _ h9 => h9) rfl dX12_hole_36 ?_
      refine lv_aload_n hx hb dX12_hole_39 rfl (lv_at hl 0 rfl) ?_
      refine va_get (D := (dC, dI)) (ci := 11) (v := .int (v 12)) (C := RX12) (T := TX12) (N := 32) hx hb hts hinM hown hK hP 0 rfl rfl 12 (by decide) (hts _ mwM_15) (fun _ h9 => h9) rfl dX12_hole_40 ?_
      refine lv_iload_n hx hb dX12_hole_43 rfl (lv_at hl 1 rfl) ?_
      refine lv_if_ne (tgt := 51) hx hb dX12_hole_44 (by decide) (fun c_44 => ?_) (fun c_44 => ?_)
      · exact (c_44 c_6).elim
      · refine lv_iconst (v := 3) hx hb dX12_hole_47 (by decide) ?_
        refine lv_goto (tgt := 53) hx hb dX12_hole_48 (by decide) ?_
        obtain ⟨hi1, h⟩ := h
        refine m_ast_13 hx hb hK hP hD hS hi1 dX12_hole_53 (fun H locs hP hD hS => ?_)
        refine lv_aload_n hx hb dX12_hole_54 rfl (lv_at hl 0 rfl) ?_
        refine lv_dup hx hb dX12_hole_55 rfl ?_
        refine va_get (D := (dC, dI)) (ci := 11) (v := .int (v 12)) (C := RX12) (T := TX12) (N := 32) hx hb hts hinM hown hK hP 0 rfl rfl 12 (by decide) (hts _ mwM_15) (fun _ h9 => h9) rfl dX12_hole_56 ?_
        refine lv_iconst (v := 1) hx hb dX12_hole_59 (by decide) ?_
        refine lv_iadd hx hb dX12_hole_60 ?_
        refine m_put_12 hx hb hts hinM hown hK hP hD hS (hts _ mwM_15) dX12_hole_61 (fun H locs hP hD hS => ?_)
        refine lv_aload_n hx hb dX12_hole_64 rfl (lv_at hl 0 rfl) ?_
        refine va_get (D := (dC, dI)) (ci := 11) (v := .int ((v 12) + 1)) (C := RX12) (T := TX12) (N := 32) hx hb hts hinM hown hK hP 0 rfl rfl 12 (by decide) (hts _ mwM_15) (fun _ h9 => h9) rfl dX12_hole_65 ?_
        exact W.iret (v := ((v 12) + 1)) hx hb hr (fun t ht hW => ⟨⟨_, (va_up (va_up v 19 0) 12 ((v 12) + 1), w, va_up fi 13 (upd (fi 13) (v 12).toNatClampNeg 3), fl), rfl, h, by rw [ht]; exact hP, va_K.moved hW.alike hK, hD⟩, hS.F ht⟩) hS.2.2 dX12_hole_68
    · have h := h.2 c_26
      refine lv_aload_n hx hb dX12_hole_29 rfl (lv_at hl 0 rfl) ?_
      refine lv_iconst (v := 2) hx hb dX12_hole_30 (by decide) ?_
      refine m_calli (rm := ({ frames := 4, cells := 0, slots := 0, locals := 60 })) (As := [.int 2]) (rest := []) (fun sz => p_X12_fail l dC dI a ca g0 _ _ _ _ 2 _ h sz) ⟨hx, hb, hml, hown, hts⟩ (cwV 1 hts (g_V gdM mwM_19 mwM_20 mwM_21 mwM_22 mwM_18) rfl rfl rfl hd_X12_fail ⟨Nat.le_of_ble_eq_true rfl, Nat.le_of_ble_eq_true rfl⟩) rfl hl.1 rfl hK hP hD hS hA (Nat.le_of_ble_eq_true rfl) ⟨Nat.le_of_ble_eq_true rfl, Nat.le_of_ble_eq_true rfl⟩ dX12_hole_31 (fun r2 v2 w2 fi2 fl2 H locs h hP hD hS => ?_)
      exact W.iret (v := r2) hx hb hr (fun t ht hW => ⟨⟨_, (v2, w2, fi2, fl2), rfl, h, by rw [ht]; exact hP, va_K.moved hW.alike hK, hD⟩, hS.F ht⟩) hS.2.2 dX12_hole_34
  · have h := h.2 c_6
    refine lv_iload_n hx hb dX12_hole_9 rfl (lv_at hl 1 rfl) ?_
    refine lv_iconst (v := 1) hx hb dX12_hole_10 (by decide) ?_
    refine lv_icmp_eq (tgt := 20) hx hb dX12_hole_11 (by decide) (fun c_11 => ?_) (fun c_11 => ?_)
    · have h := h.1 c_11
      refine lv_aload_n hx hb dX12_hole_20 rfl (lv_at hl 0 rfl) ?_
      refine va_get (D := (dC, dI)) (ci := 11) (v := .int (v 12)) (C := RX12) (T := TX12) (N := 32) hx hb hts hinM hown hK hP 0 rfl rfl 12 (by decide) (hts _ mwM_15) (fun _ h9 => h9) rfl dX12_hole_21 ?_
      refine lv_bipush (v := 100) hx hb dX12_hole_24 (by decide) ?_
      refine lv_icmp_ne (tgt := 35) hx hb dX12_hole_26 (by decide) (fun c_26 => ?_) (fun c_26 => ?_)
      · have h := h.1 c_26
        refine lv_aload_n hx hb dX12_hole_35 rfl (lv_at hl 0 rfl) ?_
        refine va_get (D := (dC, dI)) (ci := 11) (v := .ref (a 13)) (C := RX12) (T := TX12) (N := 32) hx hb hts hinM hown hK hP 0 rfl rfl 13 (by decide) (hts _ mwM_16) (fun _ h9 => h9) rfl dX12_hole_36 ?_
        refine lv_aload_n hx hb dX12_hole_39 rfl (lv_at hl 0 rfl) ?_
        refine va_get (D := (dC, dI)) (ci := 11) (v := .int (v 12)) (C := RX12) (T := TX12) (N := 32) hx hb hts hinM hown hK hP 0 rfl rfl 12 (by decide) (hts _ mwM_15) (fun _ h9 => h9) rfl dX12_hole_40 ?_
        refine lv_iload_n hx hb dX12_hole_43 rfl (lv_at hl 1 rfl) ?_
        refine lv_if_ne (tgt := 51) hx hb dX12_hole_44 (by decide) (fun c_44 => ?_) (fun c_44 => ?_)
        · refine lv_bipush (v := 7) hx hb dX12_hole_51 (by decide) ?_
          obtain ⟨hi3, h⟩ := h
          refine m_ast_13 hx hb hK hP hD hS hi3 dX12_hole_53 (fun H locs hP hD hS => ?_)
          refine lv_aload_n hx hb dX12_hole_54 rfl (lv_at hl 0 rfl) ?_
          refine lv_dup hx hb dX12_hole_55 rfl ?_
          refine va_get (D := (dC, dI)) (ci := 11) (v := .int (v 12)) (C := RX12) (T := TX12) (N := 32) hx hb hts hinM hown hK hP 0 rfl rfl 12 (by decide) (hts _ mwM_15) (fun _ h9 => h9) rfl dX12_hole_56 ?_
          refine lv_iconst (v := 1) hx hb dX12_hole_59 (by decide) ?_
          refine lv_iadd hx hb dX12_hole_60 ?_
          refine m_put_12 hx hb hts hinM hown hK hP hD hS (hts _ mwM_15) dX12_hole_61 (fun H locs hP hD hS => ?_)
          refine lv_aload_n hx hb dX12_hole_64 rfl (lv_at hl 0 rfl) ?_
          refine va_get (D := (dC, dI)) (ci := 11) (v := .int ((v 12) + 1)) (C := RX12) (T := TX12) (N := 32) hx hb hts hinM hown hK hP 0 rfl rfl 12 (by decide) (hts _ mwM_15) (fun _ h9 => h9) rfl dX12_hole_65 ?_
          exact W.iret (v := ((v 12) + 1)) hx hb hr (fun t ht hW => ⟨⟨_, (va_up (va_up v 19 0) 12 ((v 12) + 1), w, va_up fi 13 (upd (fi 13) (v 12).toNatClampNeg 7), fl), rfl, h, by rw [ht]; exact hP, va_K.moved hW.alike hK, hD⟩, hS.F ht⟩) hS.2.2 dX12_hole_68
        · exact (c_6 c_44).elim
      · have h := h.2 c_26
        refine lv_aload_n hx hb dX12_hole_29 rfl (lv_at hl 0 rfl) ?_
        refine lv_iconst (v := 2) hx hb dX12_hole_30 (by decide) ?_
        refine m_calli (rm := ({ frames := 4, cells := 0, slots := 0, locals := 60 })) (As := [.int 2]) (rest := []) (fun sz => p_X12_fail l dC dI a ca g0 _ _ _ _ 2 _ h sz) ⟨hx, hb, hml, hown, hts⟩ (cwV 1 hts (g_V gdM mwM_19 mwM_20 mwM_21 mwM_22 mwM_18) rfl rfl rfl hd_X12_fail ⟨Nat.le_of_ble_eq_true rfl, Nat.le_of_ble_eq_true rfl⟩) rfl hl.1 rfl hK hP hD hS hA (Nat.le_of_ble_eq_true rfl) ⟨Nat.le_of_ble_eq_true rfl, Nat.le_of_ble_eq_true rfl⟩ dX12_hole_31 (fun r4 v4 w4 fi4 fl4 H locs h hP hD hS => ?_)
        exact W.iret (v := r4) hx hb hr (fun t ht hW => ⟨⟨_, (v4, w4, fi4, fl4), rfl, h, by rw [ht]; exact hP, va_K.moved hW.alike hK, hD⟩, hS.F ht⟩) hS.2.2 dX12_hole_34
    · have h := h.2 c_11
      refine lv_aload_n hx hb dX12_hole_14 rfl (lv_at hl 0 rfl) ?_
      refine lv_iconst (v := 1) hx hb dX12_hole_15 (by decide) ?_
      refine m_calli (rm := ({ frames := 4, cells := 0, slots := 0, locals := 60 })) (As := [.int 1]) (rest := []) (fun sz => p_X12_fail l dC dI a ca g0 _ _ _ _ 1 _ h sz) ⟨hx, hb, hml, hown, hts⟩ (cwV 1 hts (g_V gdM mwM_19 mwM_20 mwM_21 mwM_22 mwM_18) rfl rfl rfl hd_X12_fail ⟨Nat.le_of_ble_eq_true rfl, Nat.le_of_ble_eq_true rfl⟩) rfl hl.1 rfl hK hP hD hS hA (Nat.le_of_ble_eq_true rfl) ⟨Nat.le_of_ble_eq_true rfl, Nat.le_of_ble_eq_true rfl⟩ dX12_hole_16 (fun r5 v5 w5 fi5 fl5 H locs h hP hD hS => ?_)
      exact W.iret (v := r5) hx hb hr (fun t ht hW => ⟨⟨_, (v5, w5, fi5, fl5), rfl, h, by rw [ht]; exact hP, va_K.moved hW.alike hK, hD⟩, hS.F ht⟩) hS.2.2 dX12_hole_19

abbrev wmX12_given : List Cond := .code yX12_given cX12_given 3 (some .int) :: WM
theorem hd_X12_given : yX12_given.cls = RX12 ∧ yX12_given.cls ≠ "java/lang/invoke/MethodHandle" ∧ yX12_given.cls ≠ "java/lang/invoke/VarHandle" ∧ (parseMethodDescriptor yX12_given.desc).map (fun d => d.parameters.length) = some 1 := by decide +kernel
def B_X12_given_22  (K22 : (Nat → Int32) → (Nat → Int64) → (Nat → Nat → Int32) → (Nat → Nat → Int64) → Int32 → Int32 → Prop) (Q : Int32 → (Nat → Int32) → (Nat → Int64) → (Nat → Nat → Int32) → (Nat → Nat → Int64) → Prop) (v : Nat → Int32) (w : Nat → Int64) (fi : Nat → Nat → Int32) (fl : Nat → Nat → Int64) (x1 : Int32) (x2 : Int32) : Prop := (((v 12) ≤ x2) → (((x1 = 0) → (P_X12_made (va_up v 12 0) w fi fl 0 (v 12) 0 0 0 0 (fun r1 v1 w1 fi1 fl1 => Q r1 v1 w1 fi1 fl1))) ∧ ((¬ x1 = 0) → (P_X12_made (va_up v 12 0) w fi fl 0 (v 12) 0 1 0 0 (fun r2 v2 w2 fi2 fl2 => Q r2 v2 w2 fi2 fl2))))) ∧ ((¬ (v 12) ≤ x2) → (vp_in x2 100 ∧ vp_in ((100 * (v 0)) + x2) 2400 ∧ vp_in x2 100 ∧ vp_in ((100 * (v 0)) + x2) 2400 ∧ K22 v w (va_up fi 20 (upd (fi 20) ((100 * (v 0)) + x2).toNatClampNeg (fi 13 x2.toNatClampNeg))) (va_up fl 21 (vp_updL (fl 21) ((100 * (v 0)) + x2).toNatClampNeg (fl 14 x2.toNatClampNeg))) x1 (x2 + 1)))
def P_X12_given_22  (Q : Int32 → (Nat → Int32) → (Nat → Int64) → (Nat → Nat → Int32) → (Nat → Nat → Int64) → Prop) : Nat → (Nat → Int32) → (Nat → Int64) → (Nat → Nat → Int32) → (Nat → Nat → Int64) → Int32 → Int32 → Prop
  | 0 => fun _ _ _ _ _ _ => False
  | n + 1 => B_X12_given_22  (P_X12_given_22  Q n) Q
set_option maxHeartbeats 4000000 in
set_option maxRecDepth 100000 in
theorem b_X12_given_22 {p : Program} {l : Launch} {e : Env} {s : State} {m : MethodId} {args : Array Value} {below : List Frame} {meth : Method} {c : Code} {A : Nat → Prop} {dC : Nat → ClassId} {dI : Nat → Nat → Nat} {a : Nat → Nat} {ca : Nat → ClassId} {g0 : Nat}  {K22 : (Nat → Int32) → (Nat → Int64) → (Nat → Nat → Int32) → (Nat → Nat → Int64) → Int32 → Int32 → Prop} {Q : Int32 → (Nat → Int32) → (Nat → Int64) → (Nat → Nat → Int32) → (Nat → Nat → Int64) → Prop} (hx : p.tables.exec = Jvm.exec) (hb : c.code = cX12_given) (hr : meth.sig.returnType = (some .int)) (hts : ∀ w ∈ WM, w.before args s = true) (hown : s.vm.findClass RX12 = some m.cls) (hlocks : meth.locks = false) (hml : c.maxLocals = 3) (hA : ∀ q : Nat, s.heap.size ≤ q → A q) (hK : va_K (dC, dI) vwCl (mT ca) s)  (hK22 : ∀ (v : Nat → Int32) (w : Nat → Int64) (fi : Nat → Nat → Int32) (fl : Nat → Nat → Int64) (x1 : Int32) (x2 : Int32) (H : Heap) (locs : List Loc) (ls : Array Slot), K22 v w fi fl x1 x2 → va_P (dC, dI) vwCl (mW a ca g0 v w fi fl) H → va_D A (mW a ca g0 v w fi fl) → va_S A s.heap H locs → lv_has ls 3 [(0, .ref g0), (1, .int x1), (2, .int x2)] → W p l e (headSpec wmX12_given ({ frames := 8, cells := 0, slots := 0, locals := 120 })).room s m args below meth c H locs 0 0 (MQ below (va_Qi (S := MSt) (pI Q) (mB dC dI a ca g0 A) A) args s 0 0 A) (F0 m 22 ls [])) : ∀ (v : Nat → Int32) (w : Nat → Int64) (fi : Nat → Nat → Int32) (fl : Nat → Nat → Int64) (x1 : Int32) (x2 : Int32) (H : Heap) (locs : List Loc) (ls : Array Slot), B_X12_given_22  K22 Q v w fi fl x1 x2 → va_P (dC, dI) vwCl (mW a ca g0 v w fi fl) H → va_D A (mW a ca g0 v w fi fl) → va_S A s.heap H locs → lv_has ls 3 [(0, .ref g0), (1, .int x1), (2, .int x2)] → W p l e (headSpec wmX12_given ({ frames := 8, cells := 0, slots := 0, locals := 120 })).room s m args below meth c H locs 0 0 (MQ below (va_Qi (S := MSt) (pI Q) (mB dC dI a ca g0 A) A) args s 0 0 A) (F0 m 22 ls []) := by
  intro v w fi fl x1 x2 H locs ls h hP hD hS hl
  unfold B_X12_given_22 at h
  refine lv_iload_n hx hb dX12_given_22 rfl (lv_at hl 2 rfl) ?_
  refine lv_aload_n hx hb dX12_given_23 rfl (lv_at hl 0 rfl) ?_
  refine va_get (D := (dC, dI)) (ci := 11) (v := .int (v 12)) (C := RX12) (T := TX12) (N := 32) hx hb hts hinM hown hK hP 0 rfl rfl 12 (by decide) (hts _ mwM_15) (fun _ h9 => h9) rfl dX12_given_24 ?_
  refine lv_icmp_ge (tgt := 76) hx hb dX12_given_27 (by decide) (fun c_27 => ?_) (fun c_27 => ?_)
  · have h := h.1 c_27
    refine lv_aload_n hx hb dX12_given_76 rfl (lv_at hl 0 rfl) ?_
    refine va_get (D := (dC, dI)) (ci := 11) (v := .int (v 12)) (C := RX12) (T := TX12) (N := 32) hx hb hts hinM hown hK hP 0 rfl rfl 12 (by decide) (hts _ mwM_15) (fun _ h9 => h9) rfl dX12_given_77 ?_
    refine lv_istore_n (lv' := [(2, .int (v 12)), (0, .ref g0), (1, .int x1)]) hx hb dX12_given_80 rfl hl (by decide) rfl (fun ls hl => ?_)
    refine lv_aload_n hx hb dX12_given_81 rfl (lv_at hl 1 rfl) ?_
    refine lv_iconst (v := 0) hx hb dX12_given_82 (by decide) ?_
    refine m_put_12 hx hb hts hinM hown hK hP hD hS (hts _ mwM_15) dX12_given_83 (fun H locs hP hD hS => ?_)
    refine lv_aload_n hx hb dX12_given_86 rfl (lv_at hl 1 rfl) ?_
    refine lv_iconst (v := 0) hx hb dX12_given_87 (by decide) ?_
    refine lv_iload_n hx hb dX12_given_88 rfl (lv_at hl 0 rfl) ?_
    refine lv_iconst (v := 0) hx hb dX12_given_89 (by decide) ?_
    refine lv_iload_n hx hb dX12_given_90 rfl (lv_at hl 2 rfl) ?_
    refine lv_if_eq (tgt := 98) hx hb dX12_given_91 (by decide) (fun c_91 => ?_) (fun c_91 => ?_)
    · have h := h.1 c_91
      refine lv_iconst (v := 0) hx hb dX12_given_98 (by decide) ?_
      refine lv_lconst (v := 0) hx hb dX12_given_99 (by decide) ?_
      refine lv_lconst (v := 0) hx hb dX12_given_100 (by decide) ?_
      refine m_calli (rm := ({ frames := 4, cells := 0, slots := 0, locals := 60 })) (As := [.int 0, .int (v 12), .int 0, .int 0, .long 0, .long 0]) (rest := []) (fun sz => p_X12_made l dC dI a ca g0 _ _ _ _ 0 (v 12) 0 0 0 0 _ h sz) ⟨hx, hb, hml, hown, hts⟩ (cwV 6 hts (g_V gdM mwM_24 mwM_25 mwM_26 mwM_22 mwM_23) rfl rfl rfl hd_X12_made ⟨Nat.le_of_ble_eq_true rfl, Nat.le_of_ble_eq_true rfl⟩) rfl hl.1 rfl hK hP hD hS hA (Nat.le_of_ble_eq_true rfl) ⟨Nat.le_of_ble_eq_true rfl, Nat.le_of_ble_eq_true rfl⟩ dX12_given_101 (fun r1 v1 w1 fi1 fl1 H locs h hP hD hS => ?_)
      exact W.iret (v := r1) hx hb hr (fun t ht hW => ⟨⟨_, (v1, w1, fi1, fl1), rfl, h, by rw [ht]; exact hP, va_K.moved hW.alike hK, hD⟩, hS.F ht⟩) hS.2.2 dX12_given_104
    · have h := h.2 c_91
      refine lv_iconst (v := 1) hx hb dX12_given_94 (by decide) ?_
      refine lv_goto (tgt := 99) hx hb dX12_given_95 (by decide) ?_
      refine lv_lconst (v := 0) hx hb dX12_given_99 (by decide) ?_
      refine lv_lconst (v := 0) hx hb dX12_given_100 (by decide) ?_
      refine m_calli (rm := ({ frames := 4, cells := 0, slots := 0, locals := 60 })) (As := [.int 0, .int (v 12), .int 0, .int 1, .long 0, .long 0]) (rest := []) (fun sz => p_X12_made l dC dI a ca g0 _ _ _ _ 0 (v 12) 0 1 0 0 _ h sz) ⟨hx, hb, hml, hown, hts⟩ (cwV 6 hts (g_V gdM mwM_24 mwM_25 mwM_26 mwM_22 mwM_23) rfl rfl rfl hd_X12_made ⟨Nat.le_of_ble_eq_true rfl, Nat.le_of_ble_eq_true rfl⟩) rfl hl.1 rfl hK hP hD hS hA (Nat.le_of_ble_eq_true rfl) ⟨Nat.le_of_ble_eq_true rfl, Nat.le_of_ble_eq_true rfl⟩ dX12_given_101 (fun r2 v2 w2 fi2 fl2 H locs h hP hD hS => ?_)
      exact W.iret (v := r2) hx hb hr (fun t ht hW => ⟨⟨_, (v2, w2, fi2, fl2), rfl, h, by rw [ht]; exact hP, va_K.moved hW.alike hK, hD⟩, hS.F ht⟩) hS.2.2 dX12_given_104
  · have h := h.2 c_27
    refine lv_aload_n hx hb dX12_given_30 rfl (lv_at hl 0 rfl) ?_
    refine va_get (D := (dC, dI)) (ci := 11) (v := .ref (a 20)) (C := RX12) (T := TX12) (N := 32) hx hb hts hinM hown hK hP 0 rfl rfl 20 (by decide) (hts _ mwM_27) (fun _ h9 => h9) rfl dX12_given_31 ?_
    refine lv_bipush (v := 100) hx hb dX12_given_34 (by decide) ?_
    refine lv_aload_n hx hb dX12_given_36 rfl (lv_at hl 0 rfl) ?_
    refine va_get (D := (dC, dI)) (ci := 11) (v := .int (v 0)) (C := RX12) (T := TX12) (N := 32) hx hb hts hinM hown hK hP 0 rfl rfl 0 (by decide) (hts _ mwM_1) (fun _ h9 => h9) rfl dX12_given_37 ?_
    refine lv_imul hx hb dX12_given_40 ?_
    refine lv_iload_n hx hb dX12_given_41 rfl (lv_at hl 2 rfl) ?_
    refine lv_iadd hx hb dX12_given_42 ?_
    refine lv_aload_n hx hb dX12_given_43 rfl (lv_at hl 0 rfl) ?_
    refine va_get (D := (dC, dI)) (ci := 11) (v := .ref (a 13)) (C := RX12) (T := TX12) (N := 32) hx hb hts hinM hown hK hP 0 rfl rfl 13 (by decide) (hts _ mwM_16) (fun _ h9 => h9) rfl dX12_given_44 ?_
    refine lv_iload_n hx hb dX12_given_47 rfl (lv_at hl 2 rfl) ?_
    obtain ⟨hi3, h⟩ := h
    refine va_iald (f := fi 13) hx hb hK hP 12 11 rfl rfl hi3 dX12_given_48 ?_
    obtain ⟨hi4, h⟩ := h
    refine m_ast_20 hx hb hK hP hD hS hi4 dX12_given_49 (fun H locs hP hD hS => ?_)
    refine lv_aload_n hx hb dX12_given_50 rfl (lv_at hl 0 rfl) ?_
    refine va_get (D := (dC, dI)) (ci := 11) (v := .ref (a 21)) (C := RX12) (T := TX12) (N := 32) hx hb hts hinM hown hK hP 0 rfl rfl 21 (by decide) (hts _ mwM_28) (fun _ h9 => h9) rfl dX12_given_51 ?_
    refine lv_bipush (v := 100) hx hb dX12_given_54 (by decide) ?_
    refine lv_aload_n hx hb dX12_given_56 rfl (lv_at hl 0 rfl) ?_
    refine va_get (D := (dC, dI)) (ci := 11) (v := .int (v 0)) (C := RX12) (T := TX12) (N := 32) hx hb hts hinM hown hK hP 0 rfl rfl 0 (by decide) (hts _ mwM_1) (fun _ h9 => h9) rfl dX12_given_57 ?_
    refine lv_imul hx hb dX12_given_60 ?_
    refine lv_iload_n hx hb dX12_given_61 rfl (lv_at hl 2 rfl) ?_
    refine lv_iadd hx hb dX12_given_62 ?_
    refine lv_aload_n hx hb dX12_given_63 rfl (lv_at hl 0 rfl) ?_
    refine va_get (D := (dC, dI)) (ci := 11) (v := .ref (a 14)) (C := RX12) (T := TX12) (N := 32) hx hb hts hinM hown hK hP 0 rfl rfl 14 (by decide) (hts _ mwM_17) (fun _ h9 => h9) rfl dX12_given_64 ?_
    refine lv_iload_n hx hb dX12_given_67 rfl (lv_at hl 2 rfl) ?_
    obtain ⟨hi5, h⟩ := h
    refine va_lald (f := fl 14) hx hb hK hP 13 12 rfl rfl hi5 dX12_given_68 ?_
    obtain ⟨hi6, h⟩ := h
    refine m_ast_21 hx hb hK hP hD hS hi6 dX12_given_69 (fun H locs hP hD hS => ?_)
    refine lv_iinc (v := x2 + 1) (lv' := [(2, .int (x2 + 1)), (0, .ref g0), (1, .int x1)]) hx hb dX12_given_70 hl (k := 2) rfl (iinc_1 _) (by decide) rfl (fun ls hl => ?_)
    refine lv_goto (tgt := 22) hx hb dX12_given_73 (by decide) ?_
    exact hK22 _ _ _ _ _ _ H _ ls h hP hD hS (lv_sub hl [1, 2, 0] rfl)
set_option maxHeartbeats 4000000 in
set_option maxRecDepth 100000 in
theorem t_X12_given_22 {p : Program} {l : Launch} {e : Env} {s : State} {m : MethodId} {args : Array Value} {below : List Frame} {meth : Method} {c : Code} {A : Nat → Prop} {dC : Nat → ClassId} {dI : Nat → Nat → Nat} {a : Nat → Nat} {ca : Nat → ClassId} {g0 : Nat}  {Q : Int32 → (Nat → Int32) → (Nat → Int64) → (Nat → Nat → Int32) → (Nat → Nat → Int64) → Prop} (hx : p.tables.exec = Jvm.exec) (hb : c.code = cX12_given) (hr : meth.sig.returnType = (some .int)) (hts : ∀ w ∈ WM, w.before args s = true) (hown : s.vm.findClass RX12 = some m.cls) (hlocks : meth.locks = false) (hml : c.maxLocals = 3) (hA : ∀ q : Nat, s.heap.size ≤ q → A q) (hK : va_K (dC, dI) vwCl (mT ca) s)  : ∀ n : Nat, ∀ (v : Nat → Int32) (w : Nat → Int64) (fi : Nat → Nat → Int32) (fl : Nat → Nat → Int64) (x1 : Int32) (x2 : Int32) (H : Heap) (locs : List Loc) (ls : Array Slot), P_X12_given_22  Q n v w fi fl x1 x2 → va_P (dC, dI) vwCl (mW a ca g0 v w fi fl) H → va_D A (mW a ca g0 v w fi fl) → va_S A s.heap H locs → lv_has ls 3 [(0, .ref g0), (1, .int x1), (2, .int x2)] → W p l e (headSpec wmX12_given ({ frames := 8, cells := 0, slots := 0, locals := 120 })).room s m args below meth c H locs 0 0 (MQ below (va_Qi (S := MSt) (pI Q) (mB dC dI a ca g0 A) A) args s 0 0 A) (F0 m 22 ls []) := by
  intro n
  induction n with
  | zero => intro v w fi fl x1 x2 H locs ls h; exact h.elim
  | succ n ih => exact b_X12_given_22 hx hb hr hts hown hlocks hml hA hK  ih
def P_X12_given (v : Nat → Int32) (w : Nat → Int64) (fi : Nat → Nat → Int32) (fl : Nat → Nat → Int64) (p0 : Int32) (Q : Int32 → (Nat → Int32) → (Nat → Int64) → (Nat → Nat → Int32) → (Nat → Nat → Int64) → Prop) : Prop := ((¬ (v 0) = 24) → (∃ n9 : Nat, P_X12_given_22  Q n9 (va_up v 19 0) w fi fl p0 (0 : Int32))) ∧ (((v 0) = 24) → (P_X12_fail (va_up v 19 0) w fi fl 1 (fun r1 v1 w1 fi1 fl1 => Q r1 v1 w1 fi1 fl1)))
set_option maxHeartbeats 4000000 in
set_option maxRecDepth 100000 in
theorem p_X12_given (l : Launch) (dC : Nat → ClassId) (dI : Nat → Nat → Nat) (a : Nat → Nat) (ca : Nat → ClassId) (g0 : Nat) (v : Nat → Int32) (w : Nat → Int64) (fi : Nat → Nat → Int32) (fl : Nat → Nat → Int64) (p0 : Int32) (Q : Int32 → (Nat → Int32) → (Nat → Int64) → (Nat → Nat → Int32) → (Nat → Nat → Int64) → Prop) (h : P_X12_given v w fi fl p0 Q) (sz : Nat) : Met l yX12_given wmX12_given ({ frames := 8, cells := 0, slots := 0, locals := 120 }) (va_Pc [.ref g0, .int p0] (mPre dC dI a ca g0 v w fi fl sz)) (va_Qi (S := MSt) (pI Q) (mB dC dI a ca g0 (va_A (mW a ca g0 v w fi fl) sz)) (va_A (mW a ca g0 v w fi fl) sz)) 0 0 (va_A (mW a ca g0 v w fi fl) sz) := by
  refine Met.ofW (cc := cX12_given) (maxL := 3) (ret := (some .int)) (by decide) rfl ?_
  intro p e s m args below meth c s₁ B hml hv
  obtain ⟨rfl, hsz, hP, hK, hD0⟩ := hv
  have hx := B.exec
  have hb := B.bytes
  have hr := B.returns
  have hts : ∀ w ∈ WM, w.before _ s = true := fun w h => atoms_spec (ws := wmX12_given) B.pre w (List.mem_cons_of_mem _ h)
  have hown : s.vm.findClass RX12 = some m.cls := findClass_of_methodNamed B.named
  have hlocks := B.notSynchronized
  subst hsz
  have hD := hD0.self (sz := s.heap.size)
  generalize hAe : va_A (mW a ca g0 v w fi fl) s.heap.size = A at hD ⊢
  have hA : ∀ q : Nat, s.heap.size ≤ q → A q := fun q h => by rw [← hAe]; exact Or.inr h
  generalize hH : s.heap = H at hP ⊢
  have hS : va_S A s.heap H [] := by rw [← hH]; exact va_S.rf
  have hl := lv_entry [.ref g0, .int p0] (n := 3) (Nat.le_of_ble_eq_true rfl)
  rw [lg_entry_eq]
  generalize (lg_sl [.ref g0, .int p0] ++ List.replicate (3 - (lg_sl [.ref g0, .int p0]).length) Slot.unset).toArray = ls at hl ⊢
  have hl : lv_has ls 3 [(0, .ref g0), (1, .int p0)] := hl
  unfold P_X12_given at h
  refine lv_aload_n hx hb dX12_given_0 rfl (lv_at hl 0 rfl) ?_
  refine lv_iconst (v := 0) hx hb dX12_given_1 (by decide) ?_
  refine m_put_19 hx hb hts hinM hown hK hP hD hS (hts _ mwM_0) dX12_given_2 (fun H locs hP hD hS => ?_)
  refine lv_aload_n hx hb dX12_given_5 rfl (lv_at hl 0 rfl) ?_
  refine va_get (D := (dC, dI)) (ci := 11) (v := .int (v 0)) (C := RX12) (T := TX12) (N := 32) hx hb hts hinM hown hK hP 0 rfl rfl 0 (by decide) (hts _ mwM_1) (fun _ h9 => h9) rfl dX12_given_6 ?_
  refine lv_bipush (v := 24) hx hb dX12_given_9 (by decide) ?_
  refine lv_icmp_ne (tgt := 20) hx hb dX12_given_11 (by decide) (fun c_11 => ?_) (fun c_11 => ?_)
  · have h := h.1 c_11
    refine lv_iconst (v := 0) hx hb dX12_given_20 (by decide) ?_
    refine lv_istore_n (lv' := [(2, .int 0), (0, .ref g0), (1, .int p0)]) hx hb dX12_given_21 rfl hl (by decide) rfl (fun ls hl => ?_)
    obtain ⟨n9, h⟩ := h
    exact t_X12_given_22 hx hb hr hts hown hlocks hml hA hK  n9 _ _ _ _ _ _ H _ ls h hP hD hS (lv_sub hl [1, 2, 0] rfl)
  · have h := h.2 c_11
    refine lv_aload_n hx hb dX12_given_14 rfl (lv_at hl 0 rfl) ?_
    refine lv_iconst (v := 1) hx hb dX12_given_15 (by decide) ?_
    refine m_calli (rm := ({ frames := 4, cells := 0, slots := 0, locals := 60 })) (As := [.int 1]) (rest := []) (fun sz => p_X12_fail l dC dI a ca g0 _ _ _ _ 1 _ h sz) ⟨hx, hb, hml, hown, hts⟩ (cwV 1 hts (g_V gdM mwM_19 mwM_20 mwM_21 mwM_22 mwM_18) rfl rfl rfl hd_X12_fail ⟨Nat.le_of_ble_eq_true rfl, Nat.le_of_ble_eq_true rfl⟩) rfl hl.1 rfl hK hP hD hS hA (Nat.le_of_ble_eq_true rfl) ⟨Nat.le_of_ble_eq_true rfl, Nat.le_of_ble_eq_true rfl⟩ dX12_given_16 (fun r1 v1 w1 fi1 fl1 H locs h hP hD hS => ?_)
    exact W.iret (v := r1) hx hb hr (fun t ht hW => ⟨⟨_, (v1, w1, fi1, fl1), rfl, h, by rw [ht]; exact hP, va_K.moved hW.alike hK, hD⟩, hS.F ht⟩) hS.2.2 dX12_given_19

abbrev wmX12_count : List Cond := .code yX12_count cX12_count 5 (some .int) :: WM
theorem hd_X12_count : yX12_count.cls = RX12 ∧ yX12_count.cls ≠ "java/lang/invoke/MethodHandle" ∧ yX12_count.cls ≠ "java/lang/invoke/VarHandle" ∧ (parseMethodDescriptor yX12_count.desc).map (fun d => d.parameters.length) = some 2 := by decide +kernel
def P_X12_count (v : Nat → Int32) (w : Nat → Int64) (fi : Nat → Nat → Int32) (fl : Nat → Nat → Int64) (p0 : Int64) (p1 : Int64) (Q : Int32 → (Nat → Int32) → (Nat → Int64) → (Nat → Nat → Int32) → (Nat → Nat → Int64) → Prop) : Prop := ((¬ (v 0) = 24) → (P_X12_made (va_up v 19 0) w fi fl 1 0 0 0 p0 p1 (fun r1 v1 w1 fi1 fl1 => Q r1 v1 w1 fi1 fl1))) ∧ (((v 0) = 24) → (P_X12_fail (va_up v 19 0) w fi fl 1 (fun r2 v2 w2 fi2 fl2 => Q r2 v2 w2 fi2 fl2)))
set_option maxHeartbeats 4000000 in
set_option maxRecDepth 100000 in
theorem p_X12_count (l : Launch) (dC : Nat → ClassId) (dI : Nat → Nat → Nat) (a : Nat → Nat) (ca : Nat → ClassId) (g0 : Nat) (v : Nat → Int32) (w : Nat → Int64) (fi : Nat → Nat → Int32) (fl : Nat → Nat → Int64) (p0 : Int64) (p1 : Int64) (Q : Int32 → (Nat → Int32) → (Nat → Int64) → (Nat → Nat → Int32) → (Nat → Nat → Int64) → Prop) (h : P_X12_count v w fi fl p0 p1 Q) (sz : Nat) : Met l yX12_count wmX12_count ({ frames := 8, cells := 0, slots := 0, locals := 120 }) (va_Pc [.ref g0, .long p0, .long p1] (mPre dC dI a ca g0 v w fi fl sz)) (va_Qi (S := MSt) (pI Q) (mB dC dI a ca g0 (va_A (mW a ca g0 v w fi fl) sz)) (va_A (mW a ca g0 v w fi fl) sz)) 0 0 (va_A (mW a ca g0 v w fi fl) sz) := by
  refine Met.ofW (cc := cX12_count) (maxL := 5) (ret := (some .int)) (by decide) rfl ?_
  intro p e s m args below meth c s₁ B hml hv
  obtain ⟨rfl, hsz, hP, hK, hD0⟩ := hv
  have hx := B.exec
  have hb := B.bytes
  have hr := B.returns
  have hts : ∀ w ∈ WM, w.before _ s = true := fun w h => atoms_spec (ws := wmX12_count) B.pre w (List.mem_cons_of_mem _ h)
  have hown : s.vm.findClass RX12 = some m.cls := findClass_of_methodNamed B.named
  have hlocks := B.notSynchronized
  subst hsz
  have hD := hD0.self (sz := s.heap.size)
  generalize hAe : va_A (mW a ca g0 v w fi fl) s.heap.size = A at hD ⊢
  have hA : ∀ q : Nat, s.heap.size ≤ q → A q := fun q h => by rw [← hAe]; exact Or.inr h
  generalize hH : s.heap = H at hP ⊢
  have hS : va_S A s.heap H [] := by rw [← hH]; exact va_S.rf
  have hl := lv_entry [.ref g0, .long p0, .long p1] (n := 5) (Nat.le_of_ble_eq_true rfl)
  rw [lg_entry_eq]
  generalize (lg_sl [.ref g0, .long p0, .long p1] ++ List.replicate (5 - (lg_sl [.ref g0, .long p0, .long p1]).length) Slot.unset).toArray = ls at hl ⊢
  have hl : lv_has ls 5 [(0, .ref g0), (1, .long p0), (3, .long p1)] := hl
  unfold P_X12_count at h
  refine lv_aload_n hx hb dX12_count_0 rfl (lv_at hl 0 rfl) ?_
  refine lv_iconst (v := 0) hx hb dX12_count_1 (by decide) ?_
  refine m_put_19 hx hb hts hinM hown hK hP hD hS (hts _ mwM_0) dX12_count_2 (fun H locs hP hD hS => ?_)
  refine lv_aload_n hx hb dX12_count_5 rfl (lv_at hl 0 rfl) ?_
  refine va_get (D := (dC, dI)) (ci := 11) (v := .int (v 0)) (C := RX12) (T := TX12) (N := 32) hx hb hts hinM hown hK hP 0 rfl rfl 0 (by decide) (hts _ mwM_1) (fun _ h9 => h9) rfl dX12_count_6 ?_
  refine lv_bipush (v := 24) hx hb dX12_count_9 (by decide) ?_
  refine lv_icmp_ne (tgt := 22) hx hb dX12_count_11 (by decide) (fun c_11 => ?_) (fun c_11 => ?_)
  · have h := h.1 c_11
    refine lv_aload_n hx hb dX12_count_22 rfl (lv_at hl 0 rfl) ?_
    refine lv_iconst (v := 1) hx hb dX12_count_23 (by decide) ?_
    refine lv_iconst (v := 0) hx hb dX12_count_24 (by decide) ?_
    refine lv_iconst (v := 0) hx hb dX12_count_25 (by decide) ?_
    refine lv_iconst (v := 0) hx hb dX12_count_26 (by decide) ?_
    refine lv_lload_n hx hb dX12_count_27 rfl (lv_at hl 1 rfl) ?_
    refine lv_lload_n hx hb dX12_count_28 rfl (lv_at hl 2 rfl) ?_
    refine m_calli (rm := ({ frames := 4, cells := 0, slots := 0, locals := 60 })) (As := [.int 1, .int 0, .int 0, .int 0, .long p0, .long p1]) (rest := []) (fun sz => p_X12_made l dC dI a ca g0 _ _ _ _ 1 0 0 0 p0 p1 _ h sz) ⟨hx, hb, hml, hown, hts⟩ (cwV 6 hts (g_V gdM mwM_24 mwM_25 mwM_26 mwM_22 mwM_23) rfl rfl rfl hd_X12_made ⟨Nat.le_of_ble_eq_true rfl, Nat.le_of_ble_eq_true rfl⟩) rfl hl.1 rfl hK hP hD hS hA (Nat.le_of_ble_eq_true rfl) ⟨Nat.le_of_ble_eq_true rfl, Nat.le_of_ble_eq_true rfl⟩ dX12_count_29 (fun r1 v1 w1 fi1 fl1 H locs h hP hD hS => ?_)
    exact W.iret (v := r1) hx hb hr (fun t ht hW => ⟨⟨_, (v1, w1, fi1, fl1), rfl, h, by rw [ht]; exact hP, va_K.moved hW.alike hK, hD⟩, hS.F ht⟩) hS.2.2 dX12_count_32
  · have h := h.2 c_11
    refine lv_aload_n hx hb dX12_count_14 rfl (lv_at hl 0 rfl) ?_
    refine lv_iconst (v := 1) hx hb dX12_count_15 (by decide) ?_
    refine m_calli (rm := ({ frames := 4, cells := 0, slots := 0, locals := 60 })) (As := [.int 1]) (rest := []) (fun sz => p_X12_fail l dC dI a ca g0 _ _ _ _ 1 _ h sz) ⟨hx, hb, hml, hown, hts⟩ (cwV 1 hts (g_V gdM mwM_19 mwM_20 mwM_21 mwM_22 mwM_18) rfl rfl rfl hd_X12_fail ⟨Nat.le_of_ble_eq_true rfl, Nat.le_of_ble_eq_true rfl⟩) rfl hl.1 rfl hK hP hD hS hA (Nat.le_of_ble_eq_true rfl) ⟨Nat.le_of_ble_eq_true rfl, Nat.le_of_ble_eq_true rfl⟩ dX12_count_16 (fun r2 v2 w2 fi2 fl2 H locs h hP hD hS => ?_)
    refine lv_goto (tgt := 32) hx hb dX12_count_19 (by decide) ?_
    exact W.iret (v := r2) hx hb hr (fun t ht hW => ⟨⟨_, (v2, w2, fi2, fl2), rfl, h, by rw [ht]; exact hP, va_K.moved hW.alike hK, hD⟩, hS.F ht⟩) hS.2.2 dX12_count_32

abbrev wmX12_iterate : List Cond := .code yX12_iterate cX12_iterate 6 (some .int) :: WM
theorem hd_X12_iterate : yX12_iterate.cls = RX12 ∧ yX12_iterate.cls ≠ "java/lang/invoke/MethodHandle" ∧ yX12_iterate.cls ≠ "java/lang/invoke/VarHandle" ∧ (parseMethodDescriptor yX12_iterate.desc).map (fun d => d.parameters.length) = some 3 := by decide +kernel
def P_X12_iterate (v : Nat → Int32) (w : Nat → Int64) (fi : Nat → Nat → Int32) (fl : Nat → Nat → Int64) (p0 : Int32) (p1 : Int64) (p2 : Int64) (Q : Int32 → (Nat → Int32) → (Nat → Int64) → (Nat → Nat → Int32) → (Nat → Nat → Int64) → Prop) : Prop := P_X12_isOp p0 (fun r1 => ((¬ r1 = 0) → (((¬ (v 0) = 24) → (P_X12_made (va_up v 19 0) w fi fl 2 0 0 p0 p1 p2 (fun r2 v2 w2 fi2 fl2 => Q r2 v2 w2 fi2 fl2))) ∧ (((v 0) = 24) → (P_X12_fail (va_up v 19 0) w fi fl 2 (fun r3 v3 w3 fi3 fl3 => Q r3 v3 w3 fi3 fl3))))) ∧ ((r1 = 0) → (P_X12_fail (va_up v 19 0) w fi fl 1 (fun r4 v4 w4 fi4 fl4 => Q r4 v4 w4 fi4 fl4))))
set_option maxHeartbeats 4000000 in
set_option maxRecDepth 100000 in
theorem p_X12_iterate (l : Launch) (dC : Nat → ClassId) (dI : Nat → Nat → Nat) (a : Nat → Nat) (ca : Nat → ClassId) (g0 : Nat) (v : Nat → Int32) (w : Nat → Int64) (fi : Nat → Nat → Int32) (fl : Nat → Nat → Int64) (p0 : Int32) (p1 : Int64) (p2 : Int64) (Q : Int32 → (Nat → Int32) → (Nat → Int64) → (Nat → Nat → Int32) → (Nat → Nat → Int64) → Prop) (h : P_X12_iterate v w fi fl p0 p1 p2 Q) (sz : Nat) : Met l yX12_iterate wmX12_iterate ({ frames := 8, cells := 0, slots := 0, locals := 120 }) (va_Pc [.ref g0, .int p0, .long p1, .long p2] (mPre dC dI a ca g0 v w fi fl sz)) (va_Qi (S := MSt) (pI Q) (mB dC dI a ca g0 (va_A (mW a ca g0 v w fi fl) sz)) (va_A (mW a ca g0 v w fi fl) sz)) 0 0 (va_A (mW a ca g0 v w fi fl) sz) := by
  refine Met.ofW (cc := cX12_iterate) (maxL := 6) (ret := (some .int)) (by decide) rfl ?_
  intro p e s m args below meth c s₁ B hml hv
  obtain ⟨rfl, hsz, hP, hK, hD0⟩ := hv
  have hx := B.exec
  have hb := B.bytes
  have hr := B.returns
  have hts : ∀ w ∈ WM, w.before _ s = true := fun w h => atoms_spec (ws := wmX12_iterate) B.pre w (List.mem_cons_of_mem _ h)
  have hown : s.vm.findClass RX12 = some m.cls := findClass_of_methodNamed B.named
  have hlocks := B.notSynchronized
  subst hsz
  have hD := hD0.self (sz := s.heap.size)
  generalize hAe : va_A (mW a ca g0 v w fi fl) s.heap.size = A at hD ⊢
  have hA : ∀ q : Nat, s.heap.size ≤ q → A q := fun q h => by rw [← hAe]; exact Or.inr h
  generalize hH : s.heap = H at hP ⊢
  have hS : va_S A s.heap H [] := by rw [← hH]; exact va_S.rf
  have hl := lv_entry [.ref g0, .int p0, .long p1, .long p2] (n := 6) (Nat.le_of_ble_eq_true rfl)
  rw [lg_entry_eq]
  generalize (lg_sl [.ref g0, .int p0, .long p1, .long p2] ++ List.replicate (6 - (lg_sl [.ref g0, .int p0, .long p1, .long p2]).length) Slot.unset).toArray = ls at hl ⊢
  have hl : lv_has ls 6 [(0, .ref g0), (1, .int p0), (2, .long p1), (4, .long p2)] := hl
  unfold P_X12_iterate at h
  refine lv_aload_n hx hb dX12_iterate_0 rfl (lv_at hl 0 rfl) ?_
  refine lv_iconst (v := 0) hx hb dX12_iterate_1 (by decide) ?_
  refine m_put_19 hx hb hts hinM hown hK hP hD hS (hts _ mwM_0) dX12_iterate_2 (fun H locs hP hD hS => ?_)
  refine lv_iload_n hx hb dX12_iterate_5 rfl (lv_at hl 1 rfl) ?_
  refine s_calli (rm := ({ frames := 4, cells := 0, slots := 0, locals := 60 })) (As := [.int p0]) (rest := []) (fun sz => p_X12_isOp l dC dI p0 _ h sz) ⟨hx, hb, hml, hown, hts⟩ (va_cwS 1 hts (g_S gdM mwM_30 mwM_31 mwM_22 mwM_29) rfl rfl rfl hd_X12_isOp ⟨Nat.le_of_ble_eq_true rfl, Nat.le_of_ble_eq_true rfl⟩) rfl hl.1 rfl hP hD hS hA (Nat.le_of_ble_eq_true rfl) ⟨Nat.le_of_ble_eq_true rfl, Nat.le_of_ble_eq_true rfl⟩ dX12_iterate_6 (fun r1 H locs h hP hS => ?_)
  refine lv_if_ne (tgt := 18) hx hb dX12_iterate_9 (by decide) (fun c_9 => ?_) (fun c_9 => ?_)
  · have h := h.1 c_9
    refine lv_aload_n hx hb dX12_iterate_18 rfl (lv_at hl 0 rfl) ?_
    refine va_get (D := (dC, dI)) (ci := 11) (v := .int (v 0)) (C := RX12) (T := TX12) (N := 32) hx hb hts hinM hown hK hP 0 rfl rfl 0 (by decide) (hts _ mwM_1) (fun _ h9 => h9) rfl dX12_iterate_19 ?_
    refine lv_bipush (v := 24) hx hb dX12_iterate_22 (by decide) ?_
    refine lv_icmp_ne (tgt := 35) hx hb dX12_iterate_24 (by decide) (fun c_24 => ?_) (fun c_24 => ?_)
    · have h := h.1 c_24
      refine lv_aload_n hx hb dX12_iterate_35 rfl (lv_at hl 0 rfl) ?_
      refine lv_iconst (v := 2) hx hb dX12_iterate_36 (by decide) ?_
      refine lv_iconst (v := 0) hx hb dX12_iterate_37 (by decide) ?_
      refine lv_iconst (v := 0) hx hb dX12_iterate_38 (by decide) ?_
      refine lv_iload_n hx hb dX12_iterate_39 rfl (lv_at hl 1 rfl) ?_
      refine lv_lload_n hx hb dX12_iterate_40 rfl (lv_at hl 2 rfl) ?_
      refine lv_lload hx hb dX12_iterate_41 (lv_at hl 3 rfl) ?_
      refine m_calli (rm := ({ frames := 4, cells := 0, slots := 0, locals := 60 })) (As := [.int 2, .int 0, .int 0, .int p0, .long p1, .long p2]) (rest := []) (fun sz => p_X12_made l dC dI a ca g0 _ _ _ _ 2 0 0 p0 p1 p2 _ h sz) ⟨hx, hb, hml, hown, hts⟩ (cwV 6 hts (g_V gdM mwM_24 mwM_25 mwM_26 mwM_22 mwM_23) rfl rfl rfl hd_X12_made ⟨Nat.le_of_ble_eq_true rfl, Nat.le_of_ble_eq_true rfl⟩) rfl hl.1 rfl hK hP hD hS hA (Nat.le_of_ble_eq_true rfl) ⟨Nat.le_of_ble_eq_true rfl, Nat.le_of_ble_eq_true rfl⟩ dX12_iterate_43 (fun r2 v2 w2 fi2 fl2 H locs h hP hD hS => ?_)
      exact W.iret (v := r2) hx hb hr (fun t ht hW => ⟨⟨_, (v2, w2, fi2, fl2), rfl, h, by rw [ht]; exact hP, va_K.moved hW.alike hK, hD⟩, hS.F ht⟩) hS.2.2 dX12_iterate_46
    · have h := h.2 c_24
      refine lv_aload_n hx hb dX12_iterate_27 rfl (lv_at hl 0 rfl) ?_
      refine lv_iconst (v := 2) hx hb dX12_iterate_28 (by decide) ?_
      refine m_calli (rm := ({ frames := 4, cells := 0, slots := 0, locals := 60 })) (As := [.int 2]) (rest := []) (fun sz => p_X12_fail l dC dI a ca g0 _ _ _ _ 2 _ h sz) ⟨hx, hb, hml, hown, hts⟩ (cwV 1 hts (g_V gdM mwM_19 mwM_20 mwM_21 mwM_22 mwM_18) rfl rfl rfl hd_X12_fail ⟨Nat.le_of_ble_eq_true rfl, Nat.le_of_ble_eq_true rfl⟩) rfl hl.1 rfl hK hP hD hS hA (Nat.le_of_ble_eq_true rfl) ⟨Nat.le_of_ble_eq_true rfl, Nat.le_of_ble_eq_true rfl⟩ dX12_iterate_29 (fun r3 v3 w3 fi3 fl3 H locs h hP hD hS => ?_)
      refine lv_goto (tgt := 46) hx hb dX12_iterate_32 (by decide) ?_
      exact W.iret (v := r3) hx hb hr (fun t ht hW => ⟨⟨_, (v3, w3, fi3, fl3), rfl, h, by rw [ht]; exact hP, va_K.moved hW.alike hK, hD⟩, hS.F ht⟩) hS.2.2 dX12_iterate_46
  · have h := h.2 c_9
    refine lv_aload_n hx hb dX12_iterate_12 rfl (lv_at hl 0 rfl) ?_
    refine lv_iconst (v := 1) hx hb dX12_iterate_13 (by decide) ?_
    refine m_calli (rm := ({ frames := 4, cells := 0, slots := 0, locals := 60 })) (As := [.int 1]) (rest := []) (fun sz => p_X12_fail l dC dI a ca g0 _ _ _ _ 1 _ h sz) ⟨hx, hb, hml, hown, hts⟩ (cwV 1 hts (g_V gdM mwM_19 mwM_20 mwM_21 mwM_22 mwM_18) rfl rfl rfl hd_X12_fail ⟨Nat.le_of_ble_eq_true rfl, Nat.le_of_ble_eq_true rfl⟩) rfl hl.1 rfl hK hP hD hS hA (Nat.le_of_ble_eq_true rfl) ⟨Nat.le_of_ble_eq_true rfl, Nat.le_of_ble_eq_true rfl⟩ dX12_iterate_14 (fun r4 v4 w4 fi4 fl4 H locs h hP hD hS => ?_)
    exact W.iret (v := r4) hx hb hr (fun t ht hW => ⟨⟨_, (v4, w4, fi4, fl4), rfl, h, by rw [ht]; exact hP, va_K.moved hW.alike hK, hD⟩, hS.F ht⟩) hS.2.2 dX12_iterate_17

abbrev wmX12_map : List Cond := .code yX12_map cX12_map 5 (some .int) :: WM
theorem hd_X12_map : yX12_map.cls = RX12 ∧ yX12_map.cls ≠ "java/lang/invoke/MethodHandle" ∧ yX12_map.cls ≠ "java/lang/invoke/VarHandle" ∧ (parseMethodDescriptor yX12_map.desc).map (fun d => d.parameters.length) = some 3 := by decide +kernel
def P_X12_map (v : Nat → Int32) (w : Nat → Int64) (fi : Nat → Nat → Int32) (fl : Nat → Nat → Int64) (p0 : Int32) (p1 : Int32) (p2 : Int64) (Q : Int32 → (Nat → Int32) → (Nat → Int64) → (Nat → Nat → Int32) → (Nat → Nat → Int64) → Prop) : Prop := P_X12_isList (va_up v 19 0) w fi fl p0 (fun r1 v1 w1 fi1 fl1 => ((¬ r1 = 0) → (P_X12_isOp p1 (fun r2 => ((¬ r2 = 0) → (((¬ (v1 0) = 24) → (P_X12_made v1 w1 fi1 fl1 3 p0 0 p1 p2 0 (fun r3 v3 w3 fi3 fl3 => Q r3 v3 w3 fi3 fl3))) ∧ (((v1 0) = 24) → (P_X12_fail v1 w1 fi1 fl1 3 (fun r4 v4 w4 fi4 fl4 => Q r4 v4 w4 fi4 fl4))))) ∧ ((r2 = 0) → (P_X12_fail v1 w1 fi1 fl1 2 (fun r5 v5 w5 fi5 fl5 => Q r5 v5 w5 fi5 fl5)))))) ∧ ((r1 = 0) → (P_X12_fail v1 w1 fi1 fl1 1 (fun r6 v6 w6 fi6 fl6 => Q r6 v6 w6 fi6 fl6))))
set_option maxHeartbeats 4000000 in
set_option maxRecDepth 100000 in
theorem p_X12_map (l : Launch) (dC : Nat → ClassId) (dI : Nat → Nat → Nat) (a : Nat → Nat) (ca : Nat → ClassId) (g0 : Nat) (v : Nat → Int32) (w : Nat → Int64) (fi : Nat → Nat → Int32) (fl : Nat → Nat → Int64) (p0 : Int32) (p1 : Int32) (p2 : Int64) (Q : Int32 → (Nat → Int32) → (Nat → Int64) → (Nat → Nat → Int32) → (Nat → Nat → Int64) → Prop) (h : P_X12_map v w fi fl p0 p1 p2 Q) (sz : Nat) : Met l yX12_map wmX12_map ({ frames := 8, cells := 0, slots := 0, locals := 120 }) (va_Pc [.ref g0, .int p0, .int p1, .long p2] (mPre dC dI a ca g0 v w fi fl sz)) (va_Qi (S := MSt) (pI Q) (mB dC dI a ca g0 (va_A (mW a ca g0 v w fi fl) sz)) (va_A (mW a ca g0 v w fi fl) sz)) 0 0 (va_A (mW a ca g0 v w fi fl) sz) := by
  refine Met.ofW (cc := cX12_map) (maxL := 5) (ret := (some .int)) (by decide) rfl ?_
  intro p e s m args below meth c s₁ B hml hv
  obtain ⟨rfl, hsz, hP, hK, hD0⟩ := hv
  have hx := B.exec
  have hb := B.bytes
  have hr := B.returns
  have hts : ∀ w ∈ WM, w.before _ s = true := fun w h => atoms_spec (ws := wmX12_map) B.pre w (List.mem_cons_of_mem _ h)
  have hown : s.vm.findClass RX12 = some m.cls := findClass_of_methodNamed B.named
  have hlocks := B.notSynchronized
  subst hsz
  have hD := hD0.self (sz := s.heap.size)
  generalize hAe : va_A (mW a ca g0 v w fi fl) s.heap.size = A at hD ⊢
  have hA : ∀ q : Nat, s.heap.size ≤ q → A q := fun q h => by rw [← hAe]; exact Or.inr h
  generalize hH : s.heap = H at hP ⊢
  have hS : va_S A s.heap H [] := by rw [← hH]; exact va_S.rf
  have hl := lv_entry [.ref g0, .int p0, .int p1, .long p2] (n := 5) (Nat.le_of_ble_eq_true rfl)
  rw [lg_entry_eq]
  generalize (lg_sl [.ref g0, .int p0, .int p1, .long p2] ++ List.replicate (5 - (lg_sl [.ref g0, .int p0, .int p1, .long p2]).length) Slot.unset).toArray = ls at hl ⊢
  have hl : lv_has ls 5 [(0, .ref g0), (1, .int p0), (2, .int p1), (3, .long p2)] := hl
  unfold P_X12_map at h
  refine lv_aload_n hx hb dX12_map_0 rfl (lv_at hl 0 rfl) ?_
  refine lv_iconst (v := 0) hx hb dX12_map_1 (by decide) ?_
  refine m_put_19 hx hb hts hinM hown hK hP hD hS (hts _ mwM_0) dX12_map_2 (fun H locs hP hD hS => ?_)
  refine lv_aload_n hx hb dX12_map_5 rfl (lv_at hl 0 rfl) ?_
  refine lv_iload_n hx hb dX12_map_6 rfl (lv_at hl 1 rfl) ?_
  refine m_calli (rm := ({ frames := 4, cells := 0, slots := 0, locals := 60 })) (As := [.int p0]) (rest := []) (fun sz => p_X12_isList l dC dI a ca g0 _ _ _ _ p0 _ h sz) ⟨hx, hb, hml, hown, hts⟩ (cwV 1 hts (g_V gdM mwM_33 mwM_34 mwM_35 mwM_22 mwM_32) rfl rfl rfl hd_X12_isList ⟨Nat.le_of_ble_eq_true rfl, Nat.le_of_ble_eq_true rfl⟩) rfl hl.1 rfl hK hP hD hS hA (Nat.le_of_ble_eq_true rfl) ⟨Nat.le_of_ble_eq_true rfl, Nat.le_of_ble_eq_true rfl⟩ dX12_map_7 (fun r1 v1 w1 fi1 fl1 H locs h hP hD hS => ?_)
  refine lv_if_ne (tgt := 19) hx hb dX12_map_10 (by decide) (fun c_10 => ?_) (fun c_10 => ?_)
  · have h := h.1 c_10
    refine lv_iload_n hx hb dX12_map_19 rfl (lv_at hl 2 rfl) ?_
    refine s_calli (rm := ({ frames := 4, cells := 0, slots := 0, locals := 60 })) (As := [.int p1]) (rest := []) (fun sz => p_X12_isOp l dC dI p1 _ h sz) ⟨hx, hb, hml, hown, hts⟩ (va_cwS 1 hts (g_S gdM mwM_30 mwM_31 mwM_22 mwM_29) rfl rfl rfl hd_X12_isOp ⟨Nat.le_of_ble_eq_true rfl, Nat.le_of_ble_eq_true rfl⟩) rfl hl.1 rfl hP hD hS hA (Nat.le_of_ble_eq_true rfl) ⟨Nat.le_of_ble_eq_true rfl, Nat.le_of_ble_eq_true rfl⟩ dX12_map_20 (fun r2 H locs h hP hS => ?_)
    refine lv_if_ne (tgt := 32) hx hb dX12_map_23 (by decide) (fun c_23 => ?_) (fun c_23 => ?_)
    · have h := h.1 c_23
      refine lv_aload_n hx hb dX12_map_32 rfl (lv_at hl 0 rfl) ?_
      refine va_get (D := (dC, dI)) (ci := 11) (v := .int (v1 0)) (C := RX12) (T := TX12) (N := 32) hx hb hts hinM hown hK hP 0 rfl rfl 0 (by decide) (hts _ mwM_1) (fun _ h9 => h9) rfl dX12_map_33 ?_
      refine lv_bipush (v := 24) hx hb dX12_map_36 (by decide) ?_
      refine lv_icmp_ne (tgt := 49) hx hb dX12_map_38 (by decide) (fun c_38 => ?_) (fun c_38 => ?_)
      · have h := h.1 c_38
        refine lv_aload_n hx hb dX12_map_49 rfl (lv_at hl 0 rfl) ?_
        refine lv_iconst (v := 3) hx hb dX12_map_50 (by decide) ?_
        refine lv_iload_n hx hb dX12_map_51 rfl (lv_at hl 1 rfl) ?_
        refine lv_iconst (v := 0) hx hb dX12_map_52 (by decide) ?_
        refine lv_iload_n hx hb dX12_map_53 rfl (lv_at hl 2 rfl) ?_
        refine lv_lload_n hx hb dX12_map_54 rfl (lv_at hl 3 rfl) ?_
        refine lv_lconst (v := 0) hx hb dX12_map_55 (by decide) ?_
        refine m_calli (rm := ({ frames := 4, cells := 0, slots := 0, locals := 60 })) (As := [.int 3, .int p0, .int 0, .int p1, .long p2, .long 0]) (rest := []) (fun sz => p_X12_made l dC dI a ca g0 _ _ _ _ 3 p0 0 p1 p2 0 _ h sz) ⟨hx, hb, hml, hown, hts⟩ (cwV 6 hts (g_V gdM mwM_24 mwM_25 mwM_26 mwM_22 mwM_23) rfl rfl rfl hd_X12_made ⟨Nat.le_of_ble_eq_true rfl, Nat.le_of_ble_eq_true rfl⟩) rfl hl.1 rfl hK hP hD hS hA (Nat.le_of_ble_eq_true rfl) ⟨Nat.le_of_ble_eq_true rfl, Nat.le_of_ble_eq_true rfl⟩ dX12_map_56 (fun r3 v3 w3 fi3 fl3 H locs h hP hD hS => ?_)
        exact W.iret (v := r3) hx hb hr (fun t ht hW => ⟨⟨_, (v3, w3, fi3, fl3), rfl, h, by rw [ht]; exact hP, va_K.moved hW.alike hK, hD⟩, hS.F ht⟩) hS.2.2 dX12_map_59
      · have h := h.2 c_38
        refine lv_aload_n hx hb dX12_map_41 rfl (lv_at hl 0 rfl) ?_
        refine lv_iconst (v := 3) hx hb dX12_map_42 (by decide) ?_
        refine m_calli (rm := ({ frames := 4, cells := 0, slots := 0, locals := 60 })) (As := [.int 3]) (rest := []) (fun sz => p_X12_fail l dC dI a ca g0 _ _ _ _ 3 _ h sz) ⟨hx, hb, hml, hown, hts⟩ (cwV 1 hts (g_V gdM mwM_19 mwM_20 mwM_21 mwM_22 mwM_18) rfl rfl rfl hd_X12_fail ⟨Nat.le_of_ble_eq_true rfl, Nat.le_of_ble_eq_true rfl⟩) rfl hl.1 rfl hK hP hD hS hA (Nat.le_of_ble_eq_true rfl) ⟨Nat.le_of_ble_eq_true rfl, Nat.le_of_ble_eq_true rfl⟩ dX12_map_43 (fun r4 v4 w4 fi4 fl4 H locs h hP hD hS => ?_)
        refine lv_goto (tgt := 59) hx hb dX12_map_46 (by decide) ?_
        exact W.iret (v := r4) hx hb hr (fun t ht hW => ⟨⟨_, (v4, w4, fi4, fl4), rfl, h, by rw [ht]; exact hP, va_K.moved hW.alike hK, hD⟩, hS.F ht⟩) hS.2.2 dX12_map_59
    · have h := h.2 c_23
      refine lv_aload_n hx hb dX12_map_26 rfl (lv_at hl 0 rfl) ?_
      refine lv_iconst (v := 2) hx hb dX12_map_27 (by decide) ?_
      refine m_calli (rm := ({ frames := 4, cells := 0, slots := 0, locals := 60 })) (As := [.int 2]) (rest := []) (fun sz => p_X12_fail l dC dI a ca g0 _ _ _ _ 2 _ h sz) ⟨hx, hb, hml, hown, hts⟩ (cwV 1 hts (g_V gdM mwM_19 mwM_20 mwM_21 mwM_22 mwM_18) rfl rfl rfl hd_X12_fail ⟨Nat.le_of_ble_eq_true rfl, Nat.le_of_ble_eq_true rfl⟩) rfl hl.1 rfl hK hP hD hS hA (Nat.le_of_ble_eq_true rfl) ⟨Nat.le_of_ble_eq_true rfl, Nat.le_of_ble_eq_true rfl⟩ dX12_map_28 (fun r5 v5 w5 fi5 fl5 H locs h hP hD hS => ?_)
      exact W.iret (v := r5) hx hb hr (fun t ht hW => ⟨⟨_, (v5, w5, fi5, fl5), rfl, h, by rw [ht]; exact hP, va_K.moved hW.alike hK, hD⟩, hS.F ht⟩) hS.2.2 dX12_map_31
  · have h := h.2 c_10
    refine lv_aload_n hx hb dX12_map_13 rfl (lv_at hl 0 rfl) ?_
    refine lv_iconst (v := 1) hx hb dX12_map_14 (by decide) ?_
    refine m_calli (rm := ({ frames := 4, cells := 0, slots := 0, locals := 60 })) (As := [.int 1]) (rest := []) (fun sz => p_X12_fail l dC dI a ca g0 _ _ _ _ 1 _ h sz) ⟨hx, hb, hml, hown, hts⟩ (cwV 1 hts (g_V gdM mwM_19 mwM_20 mwM_21 mwM_22 mwM_18) rfl rfl rfl hd_X12_fail ⟨Nat.le_of_ble_eq_true rfl, Nat.le_of_ble_eq_true rfl⟩) rfl hl.1 rfl hK hP hD hS hA (Nat.le_of_ble_eq_true rfl) ⟨Nat.le_of_ble_eq_true rfl, Nat.le_of_ble_eq_true rfl⟩ dX12_map_15 (fun r6 v6 w6 fi6 fl6 H locs h hP hD hS => ?_)
    exact W.iret (v := r6) hx hb hr (fun t ht hW => ⟨⟨_, (v6, w6, fi6, fl6), rfl, h, by rw [ht]; exact hP, va_K.moved hW.alike hK, hD⟩, hS.F ht⟩) hS.2.2 dX12_map_18

abbrev wmX12_both : List Cond := .code yX12_both cX12_both 4 (some .int) :: WM
theorem hd_X12_both : yX12_both.cls = RX12 ∧ yX12_both.cls ≠ "java/lang/invoke/MethodHandle" ∧ yX12_both.cls ≠ "java/lang/invoke/VarHandle" ∧ (parseMethodDescriptor yX12_both.desc).map (fun d => d.parameters.length) = some 3 := by decide +kernel
def P_X12_both (v : Nat → Int32) (w : Nat → Int64) (fi : Nat → Nat → Int32) (fl : Nat → Nat → Int64) (p0 : Int32) (p1 : Int32) (p2 : Int32) (Q : Int32 → (Nat → Int32) → (Nat → Int64) → (Nat → Nat → Int32) → (Nat → Nat → Int64) → Prop) : Prop := P_X12_isList (va_up v 19 0) w fi fl p0 (fun r1 v1 w1 fi1 fl1 => ((r1 = 0) → (P_X12_fail v1 w1 fi1 fl1 1 (fun r2 v2 w2 fi2 fl2 => Q r2 v2 w2 fi2 fl2))) ∧ ((¬ r1 = 0) → (P_X12_isList v1 w1 fi1 fl1 p1 (fun r3 v3 w3 fi3 fl3 => ((¬ r3 = 0) → (P_X12_isOp p2 (fun r4 => ((¬ r4 = 0) → (((¬ (v3 0) = 24) → (P_X12_made v3 w3 fi3 fl3 4 p0 p1 p2 0 0 (fun r5 v5 w5 fi5 fl5 => Q r5 v5 w5 fi5 fl5))) ∧ (((v3 0) = 24) → (P_X12_fail v3 w3 fi3 fl3 3 (fun r6 v6 w6 fi6 fl6 => Q r6 v6 w6 fi6 fl6))))) ∧ ((r4 = 0) → (P_X12_fail v3 w3 fi3 fl3 2 (fun r7 v7 w7 fi7 fl7 => Q r7 v7 w7 fi7 fl7)))))) ∧ ((r3 = 0) → (P_X12_fail v3 w3 fi3 fl3 1 (fun r8 v8 w8 fi8 fl8 => Q r8 v8 w8 fi8 fl8)))))))
set_option maxHeartbeats 4000000 in
set_option maxRecDepth 100000 in
theorem p_X12_both (l : Launch) (dC : Nat → ClassId) (dI : Nat → Nat → Nat) (a : Nat → Nat) (ca : Nat → ClassId) (g0 : Nat) (v : Nat → Int32) (w : Nat → Int64) (fi : Nat → Nat → Int32) (fl : Nat → Nat → Int64) (p0 : Int32) (p1 : Int32) (p2 : Int32) (Q : Int32 → (Nat → Int32) → (Nat → Int64) → (Nat → Nat → Int32) → (Nat → Nat → Int64) → Prop) (h : P_X12_both v w fi fl p0 p1 p2 Q) (sz : Nat) : Met l yX12_both wmX12_both ({ frames := 8, cells := 0, slots := 0, locals := 120 }) (va_Pc [.ref g0, .int p0, .int p1, .int p2] (mPre dC dI a ca g0 v w fi fl sz)) (va_Qi (S := MSt) (pI Q) (mB dC dI a ca g0 (va_A (mW a ca g0 v w fi fl) sz)) (va_A (mW a ca g0 v w fi fl) sz)) 0 0 (va_A (mW a ca g0 v w fi fl) sz) := by
  refine Met.ofW (cc := cX12_both) (maxL := 4) (ret := (some .int)) (by decide) rfl ?_
  intro p e s m args below meth c s₁ B hml hv
  obtain ⟨rfl, hsz, hP, hK, hD0⟩ := hv
  have hx := B.exec
  have hb := B.bytes
  have hr := B.returns
  have hts : ∀ w ∈ WM, w.before _ s = true := fun w h => atoms_spec (ws := wmX12_both) B.pre w (List.mem_cons_of_mem _ h)
  have hown : s.vm.findClass RX12 = some m.cls := findClass_of_methodNamed B.named
  have hlocks := B.notSynchronized
  subst hsz
  have hD := hD0.self (sz := s.heap.size)
  generalize hAe : va_A (mW a ca g0 v w fi fl) s.heap.size = A at hD ⊢
  have hA : ∀ q : Nat, s.heap.size ≤ q → A q := fun q h => by rw [← hAe]; exact Or.inr h
  generalize hH : s.heap = H at hP ⊢
  have hS : va_S A s.heap H [] := by rw [← hH]; exact va_S.rf
  have hl := lv_entry [.ref g0, .int p0, .int p1, .int p2] (n := 4) (Nat.le_of_ble_eq_true rfl)
  rw [lg_entry_eq]
  generalize (lg_sl [.ref g0, .int p0, .int p1, .int p2] ++ List.replicate (4 - (lg_sl [.ref g0, .int p0, .int p1, .int p2]).length) Slot.unset).toArray = ls at hl ⊢
  have hl : lv_has ls 4 [(0, .ref g0), (1, .int p0), (2, .int p1), (3, .int p2)] := hl
  unfold P_X12_both at h
  refine lv_aload_n hx hb dX12_both_0 rfl (lv_at hl 0 rfl) ?_
  refine lv_iconst (v := 0) hx hb dX12_both_1 (by decide) ?_
  refine m_put_19 hx hb hts hinM hown hK hP hD hS (hts _ mwM_0) dX12_both_2 (fun H locs hP hD hS => ?_)
  refine lv_aload_n hx hb dX12_both_5 rfl (lv_at hl 0 rfl) ?_
  refine lv_iload_n hx hb dX12_both_6 rfl (lv_at hl 1 rfl) ?_
  refine m_calli (rm := ({ frames := 4, cells := 0, slots := 0, locals := 60 })) (As := [.int p0]) (rest := []) (fun sz => p_X12_isList l dC dI a ca g0 _ _ _ _ p0 _ h sz) ⟨hx, hb, hml, hown, hts⟩ (cwV 1 hts (g_V gdM mwM_33 mwM_34 mwM_35 mwM_22 mwM_32) rfl rfl rfl hd_X12_isList ⟨Nat.le_of_ble_eq_true rfl, Nat.le_of_ble_eq_true rfl⟩) rfl hl.1 rfl hK hP hD hS hA (Nat.le_of_ble_eq_true rfl) ⟨Nat.le_of_ble_eq_true rfl, Nat.le_of_ble_eq_true rfl⟩ dX12_both_7 (fun r1 v1 w1 fi1 fl1 H locs h hP hD hS => ?_)
  refine lv_if_eq (tgt := 21) hx hb dX12_both_10 (by decide) (fun c_10 => ?_) (fun c_10 => ?_)
  · have h := h.1 c_10
    refine lv_aload_n hx hb dX12_both_21 rfl (lv_at hl 0 rfl) ?_
    refine lv_iconst (v := 1) hx hb dX12_both_22 (by decide) ?_
    refine m_calli (rm := ({ frames := 4, cells := 0, slots := 0, locals := 60 })) (As := [.int 1]) (rest := []) (fun sz => p_X12_fail l dC dI a ca g0 _ _ _ _ 1 _ h sz) ⟨hx, hb, hml, hown, hts⟩ (cwV 1 hts (g_V gdM mwM_19 mwM_20 mwM_21 mwM_22 mwM_18) rfl rfl rfl hd_X12_fail ⟨Nat.le_of_ble_eq_true rfl, Nat.le_of_ble_eq_true rfl⟩) rfl hl.1 rfl hK hP hD hS hA (Nat.le_of_ble_eq_true rfl) ⟨Nat.le_of_ble_eq_true rfl, Nat.le_of_ble_eq_true rfl⟩ dX12_both_23 (fun r2 v2 w2 fi2 fl2 H locs h hP hD hS => ?_)
    exact W.iret (v := r2) hx hb hr (fun t ht hW => ⟨⟨_, (v2, w2, fi2, fl2), rfl, h, by rw [ht]; exact hP, va_K.moved hW.alike hK, hD⟩, hS.F ht⟩) hS.2.2 dX12_both_26
  · have h := h.2 c_10
    refine lv_aload_n hx hb dX12_both_13 rfl (lv_at hl 0 rfl) ?_
    refine lv_iload_n hx hb dX12_both_14 rfl (lv_at hl 2 rfl) ?_
    refine m_calli (rm := ({ frames := 4, cells := 0, slots := 0, locals := 60 })) (As := [.int p1]) (rest := []) (fun sz => p_X12_isList l dC dI a ca g0 _ _ _ _ p1 _ h sz) ⟨hx, hb, hml, hown, hts⟩ (cwV 1 hts (g_V gdM mwM_33 mwM_34 mwM_35 mwM_22 mwM_32) rfl rfl rfl hd_X12_isList ⟨Nat.le_of_ble_eq_true rfl, Nat.le_of_ble_eq_true rfl⟩) rfl hl.1 rfl hK hP hD hS hA (Nat.le_of_ble_eq_true rfl) ⟨Nat.le_of_ble_eq_true rfl, Nat.le_of_ble_eq_true rfl⟩ dX12_both_15 (fun r3 v3 w3 fi3 fl3 H locs h hP hD hS => ?_)
    refine lv_if_ne (tgt := 27) hx hb dX12_both_18 (by decide) (fun c_18 => ?_) (fun c_18 => ?_)
    · have h := h.1 c_18
      refine lv_iload_n hx hb dX12_both_27 rfl (lv_at hl 3 rfl) ?_
      refine s_calli (rm := ({ frames := 4, cells := 0, slots := 0, locals := 60 })) (As := [.int p2]) (rest := []) (fun sz => p_X12_isOp l dC dI p2 _ h sz) ⟨hx, hb, hml, hown, hts⟩ (va_cwS 1 hts (g_S gdM mwM_30 mwM_31 mwM_22 mwM_29) rfl rfl rfl hd_X12_isOp ⟨Nat.le_of_ble_eq_true rfl, Nat.le_of_ble_eq_true rfl⟩) rfl hl.1 rfl hP hD hS hA (Nat.le_of_ble_eq_true rfl) ⟨Nat.le_of_ble_eq_true rfl, Nat.le_of_ble_eq_true rfl⟩ dX12_both_28 (fun r4 H locs h hP hS => ?_)
      refine lv_if_ne (tgt := 40) hx hb dX12_both_31 (by decide) (fun c_31 => ?_) (fun c_31 => ?_)
      · have h := h.1 c_31
        refine lv_aload_n hx hb dX12_both_40 rfl (lv_at hl 0 rfl) ?_
        refine va_get (D := (dC, dI)) (ci := 11) (v := .int (v3 0)) (C := RX12) (T := TX12) (N := 32) hx hb hts hinM hown hK hP 0 rfl rfl 0 (by decide) (hts _ mwM_1) (fun _ h9 => h9) rfl dX12_both_41 ?_
        refine lv_bipush (v := 24) hx hb dX12_both_44 (by decide) ?_
        refine lv_icmp_ne (tgt := 57) hx hb dX12_both_46 (by decide) (fun c_46 => ?_) (fun c_46 => ?_)
        · have h := h.1 c_46
          refine lv_aload_n hx hb dX12_both_57 rfl (lv_at hl 0 rfl) ?_
          refine lv_iconst (v := 4) hx hb dX12_both_58 (by decide) ?_
          refine lv_iload_n hx hb dX12_both_59 rfl (lv_at hl 1 rfl) ?_
          refine lv_iload_n hx hb dX12_both_60 rfl (lv_at hl 2 rfl) ?_
          refine lv_iload_n hx hb dX12_both_61 rfl (lv_at hl 3 rfl) ?_
          refine lv_lconst (v := 0) hx hb dX12_both_62 (by decide) ?_
          refine lv_lconst (v := 0) hx hb dX12_both_63 (by decide) ?_
          refine m_calli (rm := ({ frames := 4, cells := 0, slots := 0, locals := 60 })) (As := [.int 4, .int p0, .int p1, .int p2, .long 0, .long 0]) (rest := []) (fun sz => p_X12_made l dC dI a ca g0 _ _ _ _ 4 p0 p1 p2 0 0 _ h sz) ⟨hx, hb, hml, hown, hts⟩ (cwV 6 hts (g_V gdM mwM_24 mwM_25 mwM_26 mwM_22 mwM_23) rfl rfl rfl hd_X12_made ⟨Nat.le_of_ble_eq_true rfl, Nat.le_of_ble_eq_true rfl⟩) rfl hl.1 rfl hK hP hD hS hA (Nat.le_of_ble_eq_true rfl) ⟨Nat.le_of_ble_eq_true rfl, Nat.le_of_ble_eq_true rfl⟩ dX12_both_64 (fun r5 v5 w5 fi5 fl5 H locs h hP hD hS => ?_)
          exact W.iret (v := r5) hx hb hr (fun t ht hW => ⟨⟨_, (v5, w5, fi5, fl5), rfl, h, by rw [ht]; exact hP, va_K.moved hW.alike hK, hD⟩, hS.F ht⟩) hS.2.2 dX12_both_67
        · have h := h.2 c_46
          refine lv_aload_n hx hb dX12_both_49 rfl (lv_at hl 0 rfl) ?_
          refine lv_iconst (v := 3) hx hb dX12_both_50 (by decide) ?_
          refine m_calli (rm := ({ frames := 4, cells := 0, slots := 0, locals := 60 })) (As := [.int 3]) (rest := []) (fun sz => p_X12_fail l dC dI a ca g0 _ _ _ _ 3 _ h sz) ⟨hx, hb, hml, hown, hts⟩ (cwV 1 hts (g_V gdM mwM_19 mwM_20 mwM_21 mwM_22 mwM_18) rfl rfl rfl hd_X12_fail ⟨Nat.le_of_ble_eq_true rfl, Nat.le_of_ble_eq_true rfl⟩) rfl hl.1 rfl hK hP hD hS hA (Nat.le_of_ble_eq_true rfl) ⟨Nat.le_of_ble_eq_true rfl, Nat.le_of_ble_eq_true rfl⟩ dX12_both_51 (fun r6 v6 w6 fi6 fl6 H locs h hP hD hS => ?_)
          refine lv_goto (tgt := 67) hx hb dX12_both_54 (by decide) ?_
          exact W.iret (v := r6) hx hb hr (fun t ht hW => ⟨⟨_, (v6, w6, fi6, fl6), rfl, h, by rw [ht]; exact hP, va_K.moved hW.alike hK, hD⟩, hS.F ht⟩) hS.2.2 dX12_both_67
      · have h := h.2 c_31
        refine lv_aload_n hx hb dX12_both_34 rfl (lv_at hl 0 rfl) ?_
        refine lv_iconst (v := 2) hx hb dX12_both_35 (by decide) ?_
        refine m_calli (rm := ({ frames := 4, cells := 0, slots := 0, locals := 60 })) (As := [.int 2]) (rest := []) (fun sz => p_X12_fail l dC dI a ca g0 _ _ _ _ 2 _ h sz) ⟨hx, hb, hml, hown, hts⟩ (cwV 1 hts (g_V gdM mwM_19 mwM_20 mwM_21 mwM_22 mwM_18) rfl rfl rfl hd_X12_fail ⟨Nat.le_of_ble_eq_true rfl, Nat.le_of_ble_eq_true rfl⟩) rfl hl.1 rfl hK hP hD hS hA (Nat.le_of_ble_eq_true rfl) ⟨Nat.le_of_ble_eq_true rfl, Nat.le_of_ble_eq_true rfl⟩ dX12_both_36 (fun r7 v7 w7 fi7 fl7 H locs h hP hD hS => ?_)
        exact W.iret (v := r7) hx hb hr (fun t ht hW => ⟨⟨_, (v7, w7, fi7, fl7), rfl, h, by rw [ht]; exact hP, va_K.moved hW.alike hK, hD⟩, hS.F ht⟩) hS.2.2 dX12_both_39
    · have h := h.2 c_18
      refine lv_aload_n hx hb dX12_both_21 rfl (lv_at hl 0 rfl) ?_
      refine lv_iconst (v := 1) hx hb dX12_both_22 (by decide) ?_
      refine m_calli (rm := ({ frames := 4, cells := 0, slots := 0, locals := 60 })) (As := [.int 1]) (rest := []) (fun sz => p_X12_fail l dC dI a ca g0 _ _ _ _ 1 _ h sz) ⟨hx, hb, hml, hown, hts⟩ (cwV 1 hts (g_V gdM mwM_19 mwM_20 mwM_21 mwM_22 mwM_18) rfl rfl rfl hd_X12_fail ⟨Nat.le_of_ble_eq_true rfl, Nat.le_of_ble_eq_true rfl⟩) rfl hl.1 rfl hK hP hD hS hA (Nat.le_of_ble_eq_true rfl) ⟨Nat.le_of_ble_eq_true rfl, Nat.le_of_ble_eq_true rfl⟩ dX12_both_23 (fun r8 v8 w8 fi8 fl8 H locs h hP hD hS => ?_)
      exact W.iret (v := r8) hx hb hr (fun t ht hW => ⟨⟨_, (v8, w8, fi8, fl8), rfl, h, by rw [ht]; exact hP, va_K.moved hW.alike hK, hD⟩, hS.F ht⟩) hS.2.2 dX12_both_26

abbrev wmX12_scan : List Cond := .code yX12_scan cX12_scan 5 (some .int) :: WM
theorem hd_X12_scan : yX12_scan.cls = RX12 ∧ yX12_scan.cls ≠ "java/lang/invoke/MethodHandle" ∧ yX12_scan.cls ≠ "java/lang/invoke/VarHandle" ∧ (parseMethodDescriptor yX12_scan.desc).map (fun d => d.parameters.length) = some 3 := by decide +kernel
def P_X12_scan (v : Nat → Int32) (w : Nat → Int64) (fi : Nat → Nat → Int32) (fl : Nat → Nat → Int64) (p0 : Int32) (p1 : Int32) (p2 : Int64) (Q : Int32 → (Nat → Int32) → (Nat → Int64) → (Nat → Nat → Int32) → (Nat → Nat → Int64) → Prop) : Prop := P_X12_isList (va_up v 19 0) w fi fl p0 (fun r1 v1 w1 fi1 fl1 => ((¬ r1 = 0) → (P_X12_isOp p1 (fun r2 => ((¬ r2 = 0) → (((¬ (v1 0) = 24) → (P_X12_made v1 w1 fi1 fl1 5 p0 0 p1 p2 0 (fun r3 v3 w3 fi3 fl3 => Q r3 v3 w3 fi3 fl3))) ∧ (((v1 0) = 24) → (P_X12_fail v1 w1 fi1 fl1 3 (fun r4 v4 w4 fi4 fl4 => Q r4 v4 w4 fi4 fl4))))) ∧ ((r2 = 0) → (P_X12_fail v1 w1 fi1 fl1 2 (fun r5 v5 w5 fi5 fl5 => Q r5 v5 w5 fi5 fl5)))))) ∧ ((r1 = 0) → (P_X12_fail v1 w1 fi1 fl1 1 (fun r6 v6 w6 fi6 fl6 => Q r6 v6 w6 fi6 fl6))))
set_option maxHeartbeats 4000000 in
set_option maxRecDepth 100000 in
theorem p_X12_scan (l : Launch) (dC : Nat → ClassId) (dI : Nat → Nat → Nat) (a : Nat → Nat) (ca : Nat → ClassId) (g0 : Nat) (v : Nat → Int32) (w : Nat → Int64) (fi : Nat → Nat → Int32) (fl : Nat → Nat → Int64) (p0 : Int32) (p1 : Int32) (p2 : Int64) (Q : Int32 → (Nat → Int32) → (Nat → Int64) → (Nat → Nat → Int32) → (Nat → Nat → Int64) → Prop) (h : P_X12_scan v w fi fl p0 p1 p2 Q) (sz : Nat) : Met l yX12_scan wmX12_scan ({ frames := 8, cells := 0, slots := 0, locals := 120 }) (va_Pc [.ref g0, .int p0, .int p1, .long p2] (mPre dC dI a ca g0 v w fi fl sz)) (va_Qi (S := MSt) (pI Q) (mB dC dI a ca g0 (va_A (mW a ca g0 v w fi fl) sz)) (va_A (mW a ca g0 v w fi fl) sz)) 0 0 (va_A (mW a ca g0 v w fi fl) sz) := by
  refine Met.ofW (cc := cX12_scan) (maxL := 5) (ret := (some .int)) (by decide) rfl ?_
  intro p e s m args below meth c s₁ B hml hv
  obtain ⟨rfl, hsz, hP, hK, hD0⟩ := hv
  have hx := B.exec
  have hb := B.bytes
  have hr := B.returns
  have hts : ∀ w ∈ WM, w.before _ s = true := fun w h => atoms_spec (ws := wmX12_scan) B.pre w (List.mem_cons_of_mem _ h)
  have hown : s.vm.findClass RX12 = some m.cls := findClass_of_methodNamed B.named
  have hlocks := B.notSynchronized
  subst hsz
  have hD := hD0.self (sz := s.heap.size)
  generalize hAe : va_A (mW a ca g0 v w fi fl) s.heap.size = A at hD ⊢
  have hA : ∀ q : Nat, s.heap.size ≤ q → A q := fun q h => by rw [← hAe]; exact Or.inr h
  generalize hH : s.heap = H at hP ⊢
  have hS : va_S A s.heap H [] := by rw [← hH]; exact va_S.rf
  have hl := lv_entry [.ref g0, .int p0, .int p1, .long p2] (n := 5) (Nat.le_of_ble_eq_true rfl)
  rw [lg_entry_eq]
  generalize (lg_sl [.ref g0, .int p0, .int p1, .long p2] ++ List.replicate (5 - (lg_sl [.ref g0, .int p0, .int p1, .long p2]).length) Slot.unset).toArray = ls at hl ⊢
  have hl : lv_has ls 5 [(0, .ref g0), (1, .int p0), (2, .int p1), (3, .long p2)] := hl
  unfold P_X12_scan at h
  refine lv_aload_n hx hb dX12_scan_0 rfl (lv_at hl 0 rfl) ?_
  refine lv_iconst (v := 0) hx hb dX12_scan_1 (by decide) ?_
  refine m_put_19 hx hb hts hinM hown hK hP hD hS (hts _ mwM_0) dX12_scan_2 (fun H locs hP hD hS => ?_)
  refine lv_aload_n hx hb dX12_scan_5 rfl (lv_at hl 0 rfl) ?_
  refine lv_iload_n hx hb dX12_scan_6 rfl (lv_at hl 1 rfl) ?_
  refine m_calli (rm := ({ frames := 4, cells := 0, slots := 0, locals := 60 })) (As := [.int p0]) (rest := []) (fun sz => p_X12_isList l dC dI a ca g0 _ _ _ _ p0 _ h sz) ⟨hx, hb, hml, hown, hts⟩ (cwV 1 hts (g_V gdM mwM_33 mwM_34 mwM_35 mwM_22 mwM_32) rfl rfl rfl hd_X12_isList ⟨Nat.le_of_ble_eq_true rfl, Nat.le_of_ble_eq_true rfl⟩) rfl hl.1 rfl hK hP hD hS hA (Nat.le_of_ble_eq_true rfl) ⟨Nat.le_of_ble_eq_true rfl, Nat.le_of_ble_eq_true rfl⟩ dX12_scan_7 (fun r1 v1 w1 fi1 fl1 H locs h hP hD hS => ?_)
  refine lv_if_ne (tgt := 19) hx hb dX12_scan_10 (by decide) (fun c_10 => ?_) (fun c_10 => ?_)
  · have h := h.1 c_10
    refine lv_iload_n hx hb dX12_scan_19 rfl (lv_at hl 2 rfl) ?_
    refine s_calli (rm := ({ frames := 4, cells := 0, slots := 0, locals := 60 })) (As := [.int p1]) (rest := []) (fun sz => p_X12_isOp l dC dI p1 _ h sz) ⟨hx, hb, hml, hown, hts⟩ (va_cwS 1 hts (g_S gdM mwM_30 mwM_31 mwM_22 mwM_29) rfl rfl rfl hd_X12_isOp ⟨Nat.le_of_ble_eq_true rfl, Nat.le_of_ble_eq_true rfl⟩) rfl hl.1 rfl hP hD hS hA (Nat.le_of_ble_eq_true rfl) ⟨Nat.le_of_ble_eq_true rfl, Nat.le_of_ble_eq_true rfl⟩ dX12_scan_20 (fun r2 H locs h hP hS => ?_)
    refine lv_if_ne (tgt := 32) hx hb dX12_scan_23 (by decide) (fun c_23 => ?_) (fun c_23 => ?_)
    · have h := h.1 c_23
      refine lv_aload_n hx hb dX12_scan_32 rfl (lv_at hl 0 rfl) ?_
      refine va_get (D := (dC, dI)) (ci := 11) (v := .int (v1 0)) (C := RX12) (T := TX12) (N := 32) hx hb hts hinM hown hK hP 0 rfl rfl 0 (by decide) (hts _ mwM_1) (fun _ h9 => h9) rfl dX12_scan_33 ?_
      refine lv_bipush (v := 24) hx hb dX12_scan_36 (by decide) ?_
      refine lv_icmp_ne (tgt := 49) hx hb dX12_scan_38 (by decide) (fun c_38 => ?_) (fun c_38 => ?_)
      · have h := h.1 c_38
        refine lv_aload_n hx hb dX12_scan_49 rfl (lv_at hl 0 rfl) ?_
        refine lv_iconst (v := 5) hx hb dX12_scan_50 (by decide) ?_
        refine lv_iload_n hx hb dX12_scan_51 rfl (lv_at hl 1 rfl) ?_
        refine lv_iconst (v := 0) hx hb dX12_scan_52 (by decide) ?_
        refine lv_iload_n hx hb dX12_scan_53 rfl (lv_at hl 2 rfl) ?_
        refine lv_lload_n hx hb dX12_scan_54 rfl (lv_at hl 3 rfl) ?_
        refine lv_lconst (v := 0) hx hb dX12_scan_55 (by decide) ?_
        refine m_calli (rm := ({ frames := 4, cells := 0, slots := 0, locals := 60 })) (As := [.int 5, .int p0, .int 0, .int p1, .long p2, .long 0]) (rest := []) (fun sz => p_X12_made l dC dI a ca g0 _ _ _ _ 5 p0 0 p1 p2 0 _ h sz) ⟨hx, hb, hml, hown, hts⟩ (cwV 6 hts (g_V gdM mwM_24 mwM_25 mwM_26 mwM_22 mwM_23) rfl rfl rfl hd_X12_made ⟨Nat.le_of_ble_eq_true rfl, Nat.le_of_ble_eq_true rfl⟩) rfl hl.1 rfl hK hP hD hS hA (Nat.le_of_ble_eq_true rfl) ⟨Nat.le_of_ble_eq_true rfl, Nat.le_of_ble_eq_true rfl⟩ dX12_scan_56 (fun r3 v3 w3 fi3 fl3 H locs h hP hD hS => ?_)
        exact W.iret (v := r3) hx hb hr (fun t ht hW => ⟨⟨_, (v3, w3, fi3, fl3), rfl, h, by rw [ht]; exact hP, va_K.moved hW.alike hK, hD⟩, hS.F ht⟩) hS.2.2 dX12_scan_59
      · have h := h.2 c_38
        refine lv_aload_n hx hb dX12_scan_41 rfl (lv_at hl 0 rfl) ?_
        refine lv_iconst (v := 3) hx hb dX12_scan_42 (by decide) ?_
        refine m_calli (rm := ({ frames := 4, cells := 0, slots := 0, locals := 60 })) (As := [.int 3]) (rest := []) (fun sz => p_X12_fail l dC dI a ca g0 _ _ _ _ 3 _ h sz) ⟨hx, hb, hml, hown, hts⟩ (cwV 1 hts (g_V gdM mwM_19 mwM_20 mwM_21 mwM_22 mwM_18) rfl rfl rfl hd_X12_fail ⟨Nat.le_of_ble_eq_true rfl, Nat.le_of_ble_eq_true rfl⟩) rfl hl.1 rfl hK hP hD hS hA (Nat.le_of_ble_eq_true rfl) ⟨Nat.le_of_ble_eq_true rfl, Nat.le_of_ble_eq_true rfl⟩ dX12_scan_43 (fun r4 v4 w4 fi4 fl4 H locs h hP hD hS => ?_)
        refine lv_goto (tgt := 59) hx hb dX12_scan_46 (by decide) ?_
        exact W.iret (v := r4) hx hb hr (fun t ht hW => ⟨⟨_, (v4, w4, fi4, fl4), rfl, h, by rw [ht]; exact hP, va_K.moved hW.alike hK, hD⟩, hS.F ht⟩) hS.2.2 dX12_scan_59
    · have h := h.2 c_23
      refine lv_aload_n hx hb dX12_scan_26 rfl (lv_at hl 0 rfl) ?_
      refine lv_iconst (v := 2) hx hb dX12_scan_27 (by decide) ?_
      refine m_calli (rm := ({ frames := 4, cells := 0, slots := 0, locals := 60 })) (As := [.int 2]) (rest := []) (fun sz => p_X12_fail l dC dI a ca g0 _ _ _ _ 2 _ h sz) ⟨hx, hb, hml, hown, hts⟩ (cwV 1 hts (g_V gdM mwM_19 mwM_20 mwM_21 mwM_22 mwM_18) rfl rfl rfl hd_X12_fail ⟨Nat.le_of_ble_eq_true rfl, Nat.le_of_ble_eq_true rfl⟩) rfl hl.1 rfl hK hP hD hS hA (Nat.le_of_ble_eq_true rfl) ⟨Nat.le_of_ble_eq_true rfl, Nat.le_of_ble_eq_true rfl⟩ dX12_scan_28 (fun r5 v5 w5 fi5 fl5 H locs h hP hD hS => ?_)
      exact W.iret (v := r5) hx hb hr (fun t ht hW => ⟨⟨_, (v5, w5, fi5, fl5), rfl, h, by rw [ht]; exact hP, va_K.moved hW.alike hK, hD⟩, hS.F ht⟩) hS.2.2 dX12_scan_31
  · have h := h.2 c_10
    refine lv_aload_n hx hb dX12_scan_13 rfl (lv_at hl 0 rfl) ?_
    refine lv_iconst (v := 1) hx hb dX12_scan_14 (by decide) ?_
    refine m_calli (rm := ({ frames := 4, cells := 0, slots := 0, locals := 60 })) (As := [.int 1]) (rest := []) (fun sz => p_X12_fail l dC dI a ca g0 _ _ _ _ 1 _ h sz) ⟨hx, hb, hml, hown, hts⟩ (cwV 1 hts (g_V gdM mwM_19 mwM_20 mwM_21 mwM_22 mwM_18) rfl rfl rfl hd_X12_fail ⟨Nat.le_of_ble_eq_true rfl, Nat.le_of_ble_eq_true rfl⟩) rfl hl.1 rfl hK hP hD hS hA (Nat.le_of_ble_eq_true rfl) ⟨Nat.le_of_ble_eq_true rfl, Nat.le_of_ble_eq_true rfl⟩ dX12_scan_15 (fun r6 v6 w6 fi6 fl6 H locs h hP hD hS => ?_)
    exact W.iret (v := r6) hx hb hr (fun t ht hW => ⟨⟨_, (v6, w6, fi6, fl6), rfl, h, by rw [ht]; exact hP, va_K.moved hW.alike hK, hD⟩, hS.F ht⟩) hS.2.2 dX12_scan_18
