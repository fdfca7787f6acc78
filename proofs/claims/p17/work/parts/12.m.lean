abbrev cX12_worked : ByteArray := prog_14_method_64_code
def yX12_worked : MethodName := ⟨RX12, "worked", "(II)Z"⟩
theorem dX12_lookAtBoth_0 : decode cX12_lookAtBoth 0 = .ok (.aload_n 0, 1) := by decide +kernel
theorem dX12_lookAtBoth_1 : decode cX12_lookAtBoth 1 = .ok (.iload_n 1, 1) := by decide +kernel
theorem dX12_lookAtBoth_2 : decode cX12_lookAtBoth 2 = .ok (.iload_n 3, 1) := by decide +kernel
theorem dX12_lookAtBoth_3 : decode cX12_lookAtBoth 3 = .ok (.invokevirtual 131, 3) := by decide +kernel
theorem dX12_lookAtBoth_6 : decode cX12_lookAtBoth 6 = .ok (.istore 4, 2) := by decide +kernel
theorem dX12_lookAtBoth_8 : decode cX12_lookAtBoth 8 = .ok (.iload 4, 2) := by decide +kernel
theorem dX12_lookAtBoth_10 : decode cX12_lookAtBoth 10 = .ok (.iconst (-1), 1) := by decide +kernel
theorem dX12_lookAtBoth_11 : decode cX12_lookAtBoth 11 = .ok (.if_icmp .eq 6, 3) := by decide +kernel
theorem dX12_lookAtBoth_14 : decode cX12_lookAtBoth 14 = .ok (.iload 4, 2) := by decide +kernel
theorem dX12_lookAtBoth_16 : decode cX12_lookAtBoth 16 = .ok (.ireturn, 1) := by decide +kernel
theorem dX12_lookAtBoth_17 : decode cX12_lookAtBoth 17 = .ok (.aload_n 0, 1) := by decide +kernel
theorem dX12_lookAtBoth_18 : decode cX12_lookAtBoth 18 = .ok (.getfield 110, 3) := by decide +kernel
theorem dX12_lookAtBoth_21 : decode cX12_lookAtBoth 21 = .ok (.iconst 1, 1) := by decide +kernel
theorem dX12_lookAtBoth_22 : decode cX12_lookAtBoth 22 = .ok (.if_icmp .ne 13, 3) := by decide +kernel
theorem dX12_lookAtBoth_25 : decode cX12_lookAtBoth 25 = .ok (.aload_n 0, 1) := by decide +kernel
theorem dX12_lookAtBoth_26 : decode cX12_lookAtBoth 26 = .ok (.iload_n 2, 1) := by decide +kernel
theorem dX12_lookAtBoth_27 : decode cX12_lookAtBoth 27 = .ok (.iload_n 3, 1) := by decide +kernel
theorem dX12_lookAtBoth_28 : decode cX12_lookAtBoth 28 = .ok (.iconst 0, 1) := by decide +kernel
theorem dX12_lookAtBoth_29 : decode cX12_lookAtBoth 29 = .ok (.invokevirtual 140, 3) := by decide +kernel
theorem dX12_lookAtBoth_32 : decode cX12_lookAtBoth 32 = .ok (.goto 11, 3) := by decide +kernel
theorem dX12_lookAtBoth_35 : decode cX12_lookAtBoth 35 = .ok (.aload_n 0, 1) := by decide +kernel
theorem dX12_lookAtBoth_36 : decode cX12_lookAtBoth 36 = .ok (.aload_n 0, 1) := by decide +kernel
theorem dX12_lookAtBoth_37 : decode cX12_lookAtBoth 37 = .ok (.getfield 110, 3) := by decide +kernel
theorem dX12_lookAtBoth_40 : decode cX12_lookAtBoth 40 = .ok (.invokevirtual 137, 3) := by decide +kernel
theorem dX12_lookAtBoth_43 : decode cX12_lookAtBoth 43 = .ok (.ireturn, 1) := by decide +kernel
theorem dX12_lookOn_0 : decode cX12_lookOn 0 = .ok (.iload_n 3, 1) := by decide +kernel
theorem dX12_lookOn_1 : decode cX12_lookOn 1 = .ok (.ifCond .ne 7, 3) := by decide +kernel
theorem dX12_lookOn_4 : decode cX12_lookOn 4 = .ok (.iconst 0, 1) := by decide +kernel
theorem dX12_lookOn_5 : decode cX12_lookOn 5 = .ok (.goto 17, 3) := by decide +kernel
theorem dX12_lookOn_8 : decode cX12_lookOn 8 = .ok (.aload_n 0, 1) := by decide +kernel
theorem dX12_lookOn_9 : decode cX12_lookOn 9 = .ok (.getfield 41, 3) := by decide +kernel
theorem dX12_lookOn_12 : decode cX12_lookOn 12 = .ok (.iload_n 1, 1) := by decide +kernel
theorem dX12_lookOn_13 : decode cX12_lookOn 13 = .ok (.iload_n 3, 1) := by decide +kernel
theorem dX12_lookOn_14 : decode cX12_lookOn 14 = .ok (.iconst 1, 1) := by decide +kernel
theorem dX12_lookOn_15 : decode cX12_lookOn 15 = .ok (.isub, 1) := by decide +kernel
theorem dX12_lookOn_16 : decode cX12_lookOn 16 = .ok (.invokestatic 106, 3) := by decide +kernel
theorem dX12_lookOn_19 : decode cX12_lookOn 19 = .ok (.iaload, 1) := by decide +kernel
theorem dX12_lookOn_20 : decode cX12_lookOn 20 = .ok (.iconst 1, 1) := by decide +kernel
theorem dX12_lookOn_21 : decode cX12_lookOn 21 = .ok (.iadd, 1) := by decide +kernel
theorem dX12_lookOn_22 : decode cX12_lookOn 22 = .ok (.istore 4, 2) := by decide +kernel
theorem dX12_lookOn_24 : decode cX12_lookOn 24 = .ok (.aload_n 0, 1) := by decide +kernel
theorem dX12_lookOn_25 : decode cX12_lookOn 25 = .ok (.iload_n 2, 1) := by decide +kernel
theorem dX12_lookOn_26 : decode cX12_lookOn 26 = .ok (.iload 4, 2) := by decide +kernel
theorem dX12_lookOn_28 : decode cX12_lookOn 28 = .ok (.invokevirtual 131, 3) := by decide +kernel
theorem dX12_lookOn_31 : decode cX12_lookOn 31 = .ok (.istore 5, 2) := by decide +kernel
theorem dX12_lookOn_33 : decode cX12_lookOn 33 = .ok (.iload 5, 2) := by decide +kernel
theorem dX12_lookOn_35 : decode cX12_lookOn 35 = .ok (.iconst (-1), 1) := by decide +kernel
theorem dX12_lookOn_36 : decode cX12_lookOn 36 = .ok (.if_icmp .eq 6, 3) := by decide +kernel
theorem dX12_lookOn_39 : decode cX12_lookOn 39 = .ok (.iload 5, 2) := by decide +kernel
theorem dX12_lookOn_41 : decode cX12_lookOn 41 = .ok (.ireturn, 1) := by decide +kernel
theorem dX12_lookOn_42 : decode cX12_lookOn 42 = .ok (.aload_n 0, 1) := by decide +kernel
theorem dX12_lookOn_43 : decode cX12_lookOn 43 = .ok (.getfield 110, 3) := by decide +kernel
theorem dX12_lookOn_46 : decode cX12_lookOn 46 = .ok (.iconst 1, 1) := by decide +kernel
theorem dX12_lookOn_47 : decode cX12_lookOn 47 = .ok (.if_icmp .eq 12, 3) := by decide +kernel
theorem dX12_lookOn_50 : decode cX12_lookOn 50 = .ok (.aload_n 0, 1) := by decide +kernel
theorem dX12_lookOn_51 : decode cX12_lookOn 51 = .ok (.aload_n 0, 1) := by decide +kernel
theorem dX12_lookOn_52 : decode cX12_lookOn 52 = .ok (.getfield 110, 3) := by decide +kernel
theorem dX12_lookOn_55 : decode cX12_lookOn 55 = .ok (.invokevirtual 137, 3) := by decide +kernel
theorem dX12_lookOn_58 : decode cX12_lookOn 58 = .ok (.ireturn, 1) := by decide +kernel
theorem dX12_lookOn_59 : decode cX12_lookOn 59 = .ok (.aload_n 0, 1) := by decide +kernel
theorem dX12_lookOn_60 : decode cX12_lookOn 60 = .ok (.iload_n 2, 1) := by decide +kernel
theorem dX12_lookOn_61 : decode cX12_lookOn 61 = .ok (.iload 4, 2) := by decide +kernel
theorem dX12_lookOn_63 : decode cX12_lookOn 63 = .ok (.invokevirtual 165, 3) := by decide +kernel
theorem dX12_lookOn_66 : decode cX12_lookOn 66 = .ok (.istore 5, 2) := by decide +kernel
theorem dX12_lookOn_68 : decode cX12_lookOn 68 = .ok (.iload 5, 2) := by decide +kernel
theorem dX12_lookOn_70 : decode cX12_lookOn 70 = .ok (.iconst (-1), 1) := by decide +kernel
theorem dX12_lookOn_71 : decode cX12_lookOn 71 = .ok (.if_icmp .eq 6, 3) := by decide +kernel
theorem dX12_lookOn_74 : decode cX12_lookOn 74 = .ok (.iload 5, 2) := by decide +kernel
theorem dX12_lookOn_76 : decode cX12_lookOn 76 = .ok (.ireturn, 1) := by decide +kernel
theorem dX12_lookOn_77 : decode cX12_lookOn 77 = .ok (.aload_n 0, 1) := by decide +kernel
theorem dX12_lookOn_78 : decode cX12_lookOn 78 = .ok (.getfield 110, 3) := by decide +kernel
theorem dX12_lookOn_81 : decode cX12_lookOn 81 = .ok (.iconst 1, 1) := by decide +kernel
theorem dX12_lookOn_82 : decode cX12_lookOn 82 = .ok (.if_icmp .eq 12, 3) := by decide +kernel
theorem dX12_lookOn_85 : decode cX12_lookOn 85 = .ok (.aload_n 0, 1) := by decide +kernel
theorem dX12_lookOn_86 : decode cX12_lookOn 86 = .ok (.aload_n 0, 1) := by decide +kernel
theorem dX12_lookOn_87 : decode cX12_lookOn 87 = .ok (.getfield 110, 3) := by decide +kernel
theorem dX12_lookOn_90 : decode cX12_lookOn 90 = .ok (.invokevirtual 137, 3) := by decide +kernel
theorem dX12_lookOn_93 : decode cX12_lookOn 93 = .ok (.ireturn, 1) := by decide +kernel
theorem dX12_lookOn_94 : decode cX12_lookOn 94 = .ok (.aload_n 0, 1) := by decide +kernel
theorem dX12_lookOn_95 : decode cX12_lookOn 95 = .ok (.iload_n 1, 1) := by decide +kernel
theorem dX12_lookOn_96 : decode cX12_lookOn 96 = .ok (.iload_n 3, 1) := by decide +kernel
theorem dX12_lookOn_97 : decode cX12_lookOn 97 = .ok (.aload_n 0, 1) := by decide +kernel
theorem dX12_lookOn_98 : decode cX12_lookOn 98 = .ok (.getfield 119, 3) := by decide +kernel
theorem dX12_lookOn_101 : decode cX12_lookOn 101 = .ok (.invokevirtual 168, 3) := by decide +kernel
theorem dX12_lookOn_104 : decode cX12_lookOn 104 = .ok (.ifCond .eq 11, 3) := by decide +kernel
theorem dX12_lookOn_107 : decode cX12_lookOn 107 = .ok (.aload_n 0, 1) := by decide +kernel
theorem dX12_lookOn_108 : decode cX12_lookOn 108 = .ok (.iload_n 2, 1) := by decide +kernel
theorem dX12_lookOn_109 : decode cX12_lookOn 109 = .ok (.iload 4, 2) := by decide +kernel
theorem dX12_lookOn_111 : decode cX12_lookOn 111 = .ok (.invokevirtual 134, 3) := by decide +kernel
theorem dX12_lookOn_114 : decode cX12_lookOn 114 = .ok (.ireturn, 1) := by decide +kernel
theorem dX12_lookOn_115 : decode cX12_lookOn 115 = .ok (.iinc 4 1, 3) := by decide +kernel
theorem dX12_lookOn_118 : decode cX12_lookOn 118 = .ok (.goto (-94), 3) := by decide +kernel
theorem dX12_lookAtDuring_0 : decode cX12_lookAtDuring 0 = .ok (.aload_n 0, 1) := by decide +kernel
theorem dX12_lookAtDuring_1 : decode cX12_lookAtDuring 1 = .ok (.iload_n 2, 1) := by decide +kernel
theorem dX12_lookAtDuring_2 : decode cX12_lookAtDuring 2 = .ok (.iload_n 3, 1) := by decide +kernel
theorem dX12_lookAtDuring_3 : decode cX12_lookAtDuring 3 = .ok (.invokevirtual 131, 3) := by decide +kernel
theorem dX12_lookAtDuring_6 : decode cX12_lookAtDuring 6 = .ok (.istore 4, 2) := by decide +kernel
theorem dX12_lookAtDuring_8 : decode cX12_lookAtDuring 8 = .ok (.iload 4, 2) := by decide +kernel
theorem dX12_lookAtDuring_10 : decode cX12_lookAtDuring 10 = .ok (.iconst (-1), 1) := by decide +kernel
theorem dX12_lookAtDuring_11 : decode cX12_lookAtDuring 11 = .ok (.if_icmp .eq 6, 3) := by decide +kernel
theorem dX12_lookAtDuring_14 : decode cX12_lookAtDuring 14 = .ok (.iload 4, 2) := by decide +kernel
theorem dX12_lookAtDuring_16 : decode cX12_lookAtDuring 16 = .ok (.ireturn, 1) := by decide +kernel
theorem dX12_lookAtDuring_17 : decode cX12_lookAtDuring 17 = .ok (.aload_n 0, 1) := by decide +kernel
theorem dX12_lookAtDuring_18 : decode cX12_lookAtDuring 18 = .ok (.getfield 110, 3) := by decide +kernel
theorem dX12_lookAtDuring_21 : decode cX12_lookAtDuring 21 = .ok (.iconst 1, 1) := by decide +kernel
theorem dX12_lookAtDuring_22 : decode cX12_lookAtDuring 22 = .ok (.if_icmp .eq 12, 3) := by decide +kernel
theorem dX12_lookAtDuring_25 : decode cX12_lookAtDuring 25 = .ok (.aload_n 0, 1) := by decide +kernel
theorem dX12_lookAtDuring_26 : decode cX12_lookAtDuring 26 = .ok (.aload_n 0, 1) := by decide +kernel
theorem dX12_lookAtDuring_27 : decode cX12_lookAtDuring 27 = .ok (.getfield 110, 3) := by decide +kernel
theorem dX12_lookAtDuring_30 : decode cX12_lookAtDuring 30 = .ok (.invokevirtual 137, 3) := by decide +kernel
theorem dX12_lookAtDuring_33 : decode cX12_lookAtDuring 33 = .ok (.ireturn, 1) := by decide +kernel
theorem dX12_lookAtDuring_34 : decode cX12_lookAtDuring 34 = .ok (.aload_n 0, 1) := by decide +kernel
theorem dX12_lookAtDuring_35 : decode cX12_lookAtDuring 35 = .ok (.iload_n 2, 1) := by decide +kernel
theorem dX12_lookAtDuring_36 : decode cX12_lookAtDuring 36 = .ok (.iload_n 3, 1) := by decide +kernel
theorem dX12_lookAtDuring_37 : decode cX12_lookAtDuring 37 = .ok (.invokevirtual 165, 3) := by decide +kernel
theorem dX12_lookAtDuring_40 : decode cX12_lookAtDuring 40 = .ok (.istore 4, 2) := by decide +kernel
theorem dX12_lookAtDuring_42 : decode cX12_lookAtDuring 42 = .ok (.iload 4, 2) := by decide +kernel
theorem dX12_lookAtDuring_44 : decode cX12_lookAtDuring 44 = .ok (.iconst (-1), 1) := by decide +kernel
theorem dX12_lookAtDuring_45 : decode cX12_lookAtDuring 45 = .ok (.if_icmp .eq 6, 3) := by decide +kernel
theorem dX12_lookAtDuring_48 : decode cX12_lookAtDuring 48 = .ok (.iload 4, 2) := by decide +kernel
theorem dX12_lookAtDuring_50 : decode cX12_lookAtDuring 50 = .ok (.ireturn, 1) := by decide +kernel
theorem dX12_lookAtDuring_51 : decode cX12_lookAtDuring 51 = .ok (.aload_n 0, 1) := by decide +kernel
theorem dX12_lookAtDuring_52 : decode cX12_lookAtDuring 52 = .ok (.getfield 110, 3) := by decide +kernel
theorem dX12_lookAtDuring_55 : decode cX12_lookAtDuring 55 = .ok (.iconst 1, 1) := by decide +kernel
theorem dX12_lookAtDuring_56 : decode cX12_lookAtDuring 56 = .ok (.if_icmp .eq 12, 3) := by decide +kernel
theorem dX12_lookAtDuring_59 : decode cX12_lookAtDuring 59 = .ok (.aload_n 0, 1) := by decide +kernel
theorem dX12_lookAtDuring_60 : decode cX12_lookAtDuring 60 = .ok (.aload_n 0, 1) := by decide +kernel
theorem dX12_lookAtDuring_61 : decode cX12_lookAtDuring 61 = .ok (.getfield 110, 3) := by decide +kernel
theorem dX12_lookAtDuring_64 : decode cX12_lookAtDuring 64 = .ok (.invokevirtual 137, 3) := by decide +kernel
theorem dX12_lookAtDuring_67 : decode cX12_lookAtDuring 67 = .ok (.ireturn, 1) := by decide +kernel
theorem dX12_lookAtDuring_68 : decode cX12_lookAtDuring 68 = .ok (.aload_n 0, 1) := by decide +kernel
theorem dX12_lookAtDuring_69 : decode cX12_lookAtDuring 69 = .ok (.getfield 19, 3) := by decide +kernel
theorem dX12_lookAtDuring_72 : decode cX12_lookAtDuring 72 = .ok (.iload_n 1, 1) := by decide +kernel
theorem dX12_lookAtDuring_73 : decode cX12_lookAtDuring 73 = .ok (.iaload, 1) := by decide +kernel
theorem dX12_lookAtDuring_74 : decode cX12_lookAtDuring 74 = .ok (.aload_n 0, 1) := by decide +kernel
theorem dX12_lookAtDuring_75 : decode cX12_lookAtDuring 75 = .ok (.getfield 119, 3) := by decide +kernel
theorem dX12_lookAtDuring_78 : decode cX12_lookAtDuring 78 = .ok (.aload_n 0, 1) := by decide +kernel
theorem dX12_lookAtDuring_79 : decode cX12_lookAtDuring 79 = .ok (.getfield 22, 3) := by decide +kernel
theorem dX12_lookAtDuring_82 : decode cX12_lookAtDuring 82 = .ok (.iload_n 1, 1) := by decide +kernel
theorem dX12_lookAtDuring_83 : decode cX12_lookAtDuring 83 = .ok (.laload, 1) := by decide +kernel
theorem dX12_lookAtDuring_84 : decode cX12_lookAtDuring 84 = .ok (.invokestatic 172, 3) := by decide +kernel
theorem dX12_lookAtDuring_87 : decode cX12_lookAtDuring 87 = .ok (.ifCond .eq 12, 3) := by decide +kernel
theorem dX12_lookAtDuring_90 : decode cX12_lookAtDuring 90 = .ok (.aload_n 0, 1) := by decide +kernel
theorem dX12_lookAtDuring_91 : decode cX12_lookAtDuring 91 = .ok (.iload_n 2, 1) := by decide +kernel
theorem dX12_lookAtDuring_92 : decode cX12_lookAtDuring 92 = .ok (.iload_n 3, 1) := by decide +kernel
theorem dX12_lookAtDuring_93 : decode cX12_lookAtDuring 93 = .ok (.invokevirtual 134, 3) := by decide +kernel
theorem dX12_lookAtDuring_96 : decode cX12_lookAtDuring 96 = .ok (.goto 8, 3) := by decide +kernel
theorem dX12_lookAtDuring_99 : decode cX12_lookAtDuring 99 = .ok (.aload_n 0, 1) := by decide +kernel
theorem dX12_lookAtDuring_100 : decode cX12_lookAtDuring 100 = .ok (.iconst 2, 1) := by decide +kernel
theorem dX12_lookAtDuring_101 : decode cX12_lookAtDuring 101 = .ok (.invokevirtual 137, 3) := by decide +kernel
theorem dX12_lookAtDuring_104 : decode cX12_lookAtDuring 104 = .ok (.ireturn, 1) := by decide +kernel
theorem dX12_lookAtJoin_0 : decode cX12_lookAtJoin 0 = .ok (.aload_n 0, 1) := by decide +kernel
theorem dX12_lookAtJoin_1 : decode cX12_lookAtJoin 1 = .ok (.iload_n 1, 1) := by decide +kernel
theorem dX12_lookAtJoin_2 : decode cX12_lookAtJoin 2 = .ok (.iload_n 3, 1) := by decide +kernel
theorem dX12_lookAtJoin_3 : decode cX12_lookAtJoin 3 = .ok (.invokevirtual 131, 3) := by decide +kernel
theorem dX12_lookAtJoin_6 : decode cX12_lookAtJoin 6 = .ok (.istore 4, 2) := by decide +kernel
theorem dX12_lookAtJoin_8 : decode cX12_lookAtJoin 8 = .ok (.iload 4, 2) := by decide +kernel
theorem dX12_lookAtJoin_10 : decode cX12_lookAtJoin 10 = .ok (.iconst (-1), 1) := by decide +kernel
theorem dX12_lookAtJoin_11 : decode cX12_lookAtJoin 11 = .ok (.if_icmp .eq 6, 3) := by decide +kernel
theorem dX12_lookAtJoin_14 : decode cX12_lookAtJoin 14 = .ok (.iload 4, 2) := by decide +kernel
theorem dX12_lookAtJoin_16 : decode cX12_lookAtJoin 16 = .ok (.ireturn, 1) := by decide +kernel
theorem dX12_lookAtJoin_17 : decode cX12_lookAtJoin 17 = .ok (.aload_n 0, 1) := by decide +kernel
theorem dX12_lookAtJoin_18 : decode cX12_lookAtJoin 18 = .ok (.getfield 110, 3) := by decide +kernel
theorem dX12_lookAtJoin_21 : decode cX12_lookAtJoin 21 = .ok (.iconst 2, 1) := by decide +kernel
theorem dX12_lookAtJoin_22 : decode cX12_lookAtJoin 22 = .ok (.if_icmp .ne 16, 3) := by decide +kernel
theorem dX12_lookAtJoin_25 : decode cX12_lookAtJoin 25 = .ok (.aload_n 0, 1) := by decide +kernel
theorem dX12_lookAtJoin_26 : decode cX12_lookAtJoin 26 = .ok (.iload_n 2, 1) := by decide +kernel
theorem dX12_lookAtJoin_27 : decode cX12_lookAtJoin 27 = .ok (.iload_n 3, 1) := by decide +kernel
theorem dX12_lookAtJoin_28 : decode cX12_lookAtJoin 28 = .ok (.aload_n 0, 1) := by decide +kernel
theorem dX12_lookAtJoin_29 : decode cX12_lookAtJoin 29 = .ok (.getfield 113, 3) := by decide +kernel
theorem dX12_lookAtJoin_32 : decode cX12_lookAtJoin 32 = .ok (.isub, 1) := by decide +kernel
theorem dX12_lookAtJoin_33 : decode cX12_lookAtJoin 33 = .ok (.iconst 1, 1) := by decide +kernel
theorem dX12_lookAtJoin_34 : decode cX12_lookAtJoin 34 = .ok (.invokevirtual 140, 3) := by decide +kernel
theorem dX12_lookAtJoin_37 : decode cX12_lookAtJoin 37 = .ok (.ireturn, 1) := by decide +kernel
theorem dX12_lookAtJoin_38 : decode cX12_lookAtJoin 38 = .ok (.aload_n 0, 1) := by decide +kernel
theorem dX12_lookAtJoin_39 : decode cX12_lookAtJoin 39 = .ok (.getfield 110, 3) := by decide +kernel
theorem dX12_lookAtJoin_42 : decode cX12_lookAtJoin 42 = .ok (.iconst 1, 1) := by decide +kernel
theorem dX12_lookAtJoin_43 : decode cX12_lookAtJoin 43 = .ok (.if_icmp .ne 12, 3) := by decide +kernel
theorem dX12_lookAtJoin_46 : decode cX12_lookAtJoin 46 = .ok (.aload_n 0, 1) := by decide +kernel
theorem dX12_lookAtJoin_47 : decode cX12_lookAtJoin 47 = .ok (.iload_n 1, 1) := by decide +kernel
theorem dX12_lookAtJoin_48 : decode cX12_lookAtJoin 48 = .ok (.iload_n 3, 1) := by decide +kernel
theorem dX12_lookAtJoin_49 : decode cX12_lookAtJoin 49 = .ok (.invokevirtual 134, 3) := by decide +kernel
theorem dX12_lookAtJoin_52 : decode cX12_lookAtJoin 52 = .ok (.goto 11, 3) := by decide +kernel
theorem dX12_lookAtJoin_55 : decode cX12_lookAtJoin 55 = .ok (.aload_n 0, 1) := by decide +kernel
theorem dX12_lookAtJoin_56 : decode cX12_lookAtJoin 56 = .ok (.aload_n 0, 1) := by decide +kernel
theorem dX12_lookAtJoin_57 : decode cX12_lookAtJoin 57 = .ok (.getfield 110, 3) := by decide +kernel
theorem dX12_lookAtJoin_60 : decode cX12_lookAtJoin 60 = .ok (.invokevirtual 137, 3) := by decide +kernel
theorem dX12_lookAtJoin_63 : decode cX12_lookAtJoin 63 = .ok (.ireturn, 1) := by decide +kernel
theorem dX12_lookAtRound_0 : decode cX12_lookAtRound 0 = .ok (.aload_n 0, 1) := by decide +kernel
theorem dX12_lookAtRound_1 : decode cX12_lookAtRound 1 = .ok (.iload_n 1, 1) := by decide +kernel
theorem dX12_lookAtRound_2 : decode cX12_lookAtRound 2 = .ok (.iload_n 2, 1) := by decide +kernel
theorem dX12_lookAtRound_3 : decode cX12_lookAtRound 3 = .ok (.invokevirtual 131, 3) := by decide +kernel
theorem dX12_lookAtRound_6 : decode cX12_lookAtRound 6 = .ok (.istore_n 3, 1) := by decide +kernel
theorem dX12_lookAtRound_7 : decode cX12_lookAtRound 7 = .ok (.iload_n 3, 1) := by decide +kernel
theorem dX12_lookAtRound_8 : decode cX12_lookAtRound 8 = .ok (.iconst (-1), 1) := by decide +kernel
theorem dX12_lookAtRound_9 : decode cX12_lookAtRound 9 = .ok (.if_icmp .eq 5, 3) := by decide +kernel
theorem dX12_lookAtRound_12 : decode cX12_lookAtRound 12 = .ok (.iload_n 3, 1) := by decide +kernel
theorem dX12_lookAtRound_13 : decode cX12_lookAtRound 13 = .ok (.ireturn, 1) := by decide +kernel
theorem dX12_lookAtRound_14 : decode cX12_lookAtRound 14 = .ok (.aload_n 0, 1) := by decide +kernel
theorem dX12_lookAtRound_15 : decode cX12_lookAtRound 15 = .ok (.getfield 110, 3) := by decide +kernel
theorem dX12_lookAtRound_18 : decode cX12_lookAtRound 18 = .ok (.iconst 2, 1) := by decide +kernel
theorem dX12_lookAtRound_19 : decode cX12_lookAtRound 19 = .ok (.if_icmp .ne 30, 3) := by decide +kernel
theorem dX12_lookAtRound_22 : decode cX12_lookAtRound 22 = .ok (.aload_n 0, 1) := by decide +kernel
theorem dX12_lookAtRound_23 : decode cX12_lookAtRound 23 = .ok (.getfield 113, 3) := by decide +kernel
theorem dX12_lookAtRound_26 : decode cX12_lookAtRound 26 = .ok (.ifCond .ne 11, 3) := by decide +kernel
theorem dX12_lookAtRound_29 : decode cX12_lookAtRound 29 = .ok (.aload_n 0, 1) := by decide +kernel
theorem dX12_lookAtRound_30 : decode cX12_lookAtRound 30 = .ok (.iconst 5, 1) := by decide +kernel
theorem dX12_lookAtRound_31 : decode cX12_lookAtRound 31 = .ok (.invokevirtual 137, 3) := by decide +kernel
theorem dX12_lookAtRound_34 : decode cX12_lookAtRound 34 = .ok (.goto 14, 3) := by decide +kernel
theorem dX12_lookAtRound_37 : decode cX12_lookAtRound 37 = .ok (.aload_n 0, 1) := by decide +kernel
theorem dX12_lookAtRound_38 : decode cX12_lookAtRound 38 = .ok (.iload_n 1, 1) := by decide +kernel
theorem dX12_lookAtRound_39 : decode cX12_lookAtRound 39 = .ok (.iload_n 2, 1) := by decide +kernel
theorem dX12_lookAtRound_40 : decode cX12_lookAtRound 40 = .ok (.aload_n 0, 1) := by decide +kernel
theorem dX12_lookAtRound_41 : decode cX12_lookAtRound 41 = .ok (.getfield 113, 3) := by decide +kernel
theorem dX12_lookAtRound_44 : decode cX12_lookAtRound 44 = .ok (.irem, 1) := by decide +kernel
theorem dX12_lookAtRound_45 : decode cX12_lookAtRound 45 = .ok (.invokevirtual 134, 3) := by decide +kernel
theorem dX12_lookAtRound_48 : decode cX12_lookAtRound 48 = .ok (.ireturn, 1) := by decide +kernel
theorem dX12_lookAtRound_49 : decode cX12_lookAtRound 49 = .ok (.aload_n 0, 1) := by decide +kernel
theorem dX12_lookAtRound_50 : decode cX12_lookAtRound 50 = .ok (.getfield 110, 3) := by decide +kernel
theorem dX12_lookAtRound_53 : decode cX12_lookAtRound 53 = .ok (.iconst 1, 1) := by decide +kernel
theorem dX12_lookAtRound_54 : decode cX12_lookAtRound 54 = .ok (.if_icmp .ne 12, 3) := by decide +kernel
theorem dX12_lookAtRound_57 : decode cX12_lookAtRound 57 = .ok (.aload_n 0, 1) := by decide +kernel
theorem dX12_lookAtRound_58 : decode cX12_lookAtRound 58 = .ok (.iload_n 1, 1) := by decide +kernel
theorem dX12_lookAtRound_59 : decode cX12_lookAtRound 59 = .ok (.iload_n 2, 1) := by decide +kernel
theorem dX12_lookAtRound_60 : decode cX12_lookAtRound 60 = .ok (.invokevirtual 134, 3) := by decide +kernel
theorem dX12_lookAtRound_63 : decode cX12_lookAtRound 63 = .ok (.goto 11, 3) := by decide +kernel
theorem dX12_lookAtRound_66 : decode cX12_lookAtRound 66 = .ok (.aload_n 0, 1) := by decide +kernel
theorem dX12_lookAtRound_67 : decode cX12_lookAtRound 67 = .ok (.aload_n 0, 1) := by decide +kernel
theorem dX12_lookAtRound_68 : decode cX12_lookAtRound 68 = .ok (.getfield 110, 3) := by decide +kernel
theorem dX12_lookAtRound_71 : decode cX12_lookAtRound 71 = .ok (.invokevirtual 137, 3) := by decide +kernel
theorem dX12_lookAtRound_74 : decode cX12_lookAtRound 74 = .ok (.ireturn, 1) := by decide +kernel
theorem dX12_lookAtAll_0 : decode cX12_lookAtAll 0 = .ok (.aload_n 0, 1) := by decide +kernel
theorem dX12_lookAtAll_1 : decode cX12_lookAtAll 1 = .ok (.iload_n 2, 1) := by decide +kernel
theorem dX12_lookAtAll_2 : decode cX12_lookAtAll 2 = .ok (.sipush 400, 3) := by decide +kernel
theorem dX12_lookAtAll_5 : decode cX12_lookAtAll 5 = .ok (.invokevirtual 131, 3) := by decide +kernel
theorem dX12_lookAtAll_8 : decode cX12_lookAtAll 8 = .ok (.istore 4, 2) := by decide +kernel
theorem dX12_lookAtAll_10 : decode cX12_lookAtAll 10 = .ok (.iload 4, 2) := by decide +kernel
theorem dX12_lookAtAll_12 : decode cX12_lookAtAll 12 = .ok (.iconst (-1), 1) := by decide +kernel
theorem dX12_lookAtAll_13 : decode cX12_lookAtAll 13 = .ok (.if_icmp .eq 6, 3) := by decide +kernel
theorem dX12_lookAtAll_16 : decode cX12_lookAtAll 16 = .ok (.iload 4, 2) := by decide +kernel
theorem dX12_lookAtAll_18 : decode cX12_lookAtAll 18 = .ok (.ireturn, 1) := by decide +kernel
theorem dX12_lookAtAll_19 : decode cX12_lookAtAll 19 = .ok (.aload_n 0, 1) := by decide +kernel
theorem dX12_lookAtAll_20 : decode cX12_lookAtAll 20 = .ok (.getfield 110, 3) := by decide +kernel
theorem dX12_lookAtAll_23 : decode cX12_lookAtAll 23 = .ok (.iconst 2, 1) := by decide +kernel
theorem dX12_lookAtAll_24 : decode cX12_lookAtAll 24 = .ok (.if_icmp .eq 12, 3) := by decide +kernel
theorem dX12_lookAtAll_27 : decode cX12_lookAtAll 27 = .ok (.aload_n 0, 1) := by decide +kernel
theorem dX12_lookAtAll_28 : decode cX12_lookAtAll 28 = .ok (.aload_n 0, 1) := by decide +kernel
theorem dX12_lookAtAll_29 : decode cX12_lookAtAll 29 = .ok (.getfield 110, 3) := by decide +kernel
theorem dX12_lookAtAll_32 : decode cX12_lookAtAll 32 = .ok (.invokevirtual 137, 3) := by decide +kernel
theorem dX12_lookAtAll_35 : decode cX12_lookAtAll 35 = .ok (.ireturn, 1) := by decide +kernel
theorem dX12_lookAtAll_36 : decode cX12_lookAtAll 36 = .ok (.aload_n 0, 1) := by decide +kernel
theorem dX12_lookAtAll_37 : decode cX12_lookAtAll 37 = .ok (.getfield 113, 3) := by decide +kernel
theorem dX12_lookAtAll_40 : decode cX12_lookAtAll 40 = .ok (.istore 5, 2) := by decide +kernel
theorem dX12_lookAtAll_42 : decode cX12_lookAtAll 42 = .ok (.iload_n 3, 1) := by decide +kernel
theorem dX12_lookAtAll_43 : decode cX12_lookAtAll 43 = .ok (.iload 5, 2) := by decide +kernel
theorem dX12_lookAtAll_45 : decode cX12_lookAtAll 45 = .ok (.if_icmp .ne 9, 3) := by decide +kernel
theorem dX12_lookAtAll_48 : decode cX12_lookAtAll 48 = .ok (.aload_n 0, 1) := by decide +kernel
theorem dX12_lookAtAll_49 : decode cX12_lookAtAll 49 = .ok (.iconst 2, 1) := by decide +kernel
theorem dX12_lookAtAll_50 : decode cX12_lookAtAll 50 = .ok (.invokevirtual 137, 3) := by decide +kernel
theorem dX12_lookAtAll_53 : decode cX12_lookAtAll 53 = .ok (.ireturn, 1) := by decide +kernel
theorem dX12_lookAtAll_54 : decode cX12_lookAtAll 54 = .ok (.aload_n 0, 1) := by decide +kernel
theorem dX12_lookAtAll_55 : decode cX12_lookAtAll 55 = .ok (.getfield 7, 3) := by decide +kernel
theorem dX12_lookAtAll_58 : decode cX12_lookAtAll 58 = .ok (.iload_n 1, 1) := by decide +kernel
theorem dX12_lookAtAll_59 : decode cX12_lookAtAll 59 = .ok (.iaload, 1) := by decide +kernel
theorem dX12_lookAtAll_60 : decode cX12_lookAtAll 60 = .ok (.bipush 13, 2) := by decide +kernel
theorem dX12_lookAtAll_62 : decode cX12_lookAtAll 62 = .ok (.if_icmp .ne 15, 3) := by decide +kernel
theorem dX12_lookAtAll_65 : decode cX12_lookAtAll 65 = .ok (.aload_n 0, 1) := by decide +kernel
theorem dX12_lookAtAll_66 : decode cX12_lookAtAll 66 = .ok (.iload_n 2, 1) := by decide +kernel
theorem dX12_lookAtAll_67 : decode cX12_lookAtAll 67 = .ok (.iload 5, 2) := by decide +kernel
theorem dX12_lookAtAll_69 : decode cX12_lookAtAll 69 = .ok (.iconst 1, 1) := by decide +kernel
theorem dX12_lookAtAll_70 : decode cX12_lookAtAll 70 = .ok (.isub, 1) := by decide +kernel
theorem dX12_lookAtAll_71 : decode cX12_lookAtAll 71 = .ok (.iload_n 3, 1) := by decide +kernel
theorem dX12_lookAtAll_72 : decode cX12_lookAtAll 72 = .ok (.isub, 1) := by decide +kernel
theorem dX12_lookAtAll_73 : decode cX12_lookAtAll 73 = .ok (.invokevirtual 134, 3) := by decide +kernel
theorem dX12_lookAtAll_76 : decode cX12_lookAtAll 76 = .ok (.ireturn, 1) := by decide +kernel
theorem dX12_lookAtAll_77 : decode cX12_lookAtAll 77 = .ok (.iconst 0, 1) := by decide +kernel
theorem dX12_lookAtAll_78 : decode cX12_lookAtAll 78 = .ok (.istore 6, 2) := by decide +kernel
theorem dX12_lookAtAll_80 : decode cX12_lookAtAll 80 = .ok (.iload 6, 2) := by decide +kernel
theorem dX12_lookAtAll_82 : decode cX12_lookAtAll 82 = .ok (.iload 5, 2) := by decide +kernel
theorem dX12_lookAtAll_84 : decode cX12_lookAtAll 84 = .ok (.if_icmp .ge 44, 3) := by decide +kernel
theorem dX12_lookAtAll_87 : decode cX12_lookAtAll 87 = .ok (.aload_n 0, 1) := by decide +kernel
theorem dX12_lookAtAll_88 : decode cX12_lookAtAll 88 = .ok (.iload_n 2, 1) := by decide +kernel
theorem dX12_lookAtAll_89 : decode cX12_lookAtAll 89 = .ok (.iload 6, 2) := by decide +kernel
theorem dX12_lookAtAll_91 : decode cX12_lookAtAll 91 = .ok (.invokevirtual 165, 3) := by decide +kernel
theorem dX12_lookAtAll_94 : decode cX12_lookAtAll 94 = .ok (.istore 4, 2) := by decide +kernel
theorem dX12_lookAtAll_96 : decode cX12_lookAtAll 96 = .ok (.iload 4, 2) := by decide +kernel
theorem dX12_lookAtAll_98 : decode cX12_lookAtAll 98 = .ok (.iconst (-1), 1) := by decide +kernel
theorem dX12_lookAtAll_99 : decode cX12_lookAtAll 99 = .ok (.if_icmp .eq 6, 3) := by decide +kernel
theorem dX12_lookAtAll_102 : decode cX12_lookAtAll 102 = .ok (.iload 4, 2) := by decide +kernel
theorem dX12_lookAtAll_104 : decode cX12_lookAtAll 104 = .ok (.ireturn, 1) := by decide +kernel
theorem dX12_lookAtAll_105 : decode cX12_lookAtAll 105 = .ok (.aload_n 0, 1) := by decide +kernel
theorem dX12_lookAtAll_106 : decode cX12_lookAtAll 106 = .ok (.getfield 110, 3) := by decide +kernel
theorem dX12_lookAtAll_109 : decode cX12_lookAtAll 109 = .ok (.iconst 1, 1) := by decide +kernel
theorem dX12_lookAtAll_110 : decode cX12_lookAtAll 110 = .ok (.if_icmp .eq 12, 3) := by decide +kernel
theorem dX12_lookAtAll_113 : decode cX12_lookAtAll 113 = .ok (.aload_n 0, 1) := by decide +kernel
theorem dX12_lookAtAll_114 : decode cX12_lookAtAll 114 = .ok (.aload_n 0, 1) := by decide +kernel
theorem dX12_lookAtAll_115 : decode cX12_lookAtAll 115 = .ok (.getfield 110, 3) := by decide +kernel
theorem dX12_lookAtAll_118 : decode cX12_lookAtAll 118 = .ok (.invokevirtual 137, 3) := by decide +kernel
theorem dX12_lookAtAll_121 : decode cX12_lookAtAll 121 = .ok (.ireturn, 1) := by decide +kernel
theorem dX12_lookAtAll_122 : decode cX12_lookAtAll 122 = .ok (.iinc 6 1, 3) := by decide +kernel
theorem dX12_lookAtAll_125 : decode cX12_lookAtAll 125 = .ok (.goto (-45), 3) := by decide +kernel
theorem dX12_lookAtAll_128 : decode cX12_lookAtAll 128 = .ok (.iconst 0, 1) := by decide +kernel
theorem dX12_lookAtAll_129 : decode cX12_lookAtAll 129 = .ok (.istore 6, 2) := by decide +kernel
theorem dX12_lookAtAll_131 : decode cX12_lookAtAll 131 = .ok (.iload 6, 2) := by decide +kernel
theorem dX12_lookAtAll_133 : decode cX12_lookAtAll 133 = .ok (.iload 5, 2) := by decide +kernel
theorem dX12_lookAtAll_135 : decode cX12_lookAtAll 135 = .ok (.if_icmp .ge 103, 3) := by decide +kernel
theorem dX12_lookAtAll_138 : decode cX12_lookAtAll 138 = .ok (.aload_n 0, 1) := by decide +kernel
theorem dX12_lookAtAll_139 : decode cX12_lookAtAll 139 = .ok (.getfield 35, 3) := by decide +kernel
theorem dX12_lookAtAll_142 : decode cX12_lookAtAll 142 = .ok (.aload_n 0, 1) := by decide +kernel
theorem dX12_lookAtAll_143 : decode cX12_lookAtAll 143 = .ok (.iload_n 2, 1) := by decide +kernel
theorem dX12_lookAtAll_144 : decode cX12_lookAtAll 144 = .ok (.iload 6, 2) := by decide +kernel
theorem dX12_lookAtAll_146 : decode cX12_lookAtAll 146 = .ok (.invokevirtual 116, 3) := by decide +kernel
theorem dX12_lookAtAll_149 : decode cX12_lookAtAll 149 = .ok (.laload, 1) := by decide +kernel
theorem dX12_lookAtAll_150 : decode cX12_lookAtAll 150 = .ok (.lstore 7, 2) := by decide +kernel
theorem dX12_lookAtAll_152 : decode cX12_lookAtAll 152 = .ok (.iconst 0, 1) := by decide +kernel
theorem dX12_lookAtAll_153 : decode cX12_lookAtAll 153 = .ok (.istore 9, 2) := by decide +kernel
theorem dX12_lookAtAll_155 : decode cX12_lookAtAll 155 = .ok (.iconst 0, 1) := by decide +kernel
theorem dX12_lookAtAll_156 : decode cX12_lookAtAll 156 = .ok (.istore 10, 2) := by decide +kernel
theorem dX12_lookAtAll_158 : decode cX12_lookAtAll 158 = .ok (.iload 10, 2) := by decide +kernel
theorem dX12_lookAtAll_160 : decode cX12_lookAtAll 160 = .ok (.iload 5, 2) := by decide +kernel
theorem dX12_lookAtAll_162 : decode cX12_lookAtAll 162 = .ok (.if_icmp .ge 56, 3) := by decide +kernel
theorem dX12_lookAtAll_165 : decode cX12_lookAtAll 165 = .ok (.aload_n 0, 1) := by decide +kernel
theorem dX12_lookAtAll_166 : decode cX12_lookAtAll 166 = .ok (.getfield 35, 3) := by decide +kernel
theorem dX12_lookAtAll_169 : decode cX12_lookAtAll 169 = .ok (.aload_n 0, 1) := by decide +kernel
theorem dX12_lookAtAll_170 : decode cX12_lookAtAll 170 = .ok (.iload_n 2, 1) := by decide +kernel
theorem dX12_lookAtAll_171 : decode cX12_lookAtAll 171 = .ok (.iload 10, 2) := by decide +kernel
theorem dX12_lookAtAll_173 : decode cX12_lookAtAll 173 = .ok (.invokevirtual 116, 3) := by decide +kernel
theorem dX12_lookAtAll_176 : decode cX12_lookAtAll 176 = .ok (.laload, 1) := by decide +kernel
theorem dX12_lookAtAll_177 : decode cX12_lookAtAll 177 = .ok (.lstore 11, 2) := by decide +kernel
theorem dX12_lookAtAll_179 : decode cX12_lookAtAll 179 = .ok (.iload 9, 2) := by decide +kernel
theorem dX12_lookAtAll_181 : decode cX12_lookAtAll 181 = .ok (.lload 11, 2) := by decide +kernel
theorem dX12_lookAtAll_183 : decode cX12_lookAtAll 183 = .ok (.lload 7, 2) := by decide +kernel
theorem dX12_lookAtAll_185 : decode cX12_lookAtAll 185 = .ok (.lcmp, 1) := by decide +kernel
theorem dX12_lookAtAll_186 : decode cX12_lookAtAll 186 = .ok (.ifCond .lt 18, 3) := by decide +kernel
theorem dX12_lookAtAll_189 : decode cX12_lookAtAll 189 = .ok (.lload 11, 2) := by decide +kernel
theorem dX12_lookAtAll_191 : decode cX12_lookAtAll 191 = .ok (.lload 7, 2) := by decide +kernel
theorem dX12_lookAtAll_193 : decode cX12_lookAtAll 193 = .ok (.lcmp, 1) := by decide +kernel
theorem dX12_lookAtAll_194 : decode cX12_lookAtAll 194 = .ok (.ifCond .ne 14, 3) := by decide +kernel
theorem dX12_lookAtAll_197 : decode cX12_lookAtAll 197 = .ok (.iload 10, 2) := by decide +kernel
theorem dX12_lookAtAll_199 : decode cX12_lookAtAll 199 = .ok (.iload 6, 2) := by decide +kernel
theorem dX12_lookAtAll_201 : decode cX12_lookAtAll 201 = .ok (.if_icmp .ge 7, 3) := by decide +kernel
theorem dX12_lookAtAll_204 : decode cX12_lookAtAll 204 = .ok (.iconst 1, 1) := by decide +kernel
theorem dX12_lookAtAll_205 : decode cX12_lookAtAll 205 = .ok (.goto 4, 3) := by decide +kernel
theorem dX12_lookAtAll_208 : decode cX12_lookAtAll 208 = .ok (.iconst 0, 1) := by decide +kernel
theorem dX12_lookAtAll_209 : decode cX12_lookAtAll 209 = .ok (.iadd, 1) := by decide +kernel
theorem dX12_lookAtAll_210 : decode cX12_lookAtAll 210 = .ok (.istore 9, 2) := by decide +kernel
theorem dX12_lookAtAll_212 : decode cX12_lookAtAll 212 = .ok (.iinc 10 1, 3) := by decide +kernel
theorem dX12_lookAtAll_215 : decode cX12_lookAtAll 215 = .ok (.goto (-57), 3) := by decide +kernel
theorem dX12_lookAtAll_218 : decode cX12_lookAtAll 218 = .ok (.iload 9, 2) := by decide +kernel
theorem dX12_lookAtAll_220 : decode cX12_lookAtAll 220 = .ok (.iload_n 3, 1) := by decide +kernel
theorem dX12_lookAtAll_221 : decode cX12_lookAtAll 221 = .ok (.if_icmp .ne 11, 3) := by decide +kernel
theorem dX12_lookAtAll_224 : decode cX12_lookAtAll 224 = .ok (.aload_n 0, 1) := by decide +kernel
theorem dX12_lookAtAll_225 : decode cX12_lookAtAll 225 = .ok (.iload_n 2, 1) := by decide +kernel
theorem dX12_lookAtAll_226 : decode cX12_lookAtAll 226 = .ok (.iload 6, 2) := by decide +kernel
theorem dX12_lookAtAll_228 : decode cX12_lookAtAll 228 = .ok (.invokevirtual 134, 3) := by decide +kernel
theorem dX12_lookAtAll_231 : decode cX12_lookAtAll 231 = .ok (.ireturn, 1) := by decide +kernel
theorem dX12_lookAtAll_232 : decode cX12_lookAtAll 232 = .ok (.iinc 6 1, 3) := by decide +kernel
theorem dX12_lookAtAll_235 : decode cX12_lookAtAll 235 = .ok (.goto (-104), 3) := by decide +kernel
theorem dX12_lookAtAll_238 : decode cX12_lookAtAll 238 = .ok (.aload_n 0, 1) := by decide +kernel
theorem dX12_lookAtAll_239 : decode cX12_lookAtAll 239 = .ok (.iconst 2, 1) := by decide +kernel
theorem dX12_lookAtAll_240 : decode cX12_lookAtAll 240 = .ok (.invokevirtual 137, 3) := by decide +kernel
theorem dX12_lookAtAll_243 : decode cX12_lookAtAll 243 = .ok (.ireturn, 1) := by decide +kernel
theorem dX12_lookAtRun_0 : decode cX12_lookAtRun 0 = .ok (.aload_n 0, 1) := by decide +kernel
theorem dX12_lookAtRun_1 : decode cX12_lookAtRun 1 = .ok (.getfield 13, 3) := by decide +kernel
theorem dX12_lookAtRun_4 : decode cX12_lookAtRun 4 = .ok (.iload_n 1, 1) := by decide +kernel
theorem dX12_lookAtRun_5 : decode cX12_lookAtRun 5 = .ok (.iaload, 1) := by decide +kernel
theorem dX12_lookAtRun_6 : decode cX12_lookAtRun 6 = .ok (.istore_n 3, 1) := by decide +kernel
theorem dX12_lookAtRun_7 : decode cX12_lookAtRun 7 = .ok (.iload_n 2, 1) := by decide +kernel
theorem dX12_lookAtRun_8 : decode cX12_lookAtRun 8 = .ok (.ifCond .ne 7, 3) := by decide +kernel
theorem dX12_lookAtRun_11 : decode cX12_lookAtRun 11 = .ok (.iconst 0, 1) := by decide +kernel
theorem dX12_lookAtRun_12 : decode cX12_lookAtRun 12 = .ok (.goto 13, 3) := by decide +kernel
theorem dX12_lookAtRun_15 : decode cX12_lookAtRun 15 = .ok (.aload_n 0, 1) := by decide +kernel
theorem dX12_lookAtRun_16 : decode cX12_lookAtRun 16 = .ok (.getfield 41, 3) := by decide +kernel
theorem dX12_lookAtRun_19 : decode cX12_lookAtRun 19 = .ok (.iload_n 1, 1) := by decide +kernel
theorem dX12_lookAtRun_20 : decode cX12_lookAtRun 20 = .ok (.iload_n 2, 1) := by decide +kernel
theorem dX12_lookAtRun_21 : decode cX12_lookAtRun 21 = .ok (.invokestatic 106, 3) := by decide +kernel
theorem dX12_lookAtRun_24 : decode cX12_lookAtRun 24 = .ok (.iaload, 1) := by decide +kernel
theorem dX12_lookAtRun_25 : decode cX12_lookAtRun 25 = .ok (.istore 4, 2) := by decide +kernel
theorem dX12_lookAtRun_27 : decode cX12_lookAtRun 27 = .ok (.aload_n 0, 1) := by decide +kernel
theorem dX12_lookAtRun_28 : decode cX12_lookAtRun 28 = .ok (.iload_n 3, 1) := by decide +kernel
theorem dX12_lookAtRun_29 : decode cX12_lookAtRun 29 = .ok (.iload 4, 2) := by decide +kernel
theorem dX12_lookAtRun_31 : decode cX12_lookAtRun 31 = .ok (.invokevirtual 165, 3) := by decide +kernel
theorem dX12_lookAtRun_34 : decode cX12_lookAtRun 34 = .ok (.istore 5, 2) := by decide +kernel
theorem dX12_lookAtRun_36 : decode cX12_lookAtRun 36 = .ok (.iload 5, 2) := by decide +kernel
theorem dX12_lookAtRun_38 : decode cX12_lookAtRun 38 = .ok (.iconst (-1), 1) := by decide +kernel
theorem dX12_lookAtRun_39 : decode cX12_lookAtRun 39 = .ok (.if_icmp .eq 6, 3) := by decide +kernel
theorem dX12_lookAtRun_42 : decode cX12_lookAtRun 42 = .ok (.iload 5, 2) := by decide +kernel
theorem dX12_lookAtRun_44 : decode cX12_lookAtRun 44 = .ok (.ireturn, 1) := by decide +kernel
theorem dX12_lookAtRun_45 : decode cX12_lookAtRun 45 = .ok (.aload_n 0, 1) := by decide +kernel
theorem dX12_lookAtRun_46 : decode cX12_lookAtRun 46 = .ok (.getfield 110, 3) := by decide +kernel
theorem dX12_lookAtRun_49 : decode cX12_lookAtRun 49 = .ok (.iconst 1, 1) := by decide +kernel
theorem dX12_lookAtRun_50 : decode cX12_lookAtRun 50 = .ok (.if_icmp .eq 12, 3) := by decide +kernel
theorem dX12_lookAtRun_53 : decode cX12_lookAtRun 53 = .ok (.aload_n 0, 1) := by decide +kernel
theorem dX12_lookAtRun_54 : decode cX12_lookAtRun 54 = .ok (.aload_n 0, 1) := by decide +kernel
theorem dX12_lookAtRun_55 : decode cX12_lookAtRun 55 = .ok (.getfield 110, 3) := by decide +kernel
theorem dX12_lookAtRun_58 : decode cX12_lookAtRun 58 = .ok (.invokevirtual 137, 3) := by decide +kernel
theorem dX12_lookAtRun_61 : decode cX12_lookAtRun 61 = .ok (.ireturn, 1) := by decide +kernel
theorem dX12_lookAtRun_62 : decode cX12_lookAtRun 62 = .ok (.aload_n 0, 1) := by decide +kernel
theorem dX12_lookAtRun_63 : decode cX12_lookAtRun 63 = .ok (.getfield 119, 3) := by decide +kernel
theorem dX12_lookAtRun_66 : decode cX12_lookAtRun 66 = .ok (.lstore 6, 2) := by decide +kernel
theorem dX12_lookAtRun_68 : decode cX12_lookAtRun 68 = .ok (.iload 4, 2) := by decide +kernel
theorem dX12_lookAtRun_70 : decode cX12_lookAtRun 70 = .ok (.iconst 1, 1) := by decide +kernel
theorem dX12_lookAtRun_71 : decode cX12_lookAtRun 71 = .ok (.iadd, 1) := by decide +kernel
theorem dX12_lookAtRun_72 : decode cX12_lookAtRun 72 = .ok (.istore 8, 2) := by decide +kernel
theorem dX12_lookAtRun_74 : decode cX12_lookAtRun 74 = .ok (.aload_n 0, 1) := by decide +kernel
theorem dX12_lookAtRun_75 : decode cX12_lookAtRun 75 = .ok (.iload_n 3, 1) := by decide +kernel
theorem dX12_lookAtRun_76 : decode cX12_lookAtRun 76 = .ok (.iload 8, 2) := by decide +kernel
theorem dX12_lookAtRun_78 : decode cX12_lookAtRun 78 = .ok (.invokevirtual 131, 3) := by decide +kernel
theorem dX12_lookAtRun_81 : decode cX12_lookAtRun 81 = .ok (.istore 5, 2) := by decide +kernel
theorem dX12_lookAtRun_83 : decode cX12_lookAtRun 83 = .ok (.iload 5, 2) := by decide +kernel
theorem dX12_lookAtRun_85 : decode cX12_lookAtRun 85 = .ok (.iconst (-1), 1) := by decide +kernel
theorem dX12_lookAtRun_86 : decode cX12_lookAtRun 86 = .ok (.if_icmp .eq 6, 3) := by decide +kernel
theorem dX12_lookAtRun_89 : decode cX12_lookAtRun 89 = .ok (.iload 5, 2) := by decide +kernel
theorem dX12_lookAtRun_91 : decode cX12_lookAtRun 91 = .ok (.ireturn, 1) := by decide +kernel
theorem dX12_lookAtRun_92 : decode cX12_lookAtRun 92 = .ok (.aload_n 0, 1) := by decide +kernel
theorem dX12_lookAtRun_93 : decode cX12_lookAtRun 93 = .ok (.iload 8, 2) := by decide +kernel
theorem dX12_lookAtRun_95 : decode cX12_lookAtRun 95 = .ok (.iload 4, 2) := by decide +kernel
theorem dX12_lookAtRun_97 : decode cX12_lookAtRun 97 = .ok (.isub, 1) := by decide +kernel
theorem dX12_lookAtRun_98 : decode cX12_lookAtRun 98 = .ok (.putfield 176, 3) := by decide +kernel
theorem dX12_lookAtRun_101 : decode cX12_lookAtRun 101 = .ok (.aload_n 0, 1) := by decide +kernel
theorem dX12_lookAtRun_102 : decode cX12_lookAtRun 102 = .ok (.getfield 110, 3) := by decide +kernel
theorem dX12_lookAtRun_105 : decode cX12_lookAtRun 105 = .ok (.iconst 1, 1) := by decide +kernel
theorem dX12_lookAtRun_106 : decode cX12_lookAtRun 106 = .ok (.if_icmp .eq 12, 3) := by decide +kernel
theorem dX12_lookAtRun_109 : decode cX12_lookAtRun 109 = .ok (.aload_n 0, 1) := by decide +kernel
theorem dX12_lookAtRun_110 : decode cX12_lookAtRun 110 = .ok (.aload_n 0, 1) := by decide +kernel
theorem dX12_lookAtRun_111 : decode cX12_lookAtRun 111 = .ok (.getfield 110, 3) := by decide +kernel
theorem dX12_lookAtRun_114 : decode cX12_lookAtRun 114 = .ok (.invokevirtual 137, 3) := by decide +kernel
theorem dX12_lookAtRun_117 : decode cX12_lookAtRun 117 = .ok (.ireturn, 1) := by decide +kernel
theorem dX12_lookAtRun_118 : decode cX12_lookAtRun 118 = .ok (.aload_n 0, 1) := by decide +kernel
theorem dX12_lookAtRun_119 : decode cX12_lookAtRun 119 = .ok (.iload_n 3, 1) := by decide +kernel
theorem dX12_lookAtRun_120 : decode cX12_lookAtRun 120 = .ok (.iload 8, 2) := by decide +kernel
theorem dX12_lookAtRun_122 : decode cX12_lookAtRun 122 = .ok (.invokevirtual 165, 3) := by decide +kernel
theorem dX12_lookAtRun_125 : decode cX12_lookAtRun 125 = .ok (.istore 5, 2) := by decide +kernel
theorem dX12_lookAtRun_127 : decode cX12_lookAtRun 127 = .ok (.iload 5, 2) := by decide +kernel
theorem dX12_lookAtRun_129 : decode cX12_lookAtRun 129 = .ok (.iconst (-1), 1) := by decide +kernel
theorem dX12_lookAtRun_130 : decode cX12_lookAtRun 130 = .ok (.if_icmp .eq 6, 3) := by decide +kernel
theorem dX12_lookAtRun_133 : decode cX12_lookAtRun 133 = .ok (.iload 5, 2) := by decide +kernel
theorem dX12_lookAtRun_135 : decode cX12_lookAtRun 135 = .ok (.ireturn, 1) := by decide +kernel
theorem dX12_lookAtRun_136 : decode cX12_lookAtRun 136 = .ok (.aload_n 0, 1) := by decide +kernel
theorem dX12_lookAtRun_137 : decode cX12_lookAtRun 137 = .ok (.getfield 110, 3) := by decide +kernel
theorem dX12_lookAtRun_140 : decode cX12_lookAtRun 140 = .ok (.iconst 1, 1) := by decide +kernel
theorem dX12_lookAtRun_141 : decode cX12_lookAtRun 141 = .ok (.if_icmp .eq 12, 3) := by decide +kernel
theorem dX12_lookAtRun_144 : decode cX12_lookAtRun 144 = .ok (.aload_n 0, 1) := by decide +kernel
theorem dX12_lookAtRun_145 : decode cX12_lookAtRun 145 = .ok (.aload_n 0, 1) := by decide +kernel
theorem dX12_lookAtRun_146 : decode cX12_lookAtRun 146 = .ok (.getfield 110, 3) := by decide +kernel
theorem dX12_lookAtRun_149 : decode cX12_lookAtRun 149 = .ok (.invokevirtual 137, 3) := by decide +kernel
theorem dX12_lookAtRun_152 : decode cX12_lookAtRun 152 = .ok (.ireturn, 1) := by decide +kernel
theorem dX12_lookAtRun_153 : decode cX12_lookAtRun 153 = .ok (.aload_n 0, 1) := by decide +kernel
theorem dX12_lookAtRun_154 : decode cX12_lookAtRun 154 = .ok (.getfield 119, 3) := by decide +kernel
theorem dX12_lookAtRun_157 : decode cX12_lookAtRun 157 = .ok (.lload 6, 2) := by decide +kernel
theorem dX12_lookAtRun_159 : decode cX12_lookAtRun 159 = .ok (.lcmp, 1) := by decide +kernel
theorem dX12_lookAtRun_160 : decode cX12_lookAtRun 160 = .ok (.ifCond .eq 17, 3) := by decide +kernel
theorem dX12_lookAtRun_163 : decode cX12_lookAtRun 163 = .ok (.aload_n 0, 1) := by decide +kernel
theorem dX12_lookAtRun_164 : decode cX12_lookAtRun 164 = .ok (.iconst 1, 1) := by decide +kernel
theorem dX12_lookAtRun_165 : decode cX12_lookAtRun 165 = .ok (.invokevirtual 137, 3) := by decide +kernel
theorem dX12_lookAtRun_168 : decode cX12_lookAtRun 168 = .ok (.pop, 1) := by decide +kernel
theorem dX12_lookAtRun_169 : decode cX12_lookAtRun 169 = .ok (.aload_n 0, 1) := by decide +kernel
theorem dX12_lookAtRun_170 : decode cX12_lookAtRun 170 = .ok (.iload 8, 2) := by decide +kernel
theorem dX12_lookAtRun_172 : decode cX12_lookAtRun 172 = .ok (.putfield 128, 3) := by decide +kernel
theorem dX12_lookAtRun_175 : decode cX12_lookAtRun 175 = .ok (.iconst (-1), 1) := by decide +kernel
theorem dX12_lookAtRun_176 : decode cX12_lookAtRun 176 = .ok (.ireturn, 1) := by decide +kernel
theorem dX12_lookAtRun_177 : decode cX12_lookAtRun 177 = .ok (.iinc 8 1, 3) := by decide +kernel
theorem dX12_lookAtRun_180 : decode cX12_lookAtRun 180 = .ok (.goto (-106), 3) := by decide +kernel
theorem dX12_ofItems_0 : decode cX12_ofItems 0 = .ok (.lconst 0, 1) := by decide +kernel
theorem dX12_ofItems_1 : decode cX12_ofItems 1 = .ok (.lstore 8, 2) := by decide +kernel
theorem dX12_ofItems_3 : decode cX12_ofItems 3 = .ok (.iload_n 1, 1) := by decide +kernel
theorem dX12_ofItems_4 : decode cX12_ofItems 4 = .ok (.bipush 8, 2) := by decide +kernel
theorem dX12_ofItems_6 : decode cX12_ofItems 6 = .ok (.if_icmp .eq 44, 3) := by decide +kernel
theorem dX12_ofItems_9 : decode cX12_ofItems 9 = .ok (.aload_n 0, 1) := by decide +kernel
theorem dX12_ofItems_10 : decode cX12_ofItems 10 = .ok (.iload_n 2, 1) := by decide +kernel
theorem dX12_ofItems_11 : decode cX12_ofItems 11 = .ok (.iload_n 3, 1) := by decide +kernel
theorem dX12_ofItems_12 : decode cX12_ofItems 12 = .ok (.invokevirtual 165, 3) := by decide +kernel
theorem dX12_ofItems_15 : decode cX12_ofItems 15 = .ok (.istore 10, 2) := by decide +kernel
theorem dX12_ofItems_17 : decode cX12_ofItems 17 = .ok (.iload 10, 2) := by decide +kernel
theorem dX12_ofItems_19 : decode cX12_ofItems 19 = .ok (.iconst (-1), 1) := by decide +kernel
theorem dX12_ofItems_20 : decode cX12_ofItems 20 = .ok (.if_icmp .eq 6, 3) := by decide +kernel
theorem dX12_ofItems_23 : decode cX12_ofItems 23 = .ok (.iload 10, 2) := by decide +kernel
theorem dX12_ofItems_25 : decode cX12_ofItems 25 = .ok (.ireturn, 1) := by decide +kernel
theorem dX12_ofItems_26 : decode cX12_ofItems 26 = .ok (.aload_n 0, 1) := by decide +kernel
theorem dX12_ofItems_27 : decode cX12_ofItems 27 = .ok (.aload_n 0, 1) := by decide +kernel
theorem dX12_ofItems_28 : decode cX12_ofItems 28 = .ok (.getfield 110, 3) := by decide +kernel
theorem dX12_ofItems_31 : decode cX12_ofItems 31 = .ok (.putfield 122, 3) := by decide +kernel
theorem dX12_ofItems_34 : decode cX12_ofItems 34 = .ok (.aload_n 0, 1) := by decide +kernel
theorem dX12_ofItems_35 : decode cX12_ofItems 35 = .ok (.getfield 110, 3) := by decide +kernel
theorem dX12_ofItems_38 : decode cX12_ofItems 38 = .ok (.iconst 1, 1) := by decide +kernel
theorem dX12_ofItems_39 : decode cX12_ofItems 39 = .ok (.if_icmp .eq 5, 3) := by decide +kernel
theorem dX12_ofItems_42 : decode cX12_ofItems 42 = .ok (.iconst (-1), 1) := by decide +kernel
theorem dX12_ofItems_43 : decode cX12_ofItems 43 = .ok (.ireturn, 1) := by decide +kernel
theorem dX12_ofItems_44 : decode cX12_ofItems 44 = .ok (.aload_n 0, 1) := by decide +kernel
theorem dX12_ofItems_45 : decode cX12_ofItems 45 = .ok (.getfield 119, 3) := by decide +kernel
theorem dX12_ofItems_48 : decode cX12_ofItems 48 = .ok (.lstore 8, 2) := by decide +kernel
theorem dX12_ofItems_50 : decode cX12_ofItems 50 = .ok (.lload 6, 2) := by decide +kernel
theorem dX12_ofItems_52 : decode cX12_ofItems 52 = .ok (.lstore 10, 2) := by decide +kernel
theorem dX12_ofItems_54 : decode cX12_ofItems 54 = .ok (.iload_n 1, 1) := by decide +kernel
theorem dX12_ofItems_55 : decode cX12_ofItems 55 = .ok (.bipush 7, 2) := by decide +kernel
theorem dX12_ofItems_57 : decode cX12_ofItems 57 = .ok (.if_icmp .eq 52, 3) := by decide +kernel
theorem dX12_ofItems_60 : decode cX12_ofItems 60 = .ok (.iload 4, 2) := by decide +kernel
theorem dX12_ofItems_62 : decode cX12_ofItems 62 = .ok (.iconst (-1), 1) := by decide +kernel
theorem dX12_ofItems_63 : decode cX12_ofItems 63 = .ok (.if_icmp .eq 46, 3) := by decide +kernel
theorem dX12_ofItems_66 : decode cX12_ofItems 66 = .ok (.aload_n 0, 1) := by decide +kernel
theorem dX12_ofItems_67 : decode cX12_ofItems 67 = .ok (.iload 4, 2) := by decide +kernel
theorem dX12_ofItems_69 : decode cX12_ofItems 69 = .ok (.iload 5, 2) := by decide +kernel
theorem dX12_ofItems_71 : decode cX12_ofItems 71 = .ok (.invokevirtual 165, 3) := by decide +kernel
theorem dX12_ofItems_74 : decode cX12_ofItems 74 = .ok (.istore 12, 2) := by decide +kernel
theorem dX12_ofItems_76 : decode cX12_ofItems 76 = .ok (.iload 12, 2) := by decide +kernel
theorem dX12_ofItems_78 : decode cX12_ofItems 78 = .ok (.iconst (-1), 1) := by decide +kernel
theorem dX12_ofItems_79 : decode cX12_ofItems 79 = .ok (.if_icmp .eq 6, 3) := by decide +kernel
theorem dX12_ofItems_82 : decode cX12_ofItems 82 = .ok (.iload 12, 2) := by decide +kernel
theorem dX12_ofItems_84 : decode cX12_ofItems 84 = .ok (.ireturn, 1) := by decide +kernel
theorem dX12_ofItems_85 : decode cX12_ofItems 85 = .ok (.aload_n 0, 1) := by decide +kernel
theorem dX12_ofItems_86 : decode cX12_ofItems 86 = .ok (.aload_n 0, 1) := by decide +kernel
theorem dX12_ofItems_87 : decode cX12_ofItems 87 = .ok (.getfield 110, 3) := by decide +kernel
theorem dX12_ofItems_90 : decode cX12_ofItems 90 = .ok (.putfield 122, 3) := by decide +kernel
theorem dX12_ofItems_93 : decode cX12_ofItems 93 = .ok (.aload_n 0, 1) := by decide +kernel
theorem dX12_ofItems_94 : decode cX12_ofItems 94 = .ok (.getfield 110, 3) := by decide +kernel
theorem dX12_ofItems_97 : decode cX12_ofItems 97 = .ok (.iconst 1, 1) := by decide +kernel
theorem dX12_ofItems_98 : decode cX12_ofItems 98 = .ok (.if_icmp .eq 5, 3) := by decide +kernel
theorem dX12_ofItems_101 : decode cX12_ofItems 101 = .ok (.iconst (-1), 1) := by decide +kernel
theorem dX12_ofItems_102 : decode cX12_ofItems 102 = .ok (.ireturn, 1) := by decide +kernel
theorem dX12_ofItems_103 : decode cX12_ofItems 103 = .ok (.aload_n 0, 1) := by decide +kernel
theorem dX12_ofItems_104 : decode cX12_ofItems 104 = .ok (.getfield 119, 3) := by decide +kernel
theorem dX12_ofItems_107 : decode cX12_ofItems 107 = .ok (.lstore 10, 2) := by decide +kernel
theorem dX12_ofItems_109 : decode cX12_ofItems 109 = .ok (.aload_n 0, 1) := by decide +kernel
theorem dX12_ofItems_110 : decode cX12_ofItems 110 = .ok (.aload_n 0, 1) := by decide +kernel
theorem dX12_ofItems_111 : decode cX12_ofItems 111 = .ok (.iload_n 1, 1) := by decide +kernel
theorem dX12_ofItems_112 : decode cX12_ofItems 112 = .ok (.lload 8, 2) := by decide +kernel
theorem dX12_ofItems_114 : decode cX12_ofItems 114 = .ok (.lload 10, 2) := by decide +kernel
theorem dX12_ofItems_116 : decode cX12_ofItems 116 = .ok (.invokevirtual 190, 3) := by decide +kernel
theorem dX12_ofItems_119 : decode cX12_ofItems 119 = .ok (.putfield 122, 3) := by decide +kernel
theorem dX12_ofItems_122 : decode cX12_ofItems 122 = .ok (.aload_n 0, 1) := by decide +kernel
theorem dX12_ofItems_123 : decode cX12_ofItems 123 = .ok (.aload_n 0, 1) := by decide +kernel
theorem dX12_ofItems_124 : decode cX12_ofItems 124 = .ok (.getfield 98, 3) := by decide +kernel
theorem dX12_ofItems_127 : decode cX12_ofItems 127 = .ok (.putfield 179, 3) := by decide +kernel
theorem dX12_ofItems_130 : decode cX12_ofItems 130 = .ok (.iconst (-1), 1) := by decide +kernel
theorem dX12_ofItems_131 : decode cX12_ofItems 131 = .ok (.ireturn, 1) := by decide +kernel
theorem dX12_worked_0 : decode cX12_worked 0 = .ok (.aload_n 0, 1) := by decide +kernel
theorem dX12_worked_1 : decode cX12_worked 1 = .ok (.iconst 0, 1) := by decide +kernel
theorem dX12_worked_2 : decode cX12_worked 2 = .ok (.putfield 63, 3) := by decide +kernel
theorem dX12_worked_5 : decode cX12_worked 5 = .ok (.aload_n 0, 1) := by decide +kernel
theorem dX12_worked_6 : decode cX12_worked 6 = .ok (.iload_n 1, 1) := by decide +kernel
theorem dX12_worked_7 : decode cX12_worked 7 = .ok (.invokevirtual 84, 3) := by decide +kernel
theorem dX12_worked_10 : decode cX12_worked 10 = .ok (.ifCond .ne 17, 3) := by decide +kernel
theorem dX12_worked_13 : decode cX12_worked 13 = .ok (.aload_n 0, 1) := by decide +kernel
theorem dX12_worked_14 : decode cX12_worked 14 = .ok (.iconst 1, 1) := by decide +kernel
theorem dX12_worked_15 : decode cX12_worked 15 = .ok (.invokevirtual 72, 3) := by decide +kernel
theorem dX12_worked_18 : decode cX12_worked 18 = .ok (.ifCond .le 7, 3) := by decide +kernel
theorem dX12_worked_21 : decode cX12_worked 21 = .ok (.iconst 1, 1) := by decide +kernel
theorem dX12_worked_22 : decode cX12_worked 22 = .ok (.goto 4, 3) := by decide +kernel
theorem dX12_worked_25 : decode cX12_worked 25 = .ok (.iconst 0, 1) := by decide +kernel
theorem dX12_worked_26 : decode cX12_worked 26 = .ok (.ireturn, 1) := by decide +kernel
theorem dX12_worked_27 : decode cX12_worked 27 = .ok (.iload_n 2, 1) := by decide +kernel
theorem dX12_worked_28 : decode cX12_worked 28 = .ok (.ifCond .lt 24, 3) := by decide +kernel
theorem dX12_worked_31 : decode cX12_worked 31 = .ok (.iload_n 2, 1) := by decide +kernel
theorem dX12_worked_32 : decode cX12_worked 32 = .ok (.sipush 400, 3) := by decide +kernel
theorem dX12_worked_35 : decode cX12_worked 35 = .ok (.if_icmp .ge 17, 3) := by decide +kernel
theorem dX12_worked_38 : decode cX12_worked 38 = .ok (.aload_n 0, 1) := by decide +kernel
theorem dX12_worked_39 : decode cX12_worked 39 = .ok (.getfield 29, 3) := by decide +kernel
theorem dX12_worked_42 : decode cX12_worked 42 = .ok (.iload_n 1, 1) := by decide +kernel
theorem dX12_worked_43 : decode cX12_worked 43 = .ok (.iload_n 2, 1) := by decide +kernel
theorem dX12_worked_44 : decode cX12_worked 44 = .ok (.invokestatic 106, 3) := by decide +kernel
theorem dX12_worked_47 : decode cX12_worked 47 = .ok (.iaload, 1) := by decide +kernel
theorem dX12_worked_48 : decode cX12_worked 48 = .ok (.iconst 1, 1) := by decide +kernel
theorem dX12_worked_49 : decode cX12_worked 49 = .ok (.if_icmp .eq 5, 3) := by decide +kernel
theorem dX12_worked_52 : decode cX12_worked 52 = .ok (.iconst 0, 1) := by decide +kernel
theorem dX12_worked_53 : decode cX12_worked 53 = .ok (.ireturn, 1) := by decide +kernel
theorem dX12_worked_54 : decode cX12_worked 54 = .ok (.aload_n 0, 1) := by decide +kernel
theorem dX12_worked_55 : decode cX12_worked 55 = .ok (.getfield 32, 3) := by decide +kernel
theorem dX12_worked_58 : decode cX12_worked 58 = .ok (.aload_n 0, 1) := by decide +kernel
theorem dX12_worked_59 : decode cX12_worked 59 = .ok (.iload_n 1, 1) := by decide +kernel
theorem dX12_worked_60 : decode cX12_worked 60 = .ok (.iload_n 2, 1) := by decide +kernel
theorem dX12_worked_61 : decode cX12_worked 61 = .ok (.invokevirtual 116, 3) := by decide +kernel
theorem dX12_worked_64 : decode cX12_worked 64 = .ok (.iaload, 1) := by decide +kernel
theorem dX12_worked_65 : decode cX12_worked 65 = .ok (.ifCond .eq 7, 3) := by decide +kernel
theorem dX12_worked_68 : decode cX12_worked 68 = .ok (.iconst 1, 1) := by decide +kernel
theorem dX12_worked_69 : decode cX12_worked 69 = .ok (.goto 4, 3) := by decide +kernel
theorem dX12_worked_72 : decode cX12_worked 72 = .ok (.iconst 0, 1) := by decide +kernel
theorem dX12_worked_73 : decode cX12_worked 73 = .ok (.ireturn, 1) := by decide +kernel
abbrev wmX12_lookAtRound : List Cond := .code yX12_lookAtRound cX12_lookAtRound 4 (some .int) :: WM
theorem hd_X12_lookAtRound : yX12_lookAtRound.cls = RX12 ∧ yX12_lookAtRound.cls ≠ "java/lang/invoke/MethodHandle" ∧ yX12_lookAtRound.cls ≠ "java/lang/invoke/VarHandle" ∧ (parseMethodDescriptor yX12_lookAtRound.desc).map (fun d => d.parameters.length) = some 2 := by decide +kernel
def P_X12_lookAtRound (v : Nat → Int32) (w : Nat → Int64) (fi : Nat → Nat → Int32) (fl : Nat → Nat → Int64) (p0 : Int32) (p1 : Int32) (Q : Int32 → (Nat → Int32) → (Nat → Int64) → (Nat → Nat → Int32) → (Nat → Nat → Int64) → Prop) : Prop := P_X12_needCell v w fi fl p0 p1 (fun r1 v1 w1 fi1 fl1 => ((r1 = (-1)) → (((¬ (v1 23) = 2) → (((¬ (v1 23) = 1) → (P_X12_as v1 w1 fi1 fl1 (v1 23) (fun r2 v2 w2 fi2 fl2 => Q r2 v2 w2 fi2 fl2))) ∧ (((v1 23) = 1) → (P_X12_shares v1 w1 fi1 fl1 p0 p1 (fun r3 v3 w3 fi3 fl3 => Q r3 v3 w3 fi3 fl3))))) ∧ (((v1 23) = 2) → (((¬ (v1 24) = 0) → (¬ (v1 24) = 0 ∧ P_X12_shares v1 w1 fi1 fl1 p0 (p1 - p1 / (v1 24) * (v1 24)) (fun r5 v5 w5 fi5 fl5 => Q r5 v5 w5 fi5 fl5))) ∧ (((v1 24) = 0) → (P_X12_as v1 w1 fi1 fl1 5 (fun r6 v6 w6 fi6 fl6 => Q r6 v6 w6 fi6 fl6))))))) ∧ ((¬ r1 = (-1)) → (Q r1 v1 w1 fi1 fl1)))
set_option maxHeartbeats 4000000 in
set_option maxRecDepth 100000 in
theorem p_X12_lookAtRound (l : Launch) (dC : Nat → ClassId) (dI : Nat → Nat → Nat) (a : Nat → Nat) (ca : Nat → ClassId) (g0 : Nat) (v : Nat → Int32) (w : Nat → Int64) (fi : Nat → Nat → Int32) (fl : Nat → Nat → Int64) (p0 : Int32) (p1 : Int32) (Q : Int32 → (Nat → Int32) → (Nat → Int64) → (Nat → Nat → Int32) → (Nat → Nat → Int64) → Prop) (h : P_X12_lookAtRound v w fi fl p0 p1 Q) (sz : Nat) : Met l yX12_lookAtRound wmX12_lookAtRound ({ frames := 12, cells := 0, slots := 0, locals := 180 }) (va_Pc [.ref g0, .int p0, .int p1] (mPre dC dI a ca g0 v w fi fl sz)) (va_Qi (S := MSt) (pI Q) (mB dC dI a ca g0 (va_A (mW a ca g0 v w fi fl) sz)) (va_A (mW a ca g0 v w fi fl) sz)) 0 0 (va_A (mW a ca g0 v w fi fl) sz) := by
  refine Met.ofW (cc := cX12_lookAtRound) (maxL := 4) (ret := (some .int)) (by decide) rfl ?_
  intro p e s m args below meth c s₁ B hml hv
  obtain ⟨rfl, hsz, hP, hK, hD0⟩ := hv
  have hx := B.exec
  have hb := B.bytes
  have hr := B.returns
  have hts : ∀ w ∈ WM, w.before _ s = true := fun w h => atoms_spec (ws := wmX12_lookAtRound) B.pre w (List.mem_cons_of_mem _ h)
  have hown : s.vm.findClass RX12 = some m.cls := findClass_of_methodNamed B.named
  have hlocks := B.notSynchronized
  subst hsz
  have hD := hD0.self (sz := s.heap.size)
  generalize hAe : va_A (mW a ca g0 v w fi fl) s.heap.size = A at hD ⊢
  have hA : ∀ q : Nat, s.heap.size ≤ q → A q := fun q h => by rw [← hAe]; exact Or.inr h
  generalize hH : s.heap = H at hP ⊢
  have hS : va_S A s.heap H [] := by rw [← hH]; exact va_S.rf
  have hl := lv_entry [.ref g0, .int p0, .int p1] (n := 4) (Nat.le_of_ble_eq_true rfl)
  rw [lg_entry_eq]
  generalize (lg_sl [.ref g0, .int p0, .int p1] ++ List.replicate (4 - (lg_sl [.ref g0, .int p0, .int p1]).length) Slot.unset).toArray = ls at hl ⊢
  have hl : lv_has ls 4 [(0, .ref g0), (1, .int p0), (2, .int p1)] := hl
  unfold P_X12_lookAtRound at h
  refine lv_aload_n hx hb dX12_lookAtRound_0 rfl (lv_at hl 0 rfl) ?_
  refine lv_iload_n hx hb dX12_lookAtRound_1 rfl (lv_at hl 1 rfl) ?_
  refine lv_iload_n hx hb dX12_lookAtRound_2 rfl (lv_at hl 2 rfl) ?_
  refine m_calli (rm := ({ frames := 8, cells := 0, slots := 0, locals := 120 })) (As := [.int p0, .int p1]) (rest := []) (fun sz => p_X12_needCell l dC dI a ca g0 _ _ _ _ p0 p1 _ h sz) ⟨hx, hb, hml, hown, hts⟩ (cwV 2 hts (g_V gdM mwM_76 mwM_77 mwM_78 mwM_22 mwM_75) rfl rfl rfl hd_X12_needCell ⟨Nat.le_of_ble_eq_true rfl, Nat.le_of_ble_eq_true rfl⟩) rfl hl.1 rfl hK hP hD hS hA (Nat.le_of_ble_eq_true rfl) ⟨Nat.le_of_ble_eq_true rfl, Nat.le_of_ble_eq_true rfl⟩ dX12_lookAtRound_3 (fun r1 v1 w1 fi1 fl1 H locs h hP hD hS => ?_)
  refine lv_istore_n (lv' := [(3, .int r1), (0, .ref g0), (1, .int p0), (2, .int p1)]) hx hb dX12_lookAtRound_6 rfl hl (by decide) rfl (fun ls hl => ?_)
  refine lv_iload_n hx hb dX12_lookAtRound_7 rfl (lv_at hl 0 rfl) ?_
  refine lv_iconst (v := (-1)) hx hb dX12_lookAtRound_8 (by decide) ?_
  refine lv_icmp_eq (tgt := 14) hx hb dX12_lookAtRound_9 (by decide) (fun c_9 => ?_) (fun c_9 => ?_)
  · have h := h.1 c_9
    refine lv_aload_n hx hb dX12_lookAtRound_14 rfl (lv_at hl 1 rfl) ?_
    refine va_get (D := (dC, dI)) (ci := 11) (v := .int (v1 23)) (C := RX12) (T := TX12) (N := 32) hx hb hts hinM hown hK hP 0 rfl rfl 23 (by decide) (hts _ mwM_47) (fun _ h9 => h9) rfl dX12_lookAtRound_15 ?_
    refine lv_iconst (v := 2) hx hb dX12_lookAtRound_18 (by decide) ?_
    refine lv_icmp_ne (tgt := 49) hx hb dX12_lookAtRound_19 (by decide) (fun c_19 => ?_) (fun c_19 => ?_)
    · have h := h.1 c_19
      refine lv_aload_n hx hb dX12_lookAtRound_49 rfl (lv_at hl 1 rfl) ?_
      refine va_get (D := (dC, dI)) (ci := 11) (v := .int (v1 23)) (C := RX12) (T := TX12) (N := 32) hx hb hts hinM hown hK hP 0 rfl rfl 23 (by decide) (hts _ mwM_47) (fun _ h9 => h9) rfl dX12_lookAtRound_50 ?_
      refine lv_iconst (v := 1) hx hb dX12_lookAtRound_53 (by decide) ?_
      refine lv_icmp_ne (tgt := 66) hx hb dX12_lookAtRound_54 (by decide) (fun c_54 => ?_) (fun c_54 => ?_)
      · have h := h.1 c_54
        refine lv_aload_n hx hb dX12_lookAtRound_66 rfl (lv_at hl 1 rfl) ?_
        refine lv_aload_n hx hb dX12_lookAtRound_67 rfl (lv_at hl 1 rfl) ?_
        refine va_get (D := (dC, dI)) (ci := 11) (v := .int (v1 23)) (C := RX12) (T := TX12) (N := 32) hx hb hts hinM hown hK hP 0 rfl rfl 23 (by decide) (hts _ mwM_47) (fun _ h9 => h9) rfl dX12_lookAtRound_68 ?_
        refine m_calli (rm := ({ frames := 4, cells := 0, slots := 0, locals := 60 })) (As := [.int (v1 23)]) (rest := []) (fun sz => p_X12_as l dC dI a ca g0 _ _ _ _ (v1 23) _ h sz) ⟨hx, hb, hml, hown, hts⟩ (cwV 1 hts (g_V gdM mwM_80 mwM_81 mwM_82 mwM_22 mwM_79) rfl rfl rfl hd_X12_as ⟨Nat.le_of_ble_eq_true rfl, Nat.le_of_ble_eq_true rfl⟩) rfl hl.1 rfl hK hP hD hS hA (Nat.le_of_ble_eq_true rfl) ⟨Nat.le_of_ble_eq_true rfl, Nat.le_of_ble_eq_true rfl⟩ dX12_lookAtRound_71 (fun r2 v2 w2 fi2 fl2 H locs h hP hD hS => ?_)
        exact W.iret (v := r2) hx hb hr (fun t ht hW => ⟨⟨_, (v2, w2, fi2, fl2), rfl, h, by rw [ht]; exact hP, va_K.moved hW.alike hK, hD⟩, hS.F ht⟩) hS.2.2 dX12_lookAtRound_74
      · have h := h.2 c_54
        refine lv_aload_n hx hb dX12_lookAtRound_57 rfl (lv_at hl 1 rfl) ?_
        refine lv_iload_n hx hb dX12_lookAtRound_58 rfl (lv_at hl 2 rfl) ?_
        refine lv_iload_n hx hb dX12_lookAtRound_59 rfl (lv_at hl 3 rfl) ?_
        refine m_calli (rm := ({ frames := 4, cells := 0, slots := 0, locals := 60 })) (As := [.int p0, .int p1]) (rest := []) (fun sz => p_X12_shares l dC dI a ca g0 _ _ _ _ p0 p1 _ h sz) ⟨hx, hb, hml, hown, hts⟩ (cwV 2 hts (g_V gdM mwM_84 mwM_85 mwM_86 mwM_22 mwM_83) rfl rfl rfl hd_X12_shares ⟨Nat.le_of_ble_eq_true rfl, Nat.le_of_ble_eq_true rfl⟩) rfl hl.1 rfl hK hP hD hS hA (Nat.le_of_ble_eq_true rfl) ⟨Nat.le_of_ble_eq_true rfl, Nat.le_of_ble_eq_true rfl⟩ dX12_lookAtRound_60 (fun r3 v3 w3 fi3 fl3 H locs h hP hD hS => ?_)
        refine lv_goto (tgt := 74) hx hb dX12_lookAtRound_63 (by decide) ?_
        exact W.iret (v := r3) hx hb hr (fun t ht hW => ⟨⟨_, (v3, w3, fi3, fl3), rfl, h, by rw [ht]; exact hP, va_K.moved hW.alike hK, hD⟩, hS.F ht⟩) hS.2.2 dX12_lookAtRound_74
    · have h := h.2 c_19
      refine lv_aload_n hx hb dX12_lookAtRound_22 rfl (lv_at hl 1 rfl) ?_
      refine va_get (D := (dC, dI)) (ci := 11) (v := .int (v1 24)) (C := RX12) (T := TX12) (N := 32) hx hb hts hinM hown hK hP 0 rfl rfl 24 (by decide) (hts _ mwM_48) (fun _ h9 => h9) rfl dX12_lookAtRound_23 ?_
      refine lv_if_ne (tgt := 37) hx hb dX12_lookAtRound_26 (by decide) (fun c_26 => ?_) (fun c_26 => ?_)
      · have h := h.1 c_26
        refine lv_aload_n hx hb dX12_lookAtRound_37 rfl (lv_at hl 1 rfl) ?_
        refine lv_iload_n hx hb dX12_lookAtRound_38 rfl (lv_at hl 2 rfl) ?_
        refine lv_iload_n hx hb dX12_lookAtRound_39 rfl (lv_at hl 3 rfl) ?_
        refine lv_aload_n hx hb dX12_lookAtRound_40 rfl (lv_at hl 1 rfl) ?_
        refine va_get (D := (dC, dI)) (ci := 11) (v := .int (v1 24)) (C := RX12) (T := TX12) (N := 32) hx hb hts hinM hown hK hP 0 rfl rfl 24 (by decide) (hts _ mwM_48) (fun _ h9 => h9) rfl dX12_lookAtRound_41 ?_
        obtain ⟨hz4, h⟩ := h
        refine lv_irem hx hb dX12_lookAtRound_44 hz4 ?_
        refine m_calli (rm := ({ frames := 4, cells := 0, slots := 0, locals := 60 })) (As := [.int p0, .int (p1 - p1 / (v1 24) * (v1 24))]) (rest := []) (fun sz => p_X12_shares l dC dI a ca g0 _ _ _ _ p0 (p1 - p1 / (v1 24) * (v1 24)) _ h sz) ⟨hx, hb, hml, hown, hts⟩ (cwV 2 hts (g_V gdM mwM_84 mwM_85 mwM_86 mwM_22 mwM_83) rfl rfl rfl hd_X12_shares ⟨Nat.le_of_ble_eq_true rfl, Nat.le_of_ble_eq_true rfl⟩) rfl hl.1 rfl hK hP hD hS hA (Nat.le_of_ble_eq_true rfl) ⟨Nat.le_of_ble_eq_true rfl, Nat.le_of_ble_eq_true rfl⟩ dX12_lookAtRound_45 (fun r5 v5 w5 fi5 fl5 H locs h hP hD hS => ?_)
        exact W.iret (v := r5) hx hb hr (fun t ht hW => ⟨⟨_, (v5, w5, fi5, fl5), rfl, h, by rw [ht]; exact hP, va_K.moved hW.alike hK, hD⟩, hS.F ht⟩) hS.2.2 dX12_lookAtRound_48
      · have h := h.2 c_26
        refine lv_aload_n hx hb dX12_lookAtRound_29 rfl (lv_at hl 1 rfl) ?_
        refine lv_iconst (v := 5) hx hb dX12_lookAtRound_30 (by decide) ?_
        refine m_calli (rm := ({ frames := 4, cells := 0, slots := 0, locals := 60 })) (As := [.int 5]) (rest := []) (fun sz => p_X12_as l dC dI a ca g0 _ _ _ _ 5 _ h sz) ⟨hx, hb, hml, hown, hts⟩ (cwV 1 hts (g_V gdM mwM_80 mwM_81 mwM_82 mwM_22 mwM_79) rfl rfl rfl hd_X12_as ⟨Nat.le_of_ble_eq_true rfl, Nat.le_of_ble_eq_true rfl⟩) rfl hl.1 rfl hK hP hD hS hA (Nat.le_of_ble_eq_true rfl) ⟨Nat.le_of_ble_eq_true rfl, Nat.le_of_ble_eq_true rfl⟩ dX12_lookAtRound_31 (fun r6 v6 w6 fi6 fl6 H locs h hP hD hS => ?_)
        refine lv_goto (tgt := 48) hx hb dX12_lookAtRound_34 (by decide) ?_
        exact W.iret (v := r6) hx hb hr (fun t ht hW => ⟨⟨_, (v6, w6, fi6, fl6), rfl, h, by rw [ht]; exact hP, va_K.moved hW.alike hK, hD⟩, hS.F ht⟩) hS.2.2 dX12_lookAtRound_48
  · have h := h.2 c_9
    refine lv_iload_n hx hb dX12_lookAtRound_12 rfl (lv_at hl 0 rfl) ?_
    exact W.iret (v := r1) hx hb hr (fun t ht hW => ⟨⟨_, (v1, w1, fi1, fl1), rfl, h, by rw [ht]; exact hP, va_K.moved hW.alike hK, hD⟩, hS.F ht⟩) hS.2.2 dX12_lookAtRound_13

abbrev wmX12_worked : List Cond := .code yX12_worked cX12_worked 3 (some .boolean) :: WM
theorem hd_X12_worked : yX12_worked.cls = RX12 ∧ yX12_worked.cls ≠ "java/lang/invoke/MethodHandle" ∧ yX12_worked.cls ≠ "java/lang/invoke/VarHandle" ∧ (parseMethodDescriptor yX12_worked.desc).map (fun d => d.parameters.length) = some 2 := by decide +kernel
def P_X12_worked (v : Nat → Int32) (w : Nat → Int64) (fi : Nat → Nat → Int32) (fl : Nat → Nat → Int64) (p0 : Int32) (p1 : Int32) (Q : Int32 → (Nat → Int32) → (Nat → Int64) → (Nat → Nat → Int32) → (Nat → Nat → Int64) → Prop) : Prop := P_X12_isList (va_up v 19 0) w fi fl p0 (fun r1 v1 w1 fi1 fl1 => ((¬ r1 = 0) → (((p1 < 0) → (Q 0 v1 w1 fi1 fl1)) ∧ ((¬ p1 < 0) → (((400 ≤ p1) → (Q 0 v1 w1 fi1 fl1)) ∧ ((¬ 400 ≤ p1) → (P_X12_place p0 p1 (fun r2 => vp_in r2 9600 ∧ (((fi1 7 r2.toNatClampNeg) = 1) → (P_X12_ownPlace v1 w1 fi1 fl1 p0 p1 (fun r4 v4 w4 fi4 fl4 => vp_in r4 9600 ∧ (((fi4 8 r4.toNatClampNeg) = 0) → (Q 0 v4 w4 fi4 fl4)) ∧ ((¬ (fi4 8 r4.toNatClampNeg) = 0) → (Q 1 v4 w4 fi4 fl4))))) ∧ ((¬ (fi1 7 r2.toNatClampNeg) = 1) → (Q 0 v1 w1 fi1 fl1))))))))) ∧ ((r1 = 0) → (P_X12_fail v1 w1 fi1 fl1 1 (fun r6 v6 w6 fi6 fl6 => ((r6 ≤ 0) → (Q 0 v6 w6 fi6 fl6)) ∧ ((¬ r6 ≤ 0) → (Q 1 v6 w6 fi6 fl6))))))
set_option maxHeartbeats 4000000 in
set_option maxRecDepth 100000 in
theorem p_X12_worked (l : Launch) (dC : Nat → ClassId) (dI : Nat → Nat → Nat) (a : Nat → Nat) (ca : Nat → ClassId) (g0 : Nat) (v : Nat → Int32) (w : Nat → Int64) (fi : Nat → Nat → Int32) (fl : Nat → Nat → Int64) (p0 : Int32) (p1 : Int32) (Q : Int32 → (Nat → Int32) → (Nat → Int64) → (Nat → Nat → Int32) → (Nat → Nat → Int64) → Prop) (h : P_X12_worked v w fi fl p0 p1 Q) (sz : Nat) : Met l yX12_worked wmX12_worked ({ frames := 12, cells := 0, slots := 0, locals := 180 }) (va_Pc [.ref g0, .int p0, .int p1] (mPre dC dI a ca g0 v w fi fl sz)) (va_Qi (S := MSt) (pI Q) (mB dC dI a ca g0 (va_A (mW a ca g0 v w fi fl) sz)) (va_A (mW a ca g0 v w fi fl) sz)) 0 0 (va_A (mW a ca g0 v w fi fl) sz) := by
  refine Met.ofW (cc := cX12_worked) (maxL := 3) (ret := (some .boolean)) (by decide) rfl ?_
  intro p e s m args below meth c s₁ B hml hv
  obtain ⟨rfl, hsz, hP, hK, hD0⟩ := hv
  have hx := B.exec
  have hb := B.bytes
  have hr := B.returns
  have hts : ∀ w ∈ WM, w.before _ s = true := fun w h => atoms_spec (ws := wmX12_worked) B.pre w (List.mem_cons_of_mem _ h)
  have hown : s.vm.findClass RX12 = some m.cls := findClass_of_methodNamed B.named
  have hlocks := B.notSynchronized
  subst hsz
  have hD := hD0.self (sz := s.heap.size)
  generalize hAe : va_A (mW a ca g0 v w fi fl) s.heap.size = A at hD ⊢
  have hA : ∀ q : Nat, s.heap.size ≤ q → A q := fun q h => by rw [← hAe]; exact Or.inr h
  generalize hH : s.heap = H at hP ⊢
  have hS : va_S A s.heap H [] := by rw [← hH]; exact va_S.rf
  have hl := lv_entry [.ref g0, .int p0, .int p1] (n := 3) (Nat.le_of_ble_eq_true rfl)
  rw [lg_entry_eq]
  generalize (lg_sl [.ref g0, .int p0, .int p1] ++ List.replicate (3 - (lg_sl [.ref g0, .int p0, .int p1]).length) Slot.unset).toArray = ls at hl ⊢
  have hl : lv_has ls 3 [(0, .ref g0), (1, .int p0), (2, .int p1)] := hl
  unfold P_X12_worked at h
  refine lv_aload_n hx hb dX12_worked_0 rfl (lv_at hl 0 rfl) ?_
  refine lv_iconst (v := 0) hx hb dX12_worked_1 (by decide) ?_
  refine m_put_19 hx hb hts hinM hown hK hP hD hS (hts _ mwM_0) dX12_worked_2 (fun H locs hP hD hS => ?_)
  refine lv_aload_n hx hb dX12_worked_5 rfl (lv_at hl 0 rfl) ?_
  refine lv_iload_n hx hb dX12_worked_6 rfl (lv_at hl 1 rfl) ?_
  refine m_calli (rm := ({ frames := 4, cells := 0, slots := 0, locals := 60 })) (As := [.int p0]) (rest := []) (fun sz => p_X12_isList l dC dI a ca g0 _ _ _ _ p0 _ h sz) ⟨hx, hb, hml, hown, hts⟩ (cwV 1 hts (g_V gdM mwM_33 mwM_34 mwM_35 mwM_22 mwM_32) rfl rfl rfl hd_X12_isList ⟨Nat.le_of_ble_eq_true rfl, Nat.le_of_ble_eq_true rfl⟩) rfl hl.1 rfl hK hP hD hS hA (Nat.le_of_ble_eq_true rfl) ⟨Nat.le_of_ble_eq_true rfl, Nat.le_of_ble_eq_true rfl⟩ dX12_worked_7 (fun r1 v1 w1 fi1 fl1 H locs h hP hD hS => ?_)
  refine lv_if_ne (tgt := 27) hx hb dX12_worked_10 (by decide) (fun c_10 => ?_) (fun c_10 => ?_)
  · have h := h.1 c_10
    refine lv_iload_n hx hb dX12_worked_27 rfl (lv_at hl 2 rfl) ?_
    refine lv_if_lt (tgt := 52) hx hb dX12_worked_28 (by decide) (fun c_28 => ?_) (fun c_28 => ?_)
    · have h := h.1 c_28
      refine lv_iconst (v := 0) hx hb dX12_worked_52 (by decide) ?_
      exact W.zret (v := 0) hx hb hr (by decide) (fun t ht hW => ⟨⟨_, (v1, w1, fi1, fl1), rfl, h, by rw [ht]; exact hP, va_K.moved hW.alike hK, hD⟩, hS.F ht⟩) hS.2.2 dX12_worked_53
    · have h := h.2 c_28
      refine lv_iload_n hx hb dX12_worked_31 rfl (lv_at hl 2 rfl) ?_
      refine lv_sipush (v := 400) hx hb dX12_worked_32 (by decide) ?_
      refine lv_icmp_ge (tgt := 52) hx hb dX12_worked_35 (by decide) (fun c_35 => ?_) (fun c_35 => ?_)
      · have h := h.1 c_35
        refine lv_iconst (v := 0) hx hb dX12_worked_52 (by decide) ?_
        exact W.zret (v := 0) hx hb hr (by decide) (fun t ht hW => ⟨⟨_, (v1, w1, fi1, fl1), rfl, h, by rw [ht]; exact hP, va_K.moved hW.alike hK, hD⟩, hS.F ht⟩) hS.2.2 dX12_worked_53
      · have h := h.2 c_35
        refine lv_aload_n hx hb dX12_worked_38 rfl (lv_at hl 0 rfl) ?_
        refine va_get (D := (dC, dI)) (ci := 11) (v := .ref (a 7)) (C := RX12) (T := TX12) (N := 32) hx hb hts hinM hown hK hP 0 rfl rfl 7 (by decide) (hts _ mwM_43) (fun _ h9 => h9) rfl dX12_worked_39 ?_
        refine lv_iload_n hx hb dX12_worked_42 rfl (lv_at hl 1 rfl) ?_
        refine lv_iload_n hx hb dX12_worked_43 rfl (lv_at hl 2 rfl) ?_
        refine s_calli (rm := ({ frames := 4, cells := 0, slots := 0, locals := 60 })) (As := [.int p0, .int p1]) (rest := [.ref (a 7)]) (fun sz => p_X12_place l dC dI p0 p1 _ h sz) ⟨hx, hb, hml, hown, hts⟩ (va_cwS 2 hts (g_S gdM mwM_45 mwM_46 mwM_22 mwM_44) rfl rfl rfl hd_X12_place ⟨Nat.le_of_ble_eq_true rfl, Nat.le_of_ble_eq_true rfl⟩) rfl hl.1 rfl hP hD hS hA (Nat.le_of_ble_eq_true rfl) ⟨Nat.le_of_ble_eq_true rfl, Nat.le_of_ble_eq_true rfl⟩ dX12_worked_44 (fun r2 H locs h hP hS => ?_)
        obtain ⟨hi3, h⟩ := h
        refine va_iald (f := fi1 7) hx hb hK hP 7 6 rfl rfl hi3 dX12_worked_47 ?_
        refine lv_iconst (v := 1) hx hb dX12_worked_48 (by decide) ?_
        refine lv_icmp_eq (tgt := 54) hx hb dX12_worked_49 (by decide) (fun c_49 => ?_) (fun c_49 => ?_)
        · have h := h.1 c_49
          refine lv_aload_n hx hb dX12_worked_54 rfl (lv_at hl 0 rfl) ?_
          refine va_get (D := (dC, dI)) (ci := 11) (v := .ref (a 8)) (C := RX12) (T := TX12) (N := 32) hx hb hts hinM hown hK hP 0 rfl rfl 8 (by decide) (hts _ mwM_73) (fun _ h9 => h9) rfl dX12_worked_55 ?_
          refine lv_aload_n hx hb dX12_worked_58 rfl (lv_at hl 0 rfl) ?_
          refine lv_iload_n hx hb dX12_worked_59 rfl (lv_at hl 1 rfl) ?_
          refine lv_iload_n hx hb dX12_worked_60 rfl (lv_at hl 2 rfl) ?_
          refine m_calli (rm := ({ frames := 8, cells := 0, slots := 0, locals := 120 })) (As := [.int p0, .int p1]) (rest := [.ref (a 8)]) (fun sz => p_X12_ownPlace l dC dI a ca g0 _ _ _ _ p0 p1 _ h sz) ⟨hx, hb, hml, hown, hts⟩ (cwV 2 hts (g_V gdM mwM_70 mwM_71 mwM_72 mwM_22 mwM_69) rfl rfl rfl hd_X12_ownPlace ⟨Nat.le_of_ble_eq_true rfl, Nat.le_of_ble_eq_true rfl⟩) rfl hl.1 rfl hK hP hD hS hA (Nat.le_of_ble_eq_true rfl) ⟨Nat.le_of_ble_eq_true rfl, Nat.le_of_ble_eq_true rfl⟩ dX12_worked_61 (fun r4 v4 w4 fi4 fl4 H locs h hP hD hS => ?_)
          obtain ⟨hi5, h⟩ := h
          refine va_iald (f := fi4 8) hx hb hK hP 8 7 rfl rfl hi5 dX12_worked_64 ?_
          refine lv_if_eq (tgt := 72) hx hb dX12_worked_65 (by decide) (fun c_65 => ?_) (fun c_65 => ?_)
          · have h := h.1 c_65
            refine lv_iconst (v := 0) hx hb dX12_worked_72 (by decide) ?_
            exact W.zret (v := 0) hx hb hr (by decide) (fun t ht hW => ⟨⟨_, (v4, w4, fi4, fl4), rfl, h, by rw [ht]; exact hP, va_K.moved hW.alike hK, hD⟩, hS.F ht⟩) hS.2.2 dX12_worked_73
          · have h := h.2 c_65
            refine lv_iconst (v := 1) hx hb dX12_worked_68 (by decide) ?_
            refine lv_goto (tgt := 73) hx hb dX12_worked_69 (by decide) ?_
            exact W.zret (v := 1) hx hb hr (by decide) (fun t ht hW => ⟨⟨_, (v4, w4, fi4, fl4), rfl, h, by rw [ht]; exact hP, va_K.moved hW.alike hK, hD⟩, hS.F ht⟩) hS.2.2 dX12_worked_73
        · have h := h.2 c_49
          refine lv_iconst (v := 0) hx hb dX12_worked_52 (by decide) ?_
          exact W.zret (v := 0) hx hb hr (by decide) (fun t ht hW => ⟨⟨_, (v1, w1, fi1, fl1), rfl, h, by rw [ht]; exact hP, va_K.moved hW.alike hK, hD⟩, hS.F ht⟩) hS.2.2 dX12_worked_53
  · have h := h.2 c_10
    refine lv_aload_n hx hb dX12_worked_13 rfl (lv_at hl 0 rfl) ?_
    refine lv_iconst (v := 1) hx hb dX12_worked_14 (by decide) ?_
    refine m_calli (rm := ({ frames := 4, cells := 0, slots := 0, locals := 60 })) (As := [.int 1]) (rest := []) (fun sz => p_X12_fail l dC dI a ca g0 _ _ _ _ 1 _ h sz) ⟨hx, hb, hml, hown, hts⟩ (cwV 1 hts (g_V gdM mwM_19 mwM_20 mwM_21 mwM_22 mwM_18) rfl rfl rfl hd_X12_fail ⟨Nat.le_of_ble_eq_true rfl, Nat.le_of_ble_eq_true rfl⟩) rfl hl.1 rfl hK hP hD hS hA (Nat.le_of_ble_eq_true rfl) ⟨Nat.le_of_ble_eq_true rfl, Nat.le_of_ble_eq_true rfl⟩ dX12_worked_15 (fun r6 v6 w6 fi6 fl6 H locs h hP hD hS => ?_)
    refine lv_if_le (tgt := 25) hx hb dX12_worked_18 (by decide) (fun c_18 => ?_) (fun c_18 => ?_)
    · have h := h.1 c_18
      refine lv_iconst (v := 0) hx hb dX12_worked_25 (by decide) ?_
      exact W.zret (v := 0) hx hb hr (by decide) (fun t ht hW => ⟨⟨_, (v6, w6, fi6, fl6), rfl, h, by rw [ht]; exact hP, va_K.moved hW.alike hK, hD⟩, hS.F ht⟩) hS.2.2 dX12_worked_26
    · have h := h.2 c_18
      refine lv_iconst (v := 1) hx hb dX12_worked_21 (by decide) ?_
      refine lv_goto (tgt := 26) hx hb dX12_worked_22 (by decide) ?_
      exact W.zret (v := 1) hx hb hr (by decide) (fun t ht hW => ⟨⟨_, (v6, w6, fi6, fl6), rfl, h, by rw [ht]; exact hP, va_K.moved hW.alike hK, hD⟩, hS.F ht⟩) hS.2.2 dX12_worked_26

abbrev wmX12_lookAtBoth : List Cond := .code yX12_lookAtBoth cX12_lookAtBoth 5 (some .int) :: WM
theorem hd_X12_lookAtBoth : yX12_lookAtBoth.cls = RX12 ∧ yX12_lookAtBoth.cls ≠ "java/lang/invoke/MethodHandle" ∧ yX12_lookAtBoth.cls ≠ "java/lang/invoke/VarHandle" ∧ (parseMethodDescriptor yX12_lookAtBoth.desc).map (fun d => d.parameters.length) = some 3 := by decide +kernel
def P_X12_lookAtBoth (v : Nat → Int32) (w : Nat → Int64) (fi : Nat → Nat → Int32) (fl : Nat → Nat → Int64) (p0 : Int32) (p1 : Int32) (p2 : Int32) (Q : Int32 → (Nat → Int32) → (Nat → Int64) → (Nat → Nat → Int32) → (Nat → Nat → Int64) → Prop) : Prop := P_X12_needCell v w fi fl p0 p2 (fun r1 v1 w1 fi1 fl1 => ((r1 = (-1)) → (((¬ (v1 23) = 1) → (P_X12_as v1 w1 fi1 fl1 (v1 23) (fun r2 v2 w2 fi2 fl2 => Q r2 v2 w2 fi2 fl2))) ∧ (((v1 23) = 1) → (P_X12_like v1 w1 fi1 fl1 p1 p2 0 (fun r3 v3 w3 fi3 fl3 => Q r3 v3 w3 fi3 fl3))))) ∧ ((¬ r1 = (-1)) → (Q r1 v1 w1 fi1 fl1)))
set_option maxHeartbeats 4000000 in
set_option maxRecDepth 100000 in
theorem p_X12_lookAtBoth (l : Launch) (dC : Nat → ClassId) (dI : Nat → Nat → Nat) (a : Nat → Nat) (ca : Nat → ClassId) (g0 : Nat) (v : Nat → Int32) (w : Nat → Int64) (fi : Nat → Nat → Int32) (fl : Nat → Nat → Int64) (p0 : Int32) (p1 : Int32) (p2 : Int32) (Q : Int32 → (Nat → Int32) → (Nat → Int64) → (Nat → Nat → Int32) → (Nat → Nat → Int64) → Prop) (h : P_X12_lookAtBoth v w fi fl p0 p1 p2 Q) (sz : Nat) : Met l yX12_lookAtBoth wmX12_lookAtBoth ({ frames := 16, cells := 0, slots := 0, locals := 240 }) (va_Pc [.ref g0, .int p0, .int p1, .int p2] (mPre dC dI a ca g0 v w fi fl sz)) (va_Qi (S := MSt) (pI Q) (mB dC dI a ca g0 (va_A (mW a ca g0 v w fi fl) sz)) (va_A (mW a ca g0 v w fi fl) sz)) 0 0 (va_A (mW a ca g0 v w fi fl) sz) := by
  refine Met.ofW (cc := cX12_lookAtBoth) (maxL := 5) (ret := (some .int)) (by decide) rfl ?_
  intro p e s m args below meth c s₁ B hml hv
  obtain ⟨rfl, hsz, hP, hK, hD0⟩ := hv
  have hx := B.exec
  have hb := B.bytes
  have hr := B.returns
  have hts : ∀ w ∈ WM, w.before _ s = true := fun w h => atoms_spec (ws := wmX12_lookAtBoth) B.pre w (List.mem_cons_of_mem _ h)
  have hown : s.vm.findClass RX12 = some m.cls := findClass_of_methodNamed B.named
  have hlocks := B.notSynchronized
  subst hsz
  have hD := hD0.self (sz := s.heap.size)
  generalize hAe : va_A (mW a ca g0 v w fi fl) s.heap.size = A at hD ⊢
  have hA : ∀ q : Nat, s.heap.size ≤ q → A q := fun q h => by rw [← hAe]; exact Or.inr h
  generalize hH : s.heap = H at hP ⊢
  have hS : va_S A s.heap H [] := by rw [← hH]; exact va_S.rf
  have hl := lv_entry [.ref g0, .int p0, .int p1, .int p2] (n := 5) (Nat.le_of_ble_eq_true rfl)
  rw [lg_entry_eq]
  generalize (lg_sl [.ref g0, .int p0, .int p1, .int p2] ++ List.replicate (5 - (lg_sl [.ref g0, .int p0, .int p1, .int p2]).length) Slot.unset).toArray = ls at hl ⊢
  have hl : lv_has ls 5 [(0, .ref g0), (1, .int p0), (2, .int p1), (3, .int p2)] := hl
  unfold P_X12_lookAtBoth at h
  refine lv_aload_n hx hb dX12_lookAtBoth_0 rfl (lv_at hl 0 rfl) ?_
  refine lv_iload_n hx hb dX12_lookAtBoth_1 rfl (lv_at hl 1 rfl) ?_
  refine lv_iload_n hx hb dX12_lookAtBoth_2 rfl (lv_at hl 3 rfl) ?_
  refine m_calli (rm := ({ frames := 8, cells := 0, slots := 0, locals := 120 })) (As := [.int p0, .int p2]) (rest := []) (fun sz => p_X12_needCell l dC dI a ca g0 _ _ _ _ p0 p2 _ h sz) ⟨hx, hb, hml, hown, hts⟩ (cwV 2 hts (g_V gdM mwM_76 mwM_77 mwM_78 mwM_22 mwM_75) rfl rfl rfl hd_X12_needCell ⟨Nat.le_of_ble_eq_true rfl, Nat.le_of_ble_eq_true rfl⟩) rfl hl.1 rfl hK hP hD hS hA (Nat.le_of_ble_eq_true rfl) ⟨Nat.le_of_ble_eq_true rfl, Nat.le_of_ble_eq_true rfl⟩ dX12_lookAtBoth_3 (fun r1 v1 w1 fi1 fl1 H locs h hP hD hS => ?_)
  refine lv_istore (lv' := [(4, .int r1), (0, .ref g0), (1, .int p0), (2, .int p1), (3, .int p2)]) hx hb dX12_lookAtBoth_6 hl (by decide) rfl (fun ls hl => ?_)
  refine lv_iload hx hb dX12_lookAtBoth_8 (lv_at hl 0 rfl) ?_
  refine lv_iconst (v := (-1)) hx hb dX12_lookAtBoth_10 (by decide) ?_
  refine lv_icmp_eq (tgt := 17) hx hb dX12_lookAtBoth_11 (by decide) (fun c_11 => ?_) (fun c_11 => ?_)
  · have h := h.1 c_11
    refine lv_aload_n hx hb dX12_lookAtBoth_17 rfl (lv_at hl 1 rfl) ?_
    refine va_get (D := (dC, dI)) (ci := 11) (v := .int (v1 23)) (C := RX12) (T := TX12) (N := 32) hx hb hts hinM hown hK hP 0 rfl rfl 23 (by decide) (hts _ mwM_47) (fun _ h9 => h9) rfl dX12_lookAtBoth_18 ?_
    refine lv_iconst (v := 1) hx hb dX12_lookAtBoth_21 (by decide) ?_
    refine lv_icmp_ne (tgt := 35) hx hb dX12_lookAtBoth_22 (by decide) (fun c_22 => ?_) (fun c_22 => ?_)
    · have h := h.1 c_22
      refine lv_aload_n hx hb dX12_lookAtBoth_35 rfl (lv_at hl 1 rfl) ?_
      refine lv_aload_n hx hb dX12_lookAtBoth_36 rfl (lv_at hl 1 rfl) ?_
      refine va_get (D := (dC, dI)) (ci := 11) (v := .int (v1 23)) (C := RX12) (T := TX12) (N := 32) hx hb hts hinM hown hK hP 0 rfl rfl 23 (by decide) (hts _ mwM_47) (fun _ h9 => h9) rfl dX12_lookAtBoth_37 ?_
      refine m_calli (rm := ({ frames := 4, cells := 0, slots := 0, locals := 60 })) (As := [.int (v1 23)]) (rest := []) (fun sz => p_X12_as l dC dI a ca g0 _ _ _ _ (v1 23) _ h sz) ⟨hx, hb, hml, hown, hts⟩ (cwV 1 hts (g_V gdM mwM_80 mwM_81 mwM_82 mwM_22 mwM_79) rfl rfl rfl hd_X12_as ⟨Nat.le_of_ble_eq_true rfl, Nat.le_of_ble_eq_true rfl⟩) rfl hl.1 rfl hK hP hD hS hA (Nat.le_of_ble_eq_true rfl) ⟨Nat.le_of_ble_eq_true rfl, Nat.le_of_ble_eq_true rfl⟩ dX12_lookAtBoth_40 (fun r2 v2 w2 fi2 fl2 H locs h hP hD hS => ?_)
      exact W.iret (v := r2) hx hb hr (fun t ht hW => ⟨⟨_, (v2, w2, fi2, fl2), rfl, h, by rw [ht]; exact hP, va_K.moved hW.alike hK, hD⟩, hS.F ht⟩) hS.2.2 dX12_lookAtBoth_43
    · have h := h.2 c_22
      refine lv_aload_n hx hb dX12_lookAtBoth_25 rfl (lv_at hl 1 rfl) ?_
      refine lv_iload_n hx hb dX12_lookAtBoth_26 rfl (lv_at hl 3 rfl) ?_
      refine lv_iload_n hx hb dX12_lookAtBoth_27 rfl (lv_at hl 4 rfl) ?_
      refine lv_iconst (v := 0) hx hb dX12_lookAtBoth_28 (by decide) ?_
      refine m_calli (rm := ({ frames := 12, cells := 0, slots := 0, locals := 180 })) (As := [.int p1, .int p2, .int 0]) (rest := []) (fun sz => p_X12_like l dC dI a ca g0 _ _ _ _ p1 p2 0 _ h sz) ⟨hx, hb, hml, hown, hts⟩ (cwV 3 hts (g_V gdM mwM_91 mwM_92 mwM_93 mwM_22 mwM_90) rfl rfl rfl hd_X12_like ⟨Nat.le_of_ble_eq_true rfl, Nat.le_of_ble_eq_true rfl⟩) rfl hl.1 rfl hK hP hD hS hA (Nat.le_of_ble_eq_true rfl) ⟨Nat.le_of_ble_eq_true rfl, Nat.le_of_ble_eq_true rfl⟩ dX12_lookAtBoth_29 (fun r3 v3 w3 fi3 fl3 H locs h hP hD hS => ?_)
      refine lv_goto (tgt := 43) hx hb dX12_lookAtBoth_32 (by decide) ?_
      exact W.iret (v := r3) hx hb hr (fun t ht hW => ⟨⟨_, (v3, w3, fi3, fl3), rfl, h, by rw [ht]; exact hP, va_K.moved hW.alike hK, hD⟩, hS.F ht⟩) hS.2.2 dX12_lookAtBoth_43
  · have h := h.2 c_11
    refine lv_iload hx hb dX12_lookAtBoth_14 (lv_at hl 0 rfl) ?_
    exact W.iret (v := r1) hx hb hr (fun t ht hW => ⟨⟨_, (v1, w1, fi1, fl1), rfl, h, by rw [ht]; exact hP, va_K.moved hW.alike hK, hD⟩, hS.F ht⟩) hS.2.2 dX12_lookAtBoth_16

abbrev wmX12_lookOn : List Cond := .code yX12_lookOn cX12_lookOn 6 (some .int) :: WM
theorem hd_X12_lookOn : yX12_lookOn.cls = RX12 ∧ yX12_lookOn.cls ≠ "java/lang/invoke/MethodHandle" ∧ yX12_lookOn.cls ≠ "java/lang/invoke/VarHandle" ∧ (parseMethodDescriptor yX12_lookOn.desc).map (fun d => d.parameters.length) = some 3 := by decide +kernel
def B_X12_lookOn_24  (K24 : (Nat → Int32) → (Nat → Int64) → (Nat → Nat → Int32) → (Nat → Nat → Int64) → Int32 → Int32 → Int32 → Int32 → Prop) (Q : Int32 → (Nat → Int32) → (Nat → Int64) → (Nat → Nat → Int32) → (Nat → Nat → Int64) → Prop) (v : Nat → Int32) (w : Nat → Int64) (fi : Nat → Nat → Int32) (fl : Nat → Nat → Int64) (x1 : Int32) (x2 : Int32) (x3 : Int32) (x4 : Int32) : Prop := P_X12_needCell v w fi fl x2 x4 (fun r1 v1 w1 fi1 fl1 => ((r1 = (-1)) → ((((v1 23) = 1) → (P_X12_needItem v1 w1 fi1 fl1 x2 x4 (fun r2 v2 w2 fi2 fl2 => ((r2 = (-1)) → ((((v2 23) = 1) → (P_X12_isRight v2 w2 fi2 fl2 x1 x3 (w2 25) (fun r3 v3 w3 fi3 fl3 => ((r3 = 0) → (K24 v3 w3 fi3 fl3 x1 x2 x3 (x4 + 1))) ∧ ((¬ r3 = 0) → (P_X12_shares v3 w3 fi3 fl3 x2 x4 (fun r4 v4 w4 fi4 fl4 => Q r4 v4 w4 fi4 fl4)))))) ∧ ((¬ (v2 23) = 1) → (P_X12_as v2 w2 fi2 fl2 (v2 23) (fun r5 v5 w5 fi5 fl5 => Q r5 v5 w5 fi5 fl5))))) ∧ ((¬ r2 = (-1)) → (Q r2 v2 w2 fi2 fl2))))) ∧ ((¬ (v1 23) = 1) → (P_X12_as v1 w1 fi1 fl1 (v1 23) (fun r6 v6 w6 fi6 fl6 => Q r6 v6 w6 fi6 fl6))))) ∧ ((¬ r1 = (-1)) → (Q r1 v1 w1 fi1 fl1)))
def P_X12_lookOn_24  (Q : Int32 → (Nat → Int32) → (Nat → Int64) → (Nat → Nat → Int32) → (Nat → Nat → Int64) → Prop) : Nat → (Nat → Int32) → (Nat → Int64) → (Nat → Nat → Int32) → (Nat → Nat → Int64) → Int32 → Int32 → Int32 → Int32 → Prop
  | 0 => fun _ _ _ _ _ _ _ _ => False
  | n + 1 => B_X12_lookOn_24  (P_X12_lookOn_24  Q n) Q
set_option maxHeartbeats 4000000 in
set_option maxRecDepth 100000 in
theorem b_X12_lookOn_24 {p : Program} {l : Launch} {e : Env} {s : State} {m : MethodId} {args : Array Value} {below : List Frame} {meth : Method} {c : Code} {A : Nat → Prop} {dC : Nat → ClassId} {dI : Nat → Nat → Nat} {a : Nat → Nat} {ca : Nat → ClassId} {g0 : Nat}  {K24 : (Nat → Int32) → (Nat → Int64) → (Nat → Nat → Int32) → (Nat → Nat → Int64) → Int32 → Int32 → Int32 → Int32 → Prop} {Q : Int32 → (Nat → Int32) → (Nat → Int64) → (Nat → Nat → Int32) → (Nat → Nat → Int64) → Prop} (hx : p.tables.exec = Jvm.exec) (hb : c.code = cX12_lookOn) (hr : meth.sig.returnType = (some .int)) (hts : ∀ w ∈ WM, w.before args s = true) (hown : s.vm.findClass RX12 = some m.cls) (hlocks : meth.locks = false) (hml : c.maxLocals = 6) (hA : ∀ q : Nat, s.heap.size ≤ q → A q) (hK : va_K (dC, dI) vwCl (mT ca) s)  (hK24 : ∀ (v : Nat → Int32) (w : Nat → Int64) (fi : Nat → Nat → Int32) (fl : Nat → Nat → Int64) (x1 : Int32) (x2 : Int32) (x3 : Int32) (x4 : Int32) (H : Heap) (locs : List Loc) (ls : Array Slot), K24 v w fi fl x1 x2 x3 x4 → va_P (dC, dI) vwCl (mW a ca g0 v w fi fl) H → va_D A (mW a ca g0 v w fi fl) → va_S A s.heap H locs → lv_has ls 6 [(0, .ref g0), (1, .int x1), (2, .int x2), (3, .int x3), (4, .int x4)] → W p l e (headSpec wmX12_lookOn ({ frames := 16, cells := 0, slots := 0, locals := 240 })).room s m args below meth c H locs 0 0 (MQ below (va_Qi (S := MSt) (pI Q) (mB dC dI a ca g0 A) A) args s 0 0 A) (F0 m 24 ls [])) : ∀ (v : Nat → Int32) (w : Nat → Int64) (fi : Nat → Nat → Int32) (fl : Nat → Nat → Int64) (x1 : Int32) (x2 : Int32) (x3 : Int32) (x4 : Int32) (H : Heap) (locs : List Loc) (ls : Array Slot), B_X12_lookOn_24  K24 Q v w fi fl x1 x2 x3 x4 → va_P (dC, dI) vwCl (mW a ca g0 v w fi fl) H → va_D A (mW a ca g0 v w fi fl) → va_S A s.heap H locs → lv_has ls 6 [(0, .ref g0), (1, .int x1), (2, .int x2), (3, .int x3), (4, .int x4)] → W p l e (headSpec wmX12_lookOn ({ frames := 16, cells := 0, slots := 0, locals := 240 })).room s m args below meth c H locs 0 0 (MQ below (va_Qi (S := MSt) (pI Q) (mB dC dI a ca g0 A) A) args s 0 0 A) (F0 m 24 ls []) := by
  intro v w fi fl x1 x2 x3 x4 H locs ls h hP hD hS hl
  unfold B_X12_lookOn_24 at h
  refine lv_aload_n hx hb dX12_lookOn_24 rfl (lv_at hl 0 rfl) ?_
  refine lv_iload_n hx hb dX12_lookOn_25 rfl (lv_at hl 2 rfl) ?_
  refine lv_iload hx hb dX12_lookOn_26 (lv_at hl 4 rfl) ?_
  refine m_calli (rm := ({ frames := 8, cells := 0, slots := 0, locals := 120 })) (As := [.int x2, .int x4]) (rest := []) (fun sz => p_X12_needCell l dC dI a ca g0 _ _ _ _ x2 x4 _ h sz) ⟨hx, hb, hml, hown, hts⟩ (cwV 2 hts (g_V gdM mwM_76 mwM_77 mwM_78 mwM_22 mwM_75) rfl rfl rfl hd_X12_needCell ⟨Nat.le_of_ble_eq_true rfl, Nat.le_of_ble_eq_true rfl⟩) rfl hl.1 rfl hK hP hD hS hA (Nat.le_of_ble_eq_true rfl) ⟨Nat.le_of_ble_eq_true rfl, Nat.le_of_ble_eq_true rfl⟩ dX12_lookOn_28 (fun r1 v1 w1 fi1 fl1 H locs h hP hD hS => ?_)
  refine lv_istore (lv' := [(5, .int r1), (0, .ref g0), (1, .int x1), (2, .int x2), (3, .int x3), (4, .int x4)]) hx hb dX12_lookOn_31 hl (by decide) rfl (fun ls hl => ?_)
  refine lv_iload hx hb dX12_lookOn_33 (lv_at hl 0 rfl) ?_
  refine lv_iconst (v := (-1)) hx hb dX12_lookOn_35 (by decide) ?_
  refine lv_icmp_eq (tgt := 42) hx hb dX12_lookOn_36 (by decide) (fun c_36 => ?_) (fun c_36 => ?_)
  · have h := h.1 c_36
    refine lv_aload_n hx hb dX12_lookOn_42 rfl (lv_at hl 1 rfl) ?_
    refine va_get (D := (dC, dI)) (ci := 11) (v := .int (v1 23)) (C := RX12) (T := TX12) (N := 32) hx hb hts hinM hown hK hP 0 rfl rfl 23 (by decide) (hts _ mwM_47) (fun _ h9 => h9) rfl dX12_lookOn_43 ?_
    refine lv_iconst (v := 1) hx hb dX12_lookOn_46 (by decide) ?_
    refine lv_icmp_eq (tgt := 59) hx hb dX12_lookOn_47 (by decide) (fun c_47 => ?_) (fun c_47 => ?_)
    · have h := h.1 c_47
      refine lv_aload_n hx hb dX12_lookOn_59 rfl (lv_at hl 1 rfl) ?_
      refine lv_iload_n hx hb dX12_lookOn_60 rfl (lv_at hl 3 rfl) ?_
      refine lv_iload hx hb dX12_lookOn_61 (lv_at hl 5 rfl) ?_
      refine m_calli (rm := ({ frames := 12, cells := 0, slots := 0, locals := 180 })) (As := [.int x2, .int x4]) (rest := []) (fun sz => p_X12_needItem l dC dI a ca g0 _ _ _ _ x2 x4 _ h sz) ⟨hx, hb, hml, hown, hts⟩ (cwV 2 hts (g_V gdM mwM_95 mwM_96 mwM_97 mwM_22 mwM_94) rfl rfl rfl hd_X12_needItem ⟨Nat.le_of_ble_eq_true rfl, Nat.le_of_ble_eq_true rfl⟩) rfl hl.1 rfl hK hP hD hS hA (Nat.le_of_ble_eq_true rfl) ⟨Nat.le_of_ble_eq_true rfl, Nat.le_of_ble_eq_true rfl⟩ dX12_lookOn_63 (fun r2 v2 w2 fi2 fl2 H locs h hP hD hS => ?_)
      refine lv_istore (lv' := [(5, .int r2), (0, .ref g0), (1, .int x1), (2, .int x2), (3, .int x3), (4, .int x4)]) hx hb dX12_lookOn_66 hl (by decide) rfl (fun ls hl => ?_)
      refine lv_iload hx hb dX12_lookOn_68 (lv_at hl 0 rfl) ?_
      refine lv_iconst (v := (-1)) hx hb dX12_lookOn_70 (by decide) ?_
      refine lv_icmp_eq (tgt := 77) hx hb dX12_lookOn_71 (by decide) (fun c_71 => ?_) (fun c_71 => ?_)
      · have h := h.1 c_71
        refine lv_aload_n hx hb dX12_lookOn_77 rfl (lv_at hl 1 rfl) ?_
        refine va_get (D := (dC, dI)) (ci := 11) (v := .int (v2 23)) (C := RX12) (T := TX12) (N := 32) hx hb hts hinM hown hK hP 0 rfl rfl 23 (by decide) (hts _ mwM_47) (fun _ h9 => h9) rfl dX12_lookOn_78 ?_
        refine lv_iconst (v := 1) hx hb dX12_lookOn_81 (by decide) ?_
        refine lv_icmp_eq (tgt := 94) hx hb dX12_lookOn_82 (by decide) (fun c_82 => ?_) (fun c_82 => ?_)
        · have h := h.1 c_82
          refine lv_aload_n hx hb dX12_lookOn_94 rfl (lv_at hl 1 rfl) ?_
          refine lv_iload_n hx hb dX12_lookOn_95 rfl (lv_at hl 2 rfl) ?_
          refine lv_iload_n hx hb dX12_lookOn_96 rfl (lv_at hl 4 rfl) ?_
          refine lv_aload_n hx hb dX12_lookOn_97 rfl (lv_at hl 1 rfl) ?_
          refine va_get (D := (dC, dI)) (ci := 11) (v := .long (w2 25)) (C := RX12) (T := TX12) (N := 32) hx hb hts hinM hown hK hP 0 rfl rfl 25 (by decide) (hts _ mwM_56) (fun _ h9 => h9) rfl dX12_lookOn_98 ?_
          refine m_calli (rm := ({ frames := 12, cells := 0, slots := 0, locals := 180 })) (As := [.int x1, .int x3, .long (w2 25)]) (rest := []) (fun sz => p_X12_isRight l dC dI a ca g0 _ _ _ _ x1 x3 (w2 25) _ h sz) ⟨hx, hb, hml, hown, hts⟩ (cwV 3 hts (g_V gdM mwM_99 mwM_100 mwM_101 mwM_22 mwM_98) rfl rfl rfl hd_X12_isRight ⟨Nat.le_of_ble_eq_true rfl, Nat.le_of_ble_eq_true rfl⟩) rfl hl.1 rfl hK hP hD hS hA (Nat.le_of_ble_eq_true rfl) ⟨Nat.le_of_ble_eq_true rfl, Nat.le_of_ble_eq_true rfl⟩ dX12_lookOn_101 (fun r3 v3 w3 fi3 fl3 H locs h hP hD hS => ?_)
          refine lv_if_eq (tgt := 115) hx hb dX12_lookOn_104 (by decide) (fun c_104 => ?_) (fun c_104 => ?_)
          · have h := h.1 c_104
            refine lv_iinc (v := x4 + 1) (lv' := [(4, .int (x4 + 1)), (5, .int r2), (0, .ref g0), (1, .int x1), (2, .int x2), (3, .int x3)]) hx hb dX12_lookOn_115 hl (k := 5) rfl (iinc_1 _) (by decide) rfl (fun ls hl => ?_)
            refine lv_goto (tgt := 24) hx hb dX12_lookOn_118 (by decide) ?_
            exact hK24 _ _ _ _ _ _ _ _ H _ ls h hP hD hS (lv_sub hl [2, 3, 4, 5, 0] rfl)
          · have h := h.2 c_104
            refine lv_aload_n hx hb dX12_lookOn_107 rfl (lv_at hl 1 rfl) ?_
            refine lv_iload_n hx hb dX12_lookOn_108 rfl (lv_at hl 3 rfl) ?_
            refine lv_iload hx hb dX12_lookOn_109 (lv_at hl 5 rfl) ?_
            refine m_calli (rm := ({ frames := 4, cells := 0, slots := 0, locals := 60 })) (As := [.int x2, .int x4]) (rest := []) (fun sz => p_X12_shares l dC dI a ca g0 _ _ _ _ x2 x4 _ h sz) ⟨hx, hb, hml, hown, hts⟩ (cwV 2 hts (g_V gdM mwM_84 mwM_85 mwM_86 mwM_22 mwM_83) rfl rfl rfl hd_X12_shares ⟨Nat.le_of_ble_eq_true rfl, Nat.le_of_ble_eq_true rfl⟩) rfl hl.1 rfl hK hP hD hS hA (Nat.le_of_ble_eq_true rfl) ⟨Nat.le_of_ble_eq_true rfl, Nat.le_of_ble_eq_true rfl⟩ dX12_lookOn_111 (fun r4 v4 w4 fi4 fl4 H locs h hP hD hS => ?_)
            exact W.iret (v := r4) hx hb hr (fun t ht hW => ⟨⟨_, (v4, w4, fi4, fl4), rfl, h, by rw [ht]; exact hP, va_K.moved hW.alike hK, hD⟩, hS.F ht⟩) hS.2.2 dX12_lookOn_114
        · have h := h.2 c_82
          refine lv_aload_n hx hb dX12_lookOn_85 rfl (lv_at hl 1 rfl) ?_
          refine lv_aload_n hx hb dX12_lookOn_86 rfl (lv_at hl 1 rfl) ?_
          refine va_get (D := (dC, dI)) (ci := 11) (v := .int (v2 23)) (C := RX12) (T := TX12) (N := 32) hx hb hts hinM hown hK hP 0 rfl rfl 23 (by decide) (hts _ mwM_47) (fun _ h9 => h9) rfl dX12_lookOn_87 ?_
          refine m_calli (rm := ({ frames := 4, cells := 0, slots := 0, locals := 60 })) (As := [.int (v2 23)]) (rest := []) (fun sz => p_X12_as l dC dI a ca g0 _ _ _ _ (v2 23) _ h sz) ⟨hx, hb, hml, hown, hts⟩ (cwV 1 hts (g_V gdM mwM_80 mwM_81 mwM_82 mwM_22 mwM_79) rfl rfl rfl hd_X12_as ⟨Nat.le_of_ble_eq_true rfl, Nat.le_of_ble_eq_true rfl⟩) rfl hl.1 rfl hK hP hD hS hA (Nat.le_of_ble_eq_true rfl) ⟨Nat.le_of_ble_eq_true rfl, Nat.le_of_ble_eq_true rfl⟩ dX12_lookOn_90 (fun r5 v5 w5 fi5 fl5 H locs h hP hD hS => ?_)
          exact W.iret (v := r5) hx hb hr (fun t ht hW => ⟨⟨_, (v5, w5, fi5, fl5), rfl, h, by rw [ht]; exact hP, va_K.moved hW.alike hK, hD⟩, hS.F ht⟩) hS.2.2 dX12_lookOn_93
      · have h := h.2 c_71
        refine lv_iload hx hb dX12_lookOn_74 (lv_at hl 0 rfl) ?_
        exact W.iret (v := r2) hx hb hr (fun t ht hW => ⟨⟨_, (v2, w2, fi2, fl2), rfl, h, by rw [ht]; exact hP, va_K.moved hW.alike hK, hD⟩, hS.F ht⟩) hS.2.2 dX12_lookOn_76
    · have h := h.2 c_47
      refine lv_aload_n hx hb dX12_lookOn_50 rfl (lv_at hl 1 rfl) ?_
      refine lv_aload_n hx hb dX12_lookOn_51 rfl (lv_at hl 1 rfl) ?_
      refine va_get (D := (dC, dI)) (ci := 11) (v := .int (v1 23)) (C := RX12) (T := TX12) (N := 32) hx hb hts hinM hown hK hP 0 rfl rfl 23 (by decide) (hts _ mwM_47) (fun _ h9 => h9) rfl dX12_lookOn_52 ?_
      refine m_calli (rm := ({ frames := 4, cells := 0, slots := 0, locals := 60 })) (As := [.int (v1 23)]) (rest := []) (fun sz => p_X12_as l dC dI a ca g0 _ _ _ _ (v1 23) _ h sz) ⟨hx, hb, hml, hown, hts⟩ (cwV 1 hts (g_V gdM mwM_80 mwM_81 mwM_82 mwM_22 mwM_79) rfl rfl rfl hd_X12_as ⟨Nat.le_of_ble_eq_true rfl, Nat.le_of_ble_eq_true rfl⟩) rfl hl.1 rfl hK hP hD hS hA (Nat.le_of_ble_eq_true rfl) ⟨Nat.le_of_ble_eq_true rfl, Nat.le_of_ble_eq_true rfl⟩ dX12_lookOn_55 (fun r6 v6 w6 fi6 fl6 H locs h hP hD hS => ?_)
      exact W.iret (v := r6) hx hb hr (fun t ht hW => ⟨⟨_, (v6, w6, fi6, fl6), rfl, h, by rw [ht]; exact hP, va_K.moved hW.alike hK, hD⟩, hS.F ht⟩) hS.2.2 dX12_lookOn_58
  · have h := h.2 c_36
    refine lv_iload hx hb dX12_lookOn_39 (lv_at hl 0 rfl) ?_
    exact W.iret (v := r1) hx hb hr (fun t ht hW => ⟨⟨_, (v1, w1, fi1, fl1), rfl, h, by rw [ht]; exact hP, va_K.moved hW.alike hK, hD⟩, hS.F ht⟩) hS.2.2 dX12_lookOn_41
set_option maxHeartbeats 4000000 in
set_option maxRecDepth 100000 in
theorem t_X12_lookOn_24 {p : Program} {l : Launch} {e : Env} {s : State} {m : MethodId} {args : Array Value} {below : List Frame} {meth : Method} {c : Code} {A : Nat → Prop} {dC : Nat → ClassId} {dI : Nat → Nat → Nat} {a : Nat → Nat} {ca : Nat → ClassId} {g0 : Nat}  {Q : Int32 → (Nat → Int32) → (Nat → Int64) → (Nat → Nat → Int32) → (Nat → Nat → Int64) → Prop} (hx : p.tables.exec = Jvm.exec) (hb : c.code = cX12_lookOn) (hr : meth.sig.returnType = (some .int)) (hts : ∀ w ∈ WM, w.before args s = true) (hown : s.vm.findClass RX12 = some m.cls) (hlocks : meth.locks = false) (hml : c.maxLocals = 6) (hA : ∀ q : Nat, s.heap.size ≤ q → A q) (hK : va_K (dC, dI) vwCl (mT ca) s)  : ∀ n : Nat, ∀ (v : Nat → Int32) (w : Nat → Int64) (fi : Nat → Nat → Int32) (fl : Nat → Nat → Int64) (x1 : Int32) (x2 : Int32) (x3 : Int32) (x4 : Int32) (H : Heap) (locs : List Loc) (ls : Array Slot), P_X12_lookOn_24  Q n v w fi fl x1 x2 x3 x4 → va_P (dC, dI) vwCl (mW a ca g0 v w fi fl) H → va_D A (mW a ca g0 v w fi fl) → va_S A s.heap H locs → lv_has ls 6 [(0, .ref g0), (1, .int x1), (2, .int x2), (3, .int x3), (4, .int x4)] → W p l e (headSpec wmX12_lookOn ({ frames := 16, cells := 0, slots := 0, locals := 240 })).room s m args below meth c H locs 0 0 (MQ below (va_Qi (S := MSt) (pI Q) (mB dC dI a ca g0 A) A) args s 0 0 A) (F0 m 24 ls []) := by
  intro n
  induction n with
  | zero => intro v w fi fl x1 x2 x3 x4 H locs ls h; exact h.elim
  | succ n ih => exact b_X12_lookOn_24 hx hb hr hts hown hlocks hml hA hK  ih
def P_X12_lookOn (v : Nat → Int32) (w : Nat → Int64) (fi : Nat → Nat → Int32) (fl : Nat → Nat → Int64) (p0 : Int32) (p1 : Int32) (p2 : Int32) (Q : Int32 → (Nat → Int32) → (Nat → Int64) → (Nat → Nat → Int32) → (Nat → Nat → Int64) → Prop) : Prop := ((¬ p2 = 0) → (P_X12_place p0 (p2 - 1) (fun r1 => vp_in r1 9600 ∧ ∀ z3 : Int32, z3 = (fi 11 r1.toNatClampNeg) + 1 → ∃ n9 : Nat, P_X12_lookOn_24  Q n9 v w fi fl p0 p1 p2 z3))) ∧ ((p2 = 0) → (∃ n9 : Nat, P_X12_lookOn_24  Q n9 v w fi fl p0 p1 p2 (0 : Int32)))
set_option maxHeartbeats 4000000 in
set_option maxRecDepth 100000 in
theorem p_X12_lookOn (l : Launch) (dC : Nat → ClassId) (dI : Nat → Nat → Nat) (a : Nat → Nat) (ca : Nat → ClassId) (g0 : Nat) (v : Nat → Int32) (w : Nat → Int64) (fi : Nat → Nat → Int32) (fl : Nat → Nat → Int64) (p0 : Int32) (p1 : Int32) (p2 : Int32) (Q : Int32 → (Nat → Int32) → (Nat → Int64) → (Nat → Nat → Int32) → (Nat → Nat → Int64) → Prop) (h : P_X12_lookOn v w fi fl p0 p1 p2 Q) (sz : Nat) : Met l yX12_lookOn wmX12_lookOn ({ frames := 16, cells := 0, slots := 0, locals := 240 }) (va_Pc [.ref g0, .int p0, .int p1, .int p2] (mPre dC dI a ca g0 v w fi fl sz)) (va_Qi (S := MSt) (pI Q) (mB dC dI a ca g0 (va_A (mW a ca g0 v w fi fl) sz)) (va_A (mW a ca g0 v w fi fl) sz)) 0 0 (va_A (mW a ca g0 v w fi fl) sz) := by
  refine Met.ofW (cc := cX12_lookOn) (maxL := 6) (ret := (some .int)) (by decide) rfl ?_
  intro p e s m args below meth c s₁ B hml hv
  obtain ⟨rfl, hsz, hP, hK, hD0⟩ := hv
  have hx := B.exec
  have hb := B.bytes
  have hr := B.returns
  have hts : ∀ w ∈ WM, w.before _ s = true := fun w h => atoms_spec (ws := wmX12_lookOn) B.pre w (List.mem_cons_of_mem _ h)
  have hown : s.vm.findClass RX12 = some m.cls := findClass_of_methodNamed B.named
  have hlocks := B.notSynchronized
  subst hsz
  have hD := hD0.self (sz := s.heap.size)
  generalize hAe : va_A (mW a ca g0 v w fi fl) s.heap.size = A at hD ⊢
  have hA : ∀ q : Nat, s.heap.size ≤ q → A q := fun q h => by rw [← hAe]; exact Or.inr h
  generalize hH : s.heap = H at hP ⊢
  have hS : va_S A s.heap H [] := by rw [← hH]; exact va_S.rf
  have hl := lv_entry [.ref g0, .int p0, .int p1, .int p2] (n := 6) (Nat.le_of_ble_eq_true rfl)
  rw [lg_entry_eq]
  generalize (lg_sl [.ref g0, .int p0, .int p1, .int p2] ++ List.replicate (6 - (lg_sl [.ref g0, .int p0, .int p1, .int p2]).length) Slot.unset).toArray = ls at hl ⊢
  have hl : lv_has ls 6 [(0, .ref g0), (1, .int p0), (2, .int p1), (3, .int p2)] := hl
  unfold P_X12_lookOn at h
  refine lv_iload_n hx hb dX12_lookOn_0 rfl (lv_at hl 3 rfl) ?_
  refine lv_if_ne (tgt := 8) hx hb dX12_lookOn_1 (by decide) (fun c_1 => ?_) (fun c_1 => ?_)
  · have h := h.1 c_1
    refine lv_aload_n hx hb dX12_lookOn_8 rfl (lv_at hl 0 rfl) ?_
    refine va_get (D := (dC, dI)) (ci := 11) (v := .ref (a 11)) (C := RX12) (T := TX12) (N := 32) hx hb hts hinM hown hK hP 0 rfl rfl 11 (by decide) (hts _ mwM_50) (fun _ h9 => h9) rfl dX12_lookOn_9 ?_
    refine lv_iload_n hx hb dX12_lookOn_12 rfl (lv_at hl 1 rfl) ?_
    refine lv_iload_n hx hb dX12_lookOn_13 rfl (lv_at hl 3 rfl) ?_
    refine lv_iconst (v := 1) hx hb dX12_lookOn_14 (by decide) ?_
    refine lv_isub hx hb dX12_lookOn_15 ?_
    refine s_calli (rm := ({ frames := 4, cells := 0, slots := 0, locals := 60 })) (As := [.int p0, .int (p2 - 1)]) (rest := [.ref (a 11)]) (fun sz => p_X12_place l dC dI p0 (p2 - 1) _ h sz) ⟨hx, hb, hml, hown, hts⟩ (va_cwS 2 hts (g_S gdM mwM_45 mwM_46 mwM_22 mwM_44) rfl rfl rfl hd_X12_place ⟨Nat.le_of_ble_eq_true rfl, Nat.le_of_ble_eq_true rfl⟩) rfl hl.1 rfl hP hD hS hA (Nat.le_of_ble_eq_true rfl) ⟨Nat.le_of_ble_eq_true rfl, Nat.le_of_ble_eq_true rfl⟩ dX12_lookOn_16 (fun r1 H locs h hP hS => ?_)
    obtain ⟨hi2, h⟩ := h
    refine va_iald (f := fi 11) hx hb hK hP 11 10 rfl rfl hi2 dX12_lookOn_19 ?_
    refine lv_iconst (v := 1) hx hb dX12_lookOn_20 (by decide) ?_
    refine lv_iadd hx hb dX12_lookOn_21 ?_
    refine lv_topi (fun z3 ez3 => ?_)
    have h := h z3 ez3
    refine lv_istore (lv' := [(4, .int z3), (0, .ref g0), (1, .int p0), (2, .int p1), (3, .int p2)]) hx hb dX12_lookOn_22 hl (by decide) rfl (fun ls hl => ?_)
    obtain ⟨n9, h⟩ := h
    exact t_X12_lookOn_24 hx hb hr hts hown hlocks hml hA hK  n9 _ _ _ _ _ _ _ _ H _ ls h hP hD hS (lv_sub hl [1, 2, 3, 4, 0] rfl)
  · have h := h.2 c_1
    refine lv_iconst (v := 0) hx hb dX12_lookOn_4 (by decide) ?_
    refine lv_goto (tgt := 22) hx hb dX12_lookOn_5 (by decide) ?_
    refine lv_istore (lv' := [(4, .int 0), (0, .ref g0), (1, .int p0), (2, .int p1), (3, .int p2)]) hx hb dX12_lookOn_22 hl (by decide) rfl (fun ls hl => ?_)
    obtain ⟨n9, h⟩ := h
    exact t_X12_lookOn_24 hx hb hr hts hown hlocks hml hA hK  n9 _ _ _ _ _ _ _ _ H _ ls h hP hD hS (lv_sub hl [1, 2, 3, 4, 0] rfl)

abbrev wmX12_lookAtDuring : List Cond := .code yX12_lookAtDuring cX12_lookAtDuring 5 (some .int) :: WM
theorem hd_X12_lookAtDuring : yX12_lookAtDuring.cls = RX12 ∧ yX12_lookAtDuring.cls ≠ "java/lang/invoke/MethodHandle" ∧ yX12_lookAtDuring.cls ≠ "java/lang/invoke/VarHandle" ∧ (parseMethodDescriptor yX12_lookAtDuring.desc).map (fun d => d.parameters.length) = some 3 := by decide +kernel
def P_X12_lookAtDuring (v : Nat → Int32) (w : Nat → Int64) (fi : Nat → Nat → Int32) (fl : Nat → Nat → Int64) (p0 : Int32) (p1 : Int32) (p2 : Int32) (Q : Int32 → (Nat → Int32) → (Nat → Int64) → (Nat → Nat → Int32) → (Nat → Nat → Int64) → Prop) : Prop := P_X12_needCell v w fi fl p1 p2 (fun r1 v1 w1 fi1 fl1 => ((r1 = (-1)) → ((((v1 23) = 1) → (P_X12_needItem v1 w1 fi1 fl1 p1 p2 (fun r2 v2 w2 fi2 fl2 => ((r2 = (-1)) → ((((v2 23) = 1) → (vp_in p0 24 ∧ vp_in p0 24 ∧ P_X12_meets (fi2 4 p0.toNatClampNeg) (w2 25) (fl2 5 p0.toNatClampNeg) (fun r5 => ((r5 = 0) → (P_X12_as v2 w2 fi2 fl2 2 (fun r6 v6 w6 fi6 fl6 => Q r6 v6 w6 fi6 fl6))) ∧ ((¬ r5 = 0) → (P_X12_shares v2 w2 fi2 fl2 p1 p2 (fun r7 v7 w7 fi7 fl7 => Q r7 v7 w7 fi7 fl7)))))) ∧ ((¬ (v2 23) = 1) → (P_X12_as v2 w2 fi2 fl2 (v2 23) (fun r8 v8 w8 fi8 fl8 => Q r8 v8 w8 fi8 fl8))))) ∧ ((¬ r2 = (-1)) → (Q r2 v2 w2 fi2 fl2))))) ∧ ((¬ (v1 23) = 1) → (P_X12_as v1 w1 fi1 fl1 (v1 23) (fun r9 v9 w9 fi9 fl9 => Q r9 v9 w9 fi9 fl9))))) ∧ ((¬ r1 = (-1)) → (Q r1 v1 w1 fi1 fl1)))
set_option maxHeartbeats 4000000 in
set_option maxRecDepth 100000 in
theorem p_X12_lookAtDuring (l : Launch) (dC : Nat → ClassId) (dI : Nat → Nat → Nat) (a : Nat → Nat) (ca : Nat → ClassId) (g0 : Nat) (v : Nat → Int32) (w : Nat → Int64) (fi : Nat → Nat → Int32) (fl : Nat → Nat → Int64) (p0 : Int32) (p1 : Int32) (p2 : Int32) (Q : Int32 → (Nat → Int32) → (Nat → Int64) → (Nat → Nat → Int32) → (Nat → Nat → Int64) → Prop) (h : P_X12_lookAtDuring v w fi fl p0 p1 p2 Q) (sz : Nat) : Met l yX12_lookAtDuring wmX12_lookAtDuring ({ frames := 16, cells := 0, slots := 0, locals := 240 }) (va_Pc [.ref g0, .int p0, .int p1, .int p2] (mPre dC dI a ca g0 v w fi fl sz)) (va_Qi (S := MSt) (pI Q) (mB dC dI a ca g0 (va_A (mW a ca g0 v w fi fl) sz)) (va_A (mW a ca g0 v w fi fl) sz)) 0 0 (va_A (mW a ca g0 v w fi fl) sz) := by
  refine Met.ofW (cc := cX12_lookAtDuring) (maxL := 5) (ret := (some .int)) (by decide) rfl ?_
  intro p e s m args below meth c s₁ B hml hv
  obtain ⟨rfl, hsz, hP, hK, hD0⟩ := hv
  have hx := B.exec
  have hb := B.bytes
  have hr := B.returns
  have hts : ∀ w ∈ WM, w.before _ s = true := fun w h => atoms_spec (ws := wmX12_lookAtDuring) B.pre w (List.mem_cons_of_mem _ h)
  have hown : s.vm.findClass RX12 = some m.cls := findClass_of_methodNamed B.named
  have hlocks := B.notSynchronized
  subst hsz
  have hD := hD0.self (sz := s.heap.size)
  generalize hAe : va_A (mW a ca g0 v w fi fl) s.heap.size = A at hD ⊢
  have hA : ∀ q : Nat, s.heap.size ≤ q → A q := fun q h => by rw [← hAe]; exact Or.inr h
  generalize hH : s.heap = H at hP ⊢
  have hS : va_S A s.heap H [] := by rw [← hH]; exact va_S.rf
  have hl := lv_entry [.ref g0, .int p0, .int p1, .int p2] (n := 5) (Nat.le_of_ble_eq_true rfl)
  rw [lg_entry_eq]
  generalize (lg_sl [.ref g0, .int p0, .int p1, .int p2] ++ List.replicate (5 - (lg_sl [.ref g0, .int p0, .int p1, .int p2]).length) Slot.unset).toArray = ls at hl ⊢
  have hl : lv_has ls 5 [(0, .ref g0), (1, .int p0), (2, .int p1), (3, .int p2)] := hl
  unfold P_X12_lookAtDuring at h
  refine lv_aload_n hx hb dX12_lookAtDuring_0 rfl (lv_at hl 0 rfl) ?_
  refine lv_iload_n hx hb dX12_lookAtDuring_1 rfl (lv_at hl 2 rfl) ?_
  refine lv_iload_n hx hb dX12_lookAtDuring_2 rfl (lv_at hl 3 rfl) ?_
  refine m_calli (rm := ({ frames := 8, cells := 0, slots := 0, locals := 120 })) (As := [.int p1, .int p2]) (rest := []) (fun sz => p_X12_needCell l dC dI a ca g0 _ _ _ _ p1 p2 _ h sz) ⟨hx, hb, hml, hown, hts⟩ (cwV 2 hts (g_V gdM mwM_76 mwM_77 mwM_78 mwM_22 mwM_75) rfl rfl rfl hd_X12_needCell ⟨Nat.le_of_ble_eq_true rfl, Nat.le_of_ble_eq_true rfl⟩) rfl hl.1 rfl hK hP hD hS hA (Nat.le_of_ble_eq_true rfl) ⟨Nat.le_of_ble_eq_true rfl, Nat.le_of_ble_eq_true rfl⟩ dX12_lookAtDuring_3 (fun r1 v1 w1 fi1 fl1 H locs h hP hD hS => ?_)
  refine lv_istore (lv' := [(4, .int r1), (0, .ref g0), (1, .int p0), (2, .int p1), (3, .int p2)]) hx hb dX12_lookAtDuring_6 hl (by decide) rfl (fun ls hl => ?_)
  refine lv_iload hx hb dX12_lookAtDuring_8 (lv_at hl 0 rfl) ?_
  refine lv_iconst (v := (-1)) hx hb dX12_lookAtDuring_10 (by decide) ?_
  refine lv_icmp_eq (tgt := 17) hx hb dX12_lookAtDuring_11 (by decide) (fun c_11 => ?_) (fun c_11 => ?_)
  · have h := h.1 c_11
    refine lv_aload_n hx hb dX12_lookAtDuring_17 rfl (lv_at hl 1 rfl) ?_
    refine va_get (D := (dC, dI)) (ci := 11) (v := .int (v1 23)) (C := RX12) (T := TX12) (N := 32) hx hb hts hinM hown hK hP 0 rfl rfl 23 (by decide) (hts _ mwM_47) (fun _ h9 => h9) rfl dX12_lookAtDuring_18 ?_
    refine lv_iconst (v := 1) hx hb dX12_lookAtDuring_21 (by decide) ?_
    refine lv_icmp_eq (tgt := 34) hx hb dX12_lookAtDuring_22 (by decide) (fun c_22 => ?_) (fun c_22 => ?_)
    · have h := h.1 c_22
      refine lv_aload_n hx hb dX12_lookAtDuring_34 rfl (lv_at hl 1 rfl) ?_
      refine lv_iload_n hx hb dX12_lookAtDuring_35 rfl (lv_at hl 3 rfl) ?_
      refine lv_iload_n hx hb dX12_lookAtDuring_36 rfl (lv_at hl 4 rfl) ?_
      refine m_calli (rm := ({ frames := 12, cells := 0, slots := 0, locals := 180 })) (As := [.int p1, .int p2]) (rest := []) (fun sz => p_X12_needItem l dC dI a ca g0 _ _ _ _ p1 p2 _ h sz) ⟨hx, hb, hml, hown, hts⟩ (cwV 2 hts (g_V gdM mwM_95 mwM_96 mwM_97 mwM_22 mwM_94) rfl rfl rfl hd_X12_needItem ⟨Nat.le_of_ble_eq_true rfl, Nat.le_of_ble_eq_true rfl⟩) rfl hl.1 rfl hK hP hD hS hA (Nat.le_of_ble_eq_true rfl) ⟨Nat.le_of_ble_eq_true rfl, Nat.le_of_ble_eq_true rfl⟩ dX12_lookAtDuring_37 (fun r2 v2 w2 fi2 fl2 H locs h hP hD hS => ?_)
      refine lv_istore (lv' := [(4, .int r2), (0, .ref g0), (1, .int p0), (2, .int p1), (3, .int p2)]) hx hb dX12_lookAtDuring_40 hl (by decide) rfl (fun ls hl => ?_)
      refine lv_iload hx hb dX12_lookAtDuring_42 (lv_at hl 0 rfl) ?_
      refine lv_iconst (v := (-1)) hx hb dX12_lookAtDuring_44 (by decide) ?_
      refine lv_icmp_eq (tgt := 51) hx hb dX12_lookAtDuring_45 (by decide) (fun c_45 => ?_) (fun c_45 => ?_)
      · have h := h.1 c_45
        refine lv_aload_n hx hb dX12_lookAtDuring_51 rfl (lv_at hl 1 rfl) ?_
        refine va_get (D := (dC, dI)) (ci := 11) (v := .int (v2 23)) (C := RX12) (T := TX12) (N := 32) hx hb hts hinM hown hK hP 0 rfl rfl 23 (by decide) (hts _ mwM_47) (fun _ h9 => h9) rfl dX12_lookAtDuring_52 ?_
        refine lv_iconst (v := 1) hx hb dX12_lookAtDuring_55 (by decide) ?_
        refine lv_icmp_eq (tgt := 68) hx hb dX12_lookAtDuring_56 (by decide) (fun c_56 => ?_) (fun c_56 => ?_)
        · have h := h.1 c_56
          refine lv_aload_n hx hb dX12_lookAtDuring_68 rfl (lv_at hl 1 rfl) ?_
          refine va_get (D := (dC, dI)) (ci := 11) (v := .ref (a 4)) (C := RX12) (T := TX12) (N := 32) hx hb hts hinM hown hK hP 0 rfl rfl 4 (by decide) (hts _ mwM_5) (fun _ h9 => h9) rfl dX12_lookAtDuring_69 ?_
          refine lv_iload_n hx hb dX12_lookAtDuring_72 rfl (lv_at hl 2 rfl) ?_
          obtain ⟨hi3, h⟩ := h
          refine va_iald (f := fi2 4) hx hb hK hP 4 3 rfl rfl hi3 dX12_lookAtDuring_73 ?_
          refine lv_aload_n hx hb dX12_lookAtDuring_74 rfl (lv_at hl 1 rfl) ?_
          refine va_get (D := (dC, dI)) (ci := 11) (v := .long (w2 25)) (C := RX12) (T := TX12) (N := 32) hx hb hts hinM hown hK hP 0 rfl rfl 25 (by decide) (hts _ mwM_56) (fun _ h9 => h9) rfl dX12_lookAtDuring_75 ?_
          refine lv_aload_n hx hb dX12_lookAtDuring_78 rfl (lv_at hl 1 rfl) ?_
          refine va_get (D := (dC, dI)) (ci := 11) (v := .ref (a 5)) (C := RX12) (T := TX12) (N := 32) hx hb hts hinM hown hK hP 0 rfl rfl 5 (by decide) (hts _ mwM_6) (fun _ h9 => h9) rfl dX12_lookAtDuring_79 ?_
          refine lv_iload_n hx hb dX12_lookAtDuring_82 rfl (lv_at hl 2 rfl) ?_
          obtain ⟨hi4, h⟩ := h
          refine va_lald (f := fl2 5) hx hb hK hP 5 4 rfl rfl hi4 dX12_lookAtDuring_83 ?_
          refine s_calli (rm := ({ frames := 4, cells := 0, slots := 0, locals := 60 })) (As := [.int (fi2 4 p0.toNatClampNeg), .long (w2 25), .long (fl2 5 p0.toNatClampNeg)]) (rest := []) (fun sz => p_X12_meets l dC dI (fi2 4 p0.toNatClampNeg) (w2 25) (fl2 5 p0.toNatClampNeg) _ h sz) ⟨hx, hb, hml, hown, hts⟩ (va_cwS 3 hts (g_S gdM mwM_88 mwM_89 mwM_22 mwM_87) rfl rfl rfl hd_X12_meets ⟨Nat.le_of_ble_eq_true rfl, Nat.le_of_ble_eq_true rfl⟩) rfl hl.1 rfl hP hD hS hA (Nat.le_of_ble_eq_true rfl) ⟨Nat.le_of_ble_eq_true rfl, Nat.le_of_ble_eq_true rfl⟩ dX12_lookAtDuring_84 (fun r5 H locs h hP hS => ?_)
          refine lv_if_eq (tgt := 99) hx hb dX12_lookAtDuring_87 (by decide) (fun c_87 => ?_) (fun c_87 => ?_)
          · have h := h.1 c_87
            refine lv_aload_n hx hb dX12_lookAtDuring_99 rfl (lv_at hl 1 rfl) ?_
            refine lv_iconst (v := 2) hx hb dX12_lookAtDuring_100 (by decide) ?_
            refine m_calli (rm := ({ frames := 4, cells := 0, slots := 0, locals := 60 })) (As := [.int 2]) (rest := []) (fun sz => p_X12_as l dC dI a ca g0 _ _ _ _ 2 _ h sz) ⟨hx, hb, hml, hown, hts⟩ (cwV 1 hts (g_V gdM mwM_80 mwM_81 mwM_82 mwM_22 mwM_79) rfl rfl rfl hd_X12_as ⟨Nat.le_of_ble_eq_true rfl, Nat.le_of_ble_eq_true rfl⟩) rfl hl.1 rfl hK hP hD hS hA (Nat.le_of_ble_eq_true rfl) ⟨Nat.le_of_ble_eq_true rfl, Nat.le_of_ble_eq_true rfl⟩ dX12_lookAtDuring_101 (fun r6 v6 w6 fi6 fl6 H locs h hP hD hS => ?_)
            exact W.iret (v := r6) hx hb hr (fun t ht hW => ⟨⟨_, (v6, w6, fi6, fl6), rfl, h, by rw [ht]; exact hP, va_K.moved hW.alike hK, hD⟩, hS.F ht⟩) hS.2.2 dX12_lookAtDuring_104
          · have h := h.2 c_87
            refine lv_aload_n hx hb dX12_lookAtDuring_90 rfl (lv_at hl 1 rfl) ?_
            refine lv_iload_n hx hb dX12_lookAtDuring_91 rfl (lv_at hl 3 rfl) ?_
            refine lv_iload_n hx hb dX12_lookAtDuring_92 rfl (lv_at hl 4 rfl) ?_
            refine m_calli (rm := ({ frames := 4, cells := 0, slots := 0, locals := 60 })) (As := [.int p1, .int p2]) (rest := []) (fun sz => p_X12_shares l dC dI a ca g0 _ _ _ _ p1 p2 _ h sz) ⟨hx, hb, hml, hown, hts⟩ (cwV 2 hts (g_V gdM mwM_84 mwM_85 mwM_86 mwM_22 mwM_83) rfl rfl rfl hd_X12_shares ⟨Nat.le_of_ble_eq_true rfl, Nat.le_of_ble_eq_true rfl⟩) rfl hl.1 rfl hK hP hD hS hA (Nat.le_of_ble_eq_true rfl) ⟨Nat.le_of_ble_eq_true rfl, Nat.le_of_ble_eq_true rfl⟩ dX12_lookAtDuring_93 (fun r7 v7 w7 fi7 fl7 H locs h hP hD hS => ?_)
            refine lv_goto (tgt := 104) hx hb dX12_lookAtDuring_96 (by decide) ?_
            exact W.iret (v := r7) hx hb hr (fun t ht hW => ⟨⟨_, (v7, w7, fi7, fl7), rfl, h, by rw [ht]; exact hP, va_K.moved hW.alike hK, hD⟩, hS.F ht⟩) hS.2.2 dX12_lookAtDuring_104
        · have h := h.2 c_56
          refine lv_aload_n hx hb dX12_lookAtDuring_59 rfl (lv_at hl 1 rfl) ?_
          refine lv_aload_n hx hb dX12_lookAtDuring_60 rfl (lv_at hl 1 rfl) ?_
          refine va_get (D := (dC, dI)) (ci := 11) (v := .int (v2 23)) (C := RX12) (T := TX12) (N := 32) hx hb hts hinM hown hK hP 0 rfl rfl 23 (by decide) (hts _ mwM_47) (fun _ h9 => h9) rfl dX12_lookAtDuring_61 ?_
          refine m_calli (rm := ({ frames := 4, cells := 0, slots := 0, locals := 60 })) (As := [.int (v2 23)]) (rest := []) (fun sz => p_X12_as l dC dI a ca g0 _ _ _ _ (v2 23) _ h sz) ⟨hx, hb, hml, hown, hts⟩ (cwV 1 hts (g_V gdM mwM_80 mwM_81 mwM_82 mwM_22 mwM_79) rfl rfl rfl hd_X12_as ⟨Nat.le_of_ble_eq_true rfl, Nat.le_of_ble_eq_true rfl⟩) rfl hl.1 rfl hK hP hD hS hA (Nat.le_of_ble_eq_true rfl) ⟨Nat.le_of_ble_eq_true rfl, Nat.le_of_ble_eq_true rfl⟩ dX12_lookAtDuring_64 (fun r8 v8 w8 fi8 fl8 H locs h hP hD hS => ?_)
          exact W.iret (v := r8) hx hb hr (fun t ht hW => ⟨⟨_, (v8, w8, fi8, fl8), rfl, h, by rw [ht]; exact hP, va_K.moved hW.alike hK, hD⟩, hS.F ht⟩) hS.2.2 dX12_lookAtDuring_67
      · have h := h.2 c_45
        refine lv_iload hx hb dX12_lookAtDuring_48 (lv_at hl 0 rfl) ?_
        exact W.iret (v := r2) hx hb hr (fun t ht hW => ⟨⟨_, (v2, w2, fi2, fl2), rfl, h, by rw [ht]; exact hP, va_K.moved hW.alike hK, hD⟩, hS.F ht⟩) hS.2.2 dX12_lookAtDuring_50
    · have h := h.2 c_22
      refine lv_aload_n hx hb dX12_lookAtDuring_25 rfl (lv_at hl 1 rfl) ?_
      refine lv_aload_n hx hb dX12_lookAtDuring_26 rfl (lv_at hl 1 rfl) ?_
      refine va_get (D := (dC, dI)) (ci := 11) (v := .int (v1 23)) (C := RX12) (T := TX12) (N := 32) hx hb hts hinM hown hK hP 0 rfl rfl 23 (by decide) (hts _ mwM_47) (fun _ h9 => h9) rfl dX12_lookAtDuring_27 ?_
      refine m_calli (rm := ({ frames := 4, cells := 0, slots := 0, locals := 60 })) (As := [.int (v1 23)]) (rest := []) (fun sz => p_X12_as l dC dI a ca g0 _ _ _ _ (v1 23) _ h sz) ⟨hx, hb, hml, hown, hts⟩ (cwV 1 hts (g_V gdM mwM_80 mwM_81 mwM_82 mwM_22 mwM_79) rfl rfl rfl hd_X12_as ⟨Nat.le_of_ble_eq_true rfl, Nat.le_of_ble_eq_true rfl⟩) rfl hl.1 rfl hK hP hD hS hA (Nat.le_of_ble_eq_true rfl) ⟨Nat.le_of_ble_eq_true rfl, Nat.le_of_ble_eq_true rfl⟩ dX12_lookAtDuring_30 (fun r9 v9 w9 fi9 fl9 H locs h hP hD hS => ?_)
      exact W.iret (v := r9) hx hb hr (fun t ht hW => ⟨⟨_, (v9, w9, fi9, fl9), rfl, h, by rw [ht]; exact hP, va_K.moved hW.alike hK, hD⟩, hS.F ht⟩) hS.2.2 dX12_lookAtDuring_33
  · have h := h.2 c_11
    refine lv_iload hx hb dX12_lookAtDuring_14 (lv_at hl 0 rfl) ?_
    exact W.iret (v := r1) hx hb hr (fun t ht hW => ⟨⟨_, (v1, w1, fi1, fl1), rfl, h, by rw [ht]; exact hP, va_K.moved hW.alike hK, hD⟩, hS.F ht⟩) hS.2.2 dX12_lookAtDuring_16

abbrev wmX12_lookAtJoin : List Cond := .code yX12_lookAtJoin cX12_lookAtJoin 5 (some .int) :: WM
theorem hd_X12_lookAtJoin : yX12_lookAtJoin.cls = RX12 ∧ yX12_lookAtJoin.cls ≠ "java/lang/invoke/MethodHandle" ∧ yX12_lookAtJoin.cls ≠ "java/lang/invoke/VarHandle" ∧ (parseMethodDescriptor yX12_lookAtJoin.desc).map (fun d => d.parameters.length) = some 3 := by decide +kernel
def P_X12_lookAtJoin (v : Nat → Int32) (w : Nat → Int64) (fi : Nat → Nat → Int32) (fl : Nat → Nat → Int64) (p0 : Int32) (p1 : Int32) (p2 : Int32) (Q : Int32 → (Nat → Int32) → (Nat → Int64) → (Nat → Nat → Int32) → (Nat → Nat → Int64) → Prop) : Prop := P_X12_needCell v w fi fl p0 p2 (fun r1 v1 w1 fi1 fl1 => ((r1 = (-1)) → (((¬ (v1 23) = 2) → (((¬ (v1 23) = 1) → (P_X12_as v1 w1 fi1 fl1 (v1 23) (fun r2 v2 w2 fi2 fl2 => Q r2 v2 w2 fi2 fl2))) ∧ (((v1 23) = 1) → (P_X12_shares v1 w1 fi1 fl1 p0 p2 (fun r3 v3 w3 fi3 fl3 => Q r3 v3 w3 fi3 fl3))))) ∧ (((v1 23) = 2) → (P_X12_like v1 w1 fi1 fl1 p1 (p2 - (v1 24)) 1 (fun r4 v4 w4 fi4 fl4 => Q r4 v4 w4 fi4 fl4))))) ∧ ((¬ r1 = (-1)) → (Q r1 v1 w1 fi1 fl1)))
set_option maxHeartbeats 4000000 in
set_option maxRecDepth 100000 in
theorem p_X12_lookAtJoin (l : Launch) (dC : Nat → ClassId) (dI : Nat → Nat → Nat) (a : Nat → Nat) (ca : Nat → ClassId) (g0 : Nat) (v : Nat → Int32) (w : Nat → Int64) (fi : Nat → Nat → Int32) (fl : Nat → Nat → Int64) (p0 : Int32) (p1 : Int32) (p2 : Int32) (Q : Int32 → (Nat → Int32) → (Nat → Int64) → (Nat → Nat → Int32) → (Nat → Nat → Int64) → Prop) (h : P_X12_lookAtJoin v w fi fl p0 p1 p2 Q) (sz : Nat) : Met l yX12_lookAtJoin wmX12_lookAtJoin ({ frames := 16, cells := 0, slots := 0, locals := 240 }) (va_Pc [.ref g0, .int p0, .int p1, .int p2] (mPre dC dI a ca g0 v w fi fl sz)) (va_Qi (S := MSt) (pI Q) (mB dC dI a ca g0 (va_A (mW a ca g0 v w fi fl) sz)) (va_A (mW a ca g0 v w fi fl) sz)) 0 0 (va_A (mW a ca g0 v w fi fl) sz) := by
  refine Met.ofW (cc := cX12_lookAtJoin) (maxL := 5) (ret := (some .int)) (by decide) rfl ?_
  intro p e s m args below meth c s₁ B hml hv
  obtain ⟨rfl, hsz, hP, hK, hD0⟩ := hv
  have hx := B.exec
  have hb := B.bytes
  have hr := B.returns
  have hts : ∀ w ∈ WM, w.before _ s = true := fun w h => atoms_spec (ws := wmX12_lookAtJoin) B.pre w (List.mem_cons_of_mem _ h)
  have hown : s.vm.findClass RX12 = some m.cls := findClass_of_methodNamed B.named
  have hlocks := B.notSynchronized
  subst hsz
  have hD := hD0.self (sz := s.heap.size)
  generalize hAe : va_A (mW a ca g0 v w fi fl) s.heap.size = A at hD ⊢
  have hA : ∀ q : Nat, s.heap.size ≤ q → A q := fun q h => by rw [← hAe]; exact Or.inr h
  generalize hH : s.heap = H at hP ⊢
  have hS : va_S A s.heap H [] := by rw [← hH]; exact va_S.rf
  have hl := lv_entry [.ref g0, .int p0, .int p1, .int p2] (n := 5) (Nat.le_of_ble_eq_true rfl)
  rw [lg_entry_eq]
  generalize (lg_sl [.ref g0, .int p0, .int p1, .int p2] ++ List.replicate (5 - (lg_sl [.ref g0, .int p0, .int p1, .int p2]).length) Slot.unset).toArray = ls at hl ⊢
  have hl : lv_has ls 5 [(0, .ref g0), (1, .int p0), (2, .int p1), (3, .int p2)] := hl
  unfold P_X12_lookAtJoin at h
  refine lv_aload_n hx hb dX12_lookAtJoin_0 rfl (lv_at hl 0 rfl) ?_
  refine lv_iload_n hx hb dX12_lookAtJoin_1 rfl (lv_at hl 1 rfl) ?_
  refine lv_iload_n hx hb dX12_lookAtJoin_2 rfl (lv_at hl 3 rfl) ?_
  refine m_calli (rm := ({ frames := 8, cells := 0, slots := 0, locals := 120 })) (As := [.int p0, .int p2]) (rest := []) (fun sz => p_X12_needCell l dC dI a ca g0 _ _ _ _ p0 p2 _ h sz) ⟨hx, hb, hml, hown, hts⟩ (cwV 2 hts (g_V gdM mwM_76 mwM_77 mwM_78 mwM_22 mwM_75) rfl rfl rfl hd_X12_needCell ⟨Nat.le_of_ble_eq_true rfl, Nat.le_of_ble_eq_true rfl⟩) rfl hl.1 rfl hK hP hD hS hA (Nat.le_of_ble_eq_true rfl) ⟨Nat.le_of_ble_eq_true rfl, Nat.le_of_ble_eq_true rfl⟩ dX12_lookAtJoin_3 (fun r1 v1 w1 fi1 fl1 H locs h hP hD hS => ?_)
  refine lv_istore (lv' := [(4, .int r1), (0, .ref g0), (1, .int p0), (2, .int p1), (3, .int p2)]) hx hb dX12_lookAtJoin_6 hl (by decide) rfl (fun ls hl => ?_)
  refine lv_iload hx hb dX12_lookAtJoin_8 (lv_at hl 0 rfl) ?_
  refine lv_iconst (v := (-1)) hx hb dX12_lookAtJoin_10 (by decide) ?_
  refine lv_icmp_eq (tgt := 17) hx hb dX12_lookAtJoin_11 (by decide) (fun c_11 => ?_) (fun c_11 => ?_)
  · have h := h.1 c_11
    refine lv_aload_n hx hb dX12_lookAtJoin_17 rfl (lv_at hl 1 rfl) ?_
    refine va_get (D := (dC, dI)) (ci := 11) (v := .int (v1 23)) (C := RX12) (T := TX12) (N := 32) hx hb hts hinM hown hK hP 0 rfl rfl 23 (by decide) (hts _ mwM_47) (fun _ h9 => h9) rfl dX12_lookAtJoin_18 ?_
    refine lv_iconst (v := 2) hx hb dX12_lookAtJoin_21 (by decide) ?_
    refine lv_icmp_ne (tgt := 38) hx hb dX12_lookAtJoin_22 (by decide) (fun c_22 => ?_) (fun c_22 => ?_)
    · have h := h.1 c_22
      refine lv_aload_n hx hb dX12_lookAtJoin_38 rfl (lv_at hl 1 rfl) ?_
      refine va_get (D := (dC, dI)) (ci := 11) (v := .int (v1 23)) (C := RX12) (T := TX12) (N := 32) hx hb hts hinM hown hK hP 0 rfl rfl 23 (by decide) (hts _ mwM_47) (fun _ h9 => h9) rfl dX12_lookAtJoin_39 ?_
      refine lv_iconst (v := 1) hx hb dX12_lookAtJoin_42 (by decide) ?_
      refine lv_icmp_ne (tgt := 55) hx hb dX12_lookAtJoin_43 (by decide) (fun c_43 => ?_) (fun c_43 => ?_)
      · have h := h.1 c_43
        refine lv_aload_n hx hb dX12_lookAtJoin_55 rfl (lv_at hl 1 rfl) ?_
        refine lv_aload_n hx hb dX12_lookAtJoin_56 rfl (lv_at hl 1 rfl) ?_
        refine va_get (D := (dC, dI)) (ci := 11) (v := .int (v1 23)) (C := RX12) (T := TX12) (N := 32) hx hb hts hinM hown hK hP 0 rfl rfl 23 (by decide) (hts _ mwM_47) (fun _ h9 => h9) rfl dX12_lookAtJoin_57 ?_
        refine m_calli (rm := ({ frames := 4, cells := 0, slots := 0, locals := 60 })) (As := [.int (v1 23)]) (rest := []) (fun sz => p_X12_as l dC dI a ca g0 _ _ _ _ (v1 23) _ h sz) ⟨hx, hb, hml, hown, hts⟩ (cwV 1 hts (g_V gdM mwM_80 mwM_81 mwM_82 mwM_22 mwM_79) rfl rfl rfl hd_X12_as ⟨Nat.le_of_ble_eq_true rfl, Nat.le_of_ble_eq_true rfl⟩) rfl hl.1 rfl hK hP hD hS hA (Nat.le_of_ble_eq_true rfl) ⟨Nat.le_of_ble_eq_true rfl, Nat.le_of_ble_eq_true rfl⟩ dX12_lookAtJoin_60 (fun r2 v2 w2 fi2 fl2 H locs h hP hD hS => ?_)
        exact W.iret (v := r2) hx hb hr (fun t ht hW => ⟨⟨_, (v2, w2, fi2, fl2), rfl, h, by rw [ht]; exact hP, va_K.moved hW.alike hK, hD⟩, hS.F ht⟩) hS.2.2 dX12_lookAtJoin_63
      · have h := h.2 c_43
        refine lv_aload_n hx hb dX12_lookAtJoin_46 rfl (lv_at hl 1 rfl) ?_
        refine lv_iload_n hx hb dX12_lookAtJoin_47 rfl (lv_at hl 2 rfl) ?_
        refine lv_iload_n hx hb dX12_lookAtJoin_48 rfl (lv_at hl 4 rfl) ?_
        refine m_calli (rm := ({ frames := 4, cells := 0, slots := 0, locals := 60 })) (As := [.int p0, .int p2]) (rest := []) (fun sz => p_X12_shares l dC dI a ca g0 _ _ _ _ p0 p2 _ h sz) ⟨hx, hb, hml, hown, hts⟩ (cwV 2 hts (g_V gdM mwM_84 mwM_85 mwM_86 mwM_22 mwM_83) rfl rfl rfl hd_X12_shares ⟨Nat.le_of_ble_eq_true rfl, Nat.le_of_ble_eq_true rfl⟩) rfl hl.1 rfl hK hP hD hS hA (Nat.le_of_ble_eq_true rfl) ⟨Nat.le_of_ble_eq_true rfl, Nat.le_of_ble_eq_true rfl⟩ dX12_lookAtJoin_49 (fun r3 v3 w3 fi3 fl3 H locs h hP hD hS => ?_)
        refine lv_goto (tgt := 63) hx hb dX12_lookAtJoin_52 (by decide) ?_
        exact W.iret (v := r3) hx hb hr (fun t ht hW => ⟨⟨_, (v3, w3, fi3, fl3), rfl, h, by rw [ht]; exact hP, va_K.moved hW.alike hK, hD⟩, hS.F ht⟩) hS.2.2 dX12_lookAtJoin_63
    · have h := h.2 c_22
      refine lv_aload_n hx hb dX12_lookAtJoin_25 rfl (lv_at hl 1 rfl) ?_
      refine lv_iload_n hx hb dX12_lookAtJoin_26 rfl (lv_at hl 3 rfl) ?_
      refine lv_iload_n hx hb dX12_lookAtJoin_27 rfl (lv_at hl 4 rfl) ?_
      refine lv_aload_n hx hb dX12_lookAtJoin_28 rfl (lv_at hl 1 rfl) ?_
      refine va_get (D := (dC, dI)) (ci := 11) (v := .int (v1 24)) (C := RX12) (T := TX12) (N := 32) hx hb hts hinM hown hK hP 0 rfl rfl 24 (by decide) (hts _ mwM_48) (fun _ h9 => h9) rfl dX12_lookAtJoin_29 ?_
      refine lv_isub hx hb dX12_lookAtJoin_32 ?_
      refine lv_iconst (v := 1) hx hb dX12_lookAtJoin_33 (by decide) ?_
      refine m_calli (rm := ({ frames := 12, cells := 0, slots := 0, locals := 180 })) (As := [.int p1, .int (p2 - (v1 24)), .int 1]) (rest := []) (fun sz => p_X12_like l dC dI a ca g0 _ _ _ _ p1 (p2 - (v1 24)) 1 _ h sz) ⟨hx, hb, hml, hown, hts⟩ (cwV 3 hts (g_V gdM mwM_91 mwM_92 mwM_93 mwM_22 mwM_90) rfl rfl rfl hd_X12_like ⟨Nat.le_of_ble_eq_true rfl, Nat.le_of_ble_eq_true rfl⟩) rfl hl.1 rfl hK hP hD hS hA (Nat.le_of_ble_eq_true rfl) ⟨Nat.le_of_ble_eq_true rfl, Nat.le_of_ble_eq_true rfl⟩ dX12_lookAtJoin_34 (fun r4 v4 w4 fi4 fl4 H locs h hP hD hS => ?_)
      exact W.iret (v := r4) hx hb hr (fun t ht hW => ⟨⟨_, (v4, w4, fi4, fl4), rfl, h, by rw [ht]; exact hP, va_K.moved hW.alike hK, hD⟩, hS.F ht⟩) hS.2.2 dX12_lookAtJoin_37
  · have h := h.2 c_11
    refine lv_iload hx hb dX12_lookAtJoin_14 (lv_at hl 0 rfl) ?_
    exact W.iret (v := r1) hx hb hr (fun t ht hW => ⟨⟨_, (v1, w1, fi1, fl1), rfl, h, by rw [ht]; exact hP, va_K.moved hW.alike hK, hD⟩, hS.F ht⟩) hS.2.2 dX12_lookAtJoin_16

abbrev wmX12_lookAtAll : List Cond := .code yX12_lookAtAll cX12_lookAtAll 13 (some .int) :: WM
theorem hd_X12_lookAtAll : yX12_lookAtAll.cls = RX12 ∧ yX12_lookAtAll.cls ≠ "java/lang/invoke/MethodHandle" ∧ yX12_lookAtAll.cls ≠ "java/lang/invoke/VarHandle" ∧ (parseMethodDescriptor yX12_lookAtAll.desc).map (fun d => d.parameters.length) = some 3 := by decide +kernel
def B_X12_lookAtAll_158 (K131 : (Nat → Int32) → (Nat → Int64) → (Nat → Nat → Int32) → (Nat → Nat → Int64) → Int32 → Int32 → Int32 → Int32 → Prop) (K158 : (Nat → Int32) → (Nat → Int64) → (Nat → Nat → Int32) → (Nat → Nat → Int64) → Int32 → Int32 → Int32 → Int32 → Int64 → Int32 → Int32 → Prop) (Q : Int32 → (Nat → Int32) → (Nat → Int64) → (Nat → Nat → Int32) → (Nat → Nat → Int64) → Prop) (v : Nat → Int32) (w : Nat → Int64) (fi : Nat → Nat → Int32) (fl : Nat → Nat → Int64) (x2 : Int32) (x3 : Int32) (x5 : Int32) (x6 : Int32) (x7 : Int64) (x9 : Int32) (x10 : Int32) : Prop := ((x5 ≤ x10) → (((¬ x9 = x3) → (K131 v w fi fl x2 x3 x5 (x6 + 1))) ∧ ((x9 = x3) → (P_X12_shares v w fi fl x2 x6 (fun r1 v1 w1 fi1 fl1 => Q r1 v1 w1 fi1 fl1))))) ∧ ((¬ x5 ≤ x10) → (P_X12_ownPlace v w fi fl x2 x10 (fun r2 v2 w2 fi2 fl2 => vp_in r2 9600 ∧ (((lg_cmp (fl2 9 r2.toNatClampNeg) x7) < 0) → (K158 v2 w2 fi2 fl2 x2 x3 x5 x6 x7 (x9 + 1) (x10 + 1))) ∧ ((¬ (lg_cmp (fl2 9 r2.toNatClampNeg) x7) < 0) → (((¬ (lg_cmp (fl2 9 r2.toNatClampNeg) x7) = 0) → (K158 v2 w2 fi2 fl2 x2 x3 x5 x6 x7 (x9 + 0) (x10 + 1))) ∧ (((lg_cmp (fl2 9 r2.toNatClampNeg) x7) = 0) → (((x6 ≤ x10) → (K158 v2 w2 fi2 fl2 x2 x3 x5 x6 x7 (x9 + 0) (x10 + 1))) ∧ ((¬ x6 ≤ x10) → (K158 v2 w2 fi2 fl2 x2 x3 x5 x6 x7 (x9 + 1) (x10 + 1))))))))))
def P_X12_lookAtAll_158 (K131 : (Nat → Int32) → (Nat → Int64) → (Nat → Nat → Int32) → (Nat → Nat → Int64) → Int32 → Int32 → Int32 → Int32 → Prop) (Q : Int32 → (Nat → Int32) → (Nat → Int64) → (Nat → Nat → Int32) → (Nat → Nat → Int64) → Prop) : Nat → (Nat → Int32) → (Nat → Int64) → (Nat → Nat → Int32) → (Nat → Nat → Int64) → Int32 → Int32 → Int32 → Int32 → Int64 → Int32 → Int32 → Prop
  | 0 => fun _ _ _ _ _ _ _ _ _ _ _ => False
  | n + 1 => B_X12_lookAtAll_158 K131 (P_X12_lookAtAll_158 K131 Q n) Q
set_option maxHeartbeats 4000000 in
set_option maxRecDepth 100000 in
theorem b_X12_lookAtAll_158 {p : Program} {l : Launch} {e : Env} {s : State} {m : MethodId} {args : Array Value} {below : List Frame} {meth : Method} {c : Code} {A : Nat → Prop} {dC : Nat → ClassId} {dI : Nat → Nat → Nat} {a : Nat → Nat} {ca : Nat → ClassId} {g0 : Nat} {K131 : (Nat → Int32) → (Nat → Int64) → (Nat → Nat → Int32) → (Nat → Nat → Int64) → Int32 → Int32 → Int32 → Int32 → Prop} {K158 : (Nat → Int32) → (Nat → Int64) → (Nat → Nat → Int32) → (Nat → Nat → Int64) → Int32 → Int32 → Int32 → Int32 → Int64 → Int32 → Int32 → Prop} {Q : Int32 → (Nat → Int32) → (Nat → Int64) → (Nat → Nat → Int32) → (Nat → Nat → Int64) → Prop} (hx : p.tables.exec = Jvm.exec) (hb : c.code = cX12_lookAtAll) (hr : meth.sig.returnType = (some .int)) (hts : ∀ w ∈ WM, w.before args s = true) (hown : s.vm.findClass RX12 = some m.cls) (hlocks : meth.locks = false) (hml : c.maxLocals = 13) (hA : ∀ q : Nat, s.heap.size ≤ q → A q) (hK : va_K (dC, dI) vwCl (mT ca) s) (hK131 : ∀ (v : Nat → Int32) (w : Nat → Int64) (fi : Nat → Nat → Int32) (fl : Nat → Nat → Int64) (x2 : Int32) (x3 : Int32) (x5 : Int32) (x6 : Int32) (H : Heap) (locs : List Loc) (ls : Array Slot), K131 v w fi fl x2 x3 x5 x6 → va_P (dC, dI) vwCl (mW a ca g0 v w fi fl) H → va_D A (mW a ca g0 v w fi fl) → va_S A s.heap H locs → lv_has ls 13 [(0, .ref g0), (2, .int x2), (3, .int x3), (5, .int x5), (6, .int x6)] → W p l e (headSpec wmX12_lookAtAll ({ frames := 16, cells := 0, slots := 0, locals := 240 })).room s m args below meth c H locs 0 0 (MQ below (va_Qi (S := MSt) (pI Q) (mB dC dI a ca g0 A) A) args s 0 0 A) (F0 m 131 ls [])) (hK158 : ∀ (v : Nat → Int32) (w : Nat → Int64) (fi : Nat → Nat → Int32) (fl : Nat → Nat → Int64) (x2 : Int32) (x3 : Int32) (x5 : Int32) (x6 : Int32) (x7 : Int64) (x9 : Int32) (x10 : Int32) (H : Heap) (locs : List Loc) (ls : Array Slot), K158 v w fi fl x2 x3 x5 x6 x7 x9 x10 → va_P (dC, dI) vwCl (mW a ca g0 v w fi fl) H → va_D A (mW a ca g0 v w fi fl) → va_S A s.heap H locs → lv_has ls 13 [(0, .ref g0), (2, .int x2), (3, .int x3), (5, .int x5), (6, .int x6), (7, .long x7), (9, .int x9), (10, .int x10)] → W p l e (headSpec wmX12_lookAtAll ({ frames := 16, cells := 0, slots := 0, locals := 240 })).room s m args below meth c H locs 0 0 (MQ below (va_Qi (S := MSt) (pI Q) (mB dC dI a ca g0 A) A) args s 0 0 A) (F0 m 158 ls [])) : ∀ (v : Nat → Int32) (w : Nat → Int64) (fi : Nat → Nat → Int32) (fl : Nat → Nat → Int64) (x2 : Int32) (x3 : Int32) (x5 : Int32) (x6 : Int32) (x7 : Int64) (x9 : Int32) (x10 : Int32) (H : Heap) (locs : List Loc) (ls : Array Slot), B_X12_lookAtAll_158 K131 K158 Q v w fi fl x2 x3 x5 x6 x7 x9 x10 → va_P (dC, dI) vwCl (mW a ca g0 v w fi fl) H → va_D A (mW a ca g0 v w fi fl) → va_S A s.heap H locs → lv_has ls 13 [(0, .ref g0), (2, .int x2), (3, .int x3), (5, .int x5), (6, .int x6), (7, .long x7), (9, .int x9), (10, .int x10)] → W p l e (headSpec wmX12_lookAtAll ({ frames := 16, cells := 0, slots := 0, locals := 240 })).room s m args below meth c H locs 0 0 (MQ below (va_Qi (S := MSt) (pI Q) (mB dC dI a ca g0 A) A) args s 0 0 A) (F0 m 158 ls []) := by
  intro v w fi fl x2 x3 x5 x6 x7 x9 x10 H locs ls h hP hD hS hl
  unfold B_X12_lookAtAll_158 at h
  refine lv_iload hx hb dX12_lookAtAll_158 (lv_at hl 7 rfl) ?_
  refine lv_iload hx hb dX12_lookAtAll_160 (lv_at hl 3 rfl) ?_
  refine lv_icmp_ge (tgt := 218) hx hb dX12_lookAtAll_162 (by decide) (fun c_162 => ?_) (fun c_162 => ?_)
  · have h := h.1 c_162
    refine lv_iload hx hb dX12_lookAtAll_218 (lv_at hl 6 rfl) ?_
    refine lv_iload_n hx hb dX12_lookAtAll_220 rfl (lv_at hl 2 rfl) ?_
    refine lv_icmp_ne (tgt := 232) hx hb dX12_lookAtAll_221 (by decide) (fun c_221 => ?_) (fun c_221 => ?_)
    · have h := h.1 c_221
      refine lv_iinc (v := x6 + 1) (lv' := [(6, .int (x6 + 1)), (0, .ref g0), (2, .int x2), (3, .int x3), (5, .int x5), (7, .long x7), (9, .int x9), (10, .int x10)]) hx hb dX12_lookAtAll_232 hl (k := 4) rfl (iinc_1 _) (by decide) rfl (fun ls hl => ?_)
      refine lv_goto (tgt := 131) hx hb dX12_lookAtAll_235 (by decide) ?_
      exact hK131 _ _ _ _ _ _ _ _ H _ ls h hP hD hS (lv_sub hl [1, 2, 3, 4, 0] rfl)
    · have h := h.2 c_221
      refine lv_aload_n hx hb dX12_lookAtAll_224 rfl (lv_at hl 0 rfl) ?_
      refine lv_iload_n hx hb dX12_lookAtAll_225 rfl (lv_at hl 1 rfl) ?_
      refine lv_iload hx hb dX12_lookAtAll_226 (lv_at hl 4 rfl) ?_
      refine m_calli (rm := ({ frames := 4, cells := 0, slots := 0, locals := 60 })) (As := [.int x2, .int x6]) (rest := []) (fun sz => p_X12_shares l dC dI a ca g0 _ _ _ _ x2 x6 _ h sz) ⟨hx, hb, hml, hown, hts⟩ (cwV 2 hts (g_V gdM mwM_84 mwM_85 mwM_86 mwM_22 mwM_83) rfl rfl rfl hd_X12_shares ⟨Nat.le_of_ble_eq_true rfl, Nat.le_of_ble_eq_true rfl⟩) rfl hl.1 rfl hK hP hD hS hA (Nat.le_of_ble_eq_true rfl) ⟨Nat.le_of_ble_eq_true rfl, Nat.le_of_ble_eq_true rfl⟩ dX12_lookAtAll_228 (fun r1 v1 w1 fi1 fl1 H locs h hP hD hS => ?_)
      exact W.iret (v := r1) hx hb hr (fun t ht hW => ⟨⟨_, (v1, w1, fi1, fl1), rfl, h, by rw [ht]; exact hP, va_K.moved hW.alike hK, hD⟩, hS.F ht⟩) hS.2.2 dX12_lookAtAll_231
  · have h := h.2 c_162
    refine lv_aload_n hx hb dX12_lookAtAll_165 rfl (lv_at hl 0 rfl) ?_
    refine va_get (D := (dC, dI)) (ci := 11) (v := .ref (a 9)) (C := RX12) (T := TX12) (N := 32) hx hb hts hinM hown hK hP 0 rfl rfl 9 (by decide) (hts _ mwM_74) (fun _ h9 => h9) rfl dX12_lookAtAll_166 ?_
    refine lv_aload_n hx hb dX12_lookAtAll_169 rfl (lv_at hl 0 rfl) ?_
    refine lv_iload_n hx hb dX12_lookAtAll_170 rfl (lv_at hl 1 rfl) ?_
    refine lv_iload hx hb dX12_lookAtAll_171 (lv_at hl 7 rfl) ?_
    refine m_calli (rm := ({ frames := 8, cells := 0, slots := 0, locals := 120 })) (As := [.int x2, .int x10]) (rest := [.ref (a 9)]) (fun sz => p_X12_ownPlace l dC dI a ca g0 _ _ _ _ x2 x10 _ h sz) ⟨hx, hb, hml, hown, hts⟩ (cwV 2 hts (g_V gdM mwM_70 mwM_71 mwM_72 mwM_22 mwM_69) rfl rfl rfl hd_X12_ownPlace ⟨Nat.le_of_ble_eq_true rfl, Nat.le_of_ble_eq_true rfl⟩) rfl hl.1 rfl hK hP hD hS hA (Nat.le_of_ble_eq_true rfl) ⟨Nat.le_of_ble_eq_true rfl, Nat.le_of_ble_eq_true rfl⟩ dX12_lookAtAll_173 (fun r2 v2 w2 fi2 fl2 H locs h hP hD hS => ?_)
    obtain ⟨hi3, h⟩ := h
    refine va_lald (f := fl2 9) hx hb hK hP 9 8 rfl rfl hi3 dX12_lookAtAll_176 ?_
    refine lv_lstore (lv' := [(11, .long (fl2 9 r2.toNatClampNeg)), (0, .ref g0), (2, .int x2), (3, .int x3), (5, .int x5), (6, .int x6), (7, .long x7), (9, .int x9), (10, .int x10)]) hx hb dX12_lookAtAll_177 hl (by decide) rfl (fun ls hl => ?_)
    refine lv_iload hx hb dX12_lookAtAll_179 (lv_at hl 7 rfl) ?_
    refine lv_lload hx hb dX12_lookAtAll_181 (lv_at hl 0 rfl) ?_
    refine lv_lload hx hb dX12_lookAtAll_183 (lv_at hl 6 rfl) ?_
    refine W.lcmp hx hb dX12_lookAtAll_185 ?_
    refine lv_if_lt (tgt := 204) hx hb dX12_lookAtAll_186 (by decide) (fun c_186 => ?_) (fun c_186 => ?_)
    · have h := h.1 c_186
      refine lv_iconst (v := 1) hx hb dX12_lookAtAll_204 (by decide) ?_
      refine lv_goto (tgt := 209) hx hb dX12_lookAtAll_205 (by decide) ?_
      refine lv_iadd hx hb dX12_lookAtAll_209 ?_
      refine lv_istore (lv' := [(9, .int (x9 + 1)), (11, .long (fl2 9 r2.toNatClampNeg)), (0, .ref g0), (2, .int x2), (3, .int x3), (5, .int x5), (6, .int x6), (7, .long x7), (10, .int x10)]) hx hb dX12_lookAtAll_210 hl (by decide) rfl (fun ls hl => ?_)
      refine lv_iinc (v := x10 + 1) (lv' := [(10, .int (x10 + 1)), (9, .int (x9 + 1)), (11, .long (fl2 9 r2.toNatClampNeg)), (0, .ref g0), (2, .int x2), (3, .int x3), (5, .int x5), (6, .int x6), (7, .long x7)]) hx hb dX12_lookAtAll_212 hl (k := 8) rfl (iinc_1 _) (by decide) rfl (fun ls hl => ?_)
      refine lv_goto (tgt := 158) hx hb dX12_lookAtAll_215 (by decide) ?_
      exact hK158 _ _ _ _ _ _ _ _ _ _ _ H _ ls h hP hD hS (lv_sub hl [3, 4, 5, 6, 7, 8, 1, 0] rfl)
    · have h := h.2 c_186
      refine lv_lload hx hb dX12_lookAtAll_189 (lv_at hl 0 rfl) ?_
      refine lv_lload hx hb dX12_lookAtAll_191 (lv_at hl 6 rfl) ?_
      refine W.lcmp hx hb dX12_lookAtAll_193 ?_
      refine lv_if_ne (tgt := 208) hx hb dX12_lookAtAll_194 (by decide) (fun c_194 => ?_) (fun c_194 => ?_)
      · have h := h.1 c_194
        refine lv_iconst (v := 0) hx hb dX12_lookAtAll_208 (by decide) ?_
        refine lv_iadd hx hb dX12_lookAtAll_209 ?_
        refine lv_istore (lv' := [(9, .int (x9 + 0)), (11, .long (fl2 9 r2.toNatClampNeg)), (0, .ref g0), (2, .int x2), (3, .int x3), (5, .int x5), (6, .int x6), (7, .long x7), (10, .int x10)]) hx hb dX12_lookAtAll_210 hl (by decide) rfl (fun ls hl => ?_)
        refine lv_iinc (v := x10 + 1) (lv' := [(10, .int (x10 + 1)), (9, .int (x9 + 0)), (11, .long (fl2 9 r2.toNatClampNeg)), (0, .ref g0), (2, .int x2), (3, .int x3), (5, .int x5), (6, .int x6), (7, .long x7)]) hx hb dX12_lookAtAll_212 hl (k := 8) rfl (iinc_1 _) (by decide) rfl (fun ls hl => ?_)
        refine lv_goto (tgt := 158) hx hb dX12_lookAtAll_215 (by decide) ?_
        exact hK158 _ _ _ _ _ _ _ _ _ _ _ H _ ls h hP hD hS (lv_sub hl [3, 4, 5, 6, 7, 8, 1, 0] rfl)
      · have h := h.2 c_194
        refine lv_iload hx hb dX12_lookAtAll_197 (lv_at hl 8 rfl) ?_
        refine lv_iload hx hb dX12_lookAtAll_199 (lv_at hl 5 rfl) ?_
        refine lv_icmp_ge (tgt := 208) hx hb dX12_lookAtAll_201 (by decide) (fun c_201 => ?_) (fun c_201 => ?_)
        · have h := h.1 c_201
          refine lv_iconst (v := 0) hx hb dX12_lookAtAll_208 (by decide) ?_
          refine lv_iadd hx hb dX12_lookAtAll_209 ?_
          refine lv_istore (lv' := [(9, .int (x9 + 0)), (11, .long (fl2 9 r2.toNatClampNeg)), (0, .ref g0), (2, .int x2), (3, .int x3), (5, .int x5), (6, .int x6), (7, .long x7), (10, .int x10)]) hx hb dX12_lookAtAll_210 hl (by decide) rfl (fun ls hl => ?_)
          refine lv_iinc (v := x10 + 1) (lv' := [(10, .int (x10 + 1)), (9, .int (x9 + 0)), (11, .long (fl2 9 r2.toNatClampNeg)), (0, .ref g0), (2, .int x2), (3, .int x3), (5, .int x5), (6, .int x6), (7, .long x7)]) hx hb dX12_lookAtAll_212 hl (k := 8) rfl (iinc_1 _) (by decide) rfl (fun ls hl => ?_)
          refine lv_goto (tgt := 158) hx hb dX12_lookAtAll_215 (by decide) ?_
          exact hK158 _ _ _ _ _ _ _ _ _ _ _ H _ ls h hP hD hS (lv_sub hl [3, 4, 5, 6, 7, 8, 1, 0] rfl)
        · have h := h.2 c_201
          refine lv_iconst (v := 1) hx hb dX12_lookAtAll_204 (by decide) ?_
          refine lv_goto (tgt := 209) hx hb dX12_lookAtAll_205 (by decide) ?_
          refine lv_iadd hx hb dX12_lookAtAll_209 ?_
          refine lv_istore (lv' := [(9, .int (x9 + 1)), (11, .long (fl2 9 r2.toNatClampNeg)), (0, .ref g0), (2, .int x2), (3, .int x3), (5, .int x5), (6, .int x6), (7, .long x7), (10, .int x10)]) hx hb dX12_lookAtAll_210 hl (by decide) rfl (fun ls hl => ?_)
          refine lv_iinc (v := x10 + 1) (lv' := [(10, .int (x10 + 1)), (9, .int (x9 + 1)), (11, .long (fl2 9 r2.toNatClampNeg)), (0, .ref g0), (2, .int x2), (3, .int x3), (5, .int x5), (6, .int x6), (7, .long x7)]) hx hb dX12_lookAtAll_212 hl (k := 8) rfl (iinc_1 _) (by decide) rfl (fun ls hl => ?_)
          refine lv_goto (tgt := 158) hx hb dX12_lookAtAll_215 (by decide) ?_
          exact hK158 _ _ _ _ _ _ _ _ _ _ _ H _ ls h hP hD hS (lv_sub hl [3, 4, 5, 6, 7, 8, 1, 0] rfl)
set_option maxHeartbeats 4000000 in
set_option maxRecDepth 100000 in
theorem t_X12_lookAtAll_158 {p : Program} {l : Launch} {e : Env} {s : State} {m : MethodId} {args : Array Value} {below : List Frame} {meth : Method} {c : Code} {A : Nat → Prop} {dC : Nat → ClassId} {dI : Nat → Nat → Nat} {a : Nat → Nat} {ca : Nat → ClassId} {g0 : Nat} {K131 : (Nat → Int32) → (Nat → Int64) → (Nat → Nat → Int32) → (Nat → Nat → Int64) → Int32 → Int32 → Int32 → Int32 → Prop} {Q : Int32 → (Nat → Int32) → (Nat → Int64) → (Nat → Nat → Int32) → (Nat → Nat → Int64) → Prop} (hx : p.tables.exec = Jvm.exec) (hb : c.code = cX12_lookAtAll) (hr : meth.sig.returnType = (some .int)) (hts : ∀ w ∈ WM, w.before args s = true) (hown : s.vm.findClass RX12 = some m.cls) (hlocks : meth.locks = false) (hml : c.maxLocals = 13) (hA : ∀ q : Nat, s.heap.size ≤ q → A q) (hK : va_K (dC, dI) vwCl (mT ca) s) (hK131 : ∀ (v : Nat → Int32) (w : Nat → Int64) (fi : Nat → Nat → Int32) (fl : Nat → Nat → Int64) (x2 : Int32) (x3 : Int32) (x5 : Int32) (x6 : Int32) (H : Heap) (locs : List Loc) (ls : Array Slot), K131 v w fi fl x2 x3 x5 x6 → va_P (dC, dI) vwCl (mW a ca g0 v w fi fl) H → va_D A (mW a ca g0 v w fi fl) → va_S A s.heap H locs → lv_has ls 13 [(0, .ref g0), (2, .int x2), (3, .int x3), (5, .int x5), (6, .int x6)] → W p l e (headSpec wmX12_lookAtAll ({ frames := 16, cells := 0, slots := 0, locals := 240 })).room s m args below meth c H locs 0 0 (MQ below (va_Qi (S := MSt) (pI Q) (mB dC dI a ca g0 A) A) args s 0 0 A) (F0 m 131 ls [])) : ∀ n : Nat, ∀ (v : Nat → Int32) (w : Nat → Int64) (fi : Nat → Nat → Int32) (fl : Nat → Nat → Int64) (x2 : Int32) (x3 : Int32) (x5 : Int32) (x6 : Int32) (x7 : Int64) (x9 : Int32) (x10 : Int32) (H : Heap) (locs : List Loc) (ls : Array Slot), P_X12_lookAtAll_158 K131 Q n v w fi fl x2 x3 x5 x6 x7 x9 x10 → va_P (dC, dI) vwCl (mW a ca g0 v w fi fl) H → va_D A (mW a ca g0 v w fi fl) → va_S A s.heap H locs → lv_has ls 13 [(0, .ref g0), (2, .int x2), (3, .int x3), (5, .int x5), (6, .int x6), (7, .long x7), (9, .int x9), (10, .int x10)] → W p l e (headSpec wmX12_lookAtAll ({ frames := 16, cells := 0, slots := 0, locals := 240 })).room s m args below meth c H locs 0 0 (MQ below (va_Qi (S := MSt) (pI Q) (mB dC dI a ca g0 A) A) args s 0 0 A) (F0 m 158 ls []) := by
  intro n
  induction n with
  | zero => intro v w fi fl x2 x3 x5 x6 x7 x9 x10 H locs ls h; exact h.elim
  | succ n ih => exact b_X12_lookAtAll_158 hx hb hr hts hown hlocks hml hA hK hK131 ih
def B_X12_lookAtAll_131  (K131 : (Nat → Int32) → (Nat → Int64) → (Nat → Nat → Int32) → (Nat → Nat → Int64) → Int32 → Int32 → Int32 → Int32 → Prop) (Q : Int32 → (Nat → Int32) → (Nat → Int64) → (Nat → Nat → Int32) → (Nat → Nat → Int64) → Prop) (v : Nat → Int32) (w : Nat → Int64) (fi : Nat → Nat → Int32) (fl : Nat → Nat → Int64) (x2 : Int32) (x3 : Int32) (x5 : Int32) (x6 : Int32) : Prop := ((x5 ≤ x6) → (P_X12_as v w fi fl 2 (fun r1 v1 w1 fi1 fl1 => Q r1 v1 w1 fi1 fl1))) ∧ ((¬ x5 ≤ x6) → (P_X12_ownPlace v w fi fl x2 x6 (fun r2 v2 w2 fi2 fl2 => vp_in r2 9600 ∧ ∃ n9 : Nat, P_X12_lookAtAll_158 K131 Q n9 v2 w2 fi2 fl2 x2 x3 x5 x6 (fl2 9 r2.toNatClampNeg) (0 : Int32) (0 : Int32))))
def P_X12_lookAtAll_131  (Q : Int32 → (Nat → Int32) → (Nat → Int64) → (Nat → Nat → Int32) → (Nat → Nat → Int64) → Prop) : Nat → (Nat → Int32) → (Nat → Int64) → (Nat → Nat → Int32) → (Nat → Nat → Int64) → Int32 → Int32 → Int32 → Int32 → Prop
  | 0 => fun _ _ _ _ _ _ _ _ => False
  | n + 1 => B_X12_lookAtAll_131  (P_X12_lookAtAll_131  Q n) Q
set_option maxHeartbeats 4000000 in
set_option maxRecDepth 100000 in
theorem b_X12_lookAtAll_131 {p : Program} {l : Launch} {e : Env} {s : State} {m : MethodId} {args : Array Value} {below : List Frame} {meth : Method} {c : Code} {A : Nat → Prop} {dC : Nat → ClassId} {dI : Nat → Nat → Nat} {a : Nat → Nat} {ca : Nat → ClassId} {g0 : Nat}  {K131 : (Nat → Int32) → (Nat → Int64) → (Nat → Nat → Int32) → (Nat → Nat → Int64) → Int32 → Int32 → Int32 → Int32 → Prop} {Q : Int32 → (Nat → Int32) → (Nat → Int64) → (Nat → Nat → Int32) → (Nat → Nat → Int64) → Prop} (hx : p.tables.exec = Jvm.exec) (hb : c.code = cX12_lookAtAll) (hr : meth.sig.returnType = (some .int)) (hts : ∀ w ∈ WM, w.before args s = true) (hown : s.vm.findClass RX12 = some m.cls) (hlocks : meth.locks = false) (hml : c.maxLocals = 13) (hA : ∀ q : Nat, s.heap.size ≤ q → A q) (hK : va_K (dC, dI) vwCl (mT ca) s)  (hK131 : ∀ (v : Nat → Int32) (w : Nat → Int64) (fi : Nat → Nat → Int32) (fl : Nat → Nat → Int64) (x2 : Int32) (x3 : Int32) (x5 : Int32) (x6 : Int32) (H : Heap) (locs : List Loc) (ls : Array Slot), K131 v w fi fl x2 x3 x5 x6 → va_P (dC, dI) vwCl (mW a ca g0 v w fi fl) H → va_D A (mW a ca g0 v w fi fl) → va_S A s.heap H locs → lv_has ls 13 [(0, .ref g0), (2, .int x2), (3, .int x3), (5, .int x5), (6, .int x6)] → W p l e (headSpec wmX12_lookAtAll ({ frames := 16, cells := 0, slots := 0, locals := 240 })).room s m args below meth c H locs 0 0 (MQ below (va_Qi (S := MSt) (pI Q) (mB dC dI a ca g0 A) A) args s 0 0 A) (F0 m 131 ls [])) : ∀ (v : Nat → Int32) (w : Nat → Int64) (fi : Nat → Nat → Int32) (fl : Nat → Nat → Int64) (x2 : Int32) (x3 : Int32) (x5 : Int32) (x6 : Int32) (H : Heap) (locs : List Loc) (ls : Array Slot), B_X12_lookAtAll_131  K131 Q v w fi fl x2 x3 x5 x6 → va_P (dC, dI) vwCl (mW a ca g0 v w fi fl) H → va_D A (mW a ca g0 v w fi fl) → va_S A s.heap H locs → lv_has ls 13 [(0, .ref g0), (2, .int x2), (3, .int x3), (5, .int x5), (6, .int x6)] → W p l e (headSpec wmX12_lookAtAll ({ frames := 16, cells := 0, slots := 0, locals := 240 })).room s m args below meth c H locs 0 0 (MQ below (va_Qi (S := MSt) (pI Q) (mB dC dI a ca g0 A) A) args s 0 0 A) (F0 m 131 ls []) := by
  intro v w fi fl x2 x3 x5 x6 H locs ls h hP hD hS hl
  unfold B_X12_lookAtAll_131 at h
  refine lv_iload hx hb dX12_lookAtAll_131 (lv_at hl 4 rfl) ?_
  refine lv_iload hx hb dX12_lookAtAll_133 (lv_at hl 3 rfl) ?_
  refine lv_icmp_ge (tgt := 238) hx hb dX12_lookAtAll_135 (by decide) (fun c_135 => ?_) (fun c_135 => ?_)
  · have h := h.1 c_135
    refine lv_aload_n hx hb dX12_lookAtAll_238 rfl (lv_at hl 0 rfl) ?_
    refine lv_iconst (v := 2) hx hb dX12_lookAtAll_239 (by decide) ?_
    refine m_calli (rm := ({ frames := 4, cells := 0, slots := 0, locals := 60 })) (As := [.int 2]) (rest := []) (fun sz => p_X12_as l dC dI a ca g0 _ _ _ _ 2 _ h sz) ⟨hx, hb, hml, hown, hts⟩ (cwV 1 hts (g_V gdM mwM_80 mwM_81 mwM_82 mwM_22 mwM_79) rfl rfl rfl hd_X12_as ⟨Nat.le_of_ble_eq_true rfl, Nat.le_of_ble_eq_true rfl⟩) rfl hl.1 rfl hK hP hD hS hA (Nat.le_of_ble_eq_true rfl) ⟨Nat.le_of_ble_eq_true rfl, Nat.le_of_ble_eq_true rfl⟩ dX12_lookAtAll_240 (fun r1 v1 w1 fi1 fl1 H locs h hP hD hS => ?_)
    exact W.iret (v := r1) hx hb hr (fun t ht hW => ⟨⟨_, (v1, w1, fi1, fl1), rfl, h, by rw [ht]; exact hP, va_K.moved hW.alike hK, hD⟩, hS.F ht⟩) hS.2.2 dX12_lookAtAll_243
  · have h := h.2 c_135
    refine lv_aload_n hx hb dX12_lookAtAll_138 rfl (lv_at hl 0 rfl) ?_
    refine va_get (D := (dC, dI)) (ci := 11) (v := .ref (a 9)) (C := RX12) (T := TX12) (N := 32) hx hb hts hinM hown hK hP 0 rfl rfl 9 (by decide) (hts _ mwM_74) (fun _ h9 => h9) rfl dX12_lookAtAll_139 ?_
    refine lv_aload_n hx hb dX12_lookAtAll_142 rfl (lv_at hl 0 rfl) ?_
    refine lv_iload_n hx hb dX12_lookAtAll_143 rfl (lv_at hl 1 rfl) ?_
    refine lv_iload hx hb dX12_lookAtAll_144 (lv_at hl 4 rfl) ?_
    refine m_calli (rm := ({ frames := 8, cells := 0, slots := 0, locals := 120 })) (As := [.int x2, .int x6]) (rest := [.ref (a 9)]) (fun sz => p_X12_ownPlace l dC dI a ca g0 _ _ _ _ x2 x6 _ h sz) ⟨hx, hb, hml, hown, hts⟩ (cwV 2 hts (g_V gdM mwM_70 mwM_71 mwM_72 mwM_22 mwM_69) rfl rfl rfl hd_X12_ownPlace ⟨Nat.le_of_ble_eq_true rfl, Nat.le_of_ble_eq_true rfl⟩) rfl hl.1 rfl hK hP hD hS hA (Nat.le_of_ble_eq_true rfl) ⟨Nat.le_of_ble_eq_true rfl, Nat.le_of_ble_eq_true rfl⟩ dX12_lookAtAll_146 (fun r2 v2 w2 fi2 fl2 H locs h hP hD hS => ?_)
    obtain ⟨hi3, h⟩ := h
    refine va_lald (f := fl2 9) hx hb hK hP 9 8 rfl rfl hi3 dX12_lookAtAll_149 ?_
    refine lv_lstore (lv' := [(7, .long (fl2 9 r2.toNatClampNeg)), (0, .ref g0), (2, .int x2), (3, .int x3), (5, .int x5), (6, .int x6)]) hx hb dX12_lookAtAll_150 hl (by decide) rfl (fun ls hl => ?_)
    refine lv_iconst (v := 0) hx hb dX12_lookAtAll_152 (by decide) ?_
    refine lv_istore (lv' := [(9, .int 0), (7, .long (fl2 9 r2.toNatClampNeg)), (0, .ref g0), (2, .int x2), (3, .int x3), (5, .int x5), (6, .int x6)]) hx hb dX12_lookAtAll_153 hl (by decide) rfl (fun ls hl => ?_)
    refine lv_iconst (v := 0) hx hb dX12_lookAtAll_155 (by decide) ?_
    refine lv_istore (lv' := [(10, .int 0), (9, .int 0), (7, .long (fl2 9 r2.toNatClampNeg)), (0, .ref g0), (2, .int x2), (3, .int x3), (5, .int x5), (6, .int x6)]) hx hb dX12_lookAtAll_156 hl (by decide) rfl (fun ls hl => ?_)
    obtain ⟨n9, h⟩ := h
    exact t_X12_lookAtAll_158 hx hb hr hts hown hlocks hml hA hK hK131 n9 _ _ _ _ _ _ _ _ _ _ _ H _ ls h hP hD hS (lv_sub hl [3, 4, 5, 6, 7, 2, 1, 0] rfl)
set_option maxHeartbeats 4000000 in
set_option maxRecDepth 100000 in
theorem t_X12_lookAtAll_131 {p : Program} {l : Launch} {e : Env} {s : State} {m : MethodId} {args : Array Value} {below : List Frame} {meth : Method} {c : Code} {A : Nat → Prop} {dC : Nat → ClassId} {dI : Nat → Nat → Nat} {a : Nat → Nat} {ca : Nat → ClassId} {g0 : Nat}  {Q : Int32 → (Nat → Int32) → (Nat → Int64) → (Nat → Nat → Int32) → (Nat → Nat → Int64) → Prop} (hx : p.tables.exec = Jvm.exec) (hb : c.code = cX12_lookAtAll) (hr : meth.sig.returnType = (some .int)) (hts : ∀ w ∈ WM, w.before args s = true) (hown : s.vm.findClass RX12 = some m.cls) (hlocks : meth.locks = false) (hml : c.maxLocals = 13) (hA : ∀ q : Nat, s.heap.size ≤ q → A q) (hK : va_K (dC, dI) vwCl (mT ca) s)  : ∀ n : Nat, ∀ (v : Nat → Int32) (w : Nat → Int64) (fi : Nat → Nat → Int32) (fl : Nat → Nat → Int64) (x2 : Int32) (x3 : Int32) (x5 : Int32) (x6 : Int32) (H : Heap) (locs : List Loc) (ls : Array Slot), P_X12_lookAtAll_131  Q n v w fi fl x2 x3 x5 x6 → va_P (dC, dI) vwCl (mW a ca g0 v w fi fl) H → va_D A (mW a ca g0 v w fi fl) → va_S A s.heap H locs → lv_has ls 13 [(0, .ref g0), (2, .int x2), (3, .int x3), (5, .int x5), (6, .int x6)] → W p l e (headSpec wmX12_lookAtAll ({ frames := 16, cells := 0, slots := 0, locals := 240 })).room s m args below meth c H locs 0 0 (MQ below (va_Qi (S := MSt) (pI Q) (mB dC dI a ca g0 A) A) args s 0 0 A) (F0 m 131 ls []) := by
  intro n
  induction n with
  | zero => intro v w fi fl x2 x3 x5 x6 H locs ls h; exact h.elim
  | succ n ih => exact b_X12_lookAtAll_131 hx hb hr hts hown hlocks hml hA hK  ih
def B_X12_lookAtAll_80  (K80 : (Nat → Int32) → (Nat → Int64) → (Nat → Nat → Int32) → (Nat → Nat → Int64) → Int32 → Int32 → Int32 → Int32 → Prop) (Q : Int32 → (Nat → Int32) → (Nat → Int64) → (Nat → Nat → Int32) → (Nat → Nat → Int64) → Prop) (v : Nat → Int32) (w : Nat → Int64) (fi : Nat → Nat → Int32) (fl : Nat → Nat → Int64) (x2 : Int32) (x3 : Int32) (x5 : Int32) (x6 : Int32) : Prop := ((x5 ≤ x6) → (∃ n9 : Nat, P_X12_lookAtAll_131  Q n9 v w fi fl x2 x3 x5 (0 : Int32))) ∧ ((¬ x5 ≤ x6) → (P_X12_needItem v w fi fl x2 x6 (fun r1 v1 w1 fi1 fl1 => ((r1 = (-1)) → ((((v1 23) = 1) → (K80 v1 w1 fi1 fl1 x2 x3 x5 (x6 + 1))) ∧ ((¬ (v1 23) = 1) → (P_X12_as v1 w1 fi1 fl1 (v1 23) (fun r2 v2 w2 fi2 fl2 => Q r2 v2 w2 fi2 fl2))))) ∧ ((¬ r1 = (-1)) → (Q r1 v1 w1 fi1 fl1)))))
def P_X12_lookAtAll_80  (Q : Int32 → (Nat → Int32) → (Nat → Int64) → (Nat → Nat → Int32) → (Nat → Nat → Int64) → Prop) : Nat → (Nat → Int32) → (Nat → Int64) → (Nat → Nat → Int32) → (Nat → Nat → Int64) → Int32 → Int32 → Int32 → Int32 → Prop
  | 0 => fun _ _ _ _ _ _ _ _ => False
  | n + 1 => B_X12_lookAtAll_80  (P_X12_lookAtAll_80  Q n) Q
set_option maxHeartbeats 4000000 in
set_option maxRecDepth 100000 in
theorem b_X12_lookAtAll_80 {p : Program} {l : Launch} {e : Env} {s : State} {m : MethodId} {args : Array Value} {below : List Frame} {meth : Method} {c : Code} {A : Nat → Prop} {dC : Nat → ClassId} {dI : Nat → Nat → Nat} {a : Nat → Nat} {ca : Nat → ClassId} {g0 : Nat}  {K80 : (Nat → Int32) → (Nat → Int64) → (Nat → Nat → Int32) → (Nat → Nat → Int64) → Int32 → Int32 → Int32 → Int32 → Prop} {Q : Int32 → (Nat → Int32) → (Nat → Int64) → (Nat → Nat → Int32) → (Nat → Nat → Int64) → Prop} (hx : p.tables.exec = Jvm.exec) (hb : c.code = cX12_lookAtAll) (hr : meth.sig.returnType = (some .int)) (hts : ∀ w ∈ WM, w.before args s = true) (hown : s.vm.findClass RX12 = some m.cls) (hlocks : meth.locks = false) (hml : c.maxLocals = 13) (hA : ∀ q : Nat, s.heap.size ≤ q → A q) (hK : va_K (dC, dI) vwCl (mT ca) s)  (hK80 : ∀ (v : Nat → Int32) (w : Nat → Int64) (fi : Nat → Nat → Int32) (fl : Nat → Nat → Int64) (x2 : Int32) (x3 : Int32) (x5 : Int32) (x6 : Int32) (H : Heap) (locs : List Loc) (ls : Array Slot), K80 v w fi fl x2 x3 x5 x6 → va_P (dC, dI) vwCl (mW a ca g0 v w fi fl) H → va_D A (mW a ca g0 v w fi fl) → va_S A s.heap H locs → lv_has ls 13 [(0, .ref g0), (2, .int x2), (3, .int x3), (5, .int x5), (6, .int x6)] → W p l e (headSpec wmX12_lookAtAll ({ frames := 16, cells := 0, slots := 0, locals := 240 })).room s m args below meth c H locs 0 0 (MQ below (va_Qi (S := MSt) (pI Q) (mB dC dI a ca g0 A) A) args s 0 0 A) (F0 m 80 ls [])) : ∀ (v : Nat → Int32) (w : Nat → Int64) (fi : Nat → Nat → Int32) (fl : Nat → Nat → Int64) (x2 : Int32) (x3 : Int32) (x5 : Int32) (x6 : Int32) (H : Heap) (locs : List Loc) (ls : Array Slot), B_X12_lookAtAll_80  K80 Q v w fi fl x2 x3 x5 x6 → va_P (dC, dI) vwCl (mW a ca g0 v w fi fl) H → va_D A (mW a ca g0 v w fi fl) → va_S A s.heap H locs → lv_has ls 13 [(0, .ref g0), (2, .int x2), (3, .int x3), (5, .int x5), (6, .int x6)] → W p l e (headSpec wmX12_lookAtAll ({ frames := 16, cells := 0, slots := 0, locals := 240 })).room s m args below meth c H locs 0 0 (MQ below (va_Qi (S := MSt) (pI Q) (mB dC dI a ca g0 A) A) args s 0 0 A) (F0 m 80 ls []) := by
  intro v w fi fl x2 x3 x5 x6 H locs ls h hP hD hS hl
  unfold B_X12_lookAtAll_80 at h
  refine lv_iload hx hb dX12_lookAtAll_80 (lv_at hl 4 rfl) ?_
  refine lv_iload hx hb dX12_lookAtAll_82 (lv_at hl 3 rfl) ?_
  refine lv_icmp_ge (tgt := 128) hx hb dX12_lookAtAll_84 (by decide) (fun c_84 => ?_) (fun c_84 => ?_)
  · have h := h.1 c_84
    refine lv_iconst (v := 0) hx hb dX12_lookAtAll_128 (by decide) ?_
    refine lv_istore (lv' := [(6, .int 0), (0, .ref g0), (2, .int x2), (3, .int x3), (5, .int x5)]) hx hb dX12_lookAtAll_129 hl (by decide) rfl (fun ls hl => ?_)
    obtain ⟨n9, h⟩ := h
    exact t_X12_lookAtAll_131 hx hb hr hts hown hlocks hml hA hK  n9 _ _ _ _ _ _ _ _ H _ ls h hP hD hS (lv_sub hl [1, 2, 3, 4, 0] rfl)
  · have h := h.2 c_84
    refine lv_aload_n hx hb dX12_lookAtAll_87 rfl (lv_at hl 0 rfl) ?_
    refine lv_iload_n hx hb dX12_lookAtAll_88 rfl (lv_at hl 1 rfl) ?_
    refine lv_iload hx hb dX12_lookAtAll_89 (lv_at hl 4 rfl) ?_
    refine m_calli (rm := ({ frames := 12, cells := 0, slots := 0, locals := 180 })) (As := [.int x2, .int x6]) (rest := []) (fun sz => p_X12_needItem l dC dI a ca g0 _ _ _ _ x2 x6 _ h sz) ⟨hx, hb, hml, hown, hts⟩ (cwV 2 hts (g_V gdM mwM_95 mwM_96 mwM_97 mwM_22 mwM_94) rfl rfl rfl hd_X12_needItem ⟨Nat.le_of_ble_eq_true rfl, Nat.le_of_ble_eq_true rfl⟩) rfl hl.1 rfl hK hP hD hS hA (Nat.le_of_ble_eq_true rfl) ⟨Nat.le_of_ble_eq_true rfl, Nat.le_of_ble_eq_true rfl⟩ dX12_lookAtAll_91 (fun r1 v1 w1 fi1 fl1 H locs h hP hD hS => ?_)
    refine lv_istore (lv' := [(4, .int r1), (0, .ref g0), (2, .int x2), (3, .int x3), (5, .int x5), (6, .int x6)]) hx hb dX12_lookAtAll_94 hl (by decide) rfl (fun ls hl => ?_)
    refine lv_iload hx hb dX12_lookAtAll_96 (lv_at hl 0 rfl) ?_
    refine lv_iconst (v := (-1)) hx hb dX12_lookAtAll_98 (by decide) ?_
    refine lv_icmp_eq (tgt := 105) hx hb dX12_lookAtAll_99 (by decide) (fun c_99 => ?_) (fun c_99 => ?_)
    · have h := h.1 c_99
      refine lv_aload_n hx hb dX12_lookAtAll_105 rfl (lv_at hl 1 rfl) ?_
      refine va_get (D := (dC, dI)) (ci := 11) (v := .int (v1 23)) (C := RX12) (T := TX12) (N := 32) hx hb hts hinM hown hK hP 0 rfl rfl 23 (by decide) (hts _ mwM_47) (fun _ h9 => h9) rfl dX12_lookAtAll_106 ?_
      refine lv_iconst (v := 1) hx hb dX12_lookAtAll_109 (by decide) ?_
      refine lv_icmp_eq (tgt := 122) hx hb dX12_lookAtAll_110 (by decide) (fun c_110 => ?_) (fun c_110 => ?_)
      · have h := h.1 c_110
        refine lv_iinc (v := x6 + 1) (lv' := [(6, .int (x6 + 1)), (4, .int r1), (0, .ref g0), (2, .int x2), (3, .int x3), (5, .int x5)]) hx hb dX12_lookAtAll_122 hl (k := 5) rfl (iinc_1 _) (by decide) rfl (fun ls hl => ?_)
        refine lv_goto (tgt := 80) hx hb dX12_lookAtAll_125 (by decide) ?_
        exact hK80 _ _ _ _ _ _ _ _ H _ ls h hP hD hS (lv_sub hl [2, 3, 4, 5, 0] rfl)
      · have h := h.2 c_110
        refine lv_aload_n hx hb dX12_lookAtAll_113 rfl (lv_at hl 1 rfl) ?_
        refine lv_aload_n hx hb dX12_lookAtAll_114 rfl (lv_at hl 1 rfl) ?_
        refine va_get (D := (dC, dI)) (ci := 11) (v := .int (v1 23)) (C := RX12) (T := TX12) (N := 32) hx hb hts hinM hown hK hP 0 rfl rfl 23 (by decide) (hts _ mwM_47) (fun _ h9 => h9) rfl dX12_lookAtAll_115 ?_
        refine m_calli (rm := ({ frames := 4, cells := 0, slots := 0, locals := 60 })) (As := [.int (v1 23)]) (rest := []) (fun sz => p_X12_as l dC dI a ca g0 _ _ _ _ (v1 23) _ h sz) ⟨hx, hb, hml, hown, hts⟩ (cwV 1 hts (g_V gdM mwM_80 mwM_81 mwM_82 mwM_22 mwM_79) rfl rfl rfl hd_X12_as ⟨Nat.le_of_ble_eq_true rfl, Nat.le_of_ble_eq_true rfl⟩) rfl hl.1 rfl hK hP hD hS hA (Nat.le_of_ble_eq_true rfl) ⟨Nat.le_of_ble_eq_true rfl, Nat.le_of_ble_eq_true rfl⟩ dX12_lookAtAll_118 (fun r2 v2 w2 fi2 fl2 H locs h hP hD hS => ?_)
        exact W.iret (v := r2) hx hb hr (fun t ht hW => ⟨⟨_, (v2, w2, fi2, fl2), rfl, h, by rw [ht]; exact hP, va_K.moved hW.alike hK, hD⟩, hS.F ht⟩) hS.2.2 dX12_lookAtAll_121
    · have h := h.2 c_99
      refine lv_iload hx hb dX12_lookAtAll_102 (lv_at hl 0 rfl) ?_
      exact W.iret (v := r1) hx hb hr (fun t ht hW => ⟨⟨_, (v1, w1, fi1, fl1), rfl, h, by rw [ht]; exact hP, va_K.moved hW.alike hK, hD⟩, hS.F ht⟩) hS.2.2 dX12_lookAtAll_104
set_option maxHeartbeats 4000000 in
set_option maxRecDepth 100000 in
theorem t_X12_lookAtAll_80 {p : Program} {l : Launch} {e : Env} {s : State} {m : MethodId} {args : Array Value} {below : List Frame} {meth : Method} {c : Code} {A : Nat → Prop} {dC : Nat → ClassId} {dI : Nat → Nat → Nat} {a : Nat → Nat} {ca : Nat → ClassId} {g0 : Nat}  {Q : Int32 → (Nat → Int32) → (Nat → Int64) → (Nat → Nat → Int32) → (Nat → Nat → Int64) → Prop} (hx : p.tables.exec = Jvm.exec) (hb : c.code = cX12_lookAtAll) (hr : meth.sig.returnType = (some .int)) (hts : ∀ w ∈ WM, w.before args s = true) (hown : s.vm.findClass RX12 = some m.cls) (hlocks : meth.locks = false) (hml : c.maxLocals = 13) (hA : ∀ q : Nat, s.heap.size ≤ q → A q) (hK : va_K (dC, dI) vwCl (mT ca) s)  : ∀ n : Nat, ∀ (v : Nat → Int32) (w : Nat → Int64) (fi : Nat → Nat → Int32) (fl : Nat → Nat → Int64) (x2 : Int32) (x3 : Int32) (x5 : Int32) (x6 : Int32) (H : Heap) (locs : List Loc) (ls : Array Slot), P_X12_lookAtAll_80  Q n v w fi fl x2 x3 x5 x6 → va_P (dC, dI) vwCl (mW a ca g0 v w fi fl) H → va_D A (mW a ca g0 v w fi fl) → va_S A s.heap H locs → lv_has ls 13 [(0, .ref g0), (2, .int x2), (3, .int x3), (5, .int x5), (6, .int x6)] → W p l e (headSpec wmX12_lookAtAll ({ frames := 16, cells := 0, slots := 0, locals := 240 })).room s m args below meth c H locs 0 0 (MQ below (va_Qi (S := MSt) (pI Q) (mB dC dI a ca g0 A) A) args s 0 0 A) (F0 m 80 ls []) := by
  intro n
  induction n with
  | zero => intro v w fi fl x2 x3 x5 x6 H locs ls h; exact h.elim
  | succ n ih => exact b_X12_lookAtAll_80 hx hb hr hts hown hlocks hml hA hK  ih
def P_X12_lookAtAll (v : Nat → Int32) (w : Nat → Int64) (fi : Nat → Nat → Int32) (fl : Nat → Nat → Int64) (p0 : Int32) (p1 : Int32) (p2 : Int32) (Q : Int32 → (Nat → Int32) → (Nat → Int64) → (Nat → Nat → Int32) → (Nat → Nat → Int64) → Prop) : Prop := P_X12_needCell v w fi fl p1 400 (fun r1 v1 w1 fi1 fl1 => ((r1 = (-1)) → ((((v1 23) = 2) → (((¬ p2 = (v1 24)) → (vp_in p0 24 ∧ ((¬ (fi1 1 p0.toNatClampNeg) = 13) → (∃ n9 : Nat, P_X12_lookAtAll_80  Q n9 v1 w1 fi1 fl1 p1 p2 (v1 24) (0 : Int32))) ∧ (((fi1 1 p0.toNatClampNeg) = 13) → (P_X12_shares v1 w1 fi1 fl1 p1 (((v1 24) - 1) - p2) (fun r3 v3 w3 fi3 fl3 => Q r3 v3 w3 fi3 fl3))))) ∧ ((p2 = (v1 24)) → (P_X12_as v1 w1 fi1 fl1 2 (fun r4 v4 w4 fi4 fl4 => Q r4 v4 w4 fi4 fl4))))) ∧ ((¬ (v1 23) = 2) → (P_X12_as v1 w1 fi1 fl1 (v1 23) (fun r5 v5 w5 fi5 fl5 => Q r5 v5 w5 fi5 fl5))))) ∧ ((¬ r1 = (-1)) → (Q r1 v1 w1 fi1 fl1)))
set_option maxHeartbeats 4000000 in
set_option maxRecDepth 100000 in
theorem p_X12_lookAtAll (l : Launch) (dC : Nat → ClassId) (dI : Nat → Nat → Nat) (a : Nat → Nat) (ca : Nat → ClassId) (g0 : Nat) (v : Nat → Int32) (w : Nat → Int64) (fi : Nat → Nat → Int32) (fl : Nat → Nat → Int64) (p0 : Int32) (p1 : Int32) (p2 : Int32) (Q : Int32 → (Nat → Int32) → (Nat → Int64) → (Nat → Nat → Int32) → (Nat → Nat → Int64) → Prop) (h : P_X12_lookAtAll v w fi fl p0 p1 p2 Q) (sz : Nat) : Met l yX12_lookAtAll wmX12_lookAtAll ({ frames := 16, cells := 0, slots := 0, locals := 240 }) (va_Pc [.ref g0, .int p0, .int p1, .int p2] (mPre dC dI a ca g0 v w fi fl sz)) (va_Qi (S := MSt) (pI Q) (mB dC dI a ca g0 (va_A (mW a ca g0 v w fi fl) sz)) (va_A (mW a ca g0 v w fi fl) sz)) 0 0 (va_A (mW a ca g0 v w fi fl) sz) := by
  refine Met.ofW (cc := cX12_lookAtAll) (maxL := 13) (ret := (some .int)) (by decide) rfl ?_
  intro p e s m args below meth c s₁ B hml hv
  obtain ⟨rfl, hsz, hP, hK, hD0⟩ := hv
  have hx := B.exec
  have hb := B.bytes
  have hr := B.returns
  have hts : ∀ w ∈ WM, w.before _ s = true := fun w h => atoms_spec (ws := wmX12_lookAtAll) B.pre w (List.mem_cons_of_mem _ h)
  have hown : s.vm.findClass RX12 = some m.cls := findClass_of_methodNamed B.named
  have hlocks := B.notSynchronized
  subst hsz
  have hD := hD0.self (sz := s.heap.size)
  generalize hAe : va_A (mW a ca g0 v w fi fl) s.heap.size = A at hD ⊢
  have hA : ∀ q : Nat, s.heap.size ≤ q → A q := fun q h => by rw [← hAe]; exact Or.inr h
  generalize hH : s.heap = H at hP ⊢
  have hS : va_S A s.heap H [] := by rw [← hH]; exact va_S.rf
  have hl := lv_entry [.ref g0, .int p0, .int p1, .int p2] (n := 13) (Nat.le_of_ble_eq_true rfl)
  rw [lg_entry_eq]
  generalize (lg_sl [.ref g0, .int p0, .int p1, .int p2] ++ List.replicate (13 - (lg_sl [.ref g0, .int p0, .int p1, .int p2]).length) Slot.unset).toArray = ls at hl ⊢
  have hl : lv_has ls 13 [(0, .ref g0), (1, .int p0), (2, .int p1), (3, .int p2)] := hl
  unfold P_X12_lookAtAll at h
  refine lv_aload_n hx hb dX12_lookAtAll_0 rfl (lv_at hl 0 rfl) ?_
  refine lv_iload_n hx hb dX12_lookAtAll_1 rfl (lv_at hl 2 rfl) ?_
  refine lv_sipush (v := 400) hx hb dX12_lookAtAll_2 (by decide) ?_
  refine m_calli (rm := ({ frames := 8, cells := 0, slots := 0, locals := 120 })) (As := [.int p1, .int 400]) (rest := []) (fun sz => p_X12_needCell l dC dI a ca g0 _ _ _ _ p1 400 _ h sz) ⟨hx, hb, hml, hown, hts⟩ (cwV 2 hts (g_V gdM mwM_76 mwM_77 mwM_78 mwM_22 mwM_75) rfl rfl rfl hd_X12_needCell ⟨Nat.le_of_ble_eq_true rfl, Nat.le_of_ble_eq_true rfl⟩) rfl hl.1 rfl hK hP hD hS hA (Nat.le_of_ble_eq_true rfl) ⟨Nat.le_of_ble_eq_true rfl, Nat.le_of_ble_eq_true rfl⟩ dX12_lookAtAll_5 (fun r1 v1 w1 fi1 fl1 H locs h hP hD hS => ?_)
  refine lv_istore (lv' := [(4, .int r1), (0, .ref g0), (1, .int p0), (2, .int p1), (3, .int p2)]) hx hb dX12_lookAtAll_8 hl (by decide) rfl (fun ls hl => ?_)
  refine lv_iload hx hb dX12_lookAtAll_10 (lv_at hl 0 rfl) ?_
  refine lv_iconst (v := (-1)) hx hb dX12_lookAtAll_12 (by decide) ?_
  refine lv_icmp_eq (tgt := 19) hx hb dX12_lookAtAll_13 (by decide) (fun c_13 => ?_) (fun c_13 => ?_)
  · have h := h.1 c_13
    refine lv_aload_n hx hb dX12_lookAtAll_19 rfl (lv_at hl 1 rfl) ?_
    refine va_get (D := (dC, dI)) (ci := 11) (v := .int (v1 23)) (C := RX12) (T := TX12) (N := 32) hx hb hts hinM hown hK hP 0 rfl rfl 23 (by decide) (hts _ mwM_47) (fun _ h9 => h9) rfl dX12_lookAtAll_20 ?_
    refine lv_iconst (v := 2) hx hb dX12_lookAtAll_23 (by decide) ?_
    refine lv_icmp_eq (tgt := 36) hx hb dX12_lookAtAll_24 (by decide) (fun c_24 => ?_) (fun c_24 => ?_)
    · have h := h.1 c_24
      refine lv_aload_n hx hb dX12_lookAtAll_36 rfl (lv_at hl 1 rfl) ?_
      refine va_get (D := (dC, dI)) (ci := 11) (v := .int (v1 24)) (C := RX12) (T := TX12) (N := 32) hx hb hts hinM hown hK hP 0 rfl rfl 24 (by decide) (hts _ mwM_48) (fun _ h9 => h9) rfl dX12_lookAtAll_37 ?_
      refine lv_istore (lv' := [(5, .int (v1 24)), (4, .int r1), (0, .ref g0), (1, .int p0), (2, .int p1), (3, .int p2)]) hx hb dX12_lookAtAll_40 hl (by decide) rfl (fun ls hl => ?_)
      refine lv_iload_n hx hb dX12_lookAtAll_42 rfl (lv_at hl 5 rfl) ?_
      refine lv_iload hx hb dX12_lookAtAll_43 (lv_at hl 0 rfl) ?_
      refine lv_icmp_ne (tgt := 54) hx hb dX12_lookAtAll_45 (by decide) (fun c_45 => ?_) (fun c_45 => ?_)
      · have h := h.1 c_45
        refine lv_aload_n hx hb dX12_lookAtAll_54 rfl (lv_at hl 2 rfl) ?_
        refine va_get (D := (dC, dI)) (ci := 11) (v := .ref (a 1)) (C := RX12) (T := TX12) (N := 32) hx hb hts hinM hown hK hP 0 rfl rfl 1 (by decide) (hts _ mwM_2) (fun _ h9 => h9) rfl dX12_lookAtAll_55 ?_
        refine lv_iload_n hx hb dX12_lookAtAll_58 rfl (lv_at hl 3 rfl) ?_
        obtain ⟨hi2, h⟩ := h
        refine va_iald (f := fi1 1) hx hb hK hP 1 0 rfl rfl hi2 dX12_lookAtAll_59 ?_
        refine lv_bipush (v := 13) hx hb dX12_lookAtAll_60 (by decide) ?_
        refine lv_icmp_ne (tgt := 77) hx hb dX12_lookAtAll_62 (by decide) (fun c_62 => ?_) (fun c_62 => ?_)
        · have h := h.1 c_62
          refine lv_iconst (v := 0) hx hb dX12_lookAtAll_77 (by decide) ?_
          refine lv_istore (lv' := [(6, .int 0), (5, .int (v1 24)), (4, .int r1), (0, .ref g0), (1, .int p0), (2, .int p1), (3, .int p2)]) hx hb dX12_lookAtAll_78 hl (by decide) rfl (fun ls hl => ?_)
          obtain ⟨n9, h⟩ := h
          exact t_X12_lookAtAll_80 hx hb hr hts hown hlocks hml hA hK  n9 _ _ _ _ _ _ _ _ H _ ls h hP hD hS (lv_sub hl [3, 5, 6, 1, 0] rfl)
        · have h := h.2 c_62
          refine lv_aload_n hx hb dX12_lookAtAll_65 rfl (lv_at hl 2 rfl) ?_
          refine lv_iload_n hx hb dX12_lookAtAll_66 rfl (lv_at hl 4 rfl) ?_
          refine lv_iload hx hb dX12_lookAtAll_67 (lv_at hl 0 rfl) ?_
          refine lv_iconst (v := 1) hx hb dX12_lookAtAll_69 (by decide) ?_
          refine lv_isub hx hb dX12_lookAtAll_70 ?_
          refine lv_iload_n hx hb dX12_lookAtAll_71 rfl (lv_at hl 5 rfl) ?_
          refine lv_isub hx hb dX12_lookAtAll_72 ?_
          refine m_calli (rm := ({ frames := 4, cells := 0, slots := 0, locals := 60 })) (As := [.int p1, .int (((v1 24) - 1) - p2)]) (rest := []) (fun sz => p_X12_shares l dC dI a ca g0 _ _ _ _ p1 (((v1 24) - 1) - p2) _ h sz) ⟨hx, hb, hml, hown, hts⟩ (cwV 2 hts (g_V gdM mwM_84 mwM_85 mwM_86 mwM_22 mwM_83) rfl rfl rfl hd_X12_shares ⟨Nat.le_of_ble_eq_true rfl, Nat.le_of_ble_eq_true rfl⟩) rfl hl.1 rfl hK hP hD hS hA (Nat.le_of_ble_eq_true rfl) ⟨Nat.le_of_ble_eq_true rfl, Nat.le_of_ble_eq_true rfl⟩ dX12_lookAtAll_73 (fun r3 v3 w3 fi3 fl3 H locs h hP hD hS => ?_)
          exact W.iret (v := r3) hx hb hr (fun t ht hW => ⟨⟨_, (v3, w3, fi3, fl3), rfl, h, by rw [ht]; exact hP, va_K.moved hW.alike hK, hD⟩, hS.F ht⟩) hS.2.2 dX12_lookAtAll_76
      · have h := h.2 c_45
        refine lv_aload_n hx hb dX12_lookAtAll_48 rfl (lv_at hl 2 rfl) ?_
        refine lv_iconst (v := 2) hx hb dX12_lookAtAll_49 (by decide) ?_
        refine m_calli (rm := ({ frames := 4, cells := 0, slots := 0, locals := 60 })) (As := [.int 2]) (rest := []) (fun sz => p_X12_as l dC dI a ca g0 _ _ _ _ 2 _ h sz) ⟨hx, hb, hml, hown, hts⟩ (cwV 1 hts (g_V gdM mwM_80 mwM_81 mwM_82 mwM_22 mwM_79) rfl rfl rfl hd_X12_as ⟨Nat.le_of_ble_eq_true rfl, Nat.le_of_ble_eq_true rfl⟩) rfl hl.1 rfl hK hP hD hS hA (Nat.le_of_ble_eq_true rfl) ⟨Nat.le_of_ble_eq_true rfl, Nat.le_of_ble_eq_true rfl⟩ dX12_lookAtAll_50 (fun r4 v4 w4 fi4 fl4 H locs h hP hD hS => ?_)
        exact W.iret (v := r4) hx hb hr (fun t ht hW => ⟨⟨_, (v4, w4, fi4, fl4), rfl, h, by rw [ht]; exact hP, va_K.moved hW.alike hK, hD⟩, hS.F ht⟩) hS.2.2 dX12_lookAtAll_53
    · have h := h.2 c_24
      refine lv_aload_n hx hb dX12_lookAtAll_27 rfl (lv_at hl 1 rfl) ?_
      refine lv_aload_n hx hb dX12_lookAtAll_28 rfl (lv_at hl 1 rfl) ?_
      refine va_get (D := (dC, dI)) (ci := 11) (v := .int (v1 23)) (C := RX12) (T := TX12) (N := 32) hx hb hts hinM hown hK hP 0 rfl rfl 23 (by decide) (hts _ mwM_47) (fun _ h9 => h9) rfl dX12_lookAtAll_29 ?_
      refine m_calli (rm := ({ frames := 4, cells := 0, slots := 0, locals := 60 })) (As := [.int (v1 23)]) (rest := []) (fun sz => p_X12_as l dC dI a ca g0 _ _ _ _ (v1 23) _ h sz) ⟨hx, hb, hml, hown, hts⟩ (cwV 1 hts (g_V gdM mwM_80 mwM_81 mwM_82 mwM_22 mwM_79) rfl rfl rfl hd_X12_as ⟨Nat.le_of_ble_eq_true rfl, Nat.le_of_ble_eq_true rfl⟩) rfl hl.1 rfl hK hP hD hS hA (Nat.le_of_ble_eq_true rfl) ⟨Nat.le_of_ble_eq_true rfl, Nat.le_of_ble_eq_true rfl⟩ dX12_lookAtAll_32 (fun r5 v5 w5 fi5 fl5 H locs h hP hD hS => ?_)
      exact W.iret (v := r5) hx hb hr (fun t ht hW => ⟨⟨_, (v5, w5, fi5, fl5), rfl, h, by rw [ht]; exact hP, va_K.moved hW.alike hK, hD⟩, hS.F ht⟩) hS.2.2 dX12_lookAtAll_35
  · have h := h.2 c_13
    refine lv_iload hx hb dX12_lookAtAll_16 (lv_at hl 0 rfl) ?_
    exact W.iret (v := r1) hx hb hr (fun t ht hW => ⟨⟨_, (v1, w1, fi1, fl1), rfl, h, by rw [ht]; exact hP, va_K.moved hW.alike hK, hD⟩, hS.F ht⟩) hS.2.2 dX12_lookAtAll_18

abbrev wmX12_lookAtRun : List Cond := .code yX12_lookAtRun cX12_lookAtRun 9 (some .int) :: WM
theorem hd_X12_lookAtRun : yX12_lookAtRun.cls = RX12 ∧ yX12_lookAtRun.cls ≠ "java/lang/invoke/MethodHandle" ∧ yX12_lookAtRun.cls ≠ "java/lang/invoke/VarHandle" ∧ (parseMethodDescriptor yX12_lookAtRun.desc).map (fun d => d.parameters.length) = some 2 := by decide +kernel
def B_X12_lookAtRun_74  (K74 : (Nat → Int32) → (Nat → Int64) → (Nat → Nat → Int32) → (Nat → Nat → Int64) → Int32 → Int32 → Int64 → Int32 → Prop) (Q : Int32 → (Nat → Int32) → (Nat → Int64) → (Nat → Nat → Int32) → (Nat → Nat → Int64) → Prop) (v : Nat → Int32) (w : Nat → Int64) (fi : Nat → Nat → Int32) (fl : Nat → Nat → Int64) (x3 : Int32) (x4 : Int32) (x6 : Int64) (x8 : Int32) : Prop := P_X12_needCell v w fi fl x3 x8 (fun r1 v1 w1 fi1 fl1 => ((r1 = (-1)) → ((((v1 23) = 1) → (P_X12_needItem (va_up v1 29 (x8 - x4)) w1 fi1 fl1 x3 x8 (fun r2 v2 w2 fi2 fl2 => ((r2 = (-1)) → ((((v2 23) = 1) → ((((lg_cmp (w2 25) x6) = 0) → (K74 v2 w2 fi2 fl2 x3 x4 x6 (x8 + 1))) ∧ ((¬ (lg_cmp (w2 25) x6) = 0) → (P_X12_as v2 w2 fi2 fl2 1 (fun r3 v3 w3 fi3 fl3 => Q (-1) (va_up v3 28 x8) w3 fi3 fl3))))) ∧ ((¬ (v2 23) = 1) → (P_X12_as v2 w2 fi2 fl2 (v2 23) (fun r4 v4 w4 fi4 fl4 => Q r4 v4 w4 fi4 fl4))))) ∧ ((¬ r2 = (-1)) → (Q r2 v2 w2 fi2 fl2))))) ∧ ((¬ (v1 23) = 1) → (P_X12_as (va_up v1 29 (x8 - x4)) w1 fi1 fl1 (v1 23) (fun r5 v5 w5 fi5 fl5 => Q r5 v5 w5 fi5 fl5))))) ∧ ((¬ r1 = (-1)) → (Q r1 v1 w1 fi1 fl1)))
def P_X12_lookAtRun_74  (Q : Int32 → (Nat → Int32) → (Nat → Int64) → (Nat → Nat → Int32) → (Nat → Nat → Int64) → Prop) : Nat → (Nat → Int32) → (Nat → Int64) → (Nat → Nat → Int32) → (Nat → Nat → Int64) → Int32 → Int32 → Int64 → Int32 → Prop
  | 0 => fun _ _ _ _ _ _ _ _ => False
  | n + 1 => B_X12_lookAtRun_74  (P_X12_lookAtRun_74  Q n) Q
set_option maxHeartbeats 4000000 in
set_option maxRecDepth 100000 in
theorem b_X12_lookAtRun_74 {p : Program} {l : Launch} {e : Env} {s : State} {m : MethodId} {args : Array Value} {below : List Frame} {meth : Method} {c : Code} {A : Nat → Prop} {dC : Nat → ClassId} {dI : Nat → Nat → Nat} {a : Nat → Nat} {ca : Nat → ClassId} {g0 : Nat}  {K74 : (Nat → Int32) → (Nat → Int64) → (Nat → Nat → Int32) → (Nat → Nat → Int64) → Int32 → Int32 → Int64 → Int32 → Prop} {Q : Int32 → (Nat → Int32) → (Nat → Int64) → (Nat → Nat → Int32) → (Nat → Nat → Int64) → Prop} (hx : p.tables.exec = Jvm.exec) (hb : c.code = cX12_lookAtRun) (hr : meth.sig.returnType = (some .int)) (hts : ∀ w ∈ WM, w.before args s = true) (hown : s.vm.findClass RX12 = some m.cls) (hlocks : meth.locks = false) (hml : c.maxLocals = 9) (hA : ∀ q : Nat, s.heap.size ≤ q → A q) (hK : va_K (dC, dI) vwCl (mT ca) s)  (hK74 : ∀ (v : Nat → Int32) (w : Nat → Int64) (fi : Nat → Nat → Int32) (fl : Nat → Nat → Int64) (x3 : Int32) (x4 : Int32) (x6 : Int64) (x8 : Int32) (H : Heap) (locs : List Loc) (ls : Array Slot), K74 v w fi fl x3 x4 x6 x8 → va_P (dC, dI) vwCl (mW a ca g0 v w fi fl) H → va_D A (mW a ca g0 v w fi fl) → va_S A s.heap H locs → lv_has ls 9 [(0, .ref g0), (3, .int x3), (4, .int x4), (6, .long x6), (8, .int x8)] → W p l e (headSpec wmX12_lookAtRun ({ frames := 16, cells := 0, slots := 0, locals := 240 })).room s m args below meth c H locs 0 0 (MQ below (va_Qi (S := MSt) (pI Q) (mB dC dI a ca g0 A) A) args s 0 0 A) (F0 m 74 ls [])) : ∀ (v : Nat → Int32) (w : Nat → Int64) (fi : Nat → Nat → Int32) (fl : Nat → Nat → Int64) (x3 : Int32) (x4 : Int32) (x6 : Int64) (x8 : Int32) (H : Heap) (locs : List Loc) (ls : Array Slot), B_X12_lookAtRun_74  K74 Q v w fi fl x3 x4 x6 x8 → va_P (dC, dI) vwCl (mW a ca g0 v w fi fl) H → va_D A (mW a ca g0 v w fi fl) → va_S A s.heap H locs → lv_has ls 9 [(0, .ref g0), (3, .int x3), (4, .int x4), (6, .long x6), (8, .int x8)] → W p l e (headSpec wmX12_lookAtRun ({ frames := 16, cells := 0, slots := 0, locals := 240 })).room s m args below meth c H locs 0 0 (MQ below (va_Qi (S := MSt) (pI Q) (mB dC dI a ca g0 A) A) args s 0 0 A) (F0 m 74 ls []) := by
  intro v w fi fl x3 x4 x6 x8 H locs ls h hP hD hS hl
  unfold B_X12_lookAtRun_74 at h
  refine lv_aload_n hx hb dX12_lookAtRun_74 rfl (lv_at hl 0 rfl) ?_
  refine lv_iload_n hx hb dX12_lookAtRun_75 rfl (lv_at hl 1 rfl) ?_
  refine lv_iload hx hb dX12_lookAtRun_76 (lv_at hl 4 rfl) ?_
  refine m_calli (rm := ({ frames := 8, cells := 0, slots := 0, locals := 120 })) (As := [.int x3, .int x8]) (rest := []) (fun sz => p_X12_needCell l dC dI a ca g0 _ _ _ _ x3 x8 _ h sz) ⟨hx, hb, hml, hown, hts⟩ (cwV 2 hts (g_V gdM mwM_76 mwM_77 mwM_78 mwM_22 mwM_75) rfl rfl rfl hd_X12_needCell ⟨Nat.le_of_ble_eq_true rfl, Nat.le_of_ble_eq_true rfl⟩) rfl hl.1 rfl hK hP hD hS hA (Nat.le_of_ble_eq_true rfl) ⟨Nat.le_of_ble_eq_true rfl, Nat.le_of_ble_eq_true rfl⟩ dX12_lookAtRun_78 (fun r1 v1 w1 fi1 fl1 H locs h hP hD hS => ?_)
  refine lv_istore (lv' := [(5, .int r1), (0, .ref g0), (3, .int x3), (4, .int x4), (6, .long x6), (8, .int x8)]) hx hb dX12_lookAtRun_81 hl (by decide) rfl (fun ls hl => ?_)
  refine lv_iload hx hb dX12_lookAtRun_83 (lv_at hl 0 rfl) ?_
  refine lv_iconst (v := (-1)) hx hb dX12_lookAtRun_85 (by decide) ?_
  refine lv_icmp_eq (tgt := 92) hx hb dX12_lookAtRun_86 (by decide) (fun c_86 => ?_) (fun c_86 => ?_)
  · have h := h.1 c_86
    refine lv_aload_n hx hb dX12_lookAtRun_92 rfl (lv_at hl 1 rfl) ?_
    refine lv_iload hx hb dX12_lookAtRun_93 (lv_at hl 5 rfl) ?_
    refine lv_iload hx hb dX12_lookAtRun_95 (lv_at hl 3 rfl) ?_
    refine lv_isub hx hb dX12_lookAtRun_97 ?_
    refine m_put_29 hx hb hts hinM hown hK hP hD hS (hts _ mwM_102) dX12_lookAtRun_98 (fun H locs hP hD hS => ?_)
    refine lv_aload_n hx hb dX12_lookAtRun_101 rfl (lv_at hl 1 rfl) ?_
    refine va_get (D := (dC, dI)) (ci := 11) (v := .int (v1 23)) (C := RX12) (T := TX12) (N := 32) hx hb hts hinM hown hK hP 0 rfl rfl 23 (by decide) (hts _ mwM_47) (fun _ h9 => h9) rfl dX12_lookAtRun_102 ?_
    refine lv_iconst (v := 1) hx hb dX12_lookAtRun_105 (by decide) ?_
    refine lv_icmp_eq (tgt := 118) hx hb dX12_lookAtRun_106 (by decide) (fun c_106 => ?_) (fun c_106 => ?_)
    · have h := h.1 c_106
      refine lv_aload_n hx hb dX12_lookAtRun_118 rfl (lv_at hl 1 rfl) ?_
      refine lv_iload_n hx hb dX12_lookAtRun_119 rfl (lv_at hl 2 rfl) ?_
      refine lv_iload hx hb dX12_lookAtRun_120 (lv_at hl 5 rfl) ?_
      refine m_calli (rm := ({ frames := 12, cells := 0, slots := 0, locals := 180 })) (As := [.int x3, .int x8]) (rest := []) (fun sz => p_X12_needItem l dC dI a ca g0 _ _ _ _ x3 x8 _ h sz) ⟨hx, hb, hml, hown, hts⟩ (cwV 2 hts (g_V gdM mwM_95 mwM_96 mwM_97 mwM_22 mwM_94) rfl rfl rfl hd_X12_needItem ⟨Nat.le_of_ble_eq_true rfl, Nat.le_of_ble_eq_true rfl⟩) rfl hl.1 rfl hK hP hD hS hA (Nat.le_of_ble_eq_true rfl) ⟨Nat.le_of_ble_eq_true rfl, Nat.le_of_ble_eq_true rfl⟩ dX12_lookAtRun_122 (fun r2 v2 w2 fi2 fl2 H locs h hP hD hS => ?_)
      refine lv_istore (lv' := [(5, .int r2), (0, .ref g0), (3, .int x3), (4, .int x4), (6, .long x6), (8, .int x8)]) hx hb dX12_lookAtRun_125 hl (by decide) rfl (fun ls hl => ?_)
      refine lv_iload hx hb dX12_lookAtRun_127 (lv_at hl 0 rfl) ?_
      refine lv_iconst (v := (-1)) hx hb dX12_lookAtRun_129 (by decide) ?_
      refine lv_icmp_eq (tgt := 136) hx hb dX12_lookAtRun_130 (by decide) (fun c_130 => ?_) (fun c_130 => ?_)
      · have h := h.1 c_130
        refine lv_aload_n hx hb dX12_lookAtRun_136 rfl (lv_at hl 1 rfl) ?_
        refine va_get (D := (dC, dI)) (ci := 11) (v := .int (v2 23)) (C := RX12) (T := TX12) (N := 32) hx hb hts hinM hown hK hP 0 rfl rfl 23 (by decide) (hts _ mwM_47) (fun _ h9 => h9) rfl dX12_lookAtRun_137 ?_
        refine lv_iconst (v := 1) hx hb dX12_lookAtRun_140 (by decide) ?_
        refine lv_icmp_eq (tgt := 153) hx hb dX12_lookAtRun_141 (by decide) (fun c_141 => ?_) (fun c_141 => ?_)
        · have h := h.1 c_141
          refine lv_aload_n hx hb dX12_lookAtRun_153 rfl (lv_at hl 1 rfl) ?_
          refine va_get (D := (dC, dI)) (ci := 11) (v := .long (w2 25)) (C := RX12) (T := TX12) (N := 32) hx hb hts hinM hown hK hP 0 rfl rfl 25 (by decide) (hts _ mwM_56) (fun _ h9 => h9) rfl dX12_lookAtRun_154 ?_
          refine lv_lload hx hb dX12_lookAtRun_157 (lv_at hl 4 rfl) ?_
          refine W.lcmp hx hb dX12_lookAtRun_159 ?_
          refine lv_if_eq (tgt := 177) hx hb dX12_lookAtRun_160 (by decide) (fun c_160 => ?_) (fun c_160 => ?_)
          · have h := h.1 c_160
            refine lv_iinc (v := x8 + 1) (lv' := [(8, .int (x8 + 1)), (5, .int r2), (0, .ref g0), (3, .int x3), (4, .int x4), (6, .long x6)]) hx hb dX12_lookAtRun_177 hl (k := 5) rfl (iinc_1 _) (by decide) rfl (fun ls hl => ?_)
            refine lv_goto (tgt := 74) hx hb dX12_lookAtRun_180 (by decide) ?_
            exact hK74 _ _ _ _ _ _ _ _ H _ ls h hP hD hS (lv_sub hl [2, 3, 4, 5, 0] rfl)
          · have h := h.2 c_160
            refine lv_aload_n hx hb dX12_lookAtRun_163 rfl (lv_at hl 1 rfl) ?_
            refine lv_iconst (v := 1) hx hb dX12_lookAtRun_164 (by decide) ?_
            refine m_calli (rm := ({ frames := 4, cells := 0, slots := 0, locals := 60 })) (As := [.int 1]) (rest := []) (fun sz => p_X12_as l dC dI a ca g0 _ _ _ _ 1 _ h sz) ⟨hx, hb, hml, hown, hts⟩ (cwV 1 hts (g_V gdM mwM_80 mwM_81 mwM_82 mwM_22 mwM_79) rfl rfl rfl hd_X12_as ⟨Nat.le_of_ble_eq_true rfl, Nat.le_of_ble_eq_true rfl⟩) rfl hl.1 rfl hK hP hD hS hA (Nat.le_of_ble_eq_true rfl) ⟨Nat.le_of_ble_eq_true rfl, Nat.le_of_ble_eq_true rfl⟩ dX12_lookAtRun_165 (fun r3 v3 w3 fi3 fl3 H locs h hP hD hS => ?_)
            refine lv_pop hx hb dX12_lookAtRun_168 rfl ?_
            refine lv_aload_n hx hb dX12_lookAtRun_169 rfl (lv_at hl 1 rfl) ?_
            refine lv_iload hx hb dX12_lookAtRun_170 (lv_at hl 5 rfl) ?_
            refine m_put_28 hx hb hts hinM hown hK hP hD hS (hts _ mwM_10) dX12_lookAtRun_172 (fun H locs hP hD hS => ?_)
            refine lv_iconst (v := (-1)) hx hb dX12_lookAtRun_175 (by decide) ?_
            exact W.iret (v := (-1)) hx hb hr (fun t ht hW => ⟨⟨_, (va_up v3 28 x8, w3, fi3, fl3), rfl, h, by rw [ht]; exact hP, va_K.moved hW.alike hK, hD⟩, hS.F ht⟩) hS.2.2 dX12_lookAtRun_176
        · have h := h.2 c_141
          refine lv_aload_n hx hb dX12_lookAtRun_144 rfl (lv_at hl 1 rfl) ?_
          refine lv_aload_n hx hb dX12_lookAtRun_145 rfl (lv_at hl 1 rfl) ?_
          refine va_get (D := (dC, dI)) (ci := 11) (v := .int (v2 23)) (C := RX12) (T := TX12) (N := 32) hx hb hts hinM hown hK hP 0 rfl rfl 23 (by decide) (hts _ mwM_47) (fun _ h9 => h9) rfl dX12_lookAtRun_146 ?_
          refine m_calli (rm := ({ frames := 4, cells := 0, slots := 0, locals := 60 })) (As := [.int (v2 23)]) (rest := []) (fun sz => p_X12_as l dC dI a ca g0 _ _ _ _ (v2 23) _ h sz) ⟨hx, hb, hml, hown, hts⟩ (cwV 1 hts (g_V gdM mwM_80 mwM_81 mwM_82 mwM_22 mwM_79) rfl rfl rfl hd_X12_as ⟨Nat.le_of_ble_eq_true rfl, Nat.le_of_ble_eq_true rfl⟩) rfl hl.1 rfl hK hP hD hS hA (Nat.le_of_ble_eq_true rfl) ⟨Nat.le_of_ble_eq_true rfl, Nat.le_of_ble_eq_true rfl⟩ dX12_lookAtRun_149 (fun r4 v4 w4 fi4 fl4 H locs h hP hD hS => ?_)
          exact W.iret (v := r4) hx hb hr (fun t ht hW => ⟨⟨_, (v4, w4, fi4, fl4), rfl, h, by rw [ht]; exact hP, va_K.moved hW.alike hK, hD⟩, hS.F ht⟩) hS.2.2 dX12_lookAtRun_152
      · have h := h.2 c_130
        refine lv_iload hx hb dX12_lookAtRun_133 (lv_at hl 0 rfl) ?_
        exact W.iret (v := r2) hx hb hr (fun t ht hW => ⟨⟨_, (v2, w2, fi2, fl2), rfl, h, by rw [ht]; exact hP, va_K.moved hW.alike hK, hD⟩, hS.F ht⟩) hS.2.2 dX12_lookAtRun_135
    · have h := h.2 c_106
      refine lv_aload_n hx hb dX12_lookAtRun_109 rfl (lv_at hl 1 rfl) ?_
      refine lv_aload_n hx hb dX12_lookAtRun_110 rfl (lv_at hl 1 rfl) ?_
      refine va_get (D := (dC, dI)) (ci := 11) (v := .int (v1 23)) (C := RX12) (T := TX12) (N := 32) hx hb hts hinM hown hK hP 0 rfl rfl 23 (by decide) (hts _ mwM_47) (fun _ h9 => h9) rfl dX12_lookAtRun_111 ?_
      refine m_calli (rm := ({ frames := 4, cells := 0, slots := 0, locals := 60 })) (As := [.int (v1 23)]) (rest := []) (fun sz => p_X12_as l dC dI a ca g0 _ _ _ _ (v1 23) _ h sz) ⟨hx, hb, hml, hown, hts⟩ (cwV 1 hts (g_V gdM mwM_80 mwM_81 mwM_82 mwM_22 mwM_79) rfl rfl rfl hd_X12_as ⟨Nat.le_of_ble_eq_true rfl, Nat.le_of_ble_eq_true rfl⟩) rfl hl.1 rfl hK hP hD hS hA (Nat.le_of_ble_eq_true rfl) ⟨Nat.le_of_ble_eq_true rfl, Nat.le_of_ble_eq_true rfl⟩ dX12_lookAtRun_114 (fun r5 v5 w5 fi5 fl5 H locs h hP hD hS => ?_)
      exact W.iret (v := r5) hx hb hr (fun t ht hW => ⟨⟨_, (v5, w5, fi5, fl5), rfl, h, by rw [ht]; exact hP, va_K.moved hW.alike hK, hD⟩, hS.F ht⟩) hS.2.2 dX12_lookAtRun_117
  · have h := h.2 c_86
    refine lv_iload hx hb dX12_lookAtRun_89 (lv_at hl 0 rfl) ?_
    exact W.iret (v := r1) hx hb hr (fun t ht hW => ⟨⟨_, (v1, w1, fi1, fl1), rfl, h, by rw [ht]; exact hP, va_K.moved hW.alike hK, hD⟩, hS.F ht⟩) hS.2.2 dX12_lookAtRun_91
set_option maxHeartbeats 4000000 in
set_option maxRecDepth 100000 in
theorem t_X12_lookAtRun_74 {p : Program} {l : Launch} {e : Env} {s : State} {m : MethodId} {args : Array Value} {below : List Frame} {meth : Method} {c : Code} {A : Nat → Prop} {dC : Nat → ClassId} {dI : Nat → Nat → Nat} {a : Nat → Nat} {ca : Nat → ClassId} {g0 : Nat}  {Q : Int32 → (Nat → Int32) → (Nat → Int64) → (Nat → Nat → Int32) → (Nat → Nat → Int64) → Prop} (hx : p.tables.exec = Jvm.exec) (hb : c.code = cX12_lookAtRun) (hr : meth.sig.returnType = (some .int)) (hts : ∀ w ∈ WM, w.before args s = true) (hown : s.vm.findClass RX12 = some m.cls) (hlocks : meth.locks = false) (hml : c.maxLocals = 9) (hA : ∀ q : Nat, s.heap.size ≤ q → A q) (hK : va_K (dC, dI) vwCl (mT ca) s)  : ∀ n : Nat, ∀ (v : Nat → Int32) (w : Nat → Int64) (fi : Nat → Nat → Int32) (fl : Nat → Nat → Int64) (x3 : Int32) (x4 : Int32) (x6 : Int64) (x8 : Int32) (H : Heap) (locs : List Loc) (ls : Array Slot), P_X12_lookAtRun_74  Q n v w fi fl x3 x4 x6 x8 → va_P (dC, dI) vwCl (mW a ca g0 v w fi fl) H → va_D A (mW a ca g0 v w fi fl) → va_S A s.heap H locs → lv_has ls 9 [(0, .ref g0), (3, .int x3), (4, .int x4), (6, .long x6), (8, .int x8)] → W p l e (headSpec wmX12_lookAtRun ({ frames := 16, cells := 0, slots := 0, locals := 240 })).room s m args below meth c H locs 0 0 (MQ below (va_Qi (S := MSt) (pI Q) (mB dC dI a ca g0 A) A) args s 0 0 A) (F0 m 74 ls []) := by
  intro n
  induction n with
  | zero => intro v w fi fl x3 x4 x6 x8 H locs ls h; exact h.elim
  | succ n ih => exact b_X12_lookAtRun_74 hx hb hr hts hown hlocks hml hA hK  ih
def P_X12_lookAtRun (v : Nat → Int32) (w : Nat → Int64) (fi : Nat → Nat → Int32) (fl : Nat → Nat → Int64) (p0 : Int32) (p1 : Int32) (Q : Int32 → (Nat → Int32) → (Nat → Int64) → (Nat → Nat → Int32) → (Nat → Nat → Int64) → Prop) : Prop := vp_in p0 24 ∧ ((¬ p1 = 0) → (P_X12_place p0 p1 (fun r2 => vp_in r2 9600 ∧ P_X12_needItem v w fi fl (fi 2 p0.toNatClampNeg) (fi 11 r2.toNatClampNeg) (fun r4 v4 w4 fi4 fl4 => ((r4 = (-1)) → ((((v4 23) = 1) → (∀ z5 : Int32, z5 = (fi 11 r2.toNatClampNeg) + 1 → ∃ n9 : Nat, P_X12_lookAtRun_74  Q n9 v4 w4 fi4 fl4 (fi 2 p0.toNatClampNeg) (fi 11 r2.toNatClampNeg) (w4 25) z5)) ∧ ((¬ (v4 23) = 1) → (P_X12_as v4 w4 fi4 fl4 (v4 23) (fun r6 v6 w6 fi6 fl6 => Q r6 v6 w6 fi6 fl6))))) ∧ ((¬ r4 = (-1)) → (Q r4 v4 w4 fi4 fl4)))))) ∧ ((p1 = 0) → (P_X12_needItem v w fi fl (fi 2 p0.toNatClampNeg) 0 (fun r7 v7 w7 fi7 fl7 => ((r7 = (-1)) → ((((v7 23) = 1) → (∃ n9 : Nat, P_X12_lookAtRun_74  Q n9 v7 w7 fi7 fl7 (fi 2 p0.toNatClampNeg) (0 : Int32) (w7 25) ((0 : Int32) + 1))) ∧ ((¬ (v7 23) = 1) → (P_X12_as v7 w7 fi7 fl7 (v7 23) (fun r8 v8 w8 fi8 fl8 => Q r8 v8 w8 fi8 fl8))))) ∧ ((¬ r7 = (-1)) → (Q r7 v7 w7 fi7 fl7)))))
set_option maxHeartbeats 4000000 in
set_option maxRecDepth 100000 in
theorem p_X12_lookAtRun (l : Launch) (dC : Nat → ClassId) (dI : Nat → Nat → Nat) (a : Nat → Nat) (ca : Nat → ClassId) (g0 : Nat) (v : Nat → Int32) (w : Nat → Int64) (fi : Nat → Nat → Int32) (fl : Nat → Nat → Int64) (p0 : Int32) (p1 : Int32) (Q : Int32 → (Nat → Int32) → (Nat → Int64) → (Nat → Nat → Int32) → (Nat → Nat → Int64) → Prop) (h : P_X12_lookAtRun v w fi fl p0 p1 Q) (sz : Nat) : Met l yX12_lookAtRun wmX12_lookAtRun ({ frames := 16, cells := 0, slots := 0, locals := 240 }) (va_Pc [.ref g0, .int p0, .int p1] (mPre dC dI a ca g0 v w fi fl sz)) (va_Qi (S := MSt) (pI Q) (mB dC dI a ca g0 (va_A (mW a ca g0 v w fi fl) sz)) (va_A (mW a ca g0 v w fi fl) sz)) 0 0 (va_A (mW a ca g0 v w fi fl) sz) := by
  refine Met.ofW (cc := cX12_lookAtRun) (maxL := 9) (ret := (some .int)) (by decide) rfl ?_
  intro p e s m args below meth c s₁ B hml hv
  obtain ⟨rfl, hsz, hP, hK, hD0⟩ := hv
  have hx := B.exec
  have hb := B.bytes
  have hr := B.returns
  have hts : ∀ w ∈ WM, w.before _ s = true := fun w h => atoms_spec (ws := wmX12_lookAtRun) B.pre w (List.mem_cons_of_mem _ h)
  have hown : s.vm.findClass RX12 = some m.cls := findClass_of_methodNamed B.named
  have hlocks := B.notSynchronized
  subst hsz
  have hD := hD0.self (sz := s.heap.size)
  generalize hAe : va_A (mW a ca g0 v w fi fl) s.heap.size = A at hD ⊢
  have hA : ∀ q : Nat, s.heap.size ≤ q → A q := fun q h => by rw [← hAe]; exact Or.inr h
  generalize hH : s.heap = H at hP ⊢
  have hS : va_S A s.heap H [] := by rw [← hH]; exact va_S.rf
  have hl := lv_entry [.ref g0, .int p0, .int p1] (n := 9) (Nat.le_of_ble_eq_true rfl)
  rw [lg_entry_eq]
  generalize (lg_sl [.ref g0, .int p0, .int p1] ++ List.replicate (9 - (lg_sl [.ref g0, .int p0, .int p1]).length) Slot.unset).toArray = ls at hl ⊢
  have hl : lv_has ls 9 [(0, .ref g0), (1, .int p0), (2, .int p1)] := hl
  unfold P_X12_lookAtRun at h
  refine lv_aload_n hx hb dX12_lookAtRun_0 rfl (lv_at hl 0 rfl) ?_
  refine va_get (D := (dC, dI)) (ci := 11) (v := .ref (a 2)) (C := RX12) (T := TX12) (N := 32) hx hb hts hinM hown hK hP 0 rfl rfl 2 (by decide) (hts _ mwM_3) (fun _ h9 => h9) rfl dX12_lookAtRun_1 ?_
  refine lv_iload_n hx hb dX12_lookAtRun_4 rfl (lv_at hl 1 rfl) ?_
  obtain ⟨hi1, h⟩ := h
  refine va_iald (f := fi 2) hx hb hK hP 2 1 rfl rfl hi1 dX12_lookAtRun_5 ?_
  refine lv_istore_n (lv' := [(3, .int (fi 2 p0.toNatClampNeg)), (0, .ref g0), (1, .int p0), (2, .int p1)]) hx hb dX12_lookAtRun_6 rfl hl (by decide) rfl (fun ls hl => ?_)
  refine lv_iload_n hx hb dX12_lookAtRun_7 rfl (lv_at hl 3 rfl) ?_
  refine lv_if_ne (tgt := 15) hx hb dX12_lookAtRun_8 (by decide) (fun c_8 => ?_) (fun c_8 => ?_)
  · have h := h.1 c_8
    refine lv_aload_n hx hb dX12_lookAtRun_15 rfl (lv_at hl 1 rfl) ?_
    refine va_get (D := (dC, dI)) (ci := 11) (v := .ref (a 11)) (C := RX12) (T := TX12) (N := 32) hx hb hts hinM hown hK hP 0 rfl rfl 11 (by decide) (hts _ mwM_50) (fun _ h9 => h9) rfl dX12_lookAtRun_16 ?_
    refine lv_iload_n hx hb dX12_lookAtRun_19 rfl (lv_at hl 2 rfl) ?_
    refine lv_iload_n hx hb dX12_lookAtRun_20 rfl (lv_at hl 3 rfl) ?_
    refine s_calli (rm := ({ frames := 4, cells := 0, slots := 0, locals := 60 })) (As := [.int p0, .int p1]) (rest := [.ref (a 11)]) (fun sz => p_X12_place l dC dI p0 p1 _ h sz) ⟨hx, hb, hml, hown, hts⟩ (va_cwS 2 hts (g_S gdM mwM_45 mwM_46 mwM_22 mwM_44) rfl rfl rfl hd_X12_place ⟨Nat.le_of_ble_eq_true rfl, Nat.le_of_ble_eq_true rfl⟩) rfl hl.1 rfl hP hD hS hA (Nat.le_of_ble_eq_true rfl) ⟨Nat.le_of_ble_eq_true rfl, Nat.le_of_ble_eq_true rfl⟩ dX12_lookAtRun_21 (fun r2 H locs h hP hS => ?_)
    obtain ⟨hi3, h⟩ := h
    refine va_iald (f := fi 11) hx hb hK hP 11 10 rfl rfl hi3 dX12_lookAtRun_24 ?_
    refine lv_istore (lv' := [(4, .int (fi 11 r2.toNatClampNeg)), (3, .int (fi 2 p0.toNatClampNeg)), (0, .ref g0), (1, .int p0), (2, .int p1)]) hx hb dX12_lookAtRun_25 hl (by decide) rfl (fun ls hl => ?_)
    refine lv_aload_n hx hb dX12_lookAtRun_27 rfl (lv_at hl 2 rfl) ?_
    refine lv_iload_n hx hb dX12_lookAtRun_28 rfl (lv_at hl 1 rfl) ?_
    refine lv_iload hx hb dX12_lookAtRun_29 (lv_at hl 0 rfl) ?_
    refine m_calli (rm := ({ frames := 12, cells := 0, slots := 0, locals := 180 })) (As := [.int (fi 2 p0.toNatClampNeg), .int (fi 11 r2.toNatClampNeg)]) (rest := []) (fun sz => p_X12_needItem l dC dI a ca g0 _ _ _ _ (fi 2 p0.toNatClampNeg) (fi 11 r2.toNatClampNeg) _ h sz) ⟨hx, hb, hml, hown, hts⟩ (cwV 2 hts (g_V gdM mwM_95 mwM_96 mwM_97 mwM_22 mwM_94) rfl rfl rfl hd_X12_needItem ⟨Nat.le_of_ble_eq_true rfl, Nat.le_of_ble_eq_true rfl⟩) rfl hl.1 rfl hK hP hD hS hA (Nat.le_of_ble_eq_true rfl) ⟨Nat.le_of_ble_eq_true rfl, Nat.le_of_ble_eq_true rfl⟩ dX12_lookAtRun_31 (fun r4 v4 w4 fi4 fl4 H locs h hP hD hS => ?_)
    refine lv_istore (lv' := [(5, .int r4), (4, .int (fi 11 r2.toNatClampNeg)), (3, .int (fi 2 p0.toNatClampNeg)), (0, .ref g0), (1, .int p0), (2, .int p1)]) hx hb dX12_lookAtRun_34 hl (by decide) rfl (fun ls hl => ?_)
    refine lv_iload hx hb dX12_lookAtRun_36 (lv_at hl 0 rfl) ?_
    refine lv_iconst (v := (-1)) hx hb dX12_lookAtRun_38 (by decide) ?_
    refine lv_icmp_eq (tgt := 45) hx hb dX12_lookAtRun_39 (by decide) (fun c_39 => ?_) (fun c_39 => ?_)
    · have h := h.1 c_39
      refine lv_aload_n hx hb dX12_lookAtRun_45 rfl (lv_at hl 3 rfl) ?_
      refine va_get (D := (dC, dI)) (ci := 11) (v := .int (v4 23)) (C := RX12) (T := TX12) (N := 32) hx hb hts hinM hown hK hP 0 rfl rfl 23 (by decide) (hts _ mwM_47) (fun _ h9 => h9) rfl dX12_lookAtRun_46 ?_
      refine lv_iconst (v := 1) hx hb dX12_lookAtRun_49 (by decide) ?_
      refine lv_icmp_eq (tgt := 62) hx hb dX12_lookAtRun_50 (by decide) (fun c_50 => ?_) (fun c_50 => ?_)
      · have h := h.1 c_50
        refine lv_aload_n hx hb dX12_lookAtRun_62 rfl (lv_at hl 3 rfl) ?_
        refine va_get (D := (dC, dI)) (ci := 11) (v := .long (w4 25)) (C := RX12) (T := TX12) (N := 32) hx hb hts hinM hown hK hP 0 rfl rfl 25 (by decide) (hts _ mwM_56) (fun _ h9 => h9) rfl dX12_lookAtRun_63 ?_
        refine lv_lstore (lv' := [(6, .long (w4 25)), (5, .int r4), (4, .int (fi 11 r2.toNatClampNeg)), (3, .int (fi 2 p0.toNatClampNeg)), (0, .ref g0), (1, .int p0), (2, .int p1)]) hx hb dX12_lookAtRun_66 hl (by decide) rfl (fun ls hl => ?_)
        refine lv_iload hx hb dX12_lookAtRun_68 (lv_at hl 2 rfl) ?_
        refine lv_iconst (v := 1) hx hb dX12_lookAtRun_70 (by decide) ?_
        refine lv_iadd hx hb dX12_lookAtRun_71 ?_
        refine lv_topi (fun z5 ez5 => ?_)
        have h := h z5 ez5
        refine lv_istore (lv' := [(8, .int z5), (6, .long (w4 25)), (5, .int r4), (4, .int (fi 11 r2.toNatClampNeg)), (3, .int (fi 2 p0.toNatClampNeg)), (0, .ref g0), (1, .int p0), (2, .int p1)]) hx hb dX12_lookAtRun_72 hl (by decide) rfl (fun ls hl => ?_)
        obtain ⟨n9, h⟩ := h
        exact t_X12_lookAtRun_74 hx hb hr hts hown hlocks hml hA hK  n9 _ _ _ _ _ _ _ _ H _ ls h hP hD hS (lv_sub hl [5, 4, 3, 1, 0] rfl)
      · have h := h.2 c_50
        refine lv_aload_n hx hb dX12_lookAtRun_53 rfl (lv_at hl 3 rfl) ?_
        refine lv_aload_n hx hb dX12_lookAtRun_54 rfl (lv_at hl 3 rfl) ?_
        refine va_get (D := (dC, dI)) (ci := 11) (v := .int (v4 23)) (C := RX12) (T := TX12) (N := 32) hx hb hts hinM hown hK hP 0 rfl rfl 23 (by decide) (hts _ mwM_47) (fun _ h9 => h9) rfl dX12_lookAtRun_55 ?_
        refine m_calli (rm := ({ frames := 4, cells := 0, slots := 0, locals := 60 })) (As := [.int (v4 23)]) (rest := []) (fun sz => p_X12_as l dC dI a ca g0 _ _ _ _ (v4 23) _ h sz) ⟨hx, hb, hml, hown, hts⟩ (cwV 1 hts (g_V gdM mwM_80 mwM_81 mwM_82 mwM_22 mwM_79) rfl rfl rfl hd_X12_as ⟨Nat.le_of_ble_eq_true rfl, Nat.le_of_ble_eq_true rfl⟩) rfl hl.1 rfl hK hP hD hS hA (Nat.le_of_ble_eq_true rfl) ⟨Nat.le_of_ble_eq_true rfl, Nat.le_of_ble_eq_true rfl⟩ dX12_lookAtRun_58 (fun r6 v6 w6 fi6 fl6 H locs h hP hD hS => ?_)
        exact W.iret (v := r6) hx hb hr (fun t ht hW => ⟨⟨_, (v6, w6, fi6, fl6), rfl, h, by rw [ht]; exact hP, va_K.moved hW.alike hK, hD⟩, hS.F ht⟩) hS.2.2 dX12_lookAtRun_61
    · have h := h.2 c_39
      refine lv_iload hx hb dX12_lookAtRun_42 (lv_at hl 0 rfl) ?_
      exact W.iret (v := r4) hx hb hr (fun t ht hW => ⟨⟨_, (v4, w4, fi4, fl4), rfl, h, by rw [ht]; exact hP, va_K.moved hW.alike hK, hD⟩, hS.F ht⟩) hS.2.2 dX12_lookAtRun_44
  · have h := h.2 c_8
    refine lv_iconst (v := 0) hx hb dX12_lookAtRun_11 (by decide) ?_
    refine lv_goto (tgt := 25) hx hb dX12_lookAtRun_12 (by decide) ?_
    refine lv_istore (lv' := [(4, .int 0), (3, .int (fi 2 p0.toNatClampNeg)), (0, .ref g0), (1, .int p0), (2, .int p1)]) hx hb dX12_lookAtRun_25 hl (by decide) rfl (fun ls hl => ?_)
    refine lv_aload_n hx hb dX12_lookAtRun_27 rfl (lv_at hl 2 rfl) ?_
    refine lv_iload_n hx hb dX12_lookAtRun_28 rfl (lv_at hl 1 rfl) ?_
    refine lv_iload hx hb dX12_lookAtRun_29 (lv_at hl 0 rfl) ?_
    refine m_calli (rm := ({ frames := 12, cells := 0, slots := 0, locals := 180 })) (As := [.int (fi 2 p0.toNatClampNeg), .int 0]) (rest := []) (fun sz => p_X12_needItem l dC dI a ca g0 _ _ _ _ (fi 2 p0.toNatClampNeg) 0 _ h sz) ⟨hx, hb, hml, hown, hts⟩ (cwV 2 hts (g_V gdM mwM_95 mwM_96 mwM_97 mwM_22 mwM_94) rfl rfl rfl hd_X12_needItem ⟨Nat.le_of_ble_eq_true rfl, Nat.le_of_ble_eq_true rfl⟩) rfl hl.1 rfl hK hP hD hS hA (Nat.le_of_ble_eq_true rfl) ⟨Nat.le_of_ble_eq_true rfl, Nat.le_of_ble_eq_true rfl⟩ dX12_lookAtRun_31 (fun r7 v7 w7 fi7 fl7 H locs h hP hD hS => ?_)
    refine lv_istore (lv' := [(5, .int r7), (4, .int 0), (3, .int (fi 2 p0.toNatClampNeg)), (0, .ref g0), (1, .int p0), (2, .int p1)]) hx hb dX12_lookAtRun_34 hl (by decide) rfl (fun ls hl => ?_)
    refine lv_iload hx hb dX12_lookAtRun_36 (lv_at hl 0 rfl) ?_
    refine lv_iconst (v := (-1)) hx hb dX12_lookAtRun_38 (by decide) ?_
    refine lv_icmp_eq (tgt := 45) hx hb dX12_lookAtRun_39 (by decide) (fun c_39 => ?_) (fun c_39 => ?_)
    · have h := h.1 c_39
      refine lv_aload_n hx hb dX12_lookAtRun_45 rfl (lv_at hl 3 rfl) ?_
      refine va_get (D := (dC, dI)) (ci := 11) (v := .int (v7 23)) (C := RX12) (T := TX12) (N := 32) hx hb hts hinM hown hK hP 0 rfl rfl 23 (by decide) (hts _ mwM_47) (fun _ h9 => h9) rfl dX12_lookAtRun_46 ?_
      refine lv_iconst (v := 1) hx hb dX12_lookAtRun_49 (by decide) ?_
      refine lv_icmp_eq (tgt := 62) hx hb dX12_lookAtRun_50 (by decide) (fun c_50 => ?_) (fun c_50 => ?_)
      · have h := h.1 c_50
        refine lv_aload_n hx hb dX12_lookAtRun_62 rfl (lv_at hl 3 rfl) ?_
        refine va_get (D := (dC, dI)) (ci := 11) (v := .long (w7 25)) (C := RX12) (T := TX12) (N := 32) hx hb hts hinM hown hK hP 0 rfl rfl 25 (by decide) (hts _ mwM_56) (fun _ h9 => h9) rfl dX12_lookAtRun_63 ?_
        refine lv_lstore (lv' := [(6, .long (w7 25)), (5, .int r7), (4, .int 0), (3, .int (fi 2 p0.toNatClampNeg)), (0, .ref g0), (1, .int p0), (2, .int p1)]) hx hb dX12_lookAtRun_66 hl (by decide) rfl (fun ls hl => ?_)
        refine lv_iload hx hb dX12_lookAtRun_68 (lv_at hl 2 rfl) ?_
        refine lv_iconst (v := 1) hx hb dX12_lookAtRun_70 (by decide) ?_
        refine lv_iadd hx hb dX12_lookAtRun_71 ?_
        refine lv_istore (lv' := [(8, .int ((0 : Int32) + 1)), (6, .long (w7 25)), (5, .int r7), (4, .int 0), (3, .int (fi 2 p0.toNatClampNeg)), (0, .ref g0), (1, .int p0), (2, .int p1)]) hx hb dX12_lookAtRun_72 hl (by decide) rfl (fun ls hl => ?_)
        obtain ⟨n9, h⟩ := h
        exact t_X12_lookAtRun_74 hx hb hr hts hown hlocks hml hA hK  n9 _ _ _ _ _ _ _ _ H _ ls h hP hD hS (lv_sub hl [5, 4, 3, 1, 0] rfl)
      · have h := h.2 c_50
        refine lv_aload_n hx hb dX12_lookAtRun_53 rfl (lv_at hl 3 rfl) ?_
        refine lv_aload_n hx hb dX12_lookAtRun_54 rfl (lv_at hl 3 rfl) ?_
        refine va_get (D := (dC, dI)) (ci := 11) (v := .int (v7 23)) (C := RX12) (T := TX12) (N := 32) hx hb hts hinM hown hK hP 0 rfl rfl 23 (by decide) (hts _ mwM_47) (fun _ h9 => h9) rfl dX12_lookAtRun_55 ?_
        refine m_calli (rm := ({ frames := 4, cells := 0, slots := 0, locals := 60 })) (As := [.int (v7 23)]) (rest := []) (fun sz => p_X12_as l dC dI a ca g0 _ _ _ _ (v7 23) _ h sz) ⟨hx, hb, hml, hown, hts⟩ (cwV 1 hts (g_V gdM mwM_80 mwM_81 mwM_82 mwM_22 mwM_79) rfl rfl rfl hd_X12_as ⟨Nat.le_of_ble_eq_true rfl, Nat.le_of_ble_eq_true rfl⟩) rfl hl.1 rfl hK hP hD hS hA (Nat.le_of_ble_eq_true rfl) ⟨Nat.le_of_ble_eq_true rfl, Nat.le_of_ble_eq_true rfl⟩ dX12_lookAtRun_58 (fun r8 v8 w8 fi8 fl8 H locs h hP hD hS => ?_)
        exact W.iret (v := r8) hx hb hr (fun t ht hW => ⟨⟨_, (v8, w8, fi8, fl8), rfl, h, by rw [ht]; exact hP, va_K.moved hW.alike hK, hD⟩, hS.F ht⟩) hS.2.2 dX12_lookAtRun_61
    · have h := h.2 c_39
      refine lv_iload hx hb dX12_lookAtRun_42 (lv_at hl 0 rfl) ?_
      exact W.iret (v := r7) hx hb hr (fun t ht hW => ⟨⟨_, (v7, w7, fi7, fl7), rfl, h, by rw [ht]; exact hP, va_K.moved hW.alike hK, hD⟩, hS.F ht⟩) hS.2.2 dX12_lookAtRun_44

abbrev wmX12_ofItems : List Cond := .code yX12_ofItems cX12_ofItems 13 (some .int) :: WM
theorem hd_X12_ofItems : yX12_ofItems.cls = RX12 ∧ yX12_ofItems.cls ≠ "java/lang/invoke/MethodHandle" ∧ yX12_ofItems.cls ≠ "java/lang/invoke/VarHandle" ∧ (parseMethodDescriptor yX12_ofItems.desc).map (fun d => d.parameters.length) = some 6 := by decide +kernel
def P_X12_ofItems (v : Nat → Int32) (w : Nat → Int64) (fi : Nat → Nat → Int32) (fl : Nat → Nat → Int64) (p0 : Int32) (p1 : Int32) (p2 : Int32) (p3 : Int32) (p4 : Int32) (p5 : Int64) (Q : Int32 → (Nat → Int32) → (Nat → Int64) → (Nat → Nat → Int32) → (Nat → Nat → Int64) → Prop) : Prop := ((p0 = 8) → (((p3 = (-1)) → (P_X12_op v w fi fl p0 0 p5 (fun r1 v1 w1 fi1 fl1 => Q (-1) (va_up v1 26 r1) (va_up w1 30 (w1 22)) fi1 fl1))) ∧ ((¬ p3 = (-1)) → (P_X12_needItem v w fi fl p3 p4 (fun r2 v2 w2 fi2 fl2 => ((r2 = (-1)) → ((((v2 23) = 1) → (P_X12_op (va_up v2 26 (v2 23)) w2 fi2 fl2 p0 0 (w2 25) (fun r3 v3 w3 fi3 fl3 => Q (-1) (va_up v3 26 r3) (va_up w3 30 (w3 22)) fi3 fl3))) ∧ ((¬ (v2 23) = 1) → (Q (-1) (va_up v2 26 (v2 23)) w2 fi2 fl2)))) ∧ ((¬ r2 = (-1)) → (Q r2 v2 w2 fi2 fl2))))))) ∧ ((¬ p0 = 8) → (P_X12_needItem v w fi fl p1 p2 (fun r4 v4 w4 fi4 fl4 => ((r4 = (-1)) → ((((v4 23) = 1) → (((p0 = 7) → (P_X12_op (va_up v4 26 (v4 23)) w4 fi4 fl4 p0 (w4 25) p5 (fun r5 v5 w5 fi5 fl5 => Q (-1) (va_up v5 26 r5) (va_up w5 30 (w5 22)) fi5 fl5))) ∧ ((¬ p0 = 7) → (((p3 = (-1)) → (P_X12_op (va_up v4 26 (v4 23)) w4 fi4 fl4 p0 (w4 25) p5 (fun r6 v6 w6 fi6 fl6 => Q (-1) (va_up v6 26 r6) (va_up w6 30 (w6 22)) fi6 fl6))) ∧ ((¬ p3 = (-1)) → (P_X12_needItem (va_up v4 26 (v4 23)) w4 fi4 fl4 p3 p4 (fun r7 v7 w7 fi7 fl7 => ((r7 = (-1)) → ((((v7 23) = 1) → (P_X12_op (va_up v7 26 (v7 23)) w7 fi7 fl7 p0 (w4 25) (w7 25) (fun r8 v8 w8 fi8 fl8 => Q (-1) (va_up v8 26 r8) (va_up w8 30 (w8 22)) fi8 fl8))) ∧ ((¬ (v7 23) = 1) → (Q (-1) (va_up v7 26 (v7 23)) w7 fi7 fl7)))) ∧ ((¬ r7 = (-1)) → (Q r7 v7 w7 fi7 fl7))))))))) ∧ ((¬ (v4 23) = 1) → (Q (-1) (va_up v4 26 (v4 23)) w4 fi4 fl4)))) ∧ ((¬ r4 = (-1)) → (Q r4 v4 w4 fi4 fl4)))))
set_option maxHeartbeats 4000000 in
set_option maxRecDepth 100000 in
theorem p_X12_ofItems (l : Launch) (dC : Nat → ClassId) (dI : Nat → Nat → Nat) (a : Nat → Nat) (ca : Nat → ClassId) (g0 : Nat) (v : Nat → Int32) (w : Nat → Int64) (fi : Nat → Nat → Int32) (fl : Nat → Nat → Int64) (p0 : Int32) (p1 : Int32) (p2 : Int32) (p3 : Int32) (p4 : Int32) (p5 : Int64) (Q : Int32 → (Nat → Int32) → (Nat → Int64) → (Nat → Nat → Int32) → (Nat → Nat → Int64) → Prop) (h : P_X12_ofItems v w fi fl p0 p1 p2 p3 p4 p5 Q) (sz : Nat) : Met l yX12_ofItems wmX12_ofItems ({ frames := 16, cells := 0, slots := 0, locals := 240 }) (va_Pc [.ref g0, .int p0, .int p1, .int p2, .int p3, .int p4, .long p5] (mPre dC dI a ca g0 v w fi fl sz)) (va_Qi (S := MSt) (pI Q) (mB dC dI a ca g0 (va_A (mW a ca g0 v w fi fl) sz)) (va_A (mW a ca g0 v w fi fl) sz)) 0 0 (va_A (mW a ca g0 v w fi fl) sz) := by
  refine Met.ofW (cc := cX12_ofItems) (maxL := 13) (ret := (some .int)) (by decide) rfl ?_
  intro p e s m args below meth c s₁ B hml hv
  obtain ⟨rfl, hsz, hP, hK, hD0⟩ := hv
  have hx := B.exec
  have hb := B.bytes
  have hr := B.returns
  have hts : ∀ w ∈ WM, w.before _ s = true := fun w h => atoms_spec (ws := wmX12_ofItems) B.pre w (List.mem_cons_of_mem _ h)
  have hown : s.vm.findClass RX12 = some m.cls := findClass_of_methodNamed B.named
  have hlocks := B.notSynchronized
  subst hsz
  have hD := hD0.self (sz := s.heap.size)
  generalize hAe : va_A (mW a ca g0 v w fi fl) s.heap.size = A at hD ⊢
  have hA : ∀ q : Nat, s.heap.size ≤ q → A q := fun q h => by rw [← hAe]; exact Or.inr h
  generalize hH : s.heap = H at hP ⊢
  have hS : va_S A s.heap H [] := by rw [← hH]; exact va_S.rf
  have hl := lv_entry [.ref g0, .int p0, .int p1, .int p2, .int p3, .int p4, .long p5] (n := 13) (Nat.le_of_ble_eq_true rfl)
  rw [lg_entry_eq]
  generalize (lg_sl [.ref g0, .int p0, .int p1, .int p2, .int p3, .int p4, .long p5] ++ List.replicate (13 - (lg_sl [.ref g0, .int p0, .int p1, .int p2, .int p3, .int p4, .long p5]).length) Slot.unset).toArray = ls at hl ⊢
  have hl : lv_has ls 13 [(0, .ref g0), (1, .int p0), (2, .int p1), (3, .int p2), (4, .int p3), (5, .int p4), (6, .long p5)] := hl
  unfold P_X12_ofItems at h
  refine lv_lconst (v := 0) hx hb dX12_ofItems_0 (by decide) ?_
  refine lv_lstore (lv' := [(8, .long 0), (0, .ref g0), (1, .int p0), (2, .int p1), (3, .int p2), (4, .int p3), (5, .int p4), (6, .long p5)]) hx hb dX12_ofItems_1 hl (by decide) rfl (fun ls hl => ?_)
  refine lv_iload_n hx hb dX12_ofItems_3 rfl (lv_at hl 2 rfl) ?_
  refine lv_bipush (v := 8) hx hb dX12_ofItems_4 (by decide) ?_
  refine lv_icmp_eq (tgt := 50) hx hb dX12_ofItems_6 (by decide) (fun c_6 => ?_) (fun c_6 => ?_)
  · have h := h.1 c_6
    refine lv_lload hx hb dX12_ofItems_50 (lv_at hl 7 rfl) ?_
    refine lv_lstore (lv' := [(10, .long p5), (8, .long 0), (0, .ref g0), (1, .int p0), (2, .int p1), (3, .int p2), (4, .int p3), (5, .int p4), (6, .long p5)]) hx hb dX12_ofItems_52 hl (by decide) rfl (fun ls hl => ?_)
    refine lv_iload_n hx hb dX12_ofItems_54 rfl (lv_at hl 3 rfl) ?_
    refine lv_bipush (v := 7) hx hb dX12_ofItems_55 (by decide) ?_
    refine lv_icmp_eq (tgt := 109) hx hb dX12_ofItems_57 (by decide) (fun c_57 => ?_) (fun c_57 => ?_)
    · exact absurd (c_6.symm.trans c_57) (by decide)
    · refine lv_iload hx hb dX12_ofItems_60 (lv_at hl 6 rfl) ?_
      refine lv_iconst (v := (-1)) hx hb dX12_ofItems_62 (by decide) ?_
      refine lv_icmp_eq (tgt := 109) hx hb dX12_ofItems_63 (by decide) (fun c_63 => ?_) (fun c_63 => ?_)
      · have h := h.1 c_63
        refine lv_aload_n hx hb dX12_ofItems_109 rfl (lv_at hl 2 rfl) ?_
        refine lv_aload_n hx hb dX12_ofItems_110 rfl (lv_at hl 2 rfl) ?_
        refine lv_iload_n hx hb dX12_ofItems_111 rfl (lv_at hl 3 rfl) ?_
        refine lv_lload hx hb dX12_ofItems_112 (lv_at hl 1 rfl) ?_
        refine lv_lload hx hb dX12_ofItems_114 (lv_at hl 0 rfl) ?_
        refine m_calli (rm := ({ frames := 8, cells := 0, slots := 0, locals := 120 })) (As := [.int p0, .long 0, .long p5]) (rest := [.ref g0]) (fun sz => p_X12_op l dC dI a ca g0 _ _ _ _ p0 0 p5 _ h sz) ⟨hx, hb, hml, hown, hts⟩ (cwV 3 hts (g_V gdM mwM_104 mwM_105 mwM_106 mwM_22 mwM_103) rfl rfl rfl hd_X12_op ⟨Nat.le_of_ble_eq_true rfl, Nat.le_of_ble_eq_true rfl⟩) rfl hl.1 rfl hK hP hD hS hA (Nat.le_of_ble_eq_true rfl) ⟨Nat.le_of_ble_eq_true rfl, Nat.le_of_ble_eq_true rfl⟩ dX12_ofItems_116 (fun r1 v1 w1 fi1 fl1 H locs h hP hD hS => ?_)
        refine m_put_26 hx hb hts hinM hown hK hP hD hS (hts _ mwM_8) dX12_ofItems_119 (fun H locs hP hD hS => ?_)
        refine lv_aload_n hx hb dX12_ofItems_122 rfl (lv_at hl 2 rfl) ?_
        refine lv_aload_n hx hb dX12_ofItems_123 rfl (lv_at hl 2 rfl) ?_
        refine va_get (D := (dC, dI)) (ci := 11) (v := .long (w1 22)) (C := RX12) (T := TX12) (N := 32) hx hb hts hinM hown hK hP 0 rfl rfl 22 (by decide) (hts _ mwM_39) (fun _ h9 => h9) rfl dX12_ofItems_124 ?_
        refine m_put_30 hx hb hts hinM hown hK hP hD hS (hts _ mwM_11) dX12_ofItems_127 (fun H locs hP hD hS => ?_)
        refine lv_iconst (v := (-1)) hx hb dX12_ofItems_130 (by decide) ?_
        exact W.iret (v := (-1)) hx hb hr (fun t ht hW => ⟨⟨_, (va_up v1 26 r1, va_up w1 30 (w1 22), fi1, fl1), rfl, h, by rw [ht]; exact hP, va_K.moved hW.alike hK, hD⟩, hS.F ht⟩) hS.2.2 dX12_ofItems_131
      · have h := h.2 c_63
        refine lv_aload_n hx hb dX12_ofItems_66 rfl (lv_at hl 2 rfl) ?_
        refine lv_iload hx hb dX12_ofItems_67 (lv_at hl 6 rfl) ?_
        refine lv_iload hx hb dX12_ofItems_69 (lv_at hl 7 rfl) ?_
        refine m_calli (rm := ({ frames := 12, cells := 0, slots := 0, locals := 180 })) (As := [.int p3, .int p4]) (rest := []) (fun sz => p_X12_needItem l dC dI a ca g0 _ _ _ _ p3 p4 _ h sz) ⟨hx, hb, hml, hown, hts⟩ (cwV 2 hts (g_V gdM mwM_95 mwM_96 mwM_97 mwM_22 mwM_94) rfl rfl rfl hd_X12_needItem ⟨Nat.le_of_ble_eq_true rfl, Nat.le_of_ble_eq_true rfl⟩) rfl hl.1 rfl hK hP hD hS hA (Nat.le_of_ble_eq_true rfl) ⟨Nat.le_of_ble_eq_true rfl, Nat.le_of_ble_eq_true rfl⟩ dX12_ofItems_71 (fun r2 v2 w2 fi2 fl2 H locs h hP hD hS => ?_)
        refine lv_istore (lv' := [(12, .int r2), (10, .long p5), (8, .long 0), (0, .ref g0), (1, .int p0), (2, .int p1), (3, .int p2), (4, .int p3), (5, .int p4), (6, .long p5)]) hx hb dX12_ofItems_74 hl (by decide) rfl (fun ls hl => ?_)
        refine lv_iload hx hb dX12_ofItems_76 (lv_at hl 0 rfl) ?_
        refine lv_iconst (v := (-1)) hx hb dX12_ofItems_78 (by decide) ?_
        refine lv_icmp_eq (tgt := 85) hx hb dX12_ofItems_79 (by decide) (fun c_79 => ?_) (fun c_79 => ?_)
        · have h := h.1 c_79
          refine lv_aload_n hx hb dX12_ofItems_85 rfl (lv_at hl 3 rfl) ?_
          refine lv_aload_n hx hb dX12_ofItems_86 rfl (lv_at hl 3 rfl) ?_
          refine va_get (D := (dC, dI)) (ci := 11) (v := .int (v2 23)) (C := RX12) (T := TX12) (N := 32) hx hb hts hinM hown hK hP 0 rfl rfl 23 (by decide) (hts _ mwM_47) (fun _ h9 => h9) rfl dX12_ofItems_87 ?_
          refine m_put_26 hx hb hts hinM hown hK hP hD hS (hts _ mwM_8) dX12_ofItems_90 (fun H locs hP hD hS => ?_)
          refine lv_aload_n hx hb dX12_ofItems_93 rfl (lv_at hl 3 rfl) ?_
          refine va_get (D := (dC, dI)) (ci := 11) (v := .int (v2 23)) (C := RX12) (T := TX12) (N := 32) hx hb hts hinM hown hK hP 0 rfl rfl 23 (by decide) (hts _ mwM_47) (fun _ h9 => h9) rfl dX12_ofItems_94 ?_
          refine lv_iconst (v := 1) hx hb dX12_ofItems_97 (by decide) ?_
          refine lv_icmp_eq (tgt := 103) hx hb dX12_ofItems_98 (by decide) (fun c_98 => ?_) (fun c_98 => ?_)
          · have h := h.1 c_98
            refine lv_aload_n hx hb dX12_ofItems_103 rfl (lv_at hl 3 rfl) ?_
            refine va_get (D := (dC, dI)) (ci := 11) (v := .long (w2 25)) (C := RX12) (T := TX12) (N := 32) hx hb hts hinM hown hK hP 0 rfl rfl 25 (by decide) (hts _ mwM_56) (fun _ h9 => h9) rfl dX12_ofItems_104 ?_
            refine lv_lstore (lv' := [(10, .long (w2 25)), (12, .int r2), (8, .long 0), (0, .ref g0), (1, .int p0), (2, .int p1), (3, .int p2), (4, .int p3), (5, .int p4), (6, .long p5)]) hx hb dX12_ofItems_107 hl (by decide) rfl (fun ls hl => ?_)
            refine lv_aload_n hx hb dX12_ofItems_109 rfl (lv_at hl 3 rfl) ?_
            refine lv_aload_n hx hb dX12_ofItems_110 rfl (lv_at hl 3 rfl) ?_
            refine lv_iload_n hx hb dX12_ofItems_111 rfl (lv_at hl 4 rfl) ?_
            refine lv_lload hx hb dX12_ofItems_112 (lv_at hl 2 rfl) ?_
            refine lv_lload hx hb dX12_ofItems_114 (lv_at hl 0 rfl) ?_
            refine m_calli (rm := ({ frames := 8, cells := 0, slots := 0, locals := 120 })) (As := [.int p0, .long 0, .long (w2 25)]) (rest := [.ref g0]) (fun sz => p_X12_op l dC dI a ca g0 _ _ _ _ p0 0 (w2 25) _ h sz) ⟨hx, hb, hml, hown, hts⟩ (cwV 3 hts (g_V gdM mwM_104 mwM_105 mwM_106 mwM_22 mwM_103) rfl rfl rfl hd_X12_op ⟨Nat.le_of_ble_eq_true rfl, Nat.le_of_ble_eq_true rfl⟩) rfl hl.1 rfl hK hP hD hS hA (Nat.le_of_ble_eq_true rfl) ⟨Nat.le_of_ble_eq_true rfl, Nat.le_of_ble_eq_true rfl⟩ dX12_ofItems_116 (fun r3 v3 w3 fi3 fl3 H locs h hP hD hS => ?_)
            refine m_put_26 hx hb hts hinM hown hK hP hD hS (hts _ mwM_8) dX12_ofItems_119 (fun H locs hP hD hS => ?_)
            refine lv_aload_n hx hb dX12_ofItems_122 rfl (lv_at hl 3 rfl) ?_
            refine lv_aload_n hx hb dX12_ofItems_123 rfl (lv_at hl 3 rfl) ?_
            refine va_get (D := (dC, dI)) (ci := 11) (v := .long (w3 22)) (C := RX12) (T := TX12) (N := 32) hx hb hts hinM hown hK hP 0 rfl rfl 22 (by decide) (hts _ mwM_39) (fun _ h9 => h9) rfl dX12_ofItems_124 ?_
            refine m_put_30 hx hb hts hinM hown hK hP hD hS (hts _ mwM_11) dX12_ofItems_127 (fun H locs hP hD hS => ?_)
            refine lv_iconst (v := (-1)) hx hb dX12_ofItems_130 (by decide) ?_
            exact W.iret (v := (-1)) hx hb hr (fun t ht hW => ⟨⟨_, (va_up v3 26 r3, va_up w3 30 (w3 22), fi3, fl3), rfl, h, by rw [ht]; exact hP, va_K.moved hW.alike hK, hD⟩, hS.F ht⟩) hS.2.2 dX12_ofItems_131
          · have h := h.2 c_98
            refine lv_iconst (v := (-1)) hx hb dX12_ofItems_101 (by decide) ?_
            exact W.iret (v := (-1)) hx hb hr (fun t ht hW => ⟨⟨_, (va_up v2 26 (v2 23), w2, fi2, fl2), rfl, h, by rw [ht]; exact hP, va_K.moved hW.alike hK, hD⟩, hS.F ht⟩) hS.2.2 dX12_ofItems_102
        · have h := h.2 c_79
          refine lv_iload hx hb dX12_ofItems_82 (lv_at hl 0 rfl) ?_
          exact W.iret (v := r2) hx hb hr (fun t ht hW => ⟨⟨_, (v2, w2, fi2, fl2), rfl, h, by rw [ht]; exact hP, va_K.moved hW.alike hK, hD⟩, hS.F ht⟩) hS.2.2 dX12_ofItems_84
  · have h := h.2 c_6
    refine lv_aload_n hx hb dX12_ofItems_9 rfl (lv_at hl 1 rfl) ?_
    refine lv_iload_n hx hb dX12_ofItems_10 rfl (lv_at hl 3 rfl) ?_
    refine lv_iload_n hx hb dX12_ofItems_11 rfl (lv_at hl 4 rfl) ?_
    refine m_calli (rm := ({ frames := 12, cells := 0, slots := 0, locals := 180 })) (As := [.int p1, .int p2]) (rest := []) (fun sz => p_X12_needItem l dC dI a ca g0 _ _ _ _ p1 p2 _ h sz) ⟨hx, hb, hml, hown, hts⟩ (cwV 2 hts (g_V gdM mwM_95 mwM_96 mwM_97 mwM_22 mwM_94) rfl rfl rfl hd_X12_needItem ⟨Nat.le_of_ble_eq_true rfl, Nat.le_of_ble_eq_true rfl⟩) rfl hl.1 rfl hK hP hD hS hA (Nat.le_of_ble_eq_true rfl) ⟨Nat.le_of_ble_eq_true rfl, Nat.le_of_ble_eq_true rfl⟩ dX12_ofItems_12 (fun r4 v4 w4 fi4 fl4 H locs h hP hD hS => ?_)
    refine lv_istore (lv' := [(10, .int r4), (8, .long 0), (0, .ref g0), (1, .int p0), (2, .int p1), (3, .int p2), (4, .int p3), (5, .int p4), (6, .long p5)]) hx hb dX12_ofItems_15 hl (by decide) rfl (fun ls hl => ?_)
    refine lv_iload hx hb dX12_ofItems_17 (lv_at hl 0 rfl) ?_
    refine lv_iconst (v := (-1)) hx hb dX12_ofItems_19 (by decide) ?_
    refine lv_icmp_eq (tgt := 26) hx hb dX12_ofItems_20 (by decide) (fun c_20 => ?_) (fun c_20 => ?_)
    · have h := h.1 c_20
      refine lv_aload_n hx hb dX12_ofItems_26 rfl (lv_at hl 2 rfl) ?_
      refine lv_aload_n hx hb dX12_ofItems_27 rfl (lv_at hl 2 rfl) ?_
      refine va_get (D := (dC, dI)) (ci := 11) (v := .int (v4 23)) (C := RX12) (T := TX12) (N := 32) hx hb hts hinM hown hK hP 0 rfl rfl 23 (by decide) (hts _ mwM_47) (fun _ h9 => h9) rfl dX12_ofItems_28 ?_
      refine m_put_26 hx hb hts hinM hown hK hP hD hS (hts _ mwM_8) dX12_ofItems_31 (fun H locs hP hD hS => ?_)
      refine lv_aload_n hx hb dX12_ofItems_34 rfl (lv_at hl 2 rfl) ?_
      refine va_get (D := (dC, dI)) (ci := 11) (v := .int (v4 23)) (C := RX12) (T := TX12) (N := 32) hx hb hts hinM hown hK hP 0 rfl rfl 23 (by decide) (hts _ mwM_47) (fun _ h9 => h9) rfl dX12_ofItems_35 ?_
      refine lv_iconst (v := 1) hx hb dX12_ofItems_38 (by decide) ?_
      refine lv_icmp_eq (tgt := 44) hx hb dX12_ofItems_39 (by decide) (fun c_39 => ?_) (fun c_39 => ?_)
      · have h := h.1 c_39
        refine lv_aload_n hx hb dX12_ofItems_44 rfl (lv_at hl 2 rfl) ?_
        refine va_get (D := (dC, dI)) (ci := 11) (v := .long (w4 25)) (C := RX12) (T := TX12) (N := 32) hx hb hts hinM hown hK hP 0 rfl rfl 25 (by decide) (hts _ mwM_56) (fun _ h9 => h9) rfl dX12_ofItems_45 ?_
        refine lv_lstore (lv' := [(8, .long (w4 25)), (10, .int r4), (0, .ref g0), (1, .int p0), (2, .int p1), (3, .int p2), (4, .int p3), (5, .int p4), (6, .long p5)]) hx hb dX12_ofItems_48 hl (by decide) rfl (fun ls hl => ?_)
        refine lv_lload hx hb dX12_ofItems_50 (lv_at hl 8 rfl) ?_
        refine lv_lstore (lv' := [(10, .long p5), (8, .long (w4 25)), (0, .ref g0), (1, .int p0), (2, .int p1), (3, .int p2), (4, .int p3), (5, .int p4), (6, .long p5)]) hx hb dX12_ofItems_52 hl (by decide) rfl (fun ls hl => ?_)
        refine lv_iload_n hx hb dX12_ofItems_54 rfl (lv_at hl 3 rfl) ?_
        refine lv_bipush (v := 7) hx hb dX12_ofItems_55 (by decide) ?_
        refine lv_icmp_eq (tgt := 109) hx hb dX12_ofItems_57 (by decide) (fun c_57 => ?_) (fun c_57 => ?_)
        · have h := h.1 c_57
          refine lv_aload_n hx hb dX12_ofItems_109 rfl (lv_at hl 2 rfl) ?_
          refine lv_aload_n hx hb dX12_ofItems_110 rfl (lv_at hl 2 rfl) ?_
          refine lv_iload_n hx hb dX12_ofItems_111 rfl (lv_at hl 3 rfl) ?_
          refine lv_lload hx hb dX12_ofItems_112 (lv_at hl 1 rfl) ?_
          refine lv_lload hx hb dX12_ofItems_114 (lv_at hl 0 rfl) ?_
          refine m_calli (rm := ({ frames := 8, cells := 0, slots := 0, locals := 120 })) (As := [.int p0, .long (w4 25), .long p5]) (rest := [.ref g0]) (fun sz => p_X12_op l dC dI a ca g0 _ _ _ _ p0 (w4 25) p5 _ h sz) ⟨hx, hb, hml, hown, hts⟩ (cwV 3 hts (g_V gdM mwM_104 mwM_105 mwM_106 mwM_22 mwM_103) rfl rfl rfl hd_X12_op ⟨Nat.le_of_ble_eq_true rfl, Nat.le_of_ble_eq_true rfl⟩) rfl hl.1 rfl hK hP hD hS hA (Nat.le_of_ble_eq_true rfl) ⟨Nat.le_of_ble_eq_true rfl, Nat.le_of_ble_eq_true rfl⟩ dX12_ofItems_116 (fun r5 v5 w5 fi5 fl5 H locs h hP hD hS => ?_)
          refine m_put_26 hx hb hts hinM hown hK hP hD hS (hts _ mwM_8) dX12_ofItems_119 (fun H locs hP hD hS => ?_)
          refine lv_aload_n hx hb dX12_ofItems_122 rfl (lv_at hl 2 rfl) ?_
          refine lv_aload_n hx hb dX12_ofItems_123 rfl (lv_at hl 2 rfl) ?_
          refine va_get (D := (dC, dI)) (ci := 11) (v := .long (w5 22)) (C := RX12) (T := TX12) (N := 32) hx hb hts hinM hown hK hP 0 rfl rfl 22 (by decide) (hts _ mwM_39) (fun _ h9 => h9) rfl dX12_ofItems_124 ?_
          refine m_put_30 hx hb hts hinM hown hK hP hD hS (hts _ mwM_11) dX12_ofItems_127 (fun H locs hP hD hS => ?_)
          refine lv_iconst (v := (-1)) hx hb dX12_ofItems_130 (by decide) ?_
          exact W.iret (v := (-1)) hx hb hr (fun t ht hW => ⟨⟨_, (va_up v5 26 r5, va_up w5 30 (w5 22), fi5, fl5), rfl, h, by rw [ht]; exact hP, va_K.moved hW.alike hK, hD⟩, hS.F ht⟩) hS.2.2 dX12_ofItems_131
        · have h := h.2 c_57
          refine lv_iload hx hb dX12_ofItems_60 (lv_at hl 6 rfl) ?_
          refine lv_iconst (v := (-1)) hx hb dX12_ofItems_62 (by decide) ?_
          refine lv_icmp_eq (tgt := 109) hx hb dX12_ofItems_63 (by decide) (fun c_63 => ?_) (fun c_63 => ?_)
          · have h := h.1 c_63
            refine lv_aload_n hx hb dX12_ofItems_109 rfl (lv_at hl 2 rfl) ?_
            refine lv_aload_n hx hb dX12_ofItems_110 rfl (lv_at hl 2 rfl) ?_
            refine lv_iload_n hx hb dX12_ofItems_111 rfl (lv_at hl 3 rfl) ?_
            refine lv_lload hx hb dX12_ofItems_112 (lv_at hl 1 rfl) ?_
            refine lv_lload hx hb dX12_ofItems_114 (lv_at hl 0 rfl) ?_
            refine m_calli (rm := ({ frames := 8, cells := 0, slots := 0, locals := 120 })) (As := [.int p0, .long (w4 25), .long p5]) (rest := [.ref g0]) (fun sz => p_X12_op l dC dI a ca g0 _ _ _ _ p0 (w4 25) p5 _ h sz) ⟨hx, hb, hml, hown, hts⟩ (cwV 3 hts (g_V gdM mwM_104 mwM_105 mwM_106 mwM_22 mwM_103) rfl rfl rfl hd_X12_op ⟨Nat.le_of_ble_eq_true rfl, Nat.le_of_ble_eq_true rfl⟩) rfl hl.1 rfl hK hP hD hS hA (Nat.le_of_ble_eq_true rfl) ⟨Nat.le_of_ble_eq_true rfl, Nat.le_of_ble_eq_true rfl⟩ dX12_ofItems_116 (fun r6 v6 w6 fi6 fl6 H locs h hP hD hS => ?_)
            refine m_put_26 hx hb hts hinM hown hK hP hD hS (hts _ mwM_8) dX12_ofItems_119 (fun H locs hP hD hS => ?_)
            refine lv_aload_n hx hb dX12_ofItems_122 rfl (lv_at hl 2 rfl) ?_
            refine lv_aload_n hx hb dX12_ofItems_123 rfl (lv_at hl 2 rfl) ?_
            refine va_get (D := (dC, dI)) (ci := 11) (v := .long (w6 22)) (C := RX12) (T := TX12) (N := 32) hx hb hts hinM hown hK hP 0 rfl rfl 22 (by decide) (hts _ mwM_39) (fun _ h9 => h9) rfl dX12_ofItems_124 ?_
            refine m_put_30 hx hb hts hinM hown hK hP hD hS (hts _ mwM_11) dX12_ofItems_127 (fun H locs hP hD hS => ?_)
            refine lv_iconst (v := (-1)) hx hb dX12_ofItems_130 (by decide) ?_
            exact W.iret (v := (-1)) hx hb hr (fun t ht hW => ⟨⟨_, (va_up v6 26 r6, va_up w6 30 (w6 22), fi6, fl6), rfl, h, by rw [ht]; exact hP, va_K.moved hW.alike hK, hD⟩, hS.F ht⟩) hS.2.2 dX12_ofItems_131
          · have h := h.2 c_63
            refine lv_aload_n hx hb dX12_ofItems_66 rfl (lv_at hl 2 rfl) ?_
            refine lv_iload hx hb dX12_ofItems_67 (lv_at hl 6 rfl) ?_
            refine lv_iload hx hb dX12_ofItems_69 (lv_at hl 7 rfl) ?_
            refine m_calli (rm := ({ frames := 12, cells := 0, slots := 0, locals := 180 })) (As := [.int p3, .int p4]) (rest := []) (fun sz => p_X12_needItem l dC dI a ca g0 _ _ _ _ p3 p4 _ h sz) ⟨hx, hb, hml, hown, hts⟩ (cwV 2 hts (g_V gdM mwM_95 mwM_96 mwM_97 mwM_22 mwM_94) rfl rfl rfl hd_X12_needItem ⟨Nat.le_of_ble_eq_true rfl, Nat.le_of_ble_eq_true rfl⟩) rfl hl.1 rfl hK hP hD hS hA (Nat.le_of_ble_eq_true rfl) ⟨Nat.le_of_ble_eq_true rfl, Nat.le_of_ble_eq_true rfl⟩ dX12_ofItems_71 (fun r7 v7 w7 fi7 fl7 H locs h hP hD hS => ?_)
            refine lv_istore (lv' := [(12, .int r7), (10, .long p5), (8, .long (w4 25)), (0, .ref g0), (1, .int p0), (2, .int p1), (3, .int p2), (4, .int p3), (5, .int p4), (6, .long p5)]) hx hb dX12_ofItems_74 hl (by decide) rfl (fun ls hl => ?_)
            refine lv_iload hx hb dX12_ofItems_76 (lv_at hl 0 rfl) ?_
            refine lv_iconst (v := (-1)) hx hb dX12_ofItems_78 (by decide) ?_
            refine lv_icmp_eq (tgt := 85) hx hb dX12_ofItems_79 (by decide) (fun c_79 => ?_) (fun c_79 => ?_)
            · have h := h.1 c_79
              refine lv_aload_n hx hb dX12_ofItems_85 rfl (lv_at hl 3 rfl) ?_
              refine lv_aload_n hx hb dX12_ofItems_86 rfl (lv_at hl 3 rfl) ?_
              refine va_get (D := (dC, dI)) (ci := 11) (v := .int (v7 23)) (C := RX12) (T := TX12) (N := 32) hx hb hts hinM hown hK hP 0 rfl rfl 23 (by decide) (hts _ mwM_47) (fun _ h9 => h9) rfl dX12_ofItems_87 ?_
              refine m_put_26 hx hb hts hinM hown hK hP hD hS (hts _ mwM_8) dX12_ofItems_90 (fun H locs hP hD hS => ?_)
              refine lv_aload_n hx hb dX12_ofItems_93 rfl (lv_at hl 3 rfl) ?_
              refine va_get (D := (dC, dI)) (ci := 11) (v := .int (v7 23)) (C := RX12) (T := TX12) (N := 32) hx hb hts hinM hown hK hP 0 rfl rfl 23 (by decide) (hts _ mwM_47) (fun _ h9 => h9) rfl dX12_ofItems_94 ?_
              refine lv_iconst (v := 1) hx hb dX12_ofItems_97 (by decide) ?_
              refine lv_icmp_eq (tgt := 103) hx hb dX12_ofItems_98 (by decide) (fun c_98 => ?_) (fun c_98 => ?_)
              · have h := h.1 c_98
                refine lv_aload_n hx hb dX12_ofItems_103 rfl (lv_at hl 3 rfl) ?_
                refine va_get (D := (dC, dI)) (ci := 11) (v := .long (w7 25)) (C := RX12) (T := TX12) (N := 32) hx hb hts hinM hown hK hP 0 rfl rfl 25 (by decide) (hts _ mwM_56) (fun _ h9 => h9) rfl dX12_ofItems_104 ?_
                refine lv_lstore (lv' := [(10, .long (w7 25)), (12, .int r7), (8, .long (w4 25)), (0, .ref g0), (1, .int p0), (2, .int p1), (3, .int p2), (4, .int p3), (5, .int p4), (6, .long p5)]) hx hb dX12_ofItems_107 hl (by decide) rfl (fun ls hl => ?_)
                refine lv_aload_n hx hb dX12_ofItems_109 rfl (lv_at hl 3 rfl) ?_
                refine lv_aload_n hx hb dX12_ofItems_110 rfl (lv_at hl 3 rfl) ?_
                refine lv_iload_n hx hb dX12_ofItems_111 rfl (lv_at hl 4 rfl) ?_
                refine lv_lload hx hb dX12_ofItems_112 (lv_at hl 2 rfl) ?_
                refine lv_lload hx hb dX12_ofItems_114 (lv_at hl 0 rfl) ?_
                refine m_calli (rm := ({ frames := 8, cells := 0, slots := 0, locals := 120 })) (As := [.int p0, .long (w4 25), .long (w7 25)]) (rest := [.ref g0]) (fun sz => p_X12_op l dC dI a ca g0 _ _ _ _ p0 (w4 25) (w7 25) _ h sz) ⟨hx, hb, hml, hown, hts⟩ (cwV 3 hts (g_V gdM mwM_104 mwM_105 mwM_106 mwM_22 mwM_103) rfl rfl rfl hd_X12_op ⟨Nat.le_of_ble_eq_true rfl, Nat.le_of_ble_eq_true rfl⟩) rfl hl.1 rfl hK hP hD hS hA (Nat.le_of_ble_eq_true rfl) ⟨Nat.le_of_ble_eq_true rfl, Nat.le_of_ble_eq_true rfl⟩ dX12_ofItems_116 (fun r8 v8 w8 fi8 fl8 H locs h hP hD hS => ?_)
                refine m_put_26 hx hb hts hinM hown hK hP hD hS (hts _ mwM_8) dX12_ofItems_119 (fun H locs hP hD hS => ?_)
                refine lv_aload_n hx hb dX12_ofItems_122 rfl (lv_at hl 3 rfl) ?_
                refine lv_aload_n hx hb dX12_ofItems_123 rfl (lv_at hl 3 rfl) ?_
                refine va_get (D := (dC, dI)) (ci := 11) (v := .long (w8 22)) (C := RX12) (T := TX12) (N := 32) hx hb hts hinM hown hK hP 0 rfl rfl 22 (by decide) (hts _ mwM_39) (fun _ h9 => h9) rfl dX12_ofItems_124 ?_
                refine m_put_30 hx hb hts hinM hown hK hP hD hS (hts _ mwM_11) dX12_ofItems_127 (fun H locs hP hD hS => ?_)
                refine lv_iconst (v := (-1)) hx hb dX12_ofItems_130 (by decide) ?_
                exact W.iret (v := (-1)) hx hb hr (fun t ht hW => ⟨⟨_, (va_up v8 26 r8, va_up w8 30 (w8 22), fi8, fl8), rfl, h, by rw [ht]; exact hP, va_K.moved hW.alike hK, hD⟩, hS.F ht⟩) hS.2.2 dX12_ofItems_131
              · have h := h.2 c_98
                refine lv_iconst (v := (-1)) hx hb dX12_ofItems_101 (by decide) ?_
                exact W.iret (v := (-1)) hx hb hr (fun t ht hW => ⟨⟨_, (va_up v7 26 (v7 23), w7, fi7, fl7), rfl, h, by rw [ht]; exact hP, va_K.moved hW.alike hK, hD⟩, hS.F ht⟩) hS.2.2 dX12_ofItems_102
            · have h := h.2 c_79
              refine lv_iload hx hb dX12_ofItems_82 (lv_at hl 0 rfl) ?_
              exact W.iret (v := r7) hx hb hr (fun t ht hW => ⟨⟨_, (v7, w7, fi7, fl7), rfl, h, by rw [ht]; exact hP, va_K.moved hW.alike hK, hD⟩, hS.F ht⟩) hS.2.2 dX12_ofItems_84
      · have h := h.2 c_39
        refine lv_iconst (v := (-1)) hx hb dX12_ofItems_42 (by decide) ?_
        exact W.iret (v := (-1)) hx hb hr (fun t ht hW => ⟨⟨_, (va_up v4 26 (v4 23), w4, fi4, fl4), rfl, h, by rw [ht]; exact hP, va_K.moved hW.alike hK, hD⟩, hS.F ht⟩) hS.2.2 dX12_ofItems_43
    · have h := h.2 c_20
      refine lv_iload hx hb dX12_ofItems_23 (lv_at hl 0 rfl) ?_
      exact W.iret (v := r4) hx hb hr (fun t ht hW => ⟨⟨_, (v4, w4, fi4, fl4), rfl, h, by rw [ht]; exact hP, va_K.moved hW.alike hK, hD⟩, hS.F ht⟩) hS.2.2 dX12_ofItems_25
