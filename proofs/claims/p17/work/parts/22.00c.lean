def tyX6 : Nat → FieldType := fun k => match k with
  | 0 => .int
  | _ => .int
theorem nmX6 : ∀ a, a < 2 → ∀ b, b < 2 → a ≠ b → (TX6 a).2.1 ≠ (TX6 b).2.1 := by decide +kernel
theorem tyX6_ok : ∀ k, k < 2 → parseFieldDescriptor (TX6 k).2.2.1 = some (tyX6 k) := by decide +kernel
theorem dX6_begin_0 : decode cX6_begin 0 = .ok (.aload_n 0, 1) := by decide +kernel
theorem dX6_begin_1 : decode cX6_begin 1 = .ok (.iload_n 1, 1) := by decide +kernel
theorem dX6_begin_2 : decode cX6_begin 2 = .ok (.putfield 7, 3) := by decide +kernel
theorem dX6_begin_5 : decode cX6_begin 5 = .ok (.aload_n 0, 1) := by decide +kernel
theorem dX6_begin_6 : decode cX6_begin 6 = .ok (.iconst 0, 1) := by decide +kernel
theorem dX6_begin_7 : decode cX6_begin 7 = .ok (.putfield 13, 3) := by decide +kernel
theorem dX6_begin_10 : decode cX6_begin 10 = .ok (.return_, 1) := by decide +kernel
theorem dX6_spend_0 : decode cX6_spend 0 = .ok (.aload_n 0, 1) := by decide +kernel
theorem dX6_spend_1 : decode cX6_spend 1 = .ok (.getfield 7, 3) := by decide +kernel
theorem dX6_spend_4 : decode cX6_spend 4 = .ok (.ifCond .gt 5, 3) := by decide +kernel
theorem dX6_spend_7 : decode cX6_spend 7 = .ok (.iconst 0, 1) := by decide +kernel
theorem dX6_spend_8 : decode cX6_spend 8 = .ok (.ireturn, 1) := by decide +kernel
theorem dX6_spend_9 : decode cX6_spend 9 = .ok (.aload_n 0, 1) := by decide +kernel
theorem dX6_spend_10 : decode cX6_spend 10 = .ok (.dup, 1) := by decide +kernel
theorem dX6_spend_11 : decode cX6_spend 11 = .ok (.getfield 7, 3) := by decide +kernel
theorem dX6_spend_14 : decode cX6_spend 14 = .ok (.iconst 1, 1) := by decide +kernel
theorem dX6_spend_15 : decode cX6_spend 15 = .ok (.isub, 1) := by decide +kernel
theorem dX6_spend_16 : decode cX6_spend 16 = .ok (.putfield 7, 3) := by decide +kernel
theorem dX6_spend_19 : decode cX6_spend 19 = .ok (.aload_n 0, 1) := by decide +kernel
theorem dX6_spend_20 : decode cX6_spend 20 = .ok (.dup, 1) := by decide +kernel
theorem dX6_spend_21 : decode cX6_spend 21 = .ok (.getfield 13, 3) := by decide +kernel
theorem dX6_spend_24 : decode cX6_spend 24 = .ok (.iconst 1, 1) := by decide +kernel
theorem dX6_spend_25 : decode cX6_spend 25 = .ok (.iadd, 1) := by decide +kernel
theorem dX6_spend_26 : decode cX6_spend 26 = .ok (.putfield 13, 3) := by decide +kernel
theorem dX6_spend_29 : decode cX6_spend 29 = .ok (.iconst 1, 1) := by decide +kernel
theorem dX6_spend_30 : decode cX6_spend 30 = .ok (.ireturn, 1) := by decide +kernel
theorem dX11_dividesByNone_0 : decode cX11_dividesByNone 0 = .ok (.lload_n 1, 1) := by decide +kernel
theorem dX11_dividesByNone_1 : decode cX11_dividesByNone 1 = .ok (.lconst 0, 1) := by decide +kernel
theorem dX11_dividesByNone_2 : decode cX11_dividesByNone 2 = .ok (.lcmp, 1) := by decide +kernel
theorem dX11_dividesByNone_3 : decode cX11_dividesByNone 3 = .ok (.ifCond .ne 17, 3) := by decide +kernel
theorem dX11_dividesByNone_6 : decode cX11_dividesByNone 6 = .ok (.iload_n 0, 1) := by decide +kernel
theorem dX11_dividesByNone_7 : decode cX11_dividesByNone 7 = .ok (.iconst 3, 1) := by decide +kernel
theorem dX11_dividesByNone_8 : decode cX11_dividesByNone 8 = .ok (.if_icmp .eq 8, 3) := by decide +kernel
theorem dX11_dividesByNone_11 : decode cX11_dividesByNone 11 = .ok (.iload_n 0, 1) := by decide +kernel
theorem dX11_dividesByNone_12 : decode cX11_dividesByNone 12 = .ok (.iconst 4, 1) := by decide +kernel
theorem dX11_dividesByNone_13 : decode cX11_dividesByNone 13 = .ok (.if_icmp .ne 7, 3) := by decide +kernel
theorem dX11_dividesByNone_16 : decode cX11_dividesByNone 16 = .ok (.iconst 1, 1) := by decide +kernel
theorem dX11_dividesByNone_17 : decode cX11_dividesByNone 17 = .ok (.goto 4, 3) := by decide +kernel
theorem dX11_dividesByNone_20 : decode cX11_dividesByNone 20 = .ok (.iconst 0, 1) := by decide +kernel
theorem dX11_dividesByNone_21 : decode cX11_dividesByNone 21 = .ok (.ireturn, 1) := by decide +kernel
theorem dX11_reckon_0 : decode cX11_reckon 0 = .ok (.iload_n 0, 1) := by decide +kernel
theorem dX11_reckon_1 : decode cX11_reckon 1 = .ok (.tableswitch 105 0 7 #[47, 51, 55, 59, 75, 91, 97, 103], 47) := by decide +kernel
theorem dX11_reckon_48 : decode cX11_reckon 48 = .ok (.lload_n 1, 1) := by decide +kernel
theorem dX11_reckon_49 : decode cX11_reckon 49 = .ok (.lload_n 3, 1) := by decide +kernel
theorem dX11_reckon_50 : decode cX11_reckon 50 = .ok (.ladd, 1) := by decide +kernel
theorem dX11_reckon_51 : decode cX11_reckon 51 = .ok (.lreturn, 1) := by decide +kernel
theorem dX11_reckon_52 : decode cX11_reckon 52 = .ok (.lload_n 1, 1) := by decide +kernel
theorem dX11_reckon_53 : decode cX11_reckon 53 = .ok (.lload_n 3, 1) := by decide +kernel
theorem dX11_reckon_54 : decode cX11_reckon 54 = .ok (.lsub, 1) := by decide +kernel
theorem dX11_reckon_55 : decode cX11_reckon 55 = .ok (.lreturn, 1) := by decide +kernel
theorem dX11_reckon_56 : decode cX11_reckon 56 = .ok (.lload_n 1, 1) := by decide +kernel
theorem dX11_reckon_57 : decode cX11_reckon 57 = .ok (.lload_n 3, 1) := by decide +kernel
theorem dX11_reckon_58 : decode cX11_reckon 58 = .ok (.lmul, 1) := by decide +kernel
theorem dX11_reckon_59 : decode cX11_reckon 59 = .ok (.lreturn, 1) := by decide +kernel
theorem dX11_reckon_60 : decode cX11_reckon 60 = .ok (.lload_n 3, 1) := by decide +kernel
theorem dX11_reckon_61 : decode cX11_reckon 61 = .ok (.lconst 0, 1) := by decide +kernel
theorem dX11_reckon_62 : decode cX11_reckon 62 = .ok (.lcmp, 1) := by decide +kernel
theorem dX11_reckon_63 : decode cX11_reckon 63 = .ok (.ifCond .ne 7, 3) := by decide +kernel
theorem dX11_reckon_66 : decode cX11_reckon 66 = .ok (.lconst 0, 1) := by decide +kernel
theorem dX11_reckon_67 : decode cX11_reckon 67 = .ok (.goto 8, 3) := by decide +kernel
theorem dX11_reckon_70 : decode cX11_reckon 70 = .ok (.lload_n 1, 1) := by decide +kernel
theorem dX11_reckon_71 : decode cX11_reckon 71 = .ok (.lload_n 3, 1) := by decide +kernel
theorem dX11_reckon_72 : decode cX11_reckon 72 = .ok (.invokestatic 211, 3) := by decide +kernel
theorem dX11_reckon_75 : decode cX11_reckon 75 = .ok (.lreturn, 1) := by decide +kernel
theorem dX11_reckon_76 : decode cX11_reckon 76 = .ok (.lload_n 3, 1) := by decide +kernel
theorem dX11_reckon_77 : decode cX11_reckon 77 = .ok (.lconst 0, 1) := by decide +kernel
theorem dX11_reckon_78 : decode cX11_reckon 78 = .ok (.lcmp, 1) := by decide +kernel
theorem dX11_reckon_79 : decode cX11_reckon 79 = .ok (.ifCond .ne 7, 3) := by decide +kernel
theorem dX11_reckon_82 : decode cX11_reckon 82 = .ok (.lconst 0, 1) := by decide +kernel
theorem dX11_reckon_83 : decode cX11_reckon 83 = .ok (.goto 8, 3) := by decide +kernel
theorem dX11_reckon_86 : decode cX11_reckon 86 = .ok (.lload_n 1, 1) := by decide +kernel
theorem dX11_reckon_87 : decode cX11_reckon 87 = .ok (.lload_n 3, 1) := by decide +kernel
theorem dX11_reckon_88 : decode cX11_reckon 88 = .ok (.invokestatic 217, 3) := by decide +kernel
theorem dX11_reckon_91 : decode cX11_reckon 91 = .ok (.lreturn, 1) := by decide +kernel
theorem dX11_reckon_92 : decode cX11_reckon 92 = .ok (.lload_n 1, 1) := by decide +kernel
theorem dX11_reckon_93 : decode cX11_reckon 93 = .ok (.lload_n 3, 1) := by decide +kernel
theorem dX11_reckon_94 : decode cX11_reckon 94 = .ok (.invokestatic 220, 3) := by decide +kernel
theorem dX11_reckon_97 : decode cX11_reckon 97 = .ok (.lreturn, 1) := by decide +kernel
theorem dX11_reckon_98 : decode cX11_reckon 98 = .ok (.lload_n 1, 1) := by decide +kernel
theorem dX11_reckon_99 : decode cX11_reckon 99 = .ok (.lload_n 3, 1) := by decide +kernel
theorem dX11_reckon_100 : decode cX11_reckon 100 = .ok (.invokestatic 223, 3) := by decide +kernel
theorem dX11_reckon_103 : decode cX11_reckon 103 = .ok (.lreturn, 1) := by decide +kernel
theorem dX11_reckon_104 : decode cX11_reckon 104 = .ok (.lload_n 1, 1) := by decide +kernel
theorem dX11_reckon_105 : decode cX11_reckon 105 = .ok (.lreturn, 1) := by decide +kernel
theorem dX11_reckon_106 : decode cX11_reckon 106 = .ok (.lload_n 3, 1) := by decide +kernel
theorem dX11_reckon_107 : decode cX11_reckon 107 = .ok (.lreturn, 1) := by decide +kernel
theorem dX11_meets_0 : decode cX11_meets 0 = .ok (.iload_n 0, 1) := by decide +kernel
theorem dX11_meets_1 : decode cX11_meets 1 = .ok (.tableswitch 63 0 2 #[27, 39, 51], 27) := by decide +kernel
theorem dX11_meets_28 : decode cX11_meets 28 = .ok (.lload_n 1, 1) := by decide +kernel
theorem dX11_meets_29 : decode cX11_meets 29 = .ok (.lload_n 3, 1) := by decide +kernel
theorem dX11_meets_30 : decode cX11_meets 30 = .ok (.lcmp, 1) := by decide +kernel
theorem dX11_meets_31 : decode cX11_meets 31 = .ok (.ifCond .ge 7, 3) := by decide +kernel
theorem dX11_meets_34 : decode cX11_meets 34 = .ok (.iconst 1, 1) := by decide +kernel
theorem dX11_meets_35 : decode cX11_meets 35 = .ok (.goto 4, 3) := by decide +kernel
theorem dX11_meets_38 : decode cX11_meets 38 = .ok (.iconst 0, 1) := by decide +kernel
theorem dX11_meets_39 : decode cX11_meets 39 = .ok (.ireturn, 1) := by decide +kernel
theorem dX11_meets_40 : decode cX11_meets 40 = .ok (.lload_n 1, 1) := by decide +kernel
theorem dX11_meets_41 : decode cX11_meets 41 = .ok (.lload_n 3, 1) := by decide +kernel
theorem dX11_meets_42 : decode cX11_meets 42 = .ok (.lcmp, 1) := by decide +kernel
theorem dX11_meets_43 : decode cX11_meets 43 = .ok (.ifCond .ne 7, 3) := by decide +kernel
theorem dX11_meets_46 : decode cX11_meets 46 = .ok (.iconst 1, 1) := by decide +kernel
theorem dX11_meets_47 : decode cX11_meets 47 = .ok (.goto 4, 3) := by decide +kernel
theorem dX11_meets_50 : decode cX11_meets 50 = .ok (.iconst 0, 1) := by decide +kernel
theorem dX11_meets_51 : decode cX11_meets 51 = .ok (.ireturn, 1) := by decide +kernel
theorem dX11_meets_52 : decode cX11_meets 52 = .ok (.lload_n 1, 1) := by decide +kernel
theorem dX11_meets_53 : decode cX11_meets 53 = .ok (.lload_n 3, 1) := by decide +kernel
theorem dX11_meets_54 : decode cX11_meets 54 = .ok (.lcmp, 1) := by decide +kernel
theorem dX11_meets_55 : decode cX11_meets 55 = .ok (.ifCond .le 7, 3) := by decide +kernel
theorem dX11_meets_58 : decode cX11_meets 58 = .ok (.iconst 1, 1) := by decide +kernel
theorem dX11_meets_59 : decode cX11_meets 59 = .ok (.goto 4, 3) := by decide +kernel
theorem dX11_meets_62 : decode cX11_meets 62 = .ok (.iconst 0, 1) := by decide +kernel
theorem dX11_meets_63 : decode cX11_meets 63 = .ok (.ireturn, 1) := by decide +kernel
theorem dX11_meets_64 : decode cX11_meets 64 = .ok (.lload_n 3, 1) := by decide +kernel
theorem dX11_meets_65 : decode cX11_meets 65 = .ok (.lconst 0, 1) := by decide +kernel
theorem dX11_meets_66 : decode cX11_meets 66 = .ok (.lcmp, 1) := by decide +kernel
theorem dX11_meets_67 : decode cX11_meets 67 = .ok (.ifCond .ne 17, 3) := by decide +kernel
theorem dX11_meets_70 : decode cX11_meets 70 = .ok (.lload_n 1, 1) := by decide +kernel
theorem dX11_meets_71 : decode cX11_meets 71 = .ok (.lconst 0, 1) := by decide +kernel
theorem dX11_meets_72 : decode cX11_meets 72 = .ok (.lcmp, 1) := by decide +kernel
theorem dX11_meets_73 : decode cX11_meets 73 = .ok (.ifCond .ne 7, 3) := by decide +kernel
theorem dX11_meets_76 : decode cX11_meets 76 = .ok (.iconst 1, 1) := by decide +kernel
theorem dX11_meets_77 : decode cX11_meets 77 = .ok (.goto 20, 3) := by decide +kernel
theorem dX11_meets_80 : decode cX11_meets 80 = .ok (.iconst 0, 1) := by decide +kernel
theorem dX11_meets_81 : decode cX11_meets 81 = .ok (.goto 16, 3) := by decide +kernel
theorem dX11_meets_84 : decode cX11_meets 84 = .ok (.lload_n 1, 1) := by decide +kernel
theorem dX11_meets_85 : decode cX11_meets 85 = .ok (.lload_n 3, 1) := by decide +kernel
theorem dX11_meets_86 : decode cX11_meets 86 = .ok (.lrem, 1) := by decide +kernel
theorem dX11_meets_87 : decode cX11_meets 87 = .ok (.lconst 0, 1) := by decide +kernel
theorem dX11_meets_88 : decode cX11_meets 88 = .ok (.lcmp, 1) := by decide +kernel
theorem dX11_meets_89 : decode cX11_meets 89 = .ok (.ifCond .ne 7, 3) := by decide +kernel
theorem dX11_meets_92 : decode cX11_meets 92 = .ok (.iconst 1, 1) := by decide +kernel
theorem dX11_meets_93 : decode cX11_meets 93 = .ok (.goto 4, 3) := by decide +kernel
theorem dX11_meets_96 : decode cX11_meets 96 = .ok (.iconst 0, 1) := by decide +kernel
theorem dX11_meets_97 : decode cX11_meets 97 = .ok (.ireturn, 1) := by decide +kernel
theorem dJ9_floorDiv_f86c9_0 : decode cJ9_floorDiv_f86c9 0 = .ok (.lload_n 0, 1) := by decide +kernel
theorem dJ9_floorDiv_f86c9_1 : decode cJ9_floorDiv_f86c9 1 = .ok (.lload_n 2, 1) := by decide +kernel
theorem dJ9_floorDiv_f86c9_2 : decode cJ9_floorDiv_f86c9 2 = .ok (.ldiv, 1) := by decide +kernel
theorem dJ9_floorDiv_f86c9_3 : decode cJ9_floorDiv_f86c9 3 = .ok (.lstore 4, 2) := by decide +kernel
theorem dJ9_floorDiv_f86c9_5 : decode cJ9_floorDiv_f86c9 5 = .ok (.lload_n 0, 1) := by decide +kernel
theorem dJ9_floorDiv_f86c9_6 : decode cJ9_floorDiv_f86c9 6 = .ok (.lload_n 2, 1) := by decide +kernel
theorem dJ9_floorDiv_f86c9_7 : decode cJ9_floorDiv_f86c9 7 = .ok (.lxor, 1) := by decide +kernel
theorem dJ9_floorDiv_f86c9_8 : decode cJ9_floorDiv_f86c9 8 = .ok (.lconst 0, 1) := by decide +kernel
theorem dJ9_floorDiv_f86c9_9 : decode cJ9_floorDiv_f86c9 9 = .ok (.lcmp, 1) := by decide +kernel
theorem dJ9_floorDiv_f86c9_10 : decode cJ9_floorDiv_f86c9 10 = .ok (.ifCond .ge 17, 3) := by decide +kernel
theorem dJ9_floorDiv_f86c9_13 : decode cJ9_floorDiv_f86c9 13 = .ok (.lload 4, 2) := by decide +kernel
theorem dJ9_floorDiv_f86c9_15 : decode cJ9_floorDiv_f86c9 15 = .ok (.lload_n 2, 1) := by decide +kernel
theorem dJ9_floorDiv_f86c9_16 : decode cJ9_floorDiv_f86c9 16 = .ok (.lmul, 1) := by decide +kernel
theorem dJ9_floorDiv_f86c9_17 : decode cJ9_floorDiv_f86c9 17 = .ok (.lload_n 0, 1) := by decide +kernel
theorem dJ9_floorDiv_f86c9_18 : decode cJ9_floorDiv_f86c9 18 = .ok (.lcmp, 1) := by decide +kernel
theorem dJ9_floorDiv_f86c9_19 : decode cJ9_floorDiv_f86c9 19 = .ok (.ifCond .eq 8, 3) := by decide +kernel
theorem dJ9_floorDiv_f86c9_22 : decode cJ9_floorDiv_f86c9 22 = .ok (.lload 4, 2) := by decide +kernel
theorem dJ9_floorDiv_f86c9_24 : decode cJ9_floorDiv_f86c9 24 = .ok (.lconst 1, 1) := by decide +kernel
theorem dJ9_floorDiv_f86c9_25 : decode cJ9_floorDiv_f86c9 25 = .ok (.lsub, 1) := by decide +kernel
theorem dJ9_floorDiv_f86c9_26 : decode cJ9_floorDiv_f86c9 26 = .ok (.lreturn, 1) := by decide +kernel
theorem dJ9_floorDiv_f86c9_27 : decode cJ9_floorDiv_f86c9 27 = .ok (.lload 4, 2) := by decide +kernel
theorem dJ9_floorDiv_f86c9_29 : decode cJ9_floorDiv_f86c9 29 = .ok (.lreturn, 1) := by decide +kernel
theorem dJ9_floorMod_f86c9_0 : decode cJ9_floorMod_f86c9 0 = .ok (.lload_n 0, 1) := by decide +kernel
theorem dJ9_floorMod_f86c9_1 : decode cJ9_floorMod_f86c9 1 = .ok (.lload_n 2, 1) := by decide +kernel
theorem dJ9_floorMod_f86c9_2 : decode cJ9_floorMod_f86c9 2 = .ok (.lrem, 1) := by decide +kernel
theorem dJ9_floorMod_f86c9_3 : decode cJ9_floorMod_f86c9 3 = .ok (.lstore 4, 2) := by decide +kernel
theorem dJ9_floorMod_f86c9_5 : decode cJ9_floorMod_f86c9 5 = .ok (.lload_n 0, 1) := by decide +kernel
theorem dJ9_floorMod_f86c9_6 : decode cJ9_floorMod_f86c9 6 = .ok (.lload_n 2, 1) := by decide +kernel
theorem dJ9_floorMod_f86c9_7 : decode cJ9_floorMod_f86c9 7 = .ok (.lxor, 1) := by decide +kernel
theorem dJ9_floorMod_f86c9_8 : decode cJ9_floorMod_f86c9 8 = .ok (.lconst 0, 1) := by decide +kernel
theorem dJ9_floorMod_f86c9_9 : decode cJ9_floorMod_f86c9 9 = .ok (.lcmp, 1) := by decide +kernel
theorem dJ9_floorMod_f86c9_10 : decode cJ9_floorMod_f86c9 10 = .ok (.ifCond .ge 15, 3) := by decide +kernel
theorem dJ9_floorMod_f86c9_13 : decode cJ9_floorMod_f86c9 13 = .ok (.lload 4, 2) := by decide +kernel
theorem dJ9_floorMod_f86c9_15 : decode cJ9_floorMod_f86c9 15 = .ok (.lconst 0, 1) := by decide +kernel
theorem dJ9_floorMod_f86c9_16 : decode cJ9_floorMod_f86c9 16 = .ok (.lcmp, 1) := by decide +kernel
theorem dJ9_floorMod_f86c9_17 : decode cJ9_floorMod_f86c9 17 = .ok (.ifCond .eq 8, 3) := by decide +kernel
theorem dJ9_floorMod_f86c9_20 : decode cJ9_floorMod_f86c9 20 = .ok (.lload 4, 2) := by decide +kernel
theorem dJ9_floorMod_f86c9_22 : decode cJ9_floorMod_f86c9 22 = .ok (.lload_n 2, 1) := by decide +kernel
theorem dJ9_floorMod_f86c9_23 : decode cJ9_floorMod_f86c9 23 = .ok (.ladd, 1) := by decide +kernel
theorem dJ9_floorMod_f86c9_24 : decode cJ9_floorMod_f86c9 24 = .ok (.lreturn, 1) := by decide +kernel
theorem dJ9_floorMod_f86c9_25 : decode cJ9_floorMod_f86c9 25 = .ok (.lload 4, 2) := by decide +kernel
theorem dJ9_floorMod_f86c9_27 : decode cJ9_floorMod_f86c9 27 = .ok (.lreturn, 1) := by decide +kernel
theorem dJ9_max_f86c9_0 : decode cJ9_max_f86c9 0 = .ok (.lload_n 0, 1) := by decide +kernel
theorem dJ9_max_f86c9_1 : decode cJ9_max_f86c9 1 = .ok (.lload_n 2, 1) := by decide +kernel
theorem dJ9_max_f86c9_2 : decode cJ9_max_f86c9 2 = .ok (.lcmp, 1) := by decide +kernel
theorem dJ9_max_f86c9_3 : decode cJ9_max_f86c9 3 = .ok (.ifCond .lt 7, 3) := by decide +kernel
theorem dJ9_max_f86c9_6 : decode cJ9_max_f86c9 6 = .ok (.lload_n 0, 1) := by decide +kernel
theorem dJ9_max_f86c9_7 : decode cJ9_max_f86c9 7 = .ok (.goto 4, 3) := by decide +kernel
theorem dJ9_max_f86c9_10 : decode cJ9_max_f86c9 10 = .ok (.lload_n 2, 1) := by decide +kernel
theorem dJ9_max_f86c9_11 : decode cJ9_max_f86c9 11 = .ok (.lreturn, 1) := by decide +kernel
theorem dJ9_min_7cf53_0 : decode cJ9_min_7cf53 0 = .ok (.iload_n 0, 1) := by decide +kernel
theorem dJ9_min_7cf53_1 : decode cJ9_min_7cf53 1 = .ok (.iload_n 1, 1) := by decide +kernel
theorem dJ9_min_7cf53_2 : decode cJ9_min_7cf53 2 = .ok (.if_icmp .gt 7, 3) := by decide +kernel
theorem dJ9_min_7cf53_5 : decode cJ9_min_7cf53 5 = .ok (.iload_n 0, 1) := by decide +kernel
theorem dJ9_min_7cf53_6 : decode cJ9_min_7cf53 6 = .ok (.goto 4, 3) := by decide +kernel
theorem dJ9_min_7cf53_9 : decode cJ9_min_7cf53 9 = .ok (.iload_n 1, 1) := by decide +kernel
theorem dJ9_min_7cf53_10 : decode cJ9_min_7cf53 10 = .ok (.ireturn, 1) := by decide +kernel
theorem dJ9_min_f86c9_0 : decode cJ9_min_f86c9 0 = .ok (.lload_n 0, 1) := by decide +kernel
theorem dJ9_min_f86c9_1 : decode cJ9_min_f86c9 1 = .ok (.lload_n 2, 1) := by decide +kernel
theorem dJ9_min_f86c9_2 : decode cJ9_min_f86c9 2 = .ok (.lcmp, 1) := by decide +kernel
theorem dJ9_min_f86c9_3 : decode cJ9_min_f86c9 3 = .ok (.ifCond .gt 7, 3) := by decide +kernel
theorem dJ9_min_f86c9_6 : decode cJ9_min_f86c9 6 = .ok (.lload_n 0, 1) := by decide +kernel
theorem dJ9_min_f86c9_7 : decode cJ9_min_f86c9 7 = .ok (.goto 4, 3) := by decide +kernel
theorem dJ9_min_f86c9_10 : decode cJ9_min_f86c9 10 = .ok (.lload_n 2, 1) := by decide +kernel
theorem dJ9_min_f86c9_11 : decode cJ9_min_f86c9 11 = .ok (.lreturn, 1) := by decide +kernel
abbrev wmJ9_floorDiv_f86c9 : List Cond := .code yJ9_floorDiv_f86c9 cJ9_floorDiv_f86c9 6 (some .long) :: WC
theorem hd_J9_floorDiv_f86c9 : yJ9_floorDiv_f86c9.cls ≠ "java/lang/invoke/MethodHandle" ∧ yJ9_floorDiv_f86c9.cls ≠ "java/lang/invoke/VarHandle" ∧ (parseMethodDescriptor yJ9_floorDiv_f86c9.desc).map (fun d => d.parameters.length) = some 2 := by decide +kernel
def P_J9_floorDiv_f86c9 (p0 : Int64) (p1 : Int64) (Q : Int64 → Prop) : Prop := ¬ p1 = 0 ∧ ((0 ≤ (lg_cmp (p0 ^^^ p1) 0)) → (Q (p0 / p1))) ∧ ((¬ 0 ≤ (lg_cmp (p0 ^^^ p1) 0)) → ((((lg_cmp ((p0 / p1) * p1) p0) = 0) → (Q (p0 / p1))) ∧ ((¬ (lg_cmp ((p0 / p1) * p1) p0) = 0) → (Q ((p0 / p1) - 1)))))
set_option maxHeartbeats 4000000 in
set_option maxRecDepth 100000 in
theorem p_J9_floorDiv_f86c9 (l : Launch) (dC : Nat → ClassId) (dI : Nat → Nat → Nat) (p0 : Int64) (p1 : Int64) (Q : Int64 → Prop) (h : P_J9_floorDiv_f86c9 p0 p1 Q) (sz : Nat) : Met l yJ9_floorDiv_f86c9 wmJ9_floorDiv_f86c9 ({ frames := 4, cells := 0, slots := 0, locals := 60 }) (va_Pc [.long p0, .long p1] (fun U : State => U.heap.size = sz)) (va_Ql (S := Unit) (fun r _ => Q r) (fun _ _ => True) (va_A [] sz)) 0 0 (va_A [] sz) := by
  refine ofWF (cc := cJ9_floorDiv_f86c9) (maxL := 6) (ret := (some .long)) (by decide +kernel) rfl ?_
  intro p e s m args below meth c s₁ B hml hv
  obtain ⟨rfl, hsz⟩ := hv
  have hx := B.exec
  have hb := B.bytes
  have hr := B.returns
  have hts : ∀ w ∈ WC, w.before _ s = true := fun w h => atoms_spec (ws := wmJ9_floorDiv_f86c9) B.pre w (List.mem_cons_of_mem _ h)
  have hown : s.vm.findClass RJ9 = some m.cls := findClass_of_methodNamed B.named
  have hlocks := B.notSynchronized
  subst hsz
  have hP : va_P (dC, dI) vwCl [] s.heap := nd_P0
  have hD0 : va_D (fun _ => True) ([] : va_W) := nd_0
  have hD := hD0.self (sz := s.heap.size)
  generalize hAe : va_A [] s.heap.size = A at hD ⊢
  have hA : ∀ q : Nat, s.heap.size ≤ q → A q := fun q h => by rw [← hAe]; exact Or.inr h
  generalize hH : s.heap = H at hP ⊢
  have hS : va_S A s.heap H [] := by rw [← hH]; exact va_S.rf
  have hl := lv_entry [.long p0, .long p1] (n := 6) (Nat.le_of_ble_eq_true rfl)
  rw [lg_entry_eq]
  generalize (lg_sl [.long p0, .long p1] ++ List.replicate (6 - (lg_sl [.long p0, .long p1]).length) Slot.unset).toArray = ls at hl ⊢
  have hl : lv_has ls 6 [(0, .long p0), (2, .long p1)] := hl
  unfold P_J9_floorDiv_f86c9 at h
  refine lv_lload_n hx hb dJ9_floorDiv_f86c9_0 rfl (lv_at hl 0 rfl) ?_
  refine lv_lload_n hx hb dJ9_floorDiv_f86c9_1 rfl (lv_at hl 1 rfl) ?_
  obtain ⟨hz1, h⟩ := h
  refine lv_ldiv hx hb dJ9_floorDiv_f86c9_2 hz1 ?_
  refine lv_lstore (lv' := [(4, .long (p0 / p1)), (0, .long p0), (2, .long p1)]) hx hb dJ9_floorDiv_f86c9_3 hl (by decide) rfl (fun ls hl => ?_)
  refine lv_lload_n hx hb dJ9_floorDiv_f86c9_5 rfl (lv_at hl 1 rfl) ?_
  refine lv_lload_n hx hb dJ9_floorDiv_f86c9_6 rfl (lv_at hl 2 rfl) ?_
  refine lv_lxor hx hb dJ9_floorDiv_f86c9_7 ?_
  refine lv_lconst (v := 0) hx hb dJ9_floorDiv_f86c9_8 (by decide) ?_
  refine W.lcmp hx hb dJ9_floorDiv_f86c9_9 ?_
  refine lv_if_ge (tgt := 27) hx hb dJ9_floorDiv_f86c9_10 (by decide) (fun c_10 => ?_) (fun c_10 => ?_)
  · have h := h.1 c_10
    refine lv_lload hx hb dJ9_floorDiv_f86c9_27 (lv_at hl 0 rfl) ?_
    exact W.lret (v := (p0 / p1)) hx hb hr (fun t ht hW => ⟨⟨_, (), rfl, h, trivial⟩, hS.F ht⟩) hS.2.2 dJ9_floorDiv_f86c9_29
  · have h := h.2 c_10
    refine lv_lload hx hb dJ9_floorDiv_f86c9_13 (lv_at hl 0 rfl) ?_
    refine lv_lload_n hx hb dJ9_floorDiv_f86c9_15 rfl (lv_at hl 2 rfl) ?_
    refine lv_lmul hx hb dJ9_floorDiv_f86c9_16 ?_
    refine lv_lload_n hx hb dJ9_floorDiv_f86c9_17 rfl (lv_at hl 1 rfl) ?_
    refine W.lcmp hx hb dJ9_floorDiv_f86c9_18 ?_
    refine lv_if_eq (tgt := 27) hx hb dJ9_floorDiv_f86c9_19 (by decide) (fun c_19 => ?_) (fun c_19 => ?_)
    · have h := h.1 c_19
      refine lv_lload hx hb dJ9_floorDiv_f86c9_27 (lv_at hl 0 rfl) ?_
      exact W.lret (v := (p0 / p1)) hx hb hr (fun t ht hW => ⟨⟨_, (), rfl, h, trivial⟩, hS.F ht⟩) hS.2.2 dJ9_floorDiv_f86c9_29
    · have h := h.2 c_19
      refine lv_lload hx hb dJ9_floorDiv_f86c9_22 (lv_at hl 0 rfl) ?_
      refine lv_lconst (v := 1) hx hb dJ9_floorDiv_f86c9_24 (by decide) ?_
      refine lv_lsub hx hb dJ9_floorDiv_f86c9_25 ?_
      exact W.lret (v := ((p0 / p1) - 1)) hx hb hr (fun t ht hW => ⟨⟨_, (), rfl, h, trivial⟩, hS.F ht⟩) hS.2.2 dJ9_floorDiv_f86c9_26

abbrev wmJ9_floorMod_f86c9 : List Cond := .code yJ9_floorMod_f86c9 cJ9_floorMod_f86c9 6 (some .long) :: WC
theorem hd_J9_floorMod_f86c9 : yJ9_floorMod_f86c9.cls ≠ "java/lang/invoke/MethodHandle" ∧ yJ9_floorMod_f86c9.cls ≠ "java/lang/invoke/VarHandle" ∧ (parseMethodDescriptor yJ9_floorMod_f86c9.desc).map (fun d => d.parameters.length) = some 2 := by decide +kernel
def P_J9_floorMod_f86c9 (p0 : Int64) (p1 : Int64) (Q : Int64 → Prop) : Prop := ¬ p1 = 0 ∧ ((0 ≤ (lg_cmp (p0 ^^^ p1) 0)) → (Q (p0 - p0 / p1 * p1))) ∧ ((¬ 0 ≤ (lg_cmp (p0 ^^^ p1) 0)) → ((((lg_cmp (p0 - p0 / p1 * p1) 0) = 0) → (Q (p0 - p0 / p1 * p1))) ∧ ((¬ (lg_cmp (p0 - p0 / p1 * p1) 0) = 0) → (Q ((p0 - p0 / p1 * p1) + p1)))))
set_option maxHeartbeats 4000000 in
set_option maxRecDepth 100000 in
theorem p_J9_floorMod_f86c9 (l : Launch) (dC : Nat → ClassId) (dI : Nat → Nat → Nat) (p0 : Int64) (p1 : Int64) (Q : Int64 → Prop) (h : P_J9_floorMod_f86c9 p0 p1 Q) (sz : Nat) : Met l yJ9_floorMod_f86c9 wmJ9_floorMod_f86c9 ({ frames := 4, cells := 0, slots := 0, locals := 60 }) (va_Pc [.long p0, .long p1] (fun U : State => U.heap.size = sz)) (va_Ql (S := Unit) (fun r _ => Q r) (fun _ _ => True) (va_A [] sz)) 0 0 (va_A [] sz) := by
  refine ofWF (cc := cJ9_floorMod_f86c9) (maxL := 6) (ret := (some .long)) (by decide +kernel) rfl ?_
  intro p e s m args below meth c s₁ B hml hv
  obtain ⟨rfl, hsz⟩ := hv
  have hx := B.exec
  have hb := B.bytes
  have hr := B.returns
  have hts : ∀ w ∈ WC, w.before _ s = true := fun w h => atoms_spec (ws := wmJ9_floorMod_f86c9) B.pre w (List.mem_cons_of_mem _ h)
  have hown : s.vm.findClass RJ9 = some m.cls := findClass_of_methodNamed B.named
  have hlocks := B.notSynchronized
  subst hsz
  have hP : va_P (dC, dI) vwCl [] s.heap := nd_P0
  have hD0 : va_D (fun _ => True) ([] : va_W) := nd_0
  have hD := hD0.self (sz := s.heap.size)
  generalize hAe : va_A [] s.heap.size = A at hD ⊢
  have hA : ∀ q : Nat, s.heap.size ≤ q → A q := fun q h => by rw [← hAe]; exact Or.inr h
  generalize hH : s.heap = H at hP ⊢
  have hS : va_S A s.heap H [] := by rw [← hH]; exact va_S.rf
  have hl := lv_entry [.long p0, .long p1] (n := 6) (Nat.le_of_ble_eq_true rfl)
  rw [lg_entry_eq]
  generalize (lg_sl [.long p0, .long p1] ++ List.replicate (6 - (lg_sl [.long p0, .long p1]).length) Slot.unset).toArray = ls at hl ⊢
  have hl : lv_has ls 6 [(0, .long p0), (2, .long p1)] := hl
  unfold P_J9_floorMod_f86c9 at h
  refine lv_lload_n hx hb dJ9_floorMod_f86c9_0 rfl (lv_at hl 0 rfl) ?_
  refine lv_lload_n hx hb dJ9_floorMod_f86c9_1 rfl (lv_at hl 1 rfl) ?_
  obtain ⟨hz1, h⟩ := h
  refine lv_lrem hx hb dJ9_floorMod_f86c9_2 hz1 ?_
  refine lv_lstore (lv' := [(4, .long (p0 - p0 / p1 * p1)), (0, .long p0), (2, .long p1)]) hx hb dJ9_floorMod_f86c9_3 hl (by decide) rfl (fun ls hl => ?_)
  refine lv_lload_n hx hb dJ9_floorMod_f86c9_5 rfl (lv_at hl 1 rfl) ?_
  refine lv_lload_n hx hb dJ9_floorMod_f86c9_6 rfl (lv_at hl 2 rfl) ?_
  refine lv_lxor hx hb dJ9_floorMod_f86c9_7 ?_
  refine lv_lconst (v := 0) hx hb dJ9_floorMod_f86c9_8 (by decide) ?_
  refine W.lcmp hx hb dJ9_floorMod_f86c9_9 ?_
  refine lv_if_ge (tgt := 25) hx hb dJ9_floorMod_f86c9_10 (by decide) (fun c_10 => ?_) (fun c_10 => ?_)
  · have h := h.1 c_10
    refine lv_lload hx hb dJ9_floorMod_f86c9_25 (lv_at hl 0 rfl) ?_
    exact W.lret (v := (p0 - p0 / p1 * p1)) hx hb hr (fun t ht hW => ⟨⟨_, (), rfl, h, trivial⟩, hS.F ht⟩) hS.2.2 dJ9_floorMod_f86c9_27
  · have h := h.2 c_10
    refine lv_lload hx hb dJ9_floorMod_f86c9_13 (lv_at hl 0 rfl) ?_
    refine lv_lconst (v := 0) hx hb dJ9_floorMod_f86c9_15 (by decide) ?_
    refine W.lcmp hx hb dJ9_floorMod_f86c9_16 ?_
    refine lv_if_eq (tgt := 25) hx hb dJ9_floorMod_f86c9_17 (by decide) (fun c_17 => ?_) (fun c_17 => ?_)
    · have h := h.1 c_17
      refine lv_lload hx hb dJ9_floorMod_f86c9_25 (lv_at hl 0 rfl) ?_
      exact W.lret (v := (p0 - p0 / p1 * p1)) hx hb hr (fun t ht hW => ⟨⟨_, (), rfl, h, trivial⟩, hS.F ht⟩) hS.2.2 dJ9_floorMod_f86c9_27
    · have h := h.2 c_17
      refine lv_lload hx hb dJ9_floorMod_f86c9_20 (lv_at hl 0 rfl) ?_
      refine lv_lload_n hx hb dJ9_floorMod_f86c9_22 rfl (lv_at hl 2 rfl) ?_
      refine lv_ladd hx hb dJ9_floorMod_f86c9_23 ?_
      exact W.lret (v := ((p0 - p0 / p1 * p1) + p1)) hx hb hr (fun t ht hW => ⟨⟨_, (), rfl, h, trivial⟩, hS.F ht⟩) hS.2.2 dJ9_floorMod_f86c9_24

abbrev wmJ9_min_7cf53 : List Cond := .code yJ9_min_7cf53 cJ9_min_7cf53 2 (some .int) :: WC
theorem hd_J9_min_7cf53 : yJ9_min_7cf53.cls ≠ "java/lang/invoke/MethodHandle" ∧ yJ9_min_7cf53.cls ≠ "java/lang/invoke/VarHandle" ∧ (parseMethodDescriptor yJ9_min_7cf53.desc).map (fun d => d.parameters.length) = some 2 := by decide +kernel
def P_J9_min_7cf53 (p0 : Int32) (p1 : Int32) (Q : Int32 → Prop) : Prop := ((p1 < p0) → (Q p1)) ∧ ((¬ p1 < p0) → (Q p0))
set_option maxHeartbeats 4000000 in
set_option maxRecDepth 100000 in
theorem p_J9_min_7cf53 (l : Launch) (dC : Nat → ClassId) (dI : Nat → Nat → Nat) (p0 : Int32) (p1 : Int32) (Q : Int32 → Prop) (h : P_J9_min_7cf53 p0 p1 Q) (sz : Nat) : Met l yJ9_min_7cf53 wmJ9_min_7cf53 ({ frames := 4, cells := 0, slots := 0, locals := 60 }) (va_Pc [.int p0, .int p1] (fun U : State => U.heap.size = sz)) (va_Qi (S := Unit) (fun r _ => Q r) (fun _ _ => True) (va_A [] sz)) 0 0 (va_A [] sz) := by
  refine ofWF (cc := cJ9_min_7cf53) (maxL := 2) (ret := (some .int)) (by decide +kernel) rfl ?_
  intro p e s m args below meth c s₁ B hml hv
  obtain ⟨rfl, hsz⟩ := hv
  have hx := B.exec
  have hb := B.bytes
  have hr := B.returns
  have hts : ∀ w ∈ WC, w.before _ s = true := fun w h => atoms_spec (ws := wmJ9_min_7cf53) B.pre w (List.mem_cons_of_mem _ h)
  have hown : s.vm.findClass RJ9 = some m.cls := findClass_of_methodNamed B.named
  have hlocks := B.notSynchronized
  subst hsz
  have hP : va_P (dC, dI) vwCl [] s.heap := nd_P0
  have hD0 : va_D (fun _ => True) ([] : va_W) := nd_0
  have hD := hD0.self (sz := s.heap.size)
  generalize hAe : va_A [] s.heap.size = A at hD ⊢
  have hA : ∀ q : Nat, s.heap.size ≤ q → A q := fun q h => by rw [← hAe]; exact Or.inr h
  generalize hH : s.heap = H at hP ⊢
  have hS : va_S A s.heap H [] := by rw [← hH]; exact va_S.rf
  have hl := lv_entry [.int p0, .int p1] (n := 2) (Nat.le_of_ble_eq_true rfl)
  rw [lg_entry_eq]
  generalize (lg_sl [.int p0, .int p1] ++ List.replicate (2 - (lg_sl [.int p0, .int p1]).length) Slot.unset).toArray = ls at hl ⊢
  have hl : lv_has ls 2 [(0, .int p0), (1, .int p1)] := hl
  unfold P_J9_min_7cf53 at h
  refine lv_iload_n hx hb dJ9_min_7cf53_0 rfl (lv_at hl 0 rfl) ?_
  refine lv_iload_n hx hb dJ9_min_7cf53_1 rfl (lv_at hl 1 rfl) ?_
  refine lv_icmp_gt (tgt := 9) hx hb dJ9_min_7cf53_2 (by decide) (fun c_2 => ?_) (fun c_2 => ?_)
  · have h := h.1 c_2
    refine lv_iload_n hx hb dJ9_min_7cf53_9 rfl (lv_at hl 1 rfl) ?_
    exact W.iret (v := p1) hx hb hr (fun t ht hW => ⟨⟨_, (), rfl, h, trivial⟩, hS.F ht⟩) hS.2.2 dJ9_min_7cf53_10
  · have h := h.2 c_2
    refine lv_iload_n hx hb dJ9_min_7cf53_5 rfl (lv_at hl 0 rfl) ?_
    refine lv_goto (tgt := 10) hx hb dJ9_min_7cf53_6 (by decide) ?_
    exact W.iret (v := p0) hx hb hr (fun t ht hW => ⟨⟨_, (), rfl, h, trivial⟩, hS.F ht⟩) hS.2.2 dJ9_min_7cf53_10

abbrev wmJ9_min_f86c9 : List Cond := .code yJ9_min_f86c9 cJ9_min_f86c9 4 (some .long) :: WC
theorem hd_J9_min_f86c9 : yJ9_min_f86c9.cls ≠ "java/lang/invoke/MethodHandle" ∧ yJ9_min_f86c9.cls ≠ "java/lang/invoke/VarHandle" ∧ (parseMethodDescriptor yJ9_min_f86c9.desc).map (fun d => d.parameters.length) = some 2 := by decide +kernel
def P_J9_min_f86c9 (p0 : Int64) (p1 : Int64) (Q : Int64 → Prop) : Prop := ((0 < (lg_cmp p0 p1)) → (Q p1)) ∧ ((¬ 0 < (lg_cmp p0 p1)) → (Q p0))
set_option maxHeartbeats 4000000 in
set_option maxRecDepth 100000 in
theorem p_J9_min_f86c9 (l : Launch) (dC : Nat → ClassId) (dI : Nat → Nat → Nat) (p0 : Int64) (p1 : Int64) (Q : Int64 → Prop) (h : P_J9_min_f86c9 p0 p1 Q) (sz : Nat) : Met l yJ9_min_f86c9 wmJ9_min_f86c9 ({ frames := 4, cells := 0, slots := 0, locals := 60 }) (va_Pc [.long p0, .long p1] (fun U : State => U.heap.size = sz)) (va_Ql (S := Unit) (fun r _ => Q r) (fun _ _ => True) (va_A [] sz)) 0 0 (va_A [] sz) := by
  refine ofWF (cc := cJ9_min_f86c9) (maxL := 4) (ret := (some .long)) (by decide +kernel) rfl ?_
  intro p e s m args below meth c s₁ B hml hv
  obtain ⟨rfl, hsz⟩ := hv
  have hx := B.exec
  have hb := B.bytes
  have hr := B.returns
  have hts : ∀ w ∈ WC, w.before _ s = true := fun w h => atoms_spec (ws := wmJ9_min_f86c9) B.pre w (List.mem_cons_of_mem _ h)
  have hown : s.vm.findClass RJ9 = some m.cls := findClass_of_methodNamed B.named
  have hlocks := B.notSynchronized
  subst hsz
  have hP : va_P (dC, dI) vwCl [] s.heap := nd_P0
  have hD0 : va_D (fun _ => True) ([] : va_W) := nd_0
  have hD := hD0.self (sz := s.heap.size)
  generalize hAe : va_A [] s.heap.size = A at hD ⊢
  have hA : ∀ q : Nat, s.heap.size ≤ q → A q := fun q h => by rw [← hAe]; exact Or.inr h
  generalize hH : s.heap = H at hP ⊢
  have hS : va_S A s.heap H [] := by rw [← hH]; exact va_S.rf
  have hl := lv_entry [.long p0, .long p1] (n := 4) (Nat.le_of_ble_eq_true rfl)
  rw [lg_entry_eq]
  generalize (lg_sl [.long p0, .long p1] ++ List.replicate (4 - (lg_sl [.long p0, .long p1]).length) Slot.unset).toArray = ls at hl ⊢
  have hl : lv_has ls 4 [(0, .long p0), (2, .long p1)] := hl
  unfold P_J9_min_f86c9 at h
  refine lv_lload_n hx hb dJ9_min_f86c9_0 rfl (lv_at hl 0 rfl) ?_
  refine lv_lload_n hx hb dJ9_min_f86c9_1 rfl (lv_at hl 1 rfl) ?_
  refine W.lcmp hx hb dJ9_min_f86c9_2 ?_
  refine lv_if_gt (tgt := 10) hx hb dJ9_min_f86c9_3 (by decide) (fun c_3 => ?_) (fun c_3 => ?_)
  · have h := h.1 c_3
    refine lv_lload_n hx hb dJ9_min_f86c9_10 rfl (lv_at hl 1 rfl) ?_
    exact W.lret (v := p1) hx hb hr (fun t ht hW => ⟨⟨_, (), rfl, h, trivial⟩, hS.F ht⟩) hS.2.2 dJ9_min_f86c9_11
  · have h := h.2 c_3
    refine lv_lload_n hx hb dJ9_min_f86c9_6 rfl (lv_at hl 0 rfl) ?_
    refine lv_goto (tgt := 11) hx hb dJ9_min_f86c9_7 (by decide) ?_
    exact W.lret (v := p0) hx hb hr (fun t ht hW => ⟨⟨_, (), rfl, h, trivial⟩, hS.F ht⟩) hS.2.2 dJ9_min_f86c9_11

abbrev wmJ9_max_f86c9 : List Cond := .code yJ9_max_f86c9 cJ9_max_f86c9 4 (some .long) :: WC
theorem hd_J9_max_f86c9 : yJ9_max_f86c9.cls ≠ "java/lang/invoke/MethodHandle" ∧ yJ9_max_f86c9.cls ≠ "java/lang/invoke/VarHandle" ∧ (parseMethodDescriptor yJ9_max_f86c9.desc).map (fun d => d.parameters.length) = some 2 := by decide +kernel
def P_J9_max_f86c9 (p0 : Int64) (p1 : Int64) (Q : Int64 → Prop) : Prop := (((lg_cmp p0 p1) < 0) → (Q p1)) ∧ ((¬ (lg_cmp p0 p1) < 0) → (Q p0))
set_option maxHeartbeats 4000000 in
set_option maxRecDepth 100000 in
theorem p_J9_max_f86c9 (l : Launch) (dC : Nat → ClassId) (dI : Nat → Nat → Nat) (p0 : Int64) (p1 : Int64) (Q : Int64 → Prop) (h : P_J9_max_f86c9 p0 p1 Q) (sz : Nat) : Met l yJ9_max_f86c9 wmJ9_max_f86c9 ({ frames := 4, cells := 0, slots := 0, locals := 60 }) (va_Pc [.long p0, .long p1] (fun U : State => U.heap.size = sz)) (va_Ql (S := Unit) (fun r _ => Q r) (fun _ _ => True) (va_A [] sz)) 0 0 (va_A [] sz) := by
  refine ofWF (cc := cJ9_max_f86c9) (maxL := 4) (ret := (some .long)) (by decide +kernel) rfl ?_
  intro p e s m args below meth c s₁ B hml hv
  obtain ⟨rfl, hsz⟩ := hv
  have hx := B.exec
  have hb := B.bytes
  have hr := B.returns
  have hts : ∀ w ∈ WC, w.before _ s = true := fun w h => atoms_spec (ws := wmJ9_max_f86c9) B.pre w (List.mem_cons_of_mem _ h)
  have hown : s.vm.findClass RJ9 = some m.cls := findClass_of_methodNamed B.named
  have hlocks := B.notSynchronized
  subst hsz
  have hP : va_P (dC, dI) vwCl [] s.heap := nd_P0
  have hD0 : va_D (fun _ => True) ([] : va_W) := nd_0
  have hD := hD0.self (sz := s.heap.size)
  generalize hAe : va_A [] s.heap.size = A at hD ⊢
  have hA : ∀ q : Nat, s.heap.size ≤ q → A q := fun q h => by rw [← hAe]; exact Or.inr h
  generalize hH : s.heap = H at hP ⊢
  have hS : va_S A s.heap H [] := by rw [← hH]; exact va_S.rf
  have hl := lv_entry [.long p0, .long p1] (n := 4) (Nat.le_of_ble_eq_true rfl)
  rw [lg_entry_eq]
  generalize (lg_sl [.long p0, .long p1] ++ List.replicate (4 - (lg_sl [.long p0, .long p1]).length) Slot.unset).toArray = ls at hl ⊢
  have hl : lv_has ls 4 [(0, .long p0), (2, .long p1)] := hl
  unfold P_J9_max_f86c9 at h
  refine lv_lload_n hx hb dJ9_max_f86c9_0 rfl (lv_at hl 0 rfl) ?_
  refine lv_lload_n hx hb dJ9_max_f86c9_1 rfl (lv_at hl 1 rfl) ?_
  refine W.lcmp hx hb dJ9_max_f86c9_2 ?_
  refine lv_if_lt (tgt := 10) hx hb dJ9_max_f86c9_3 (by decide) (fun c_3 => ?_) (fun c_3 => ?_)
  · have h := h.1 c_3
    refine lv_lload_n hx hb dJ9_max_f86c9_10 rfl (lv_at hl 1 rfl) ?_
    exact W.lret (v := p1) hx hb hr (fun t ht hW => ⟨⟨_, (), rfl, h, trivial⟩, hS.F ht⟩) hS.2.2 dJ9_max_f86c9_11
  · have h := h.2 c_3
    refine lv_lload_n hx hb dJ9_max_f86c9_6 rfl (lv_at hl 0 rfl) ?_
    refine lv_goto (tgt := 11) hx hb dJ9_max_f86c9_7 (by decide) ?_
    exact W.lret (v := p0) hx hb hr (fun t ht hW => ⟨⟨_, (), rfl, h, trivial⟩, hS.F ht⟩) hS.2.2 dJ9_max_f86c9_11

abbrev wmX11_dividesByNone : List Cond := .code yX11_dividesByNone cX11_dividesByNone 3 (some .boolean) :: WC
theorem hd_X11_dividesByNone : yX11_dividesByNone.cls ≠ "java/lang/invoke/MethodHandle" ∧ yX11_dividesByNone.cls ≠ "java/lang/invoke/VarHandle" ∧ (parseMethodDescriptor yX11_dividesByNone.desc).map (fun d => d.parameters.length) = some 2 := by decide +kernel
def P_X11_dividesByNone (p0 : Int32) (p1 : Int64) (Q : Int32 → Prop) : Prop := ((¬ (lg_cmp p1 0) = 0) → (Q 0)) ∧ (((lg_cmp p1 0) = 0) → (((p0 = 3) → (Q 1)) ∧ ((¬ p0 = 3) → (((¬ p0 = 4) → (Q 0)) ∧ ((p0 = 4) → (Q 1))))))
set_option maxHeartbeats 4000000 in
set_option maxRecDepth 100000 in
theorem p_X11_dividesByNone (l : Launch) (dC : Nat → ClassId) (dI : Nat → Nat → Nat) (p0 : Int32) (p1 : Int64) (Q : Int32 → Prop) (h : P_X11_dividesByNone p0 p1 Q) (sz : Nat) : Met l yX11_dividesByNone wmX11_dividesByNone ({ frames := 4, cells := 0, slots := 0, locals := 60 }) (va_Pc [.int p0, .long p1] (fun U : State => U.heap.size = sz)) (va_Qi (S := Unit) (fun r _ => Q r) (fun _ _ => True) (va_A [] sz)) 0 0 (va_A [] sz) := by
  refine Met.ofW (cc := cX11_dividesByNone) (maxL := 3) (ret := (some .boolean)) (by decide) rfl ?_
  intro p e s m args below meth c s₁ B hml hv
  obtain ⟨rfl, hsz⟩ := hv
  have hx := B.exec
  have hb := B.bytes
  have hr := B.returns
  have hts : ∀ w ∈ WC, w.before _ s = true := fun w h => atoms_spec (ws := wmX11_dividesByNone) B.pre w (List.mem_cons_of_mem _ h)
  have hown : s.vm.findClass RX11 = some m.cls := findClass_of_methodNamed B.named
  have hlocks := B.notSynchronized
  subst hsz
  have hP : va_P (dC, dI) vwCl [] s.heap := nd_P0
  have hD0 : va_D (fun _ => True) ([] : va_W) := nd_0
  have hD := hD0.self (sz := s.heap.size)
  generalize hAe : va_A [] s.heap.size = A at hD ⊢
  have hA : ∀ q : Nat, s.heap.size ≤ q → A q := fun q h => by rw [← hAe]; exact Or.inr h
  generalize hH : s.heap = H at hP ⊢
  have hS : va_S A s.heap H [] := by rw [← hH]; exact va_S.rf
  have hl := lv_entry [.int p0, .long p1] (n := 3) (Nat.le_of_ble_eq_true rfl)
  rw [lg_entry_eq]
  generalize (lg_sl [.int p0, .long p1] ++ List.replicate (3 - (lg_sl [.int p0, .long p1]).length) Slot.unset).toArray = ls at hl ⊢
  have hl : lv_has ls 3 [(0, .int p0), (1, .long p1)] := hl
  unfold P_X11_dividesByNone at h
  refine lv_lload_n hx hb dX11_dividesByNone_0 rfl (lv_at hl 1 rfl) ?_
  refine lv_lconst (v := 0) hx hb dX11_dividesByNone_1 (by decide) ?_
  refine W.lcmp hx hb dX11_dividesByNone_2 ?_
  refine lv_if_ne (tgt := 20) hx hb dX11_dividesByNone_3 (by decide) (fun c_3 => ?_) (fun c_3 => ?_)
  · have h := h.1 c_3
    refine lv_iconst (v := 0) hx hb dX11_dividesByNone_20 (by decide) ?_
    exact W.zret (v := 0) hx hb hr (by decide) (fun t ht hW => ⟨⟨_, (), rfl, h, trivial⟩, hS.F ht⟩) hS.2.2 dX11_dividesByNone_21
  · have h := h.2 c_3
    refine lv_iload_n hx hb dX11_dividesByNone_6 rfl (lv_at hl 0 rfl) ?_
    refine lv_iconst (v := 3) hx hb dX11_dividesByNone_7 (by decide) ?_
    refine lv_icmp_eq (tgt := 16) hx hb dX11_dividesByNone_8 (by decide) (fun c_8 => ?_) (fun c_8 => ?_)
    · have h := h.1 c_8
      refine lv_iconst (v := 1) hx hb dX11_dividesByNone_16 (by decide) ?_
      refine lv_goto (tgt := 21) hx hb dX11_dividesByNone_17 (by decide) ?_
      exact W.zret (v := 1) hx hb hr (by decide) (fun t ht hW => ⟨⟨_, (), rfl, h, trivial⟩, hS.F ht⟩) hS.2.2 dX11_dividesByNone_21
    · have h := h.2 c_8
      refine lv_iload_n hx hb dX11_dividesByNone_11 rfl (lv_at hl 0 rfl) ?_
      refine lv_iconst (v := 4) hx hb dX11_dividesByNone_12 (by decide) ?_
      refine lv_icmp_ne (tgt := 20) hx hb dX11_dividesByNone_13 (by decide) (fun c_13 => ?_) (fun c_13 => ?_)
      · have h := h.1 c_13
        refine lv_iconst (v := 0) hx hb dX11_dividesByNone_20 (by decide) ?_
        exact W.zret (v := 0) hx hb hr (by decide) (fun t ht hW => ⟨⟨_, (), rfl, h, trivial⟩, hS.F ht⟩) hS.2.2 dX11_dividesByNone_21
      · have h := h.2 c_13
        refine lv_iconst (v := 1) hx hb dX11_dividesByNone_16 (by decide) ?_
        refine lv_goto (tgt := 21) hx hb dX11_dividesByNone_17 (by decide) ?_
        exact W.zret (v := 1) hx hb hr (by decide) (fun t ht hW => ⟨⟨_, (), rfl, h, trivial⟩, hS.F ht⟩) hS.2.2 dX11_dividesByNone_21

abbrev wmX11_reckon : List Cond := .code yX11_reckon cX11_reckon 5 (some .long) :: WC
theorem hd_X11_reckon : yX11_reckon.cls ≠ "java/lang/invoke/MethodHandle" ∧ yX11_reckon.cls ≠ "java/lang/invoke/VarHandle" ∧ (parseMethodDescriptor yX11_reckon.desc).map (fun d => d.parameters.length) = some 3 := by decide +kernel
def P_X11_reckon (p0 : Int32) (p1 : Int64) (p2 : Int64) (Q : Int64 → Prop) : Prop := ((p0 = 0) → (Q (p1 + p2))) ∧ ((¬ p0 = 0) → ((p0 = 1) → (Q (p1 - p2))) ∧ ((¬ p0 = 1) → ((p0 = 2) → (Q (p1 * p2))) ∧ ((¬ p0 = 2) → ((p0 = 3) → (((¬ (lg_cmp p2 0) = 0) → (P_J9_floorDiv_f86c9 p1 p2 (fun r1 => Q r1))) ∧ (((lg_cmp p2 0) = 0) → (Q 0)))) ∧ ((¬ p0 = 3) → ((p0 = 4) → (((¬ (lg_cmp p2 0) = 0) → (P_J9_floorMod_f86c9 p1 p2 (fun r2 => Q r2))) ∧ (((lg_cmp p2 0) = 0) → (Q 0)))) ∧ ((¬ p0 = 4) → ((p0 = 5) → (P_J9_min_f86c9 p1 p2 (fun r3 => Q r3))) ∧ ((¬ p0 = 5) → ((p0 = 6) → (P_J9_max_f86c9 p1 p2 (fun r4 => Q r4))) ∧ ((¬ p0 = 6) → ((p0 = 7) → (Q p1)) ∧ ((¬ p0 = 7) → (Q p2)))))))))
set_option maxHeartbeats 4000000 in
set_option maxRecDepth 100000 in
theorem p_X11_reckon (l : Launch) (dC : Nat → ClassId) (dI : Nat → Nat → Nat) (p0 : Int32) (p1 : Int64) (p2 : Int64) (Q : Int64 → Prop) (h : P_X11_reckon p0 p1 p2 Q) (sz : Nat) : Met l yX11_reckon wmX11_reckon ({ frames := 8, cells := 0, slots := 0, locals := 120 }) (va_Pc [.int p0, .long p1, .long p2] (fun U : State => U.heap.size = sz)) (va_Ql (S := Unit) (fun r _ => Q r) (fun _ _ => True) (va_A [] sz)) 0 0 (va_A [] sz) := by
  refine Met.ofW (cc := cX11_reckon) (maxL := 5) (ret := (some .long)) (by decide) rfl ?_
  intro p e s m args below meth c s₁ B hml hv
  obtain ⟨rfl, hsz⟩ := hv
  have hx := B.exec
  have hb := B.bytes
  have hr := B.returns
  have hts : ∀ w ∈ WC, w.before _ s = true := fun w h => atoms_spec (ws := wmX11_reckon) B.pre w (List.mem_cons_of_mem _ h)
  have hown : s.vm.findClass RX11 = some m.cls := findClass_of_methodNamed B.named
  have hlocks := B.notSynchronized
  subst hsz
  have hP : va_P (dC, dI) vwCl [] s.heap := nd_P0
  have hD0 : va_D (fun _ => True) ([] : va_W) := nd_0
  have hD := hD0.self (sz := s.heap.size)
  generalize hAe : va_A [] s.heap.size = A at hD ⊢
  have hA : ∀ q : Nat, s.heap.size ≤ q → A q := fun q h => by rw [← hAe]; exact Or.inr h
  generalize hH : s.heap = H at hP ⊢
  have hS : va_S A s.heap H [] := by rw [← hH]; exact va_S.rf
  have hl := lv_entry [.int p0, .long p1, .long p2] (n := 5) (Nat.le_of_ble_eq_true rfl)
  rw [lg_entry_eq]
  generalize (lg_sl [.int p0, .long p1, .long p2] ++ List.replicate (5 - (lg_sl [.int p0, .long p1, .long p2]).length) Slot.unset).toArray = ls at hl ⊢
  have hl : lv_has ls 5 [(0, .int p0), (1, .long p1), (3, .long p2)] := hl
  unfold P_X11_reckon at h
  refine lv_iload_n hx hb dX11_reckon_0 rfl (lv_at hl 0 rfl) ?_
  by_cases hs_1_0 : p0 = 0
  · have h := h.1 hs_1_0
    refine lv_tableIn (tgt := 48) hx hb dX11_reckon_1 (by rw [hs_1_0]; decide) (by rw [hs_1_0]; decide) (off := 47) (by rw [hs_1_0]; decide) (by decide) ?_
    refine lv_lload_n hx hb dX11_reckon_48 rfl (lv_at hl 1 rfl) ?_
    refine lv_lload_n hx hb dX11_reckon_49 rfl (lv_at hl 2 rfl) ?_
    refine lv_ladd hx hb dX11_reckon_50 ?_
    exact W.lret (v := (p1 + p2)) hx hb hr (fun t ht hW => ⟨⟨_, (), rfl, h, trivial⟩, hS.F ht⟩) hS.2.2 dX11_reckon_51
  replace h := h.2 hs_1_0
  by_cases hs_1_1 : p0 = 1
  · have h := h.1 hs_1_1
    refine lv_tableIn (tgt := 52) hx hb dX11_reckon_1 (by rw [hs_1_1]; decide) (by rw [hs_1_1]; decide) (off := 51) (by rw [hs_1_1]; decide) (by decide) ?_
    refine lv_lload_n hx hb dX11_reckon_52 rfl (lv_at hl 1 rfl) ?_
    refine lv_lload_n hx hb dX11_reckon_53 rfl (lv_at hl 2 rfl) ?_
    refine lv_lsub hx hb dX11_reckon_54 ?_
    exact W.lret (v := (p1 - p2)) hx hb hr (fun t ht hW => ⟨⟨_, (), rfl, h, trivial⟩, hS.F ht⟩) hS.2.2 dX11_reckon_55
  replace h := h.2 hs_1_1
  by_cases hs_1_2 : p0 = 2
  · have h := h.1 hs_1_2
    refine lv_tableIn (tgt := 56) hx hb dX11_reckon_1 (by rw [hs_1_2]; decide) (by rw [hs_1_2]; decide) (off := 55) (by rw [hs_1_2]; decide) (by decide) ?_
    refine lv_lload_n hx hb dX11_reckon_56 rfl (lv_at hl 1 rfl) ?_
    refine lv_lload_n hx hb dX11_reckon_57 rfl (lv_at hl 2 rfl) ?_
    refine lv_lmul hx hb dX11_reckon_58 ?_
    exact W.lret (v := (p1 * p2)) hx hb hr (fun t ht hW => ⟨⟨_, (), rfl, h, trivial⟩, hS.F ht⟩) hS.2.2 dX11_reckon_59
  replace h := h.2 hs_1_2
  by_cases hs_1_3 : p0 = 3
  · have h := h.1 hs_1_3
    refine lv_tableIn (tgt := 60) hx hb dX11_reckon_1 (by rw [hs_1_3]; decide) (by rw [hs_1_3]; decide) (off := 59) (by rw [hs_1_3]; decide) (by decide) ?_
    refine lv_lload_n hx hb dX11_reckon_60 rfl (lv_at hl 2 rfl) ?_
    refine lv_lconst (v := 0) hx hb dX11_reckon_61 (by decide) ?_
    refine W.lcmp hx hb dX11_reckon_62 ?_
    refine lv_if_ne (tgt := 70) hx hb dX11_reckon_63 (by decide) (fun c_63 => ?_) (fun c_63 => ?_)
    · have h := h.1 c_63
      refine lv_lload_n hx hb dX11_reckon_70 rfl (lv_at hl 1 rfl) ?_
      refine lv_lload_n hx hb dX11_reckon_71 rfl (lv_at hl 2 rfl) ?_
      refine s_calll (rm := ({ frames := 4, cells := 0, slots := 0, locals := 60 })) (As := [.long p1, .long p2]) (rest := []) (fun sz => p_J9_floorDiv_f86c9 l dC dI p1 p2 _ h sz) ⟨hx, hb, hml, hown, hts⟩ (va_cwS 2 hts (g_S gdC mwC_1 mwC_2 mwC_3 mwC_0) rfl rfl rfl hd_J9_floorDiv_f86c9 ⟨Nat.le_of_ble_eq_true rfl, Nat.le_of_ble_eq_true rfl⟩) rfl hl.1 rfl hP hD hS hA (Nat.le_of_ble_eq_true rfl) ⟨Nat.le_of_ble_eq_true rfl, Nat.le_of_ble_eq_true rfl⟩ dX11_reckon_72 (fun r1 H locs h hP hS => ?_)
      exact W.lret (v := r1) hx hb hr (fun t ht hW => ⟨⟨_, (), rfl, h, trivial⟩, hS.F ht⟩) hS.2.2 dX11_reckon_75
    · have h := h.2 c_63
      refine lv_lconst (v := 0) hx hb dX11_reckon_66 (by decide) ?_
      refine lv_goto (tgt := 75) hx hb dX11_reckon_67 (by decide) ?_
      exact W.lret (v := 0) hx hb hr (fun t ht hW => ⟨⟨_, (), rfl, h, trivial⟩, hS.F ht⟩) hS.2.2 dX11_reckon_75
  replace h := h.2 hs_1_3
  by_cases hs_1_4 : p0 = 4
  · have h := h.1 hs_1_4
    refine lv_tableIn (tgt := 76) hx hb dX11_reckon_1 (by rw [hs_1_4]; decide) (by rw [hs_1_4]; decide) (off := 75) (by rw [hs_1_4]; decide) (by decide) ?_
    refine lv_lload_n hx hb dX11_reckon_76 rfl (lv_at hl 2 rfl) ?_
    refine lv_lconst (v := 0) hx hb dX11_reckon_77 (by decide) ?_
    refine W.lcmp hx hb dX11_reckon_78 ?_
    refine lv_if_ne (tgt := 86) hx hb dX11_reckon_79 (by decide) (fun c_79 => ?_) (fun c_79 => ?_)
    · have h := h.1 c_79
      refine lv_lload_n hx hb dX11_reckon_86 rfl (lv_at hl 1 rfl) ?_
      refine lv_lload_n hx hb dX11_reckon_87 rfl (lv_at hl 2 rfl) ?_
      refine s_calll (rm := ({ frames := 4, cells := 0, slots := 0, locals := 60 })) (As := [.long p1, .long p2]) (rest := []) (fun sz => p_J9_floorMod_f86c9 l dC dI p1 p2 _ h sz) ⟨hx, hb, hml, hown, hts⟩ (va_cwS 2 hts (g_S gdC mwC_5 mwC_6 mwC_3 mwC_4) rfl rfl rfl hd_J9_floorMod_f86c9 ⟨Nat.le_of_ble_eq_true rfl, Nat.le_of_ble_eq_true rfl⟩) rfl hl.1 rfl hP hD hS hA (Nat.le_of_ble_eq_true rfl) ⟨Nat.le_of_ble_eq_true rfl, Nat.le_of_ble_eq_true rfl⟩ dX11_reckon_88 (fun r2 H locs h hP hS => ?_)
      exact W.lret (v := r2) hx hb hr (fun t ht hW => ⟨⟨_, (), rfl, h, trivial⟩, hS.F ht⟩) hS.2.2 dX11_reckon_91
    · have h := h.2 c_79
      refine lv_lconst (v := 0) hx hb dX11_reckon_82 (by decide) ?_
      refine lv_goto (tgt := 91) hx hb dX11_reckon_83 (by decide) ?_
      exact W.lret (v := 0) hx hb hr (fun t ht hW => ⟨⟨_, (), rfl, h, trivial⟩, hS.F ht⟩) hS.2.2 dX11_reckon_91
  replace h := h.2 hs_1_4
  by_cases hs_1_5 : p0 = 5
  · have h := h.1 hs_1_5
    refine lv_tableIn (tgt := 92) hx hb dX11_reckon_1 (by rw [hs_1_5]; decide) (by rw [hs_1_5]; decide) (off := 91) (by rw [hs_1_5]; decide) (by decide) ?_
    refine lv_lload_n hx hb dX11_reckon_92 rfl (lv_at hl 1 rfl) ?_
    refine lv_lload_n hx hb dX11_reckon_93 rfl (lv_at hl 2 rfl) ?_
    refine s_calll (rm := ({ frames := 4, cells := 0, slots := 0, locals := 60 })) (As := [.long p1, .long p2]) (rest := []) (fun sz => p_J9_min_f86c9 l dC dI p1 p2 _ h sz) ⟨hx, hb, hml, hown, hts⟩ (va_cwS 2 hts (g_S gdC mwC_8 mwC_9 mwC_3 mwC_7) rfl rfl rfl hd_J9_min_f86c9 ⟨Nat.le_of_ble_eq_true rfl, Nat.le_of_ble_eq_true rfl⟩) rfl hl.1 rfl hP hD hS hA (Nat.le_of_ble_eq_true rfl) ⟨Nat.le_of_ble_eq_true rfl, Nat.le_of_ble_eq_true rfl⟩ dX11_reckon_94 (fun r3 H locs h hP hS => ?_)
    exact W.lret (v := r3) hx hb hr (fun t ht hW => ⟨⟨_, (), rfl, h, trivial⟩, hS.F ht⟩) hS.2.2 dX11_reckon_97
  replace h := h.2 hs_1_5
  by_cases hs_1_6 : p0 = 6
  · have h := h.1 hs_1_6
    refine lv_tableIn (tgt := 98) hx hb dX11_reckon_1 (by rw [hs_1_6]; decide) (by rw [hs_1_6]; decide) (off := 97) (by rw [hs_1_6]; decide) (by decide) ?_
    refine lv_lload_n hx hb dX11_reckon_98 rfl (lv_at hl 1 rfl) ?_
    refine lv_lload_n hx hb dX11_reckon_99 rfl (lv_at hl 2 rfl) ?_
    refine s_calll (rm := ({ frames := 4, cells := 0, slots := 0, locals := 60 })) (As := [.long p1, .long p2]) (rest := []) (fun sz => p_J9_max_f86c9 l dC dI p1 p2 _ h sz) ⟨hx, hb, hml, hown, hts⟩ (va_cwS 2 hts (g_S gdC mwC_11 mwC_12 mwC_3 mwC_10) rfl rfl rfl hd_J9_max_f86c9 ⟨Nat.le_of_ble_eq_true rfl, Nat.le_of_ble_eq_true rfl⟩) rfl hl.1 rfl hP hD hS hA (Nat.le_of_ble_eq_true rfl) ⟨Nat.le_of_ble_eq_true rfl, Nat.le_of_ble_eq_true rfl⟩ dX11_reckon_100 (fun r4 H locs h hP hS => ?_)
    exact W.lret (v := r4) hx hb hr (fun t ht hW => ⟨⟨_, (), rfl, h, trivial⟩, hS.F ht⟩) hS.2.2 dX11_reckon_103
  replace h := h.2 hs_1_6
  by_cases hs_1_7 : p0 = 7
  · have h := h.1 hs_1_7
    refine lv_tableIn (tgt := 104) hx hb dX11_reckon_1 (by rw [hs_1_7]; decide) (by rw [hs_1_7]; decide) (off := 103) (by rw [hs_1_7]; decide) (by decide) ?_
    refine lv_lload_n hx hb dX11_reckon_104 rfl (lv_at hl 1 rfl) ?_
    exact W.lret (v := p1) hx hb hr (fun t ht hW => ⟨⟨_, (), rfl, h, trivial⟩, hS.F ht⟩) hS.2.2 dX11_reckon_105
  replace h := h.2 hs_1_7
  refine lv_tableOut (tgt := 106) hx hb dX11_reckon_1 (by have n0 := lv_neT hs_1_0 (a := 0) (by decide); have n1 := lv_neT hs_1_1 (a := 1) (by decide); have n2 := lv_neT hs_1_2 (a := 2) (by decide); have n3 := lv_neT hs_1_3 (a := 3) (by decide); have n4 := lv_neT hs_1_4 (a := 4) (by decide); have n5 := lv_neT hs_1_5 (a := 5) (by decide); have n6 := lv_neT hs_1_6 (a := 6) (by decide); have n7 := lv_neT hs_1_7 (a := 7) (by decide); omega) (by decide) ?_
  refine lv_lload_n hx hb dX11_reckon_106 rfl (lv_at hl 2 rfl) ?_
  exact W.lret (v := p2) hx hb hr (fun t ht hW => ⟨⟨_, (), rfl, h, trivial⟩, hS.F ht⟩) hS.2.2 dX11_reckon_107

abbrev wmX11_meets : List Cond := .code yX11_meets cX11_meets 5 (some .boolean) :: WC
theorem hd_X11_meets : yX11_meets.cls ≠ "java/lang/invoke/MethodHandle" ∧ yX11_meets.cls ≠ "java/lang/invoke/VarHandle" ∧ (parseMethodDescriptor yX11_meets.desc).map (fun d => d.parameters.length) = some 3 := by decide +kernel
def P_X11_meets (p0 : Int32) (p1 : Int64) (p2 : Int64) (Q : Int32 → Prop) : Prop := ((p0 = 0) → (((0 ≤ (lg_cmp p1 p2)) → (Q 0)) ∧ ((¬ 0 ≤ (lg_cmp p1 p2)) → (Q 1)))) ∧ ((¬ p0 = 0) → ((p0 = 1) → (((¬ (lg_cmp p1 p2) = 0) → (Q 0)) ∧ (((lg_cmp p1 p2) = 0) → (Q 1)))) ∧ ((¬ p0 = 1) → ((p0 = 2) → ((((lg_cmp p1 p2) ≤ 0) → (Q 0)) ∧ ((¬ (lg_cmp p1 p2) ≤ 0) → (Q 1)))) ∧ ((¬ p0 = 2) → (((¬ (lg_cmp p2 0) = 0) → (¬ p2 = 0 ∧ ((¬ (lg_cmp (p1 - p1 / p2 * p2) 0) = 0) → (Q 0)) ∧ (((lg_cmp (p1 - p1 / p2 * p2) 0) = 0) → (Q 1)))) ∧ (((lg_cmp p2 0) = 0) → (((¬ (lg_cmp p1 0) = 0) → (Q 0)) ∧ (((lg_cmp p1 0) = 0) → (Q 1))))))))
set_option maxHeartbeats 4000000 in
set_option maxRecDepth 100000 in
theorem p_X11_meets (l : Launch) (dC : Nat → ClassId) (dI : Nat → Nat → Nat) (p0 : Int32) (p1 : Int64) (p2 : Int64) (Q : Int32 → Prop) (h : P_X11_meets p0 p1 p2 Q) (sz : Nat) : Met l yX11_meets wmX11_meets ({ frames := 4, cells := 0, slots := 0, locals := 60 }) (va_Pc [.int p0, .long p1, .long p2] (fun U : State => U.heap.size = sz)) (va_Qi (S := Unit) (fun r _ => Q r) (fun _ _ => True) (va_A [] sz)) 0 0 (va_A [] sz) := by
  refine Met.ofW (cc := cX11_meets) (maxL := 5) (ret := (some .boolean)) (by decide) rfl ?_
  intro p e s m args below meth c s₁ B hml hv
  obtain ⟨rfl, hsz⟩ := hv
  have hx := B.exec
  have hb := B.bytes
  have hr := B.returns
  have hts : ∀ w ∈ WC, w.before _ s = true := fun w h => atoms_spec (ws := wmX11_meets) B.pre w (List.mem_cons_of_mem _ h)
  have hown : s.vm.findClass RX11 = some m.cls := findClass_of_methodNamed B.named
  have hlocks := B.notSynchronized
  subst hsz
  have hP : va_P (dC, dI) vwCl [] s.heap := nd_P0
  have hD0 : va_D (fun _ => True) ([] : va_W) := nd_0
  have hD := hD0.self (sz := s.heap.size)
  generalize hAe : va_A [] s.heap.size = A at hD ⊢
  have hA : ∀ q : Nat, s.heap.size ≤ q → A q := fun q h => by rw [← hAe]; exact Or.inr h
  generalize hH : s.heap = H at hP ⊢
  have hS : va_S A s.heap H [] := by rw [← hH]; exact va_S.rf
  have hl := lv_entry [.int p0, .long p1, .long p2] (n := 5) (Nat.le_of_ble_eq_true rfl)
  rw [lg_entry_eq]
  generalize (lg_sl [.int p0, .long p1, .long p2] ++ List.replicate (5 - (lg_sl [.int p0, .long p1, .long p2]).length) Slot.unset).toArray = ls at hl ⊢
  have hl : lv_has ls 5 [(0, .int p0), (1, .long p1), (3, .long p2)] := hl
  unfold P_X11_meets at h
  refine lv_iload_n hx hb dX11_meets_0 rfl (lv_at hl 0 rfl) ?_
  by_cases hs_1_0 : p0 = 0
  · have h := h.1 hs_1_0
    refine lv_tableIn (tgt := 28) hx hb dX11_meets_1 (by rw [hs_1_0]; decide) (by rw [hs_1_0]; decide) (off := 27) (by rw [hs_1_0]; decide) (by decide) ?_
    refine lv_lload_n hx hb dX11_meets_28 rfl (lv_at hl 1 rfl) ?_
    refine lv_lload_n hx hb dX11_meets_29 rfl (lv_at hl 2 rfl) ?_
    refine W.lcmp hx hb dX11_meets_30 ?_
    refine lv_if_ge (tgt := 38) hx hb dX11_meets_31 (by decide) (fun c_31 => ?_) (fun c_31 => ?_)
    · have h := h.1 c_31
      refine lv_iconst (v := 0) hx hb dX11_meets_38 (by decide) ?_
      exact W.zret (v := 0) hx hb hr (by decide) (fun t ht hW => ⟨⟨_, (), rfl, h, trivial⟩, hS.F ht⟩) hS.2.2 dX11_meets_39
    · have h := h.2 c_31
      refine lv_iconst (v := 1) hx hb dX11_meets_34 (by decide) ?_
      refine lv_goto (tgt := 39) hx hb dX11_meets_35 (by decide) ?_
      exact W.zret (v := 1) hx hb hr (by decide) (fun t ht hW => ⟨⟨_, (), rfl, h, trivial⟩, hS.F ht⟩) hS.2.2 dX11_meets_39
  replace h := h.2 hs_1_0
  by_cases hs_1_1 : p0 = 1
  · have h := h.1 hs_1_1
    refine lv_tableIn (tgt := 40) hx hb dX11_meets_1 (by rw [hs_1_1]; decide) (by rw [hs_1_1]; decide) (off := 39) (by rw [hs_1_1]; decide) (by decide) ?_
    refine lv_lload_n hx hb dX11_meets_40 rfl (lv_at hl 1 rfl) ?_
    refine lv_lload_n hx hb dX11_meets_41 rfl (lv_at hl 2 rfl) ?_
    refine W.lcmp hx hb dX11_meets_42 ?_
    refine lv_if_ne (tgt := 50) hx hb dX11_meets_43 (by decide) (fun c_43 => ?_) (fun c_43 => ?_)
    · have h := h.1 c_43
      refine lv_iconst (v := 0) hx hb dX11_meets_50 (by decide) ?_
      exact W.zret (v := 0) hx hb hr (by decide) (fun t ht hW => ⟨⟨_, (), rfl, h, trivial⟩, hS.F ht⟩) hS.2.2 dX11_meets_51
    · have h := h.2 c_43
      refine lv_iconst (v := 1) hx hb dX11_meets_46 (by decide) ?_
      refine lv_goto (tgt := 51) hx hb dX11_meets_47 (by decide) ?_
      exact W.zret (v := 1) hx hb hr (by decide) (fun t ht hW => ⟨⟨_, (), rfl, h, trivial⟩, hS.F ht⟩) hS.2.2 dX11_meets_51
  replace h := h.2 hs_1_1
  by_cases hs_1_2 : p0 = 2
  · have h := h.1 hs_1_2
    refine lv_tableIn (tgt := 52) hx hb dX11_meets_1 (by rw [hs_1_2]; decide) (by rw [hs_1_2]; decide) (off := 51) (by rw [hs_1_2]; decide) (by decide) ?_
    refine lv_lload_n hx hb dX11_meets_52 rfl (lv_at hl 1 rfl) ?_
    refine lv_lload_n hx hb dX11_meets_53 rfl (lv_at hl 2 rfl) ?_
    refine W.lcmp hx hb dX11_meets_54 ?_
    refine lv_if_le (tgt := 62) hx hb dX11_meets_55 (by decide) (fun c_55 => ?_) (fun c_55 => ?_)
    · have h := h.1 c_55
      refine lv_iconst (v := 0) hx hb dX11_meets_62 (by decide) ?_
      exact W.zret (v := 0) hx hb hr (by decide) (fun t ht hW => ⟨⟨_, (), rfl, h, trivial⟩, hS.F ht⟩) hS.2.2 dX11_meets_63
    · have h := h.2 c_55
      refine lv_iconst (v := 1) hx hb dX11_meets_58 (by decide) ?_
      refine lv_goto (tgt := 63) hx hb dX11_meets_59 (by decide) ?_
      exact W.zret (v := 1) hx hb hr (by decide) (fun t ht hW => ⟨⟨_, (), rfl, h, trivial⟩, hS.F ht⟩) hS.2.2 dX11_meets_63
  replace h := h.2 hs_1_2
  refine lv_tableOut (tgt := 64) hx hb dX11_meets_1 (by have n0 := lv_neT hs_1_0 (a := 0) (by decide); have n1 := lv_neT hs_1_1 (a := 1) (by decide); have n2 := lv_neT hs_1_2 (a := 2) (by decide); omega) (by decide) ?_
  refine lv_lload_n hx hb dX11_meets_64 rfl (lv_at hl 2 rfl) ?_
  refine lv_lconst (v := 0) hx hb dX11_meets_65 (by decide) ?_
  refine W.lcmp hx hb dX11_meets_66 ?_
  refine lv_if_ne (tgt := 84) hx hb dX11_meets_67 (by decide) (fun c_67 => ?_) (fun c_67 => ?_)
  · have h := h.1 c_67
    refine lv_lload_n hx hb dX11_meets_84 rfl (lv_at hl 1 rfl) ?_
    refine lv_lload_n hx hb dX11_meets_85 rfl (lv_at hl 2 rfl) ?_
    obtain ⟨hz1, h⟩ := h
    refine lv_lrem hx hb dX11_meets_86 hz1 ?_
    refine lv_lconst (v := 0) hx hb dX11_meets_87 (by decide) ?_
    refine W.lcmp hx hb dX11_meets_88 ?_
    refine lv_if_ne (tgt := 96) hx hb dX11_meets_89 (by decide) (fun c_89 => ?_) (fun c_89 => ?_)
    · have h := h.1 c_89
      refine lv_iconst (v := 0) hx hb dX11_meets_96 (by decide) ?_
      exact W.zret (v := 0) hx hb hr (by decide) (fun t ht hW => ⟨⟨_, (), rfl, h, trivial⟩, hS.F ht⟩) hS.2.2 dX11_meets_97
    · have h := h.2 c_89
      refine lv_iconst (v := 1) hx hb dX11_meets_92 (by decide) ?_
      refine lv_goto (tgt := 97) hx hb dX11_meets_93 (by decide) ?_
      exact W.zret (v := 1) hx hb hr (by decide) (fun t ht hW => ⟨⟨_, (), rfl, h, trivial⟩, hS.F ht⟩) hS.2.2 dX11_meets_97
  · have h := h.2 c_67
    refine lv_lload_n hx hb dX11_meets_70 rfl (lv_at hl 1 rfl) ?_
    refine lv_lconst (v := 0) hx hb dX11_meets_71 (by decide) ?_
    refine W.lcmp hx hb dX11_meets_72 ?_
    refine lv_if_ne (tgt := 80) hx hb dX11_meets_73 (by decide) (fun c_73 => ?_) (fun c_73 => ?_)
    · have h := h.1 c_73
      refine lv_iconst (v := 0) hx hb dX11_meets_80 (by decide) ?_
      refine lv_goto (tgt := 97) hx hb dX11_meets_81 (by decide) ?_
      exact W.zret (v := 0) hx hb hr (by decide) (fun t ht hW => ⟨⟨_, (), rfl, h, trivial⟩, hS.F ht⟩) hS.2.2 dX11_meets_97
    · have h := h.2 c_73
      refine lv_iconst (v := 1) hx hb dX11_meets_76 (by decide) ?_
      refine lv_goto (tgt := 97) hx hb dX11_meets_77 (by decide) ?_
      exact W.zret (v := 1) hx hb hr (by decide) (fun t ht hW => ⟨⟨_, (), rfl, h, trivial⟩, hS.F ht⟩) hS.2.2 dX11_meets_97

abbrev wmX6_begin : List Cond := .code yX6_begin cX6_begin 2 none :: WC
theorem hd_X6_begin : yX6_begin.cls = RX6 ∧ yX6_begin.cls ≠ "java/lang/invoke/MethodHandle" ∧ yX6_begin.cls ≠ "java/lang/invoke/VarHandle" ∧ (parseMethodDescriptor yX6_begin.desc).map (fun d => d.parameters.length) = some 1 := by decide +kernel
def P_X6_begin (sh : Sh) (ci : Nat → Nat → Int32) (ai : Nat → Nat → Int32) (al : Nat → Nat → Int64) (q : Nat) (p0 : Int32) (Q : (Nat → Nat → Int32) → (Nat → Nat → Int32) → (Nat → Nat → Int64) → Prop) : Prop := (q ∈ sL sh ∧ sK sh q = 5) ∧ Q (va_up (va_up ci q (va_up (ci q) 0 p0)) q (va_up ((va_up ci q (va_up (ci q) 0 p0)) q) 1 0)) ai al
set_option maxHeartbeats 4000000 in
set_option maxRecDepth 100000 in
theorem p_X6_begin (l : Launch) (dC : Nat → ClassId) (dI : Nat → Nat → Nat) (sh : Sh) (ci : Nat → Nat → Int32) (ai : Nat → Nat → Int32) (al : Nat → Nat → Int64) (q : Nat) (p0 : Int32) (Q : (Nat → Nat → Int32) → (Nat → Nat → Int32) → (Nat → Nat → Int64) → Prop) (h : P_X6_begin sh ci ai al q p0 Q) (sz : Nat) : Met l yX6_begin wmX6_begin ({ frames := 4, cells := 0, slots := 0, locals := 60 }) (va_Pc [.ref q, .int p0] (cPre dC dI sh ci ai al sz)) (va_Qv (S := CSt) (cV Q) (cB dC dI sh (va_A (cW sh ci ai al) sz)) (va_A (cW sh ci ai al) sz)) 0 0 (va_A (cW sh ci ai al) sz) := by
  refine Met.ofW (cc := cX6_begin) (maxL := 2) (ret := none) (by decide) rfl ?_
  intro p e s m args below meth c s₁ B hml hv
  obtain ⟨rfl, hsz, hP, hK, hD0, hG⟩ := hv
  have hx := B.exec
  have hb := B.bytes
  have hr := B.returns
  have hts : ∀ w ∈ WC, w.before _ s = true := fun w h => atoms_spec (ws := wmX6_begin) B.pre w (List.mem_cons_of_mem _ h)
  have hown : s.vm.findClass RX6 = some m.cls := findClass_of_methodNamed B.named
  have hlocks := B.notSynchronized
  subst hsz
  have hD := hD0.self (sz := s.heap.size)
  generalize hAe : va_A (cW sh ci ai al) s.heap.size = A at hD ⊢
  have hA : ∀ q : Nat, s.heap.size ≤ q → A q := fun q h => by rw [← hAe]; exact Or.inr h
  generalize hH : s.heap = H at hP ⊢
  have hS : va_S A s.heap H [] := by rw [← hH]; exact va_S.rf
  have hl := lv_entry [.ref q, .int p0] (n := 2) (Nat.le_of_ble_eq_true rfl)
  rw [lg_entry_eq]
  generalize (lg_sl [.ref q, .int p0] ++ List.replicate (2 - (lg_sl [.ref q, .int p0]).length) Slot.unset).toArray = ls at hl ⊢
  have hl : lv_has ls 2 [(0, .ref q), (1, .int p0)] := hl
  unfold P_X6_begin at h
  obtain ⟨⟨hq, hk⟩, h⟩ := h
  refine lv_aload_n hx hb dX6_begin_0 rfl (lv_at hl 0 rfl) ?_
  refine lv_iload_n hx hb dX6_begin_1 rfl (lv_at hl 1 rfl) ?_
  refine c_put (C := RX6) (T := TX6) (N := 2) (K := 5) hx hb hts hinX6 tyX6 tyX6_ok nmX6 hown hK hP hD hS hq hk (by decide) rfl 0 (by decide) (hts _ mwC_13) (fun _ h9 => h9) rfl (by decide +kernel) (Nat.le_of_ble_eq_true rfl) rfl dX6_begin_2 (fun H locs hP hD hS => ?_)
  refine lv_aload_n hx hb dX6_begin_5 rfl (lv_at hl 0 rfl) ?_
  refine lv_iconst (v := 0) hx hb dX6_begin_6 (by decide) ?_
  refine c_put (C := RX6) (T := TX6) (N := 2) (K := 5) hx hb hts hinX6 tyX6 tyX6_ok nmX6 hown hK hP hD hS hq hk (by decide) rfl 1 (by decide) (hts _ mwC_14) (fun _ h9 => h9) rfl (by decide +kernel) (Nat.le_of_ble_eq_true rfl) rfl dX6_begin_7 (fun H locs hP hD hS => ?_)
  exact W.vret hx hb hr (fun t ht hW => ⟨⟨(va_up (va_up ci q (va_up (ci q) 0 p0)) q (va_up ((va_up ci q (va_up (ci q) 0 p0)) q) 1 0), ai, al), rfl, h, by rw [ht]; exact hP, cK.moved hW.alike hK, hD⟩, hS.F ht⟩) hS.2.2 dX6_begin_10

abbrev wmX6_spend : List Cond := .code yX6_spend cX6_spend 1 (some .boolean) :: WC
theorem hd_X6_spend : yX6_spend.cls = RX6 ∧ yX6_spend.cls ≠ "java/lang/invoke/MethodHandle" ∧ yX6_spend.cls ≠ "java/lang/invoke/VarHandle" ∧ (parseMethodDescriptor yX6_spend.desc).map (fun d => d.parameters.length) = some 0 := by decide +kernel
def P_X6_spend (sh : Sh) (ci : Nat → Nat → Int32) (ai : Nat → Nat → Int32) (al : Nat → Nat → Int64) (q : Nat)  (Q : Int32 → (Nat → Nat → Int32) → (Nat → Nat → Int32) → (Nat → Nat → Int64) → Prop) : Prop := (q ∈ sL sh ∧ sK sh q = 5) ∧ ((0 < (ci q 0)) → (∀ z1 : Int32, z1 = ((va_up ci q (va_up (ci q) 0 ((ci q 0) - 1))) q 1) + 1 → Q 1 (va_up (va_up ci q (va_up (ci q) 0 ((ci q 0) - 1))) q (va_up ((va_up ci q (va_up (ci q) 0 ((ci q 0) - 1))) q) 1 z1)) ai al)) ∧ ((¬ 0 < (ci q 0)) → (Q 0 ci ai al))
set_option maxHeartbeats 4000000 in
set_option maxRecDepth 100000 in
theorem p_X6_spend (l : Launch) (dC : Nat → ClassId) (dI : Nat → Nat → Nat) (sh : Sh) (ci : Nat → Nat → Int32) (ai : Nat → Nat → Int32) (al : Nat → Nat → Int64) (q : Nat)  (Q : Int32 → (Nat → Nat → Int32) → (Nat → Nat → Int32) → (Nat → Nat → Int64) → Prop) (h : P_X6_spend sh ci ai al q  Q) (sz : Nat) : Met l yX6_spend wmX6_spend ({ frames := 4, cells := 0, slots := 0, locals := 60 }) (va_Pc [.ref q] (cPre dC dI sh ci ai al sz)) (va_Qi (S := CSt) (cI Q) (cB dC dI sh (va_A (cW sh ci ai al) sz)) (va_A (cW sh ci ai al) sz)) 0 0 (va_A (cW sh ci ai al) sz) := by
  refine Met.ofW (cc := cX6_spend) (maxL := 1) (ret := (some .boolean)) (by decide) rfl ?_
  intro p e s m args below meth c s₁ B hml hv
  obtain ⟨rfl, hsz, hP, hK, hD0, hG⟩ := hv
  have hx := B.exec
  have hb := B.bytes
  have hr := B.returns
  have hts : ∀ w ∈ WC, w.before _ s = true := fun w h => atoms_spec (ws := wmX6_spend) B.pre w (List.mem_cons_of_mem _ h)
  have hown : s.vm.findClass RX6 = some m.cls := findClass_of_methodNamed B.named
  have hlocks := B.notSynchronized
  subst hsz
  have hD := hD0.self (sz := s.heap.size)
  generalize hAe : va_A (cW sh ci ai al) s.heap.size = A at hD ⊢
  have hA : ∀ q : Nat, s.heap.size ≤ q → A q := fun q h => by rw [← hAe]; exact Or.inr h
  generalize hH : s.heap = H at hP ⊢
  have hS : va_S A s.heap H [] := by rw [← hH]; exact va_S.rf
  have hl := lv_entry [.ref q] (n := 1) (Nat.le_of_ble_eq_true rfl)
  rw [lg_entry_eq]
  generalize (lg_sl [.ref q] ++ List.replicate (1 - (lg_sl [.ref q]).length) Slot.unset).toArray = ls at hl ⊢
  have hl : lv_has ls 1 [(0, .ref q)] := hl
  unfold P_X6_spend at h
  obtain ⟨⟨hq, hk⟩, h⟩ := h
  refine lv_aload_n hx hb dX6_spend_0 rfl (lv_at hl 0 rfl) ?_
  refine c_get (C := RX6) (T := TX6) (N := 2) (K := 5) (v := .int (ci q 0)) hx hb hts hinX6 hown hK hP hq hk (by decide) rfl 0 (by decide) (hts _ mwC_13) (fun _ h9 => h9) rfl dX6_spend_1 ?_
  refine lv_if_gt (tgt := 9) hx hb dX6_spend_4 (by decide) (fun c_4 => ?_) (fun c_4 => ?_)
  · have h := h.1 c_4
    refine lv_aload_n hx hb dX6_spend_9 rfl (lv_at hl 0 rfl) ?_
    refine lv_dup hx hb dX6_spend_10 rfl ?_
    refine c_get (C := RX6) (T := TX6) (N := 2) (K := 5) (v := .int (ci q 0)) hx hb hts hinX6 hown hK hP hq hk (by decide) rfl 0 (by decide) (hts _ mwC_13) (fun _ h9 => h9) rfl dX6_spend_11 ?_
    refine lv_iconst (v := 1) hx hb dX6_spend_14 (by decide) ?_
    refine lv_isub hx hb dX6_spend_15 ?_
    refine c_put (C := RX6) (T := TX6) (N := 2) (K := 5) hx hb hts hinX6 tyX6 tyX6_ok nmX6 hown hK hP hD hS hq hk (by decide) rfl 0 (by decide) (hts _ mwC_13) (fun _ h9 => h9) rfl (by decide +kernel) (Nat.le_of_ble_eq_true rfl) rfl dX6_spend_16 (fun H locs hP hD hS => ?_)
    refine lv_aload_n hx hb dX6_spend_19 rfl (lv_at hl 0 rfl) ?_
    refine lv_dup hx hb dX6_spend_20 rfl ?_
    refine c_get (C := RX6) (T := TX6) (N := 2) (K := 5) (v := .int ((va_up ci q (va_up (ci q) 0 ((ci q 0) - 1))) q 1)) hx hb hts hinX6 hown hK hP hq hk (by decide) rfl 1 (by decide) (hts _ mwC_14) (fun _ h9 => h9) rfl dX6_spend_21 ?_
    refine lv_iconst (v := 1) hx hb dX6_spend_24 (by decide) ?_
    refine lv_iadd hx hb dX6_spend_25 ?_
    refine lv_topi (fun z1 ez1 => ?_)
    have h := h z1 ez1
    refine c_put (C := RX6) (T := TX6) (N := 2) (K := 5) hx hb hts hinX6 tyX6 tyX6_ok nmX6 hown hK hP hD hS hq hk (by decide) rfl 1 (by decide) (hts _ mwC_14) (fun _ h9 => h9) rfl (by decide +kernel) (Nat.le_of_ble_eq_true rfl) rfl dX6_spend_26 (fun H locs hP hD hS => ?_)
    refine lv_iconst (v := 1) hx hb dX6_spend_29 (by decide) ?_
    exact W.zret (v := 1) hx hb hr (by decide) (fun t ht hW => ⟨⟨_, (va_up (va_up ci q (va_up (ci q) 0 ((ci q 0) - 1))) q (va_up ((va_up ci q (va_up (ci q) 0 ((ci q 0) - 1))) q) 1 z1), ai, al), rfl, h, by rw [ht]; exact hP, cK.moved hW.alike hK, hD⟩, hS.F ht⟩) hS.2.2 dX6_spend_30
  · have h := h.2 c_4
    refine lv_iconst (v := 0) hx hb dX6_spend_7 (by decide) ?_
    exact W.zret (v := 0) hx hb hr (by decide) (fun t ht hW => ⟨⟨_, (ci, ai, al), rfl, h, by rw [ht]; exact hP, cK.moved hW.alike hK, hD⟩, hS.F ht⟩) hS.2.2 dX6_spend_8
