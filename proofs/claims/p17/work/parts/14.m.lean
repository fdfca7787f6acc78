abbrev cX12_fold : ByteArray := prog_14_method_57_code
def yX12_fold : MethodName := ⟨RX12, "fold", "(IIJ)J"⟩
abbrev cX12_find : ByteArray := prog_14_method_58_code
def yX12_find : MethodName := ⟨RX12, "find", "(IIJ)J"⟩
abbrev cX12_last : ByteArray := prog_14_method_59_code
def yX12_last : MethodName := ⟨RX12, "last", "(I)J"⟩
theorem dX12_fold_0 : decode cX12_fold 0 = .ok (.aload_n 0, 1) := by decide +kernel
theorem dX12_fold_1 : decode cX12_fold 1 = .ok (.iconst 0, 1) := by decide +kernel
theorem dX12_fold_2 : decode cX12_fold 2 = .ok (.putfield 63, 3) := by decide +kernel
theorem dX12_fold_5 : decode cX12_fold 5 = .ok (.aload_n 0, 1) := by decide +kernel
theorem dX12_fold_6 : decode cX12_fold 6 = .ok (.iload_n 1, 1) := by decide +kernel
theorem dX12_fold_7 : decode cX12_fold 7 = .ok (.invokevirtual 84, 3) := by decide +kernel
theorem dX12_fold_10 : decode cX12_fold 10 = .ok (.ifCond .ne 10, 3) := by decide +kernel
theorem dX12_fold_13 : decode cX12_fold 13 = .ok (.aload_n 0, 1) := by decide +kernel
theorem dX12_fold_14 : decode cX12_fold 14 = .ok (.iconst 1, 1) := by decide +kernel
theorem dX12_fold_15 : decode cX12_fold 15 = .ok (.invokevirtual 72, 3) := by decide +kernel
theorem dX12_fold_18 : decode cX12_fold 18 = .ok (.i2l, 1) := by decide +kernel
theorem dX12_fold_19 : decode cX12_fold 19 = .ok (.lreturn, 1) := by decide +kernel
theorem dX12_fold_20 : decode cX12_fold 20 = .ok (.iload_n 2, 1) := by decide +kernel
theorem dX12_fold_21 : decode cX12_fold 21 = .ok (.invokestatic 80, 3) := by decide +kernel
theorem dX12_fold_24 : decode cX12_fold 24 = .ok (.ifCond .ne 10, 3) := by decide +kernel
theorem dX12_fold_27 : decode cX12_fold 27 = .ok (.aload_n 0, 1) := by decide +kernel
theorem dX12_fold_28 : decode cX12_fold 28 = .ok (.iconst 2, 1) := by decide +kernel
theorem dX12_fold_29 : decode cX12_fold 29 = .ok (.invokevirtual 72, 3) := by decide +kernel
theorem dX12_fold_32 : decode cX12_fold 32 = .ok (.i2l, 1) := by decide +kernel
theorem dX12_fold_33 : decode cX12_fold 33 = .ok (.lreturn, 1) := by decide +kernel
theorem dX12_fold_34 : decode cX12_fold 34 = .ok (.aload_n 0, 1) := by decide +kernel
theorem dX12_fold_35 : decode cX12_fold 35 = .ok (.invokevirtual 220, 3) := by decide +kernel
theorem dX12_fold_38 : decode cX12_fold 38 = .ok (.lload_n 3, 1) := by decide +kernel
theorem dX12_fold_39 : decode cX12_fold 39 = .ok (.lstore 5, 2) := by decide +kernel
theorem dX12_fold_41 : decode cX12_fold 41 = .ok (.iconst 0, 1) := by decide +kernel
theorem dX12_fold_42 : decode cX12_fold 42 = .ok (.istore 7, 2) := by decide +kernel
theorem dX12_fold_44 : decode cX12_fold 44 = .ok (.aload_n 0, 1) := by decide +kernel
theorem dX12_fold_45 : decode cX12_fold 45 = .ok (.iload_n 1, 1) := by decide +kernel
theorem dX12_fold_46 : decode cX12_fold 46 = .ok (.iload 7, 2) := by decide +kernel
theorem dX12_fold_48 : decode cX12_fold 48 = .ok (.invokevirtual 223, 3) := by decide +kernel
theorem dX12_fold_51 : decode cX12_fold 51 = .ok (.istore 8, 2) := by decide +kernel
theorem dX12_fold_53 : decode cX12_fold 53 = .ok (.iload 8, 2) := by decide +kernel
theorem dX12_fold_55 : decode cX12_fold 55 = .ok (.iconst 2, 1) := by decide +kernel
theorem dX12_fold_56 : decode cX12_fold 56 = .ok (.if_icmp .ne 6, 3) := by decide +kernel
theorem dX12_fold_59 : decode cX12_fold 59 = .ok (.lload 5, 2) := by decide +kernel
theorem dX12_fold_61 : decode cX12_fold 61 = .ok (.lreturn, 1) := by decide +kernel
theorem dX12_fold_62 : decode cX12_fold 62 = .ok (.iload 8, 2) := by decide +kernel
theorem dX12_fold_64 : decode cX12_fold 64 = .ok (.iconst 1, 1) := by decide +kernel
theorem dX12_fold_65 : decode cX12_fold 65 = .ok (.if_icmp .eq 10, 3) := by decide +kernel
theorem dX12_fold_68 : decode cX12_fold 68 = .ok (.aload_n 0, 1) := by decide +kernel
theorem dX12_fold_69 : decode cX12_fold 69 = .ok (.iload 8, 2) := by decide +kernel
theorem dX12_fold_71 : decode cX12_fold 71 = .ok (.invokevirtual 226, 3) := by decide +kernel
theorem dX12_fold_74 : decode cX12_fold 74 = .ok (.lreturn, 1) := by decide +kernel
theorem dX12_fold_75 : decode cX12_fold 75 = .ok (.iload_n 2, 1) := by decide +kernel
theorem dX12_fold_76 : decode cX12_fold 76 = .ok (.bipush 7, 2) := by decide +kernel
theorem dX12_fold_78 : decode cX12_fold 78 = .ok (.if_icmp .ne 6, 3) := by decide +kernel
theorem dX12_fold_81 : decode cX12_fold 81 = .ok (.goto 57, 3) := by decide +kernel
theorem dX12_fold_84 : decode cX12_fold 84 = .ok (.aload_n 0, 1) := by decide +kernel
theorem dX12_fold_85 : decode cX12_fold 85 = .ok (.iload_n 1, 1) := by decide +kernel
theorem dX12_fold_86 : decode cX12_fold 86 = .ok (.iload 7, 2) := by decide +kernel
theorem dX12_fold_88 : decode cX12_fold 88 = .ok (.invokevirtual 229, 3) := by decide +kernel
theorem dX12_fold_91 : decode cX12_fold 91 = .ok (.istore 8, 2) := by decide +kernel
theorem dX12_fold_93 : decode cX12_fold 93 = .ok (.iload 8, 2) := by decide +kernel
theorem dX12_fold_95 : decode cX12_fold 95 = .ok (.iconst 1, 1) := by decide +kernel
theorem dX12_fold_96 : decode cX12_fold 96 = .ok (.if_icmp .eq 10, 3) := by decide +kernel
theorem dX12_fold_99 : decode cX12_fold 99 = .ok (.aload_n 0, 1) := by decide +kernel
theorem dX12_fold_100 : decode cX12_fold 100 = .ok (.iload 8, 2) := by decide +kernel
theorem dX12_fold_102 : decode cX12_fold 102 = .ok (.invokevirtual 226, 3) := by decide +kernel
theorem dX12_fold_105 : decode cX12_fold 105 = .ok (.lreturn, 1) := by decide +kernel
theorem dX12_fold_106 : decode cX12_fold 106 = .ok (.aload_n 0, 1) := by decide +kernel
theorem dX12_fold_107 : decode cX12_fold 107 = .ok (.iload_n 2, 1) := by decide +kernel
theorem dX12_fold_108 : decode cX12_fold 108 = .ok (.lload 5, 2) := by decide +kernel
theorem dX12_fold_110 : decode cX12_fold 110 = .ok (.aload_n 0, 1) := by decide +kernel
theorem dX12_fold_111 : decode cX12_fold 111 = .ok (.getfield 119, 3) := by decide +kernel
theorem dX12_fold_114 : decode cX12_fold 114 = .ok (.invokevirtual 190, 3) := by decide +kernel
theorem dX12_fold_117 : decode cX12_fold 117 = .ok (.istore 8, 2) := by decide +kernel
theorem dX12_fold_119 : decode cX12_fold 119 = .ok (.iload 8, 2) := by decide +kernel
theorem dX12_fold_121 : decode cX12_fold 121 = .ok (.iconst 1, 1) := by decide +kernel
theorem dX12_fold_122 : decode cX12_fold 122 = .ok (.if_icmp .eq 10, 3) := by decide +kernel
theorem dX12_fold_125 : decode cX12_fold 125 = .ok (.aload_n 0, 1) := by decide +kernel
theorem dX12_fold_126 : decode cX12_fold 126 = .ok (.iload 8, 2) := by decide +kernel
theorem dX12_fold_128 : decode cX12_fold 128 = .ok (.invokevirtual 226, 3) := by decide +kernel
theorem dX12_fold_131 : decode cX12_fold 131 = .ok (.lreturn, 1) := by decide +kernel
theorem dX12_fold_132 : decode cX12_fold 132 = .ok (.aload_n 0, 1) := by decide +kernel
theorem dX12_fold_133 : decode cX12_fold 133 = .ok (.getfield 98, 3) := by decide +kernel
theorem dX12_fold_136 : decode cX12_fold 136 = .ok (.lstore 5, 2) := by decide +kernel
theorem dX12_fold_138 : decode cX12_fold 138 = .ok (.iinc 7 1, 3) := by decide +kernel
theorem dX12_fold_141 : decode cX12_fold 141 = .ok (.goto (-97), 3) := by decide +kernel
theorem dX12_find_0 : decode cX12_find 0 = .ok (.aload_n 0, 1) := by decide +kernel
theorem dX12_find_1 : decode cX12_find 1 = .ok (.iconst 0, 1) := by decide +kernel
theorem dX12_find_2 : decode cX12_find 2 = .ok (.putfield 63, 3) := by decide +kernel
theorem dX12_find_5 : decode cX12_find 5 = .ok (.aload_n 0, 1) := by decide +kernel
theorem dX12_find_6 : decode cX12_find 6 = .ok (.iload_n 1, 1) := by decide +kernel
theorem dX12_find_7 : decode cX12_find 7 = .ok (.invokevirtual 84, 3) := by decide +kernel
theorem dX12_find_10 : decode cX12_find 10 = .ok (.ifCond .ne 10, 3) := by decide +kernel
theorem dX12_find_13 : decode cX12_find 13 = .ok (.aload_n 0, 1) := by decide +kernel
theorem dX12_find_14 : decode cX12_find 14 = .ok (.iconst 1, 1) := by decide +kernel
theorem dX12_find_15 : decode cX12_find 15 = .ok (.invokevirtual 72, 3) := by decide +kernel
theorem dX12_find_18 : decode cX12_find 18 = .ok (.i2l, 1) := by decide +kernel
theorem dX12_find_19 : decode cX12_find 19 = .ok (.lreturn, 1) := by decide +kernel
theorem dX12_find_20 : decode cX12_find 20 = .ok (.iload_n 2, 1) := by decide +kernel
theorem dX12_find_21 : decode cX12_find 21 = .ok (.invokestatic 91, 3) := by decide +kernel
theorem dX12_find_24 : decode cX12_find 24 = .ok (.ifCond .ne 10, 3) := by decide +kernel
theorem dX12_find_27 : decode cX12_find 27 = .ok (.aload_n 0, 1) := by decide +kernel
theorem dX12_find_28 : decode cX12_find 28 = .ok (.iconst 2, 1) := by decide +kernel
theorem dX12_find_29 : decode cX12_find 29 = .ok (.invokevirtual 72, 3) := by decide +kernel
theorem dX12_find_32 : decode cX12_find 32 = .ok (.i2l, 1) := by decide +kernel
theorem dX12_find_33 : decode cX12_find 33 = .ok (.lreturn, 1) := by decide +kernel
theorem dX12_find_34 : decode cX12_find 34 = .ok (.aload_n 0, 1) := by decide +kernel
theorem dX12_find_35 : decode cX12_find 35 = .ok (.invokevirtual 220, 3) := by decide +kernel
theorem dX12_find_38 : decode cX12_find 38 = .ok (.iconst 0, 1) := by decide +kernel
theorem dX12_find_39 : decode cX12_find 39 = .ok (.istore 5, 2) := by decide +kernel
theorem dX12_find_41 : decode cX12_find 41 = .ok (.aload_n 0, 1) := by decide +kernel
theorem dX12_find_42 : decode cX12_find 42 = .ok (.iload_n 1, 1) := by decide +kernel
theorem dX12_find_43 : decode cX12_find 43 = .ok (.iload 5, 2) := by decide +kernel
theorem dX12_find_45 : decode cX12_find 45 = .ok (.invokevirtual 223, 3) := by decide +kernel
theorem dX12_find_48 : decode cX12_find 48 = .ok (.istore 6, 2) := by decide +kernel
theorem dX12_find_50 : decode cX12_find 50 = .ok (.iload 6, 2) := by decide +kernel
theorem dX12_find_52 : decode cX12_find 52 = .ok (.iconst 2, 1) := by decide +kernel
theorem dX12_find_53 : decode cX12_find 53 = .ok (.if_icmp .ne 7, 3) := by decide +kernel
theorem dX12_find_56 : decode cX12_find 56 = .ok (.ldc2_w 232, 3) := by decide +kernel
theorem dX12_find_59 : decode cX12_find 59 = .ok (.lreturn, 1) := by decide +kernel
theorem dX12_find_60 : decode cX12_find 60 = .ok (.iload 6, 2) := by decide +kernel
theorem dX12_find_62 : decode cX12_find 62 = .ok (.iconst 1, 1) := by decide +kernel
theorem dX12_find_63 : decode cX12_find 63 = .ok (.if_icmp .eq 10, 3) := by decide +kernel
theorem dX12_find_66 : decode cX12_find 66 = .ok (.aload_n 0, 1) := by decide +kernel
theorem dX12_find_67 : decode cX12_find 67 = .ok (.iload 6, 2) := by decide +kernel
theorem dX12_find_69 : decode cX12_find 69 = .ok (.invokevirtual 226, 3) := by decide +kernel
theorem dX12_find_72 : decode cX12_find 72 = .ok (.lreturn, 1) := by decide +kernel
theorem dX12_find_73 : decode cX12_find 73 = .ok (.aload_n 0, 1) := by decide +kernel
theorem dX12_find_74 : decode cX12_find 74 = .ok (.iload_n 1, 1) := by decide +kernel
theorem dX12_find_75 : decode cX12_find 75 = .ok (.iload 5, 2) := by decide +kernel
theorem dX12_find_77 : decode cX12_find 77 = .ok (.invokevirtual 229, 3) := by decide +kernel
theorem dX12_find_80 : decode cX12_find 80 = .ok (.istore 6, 2) := by decide +kernel
theorem dX12_find_82 : decode cX12_find 82 = .ok (.iload 6, 2) := by decide +kernel
theorem dX12_find_84 : decode cX12_find 84 = .ok (.iconst 1, 1) := by decide +kernel
theorem dX12_find_85 : decode cX12_find 85 = .ok (.if_icmp .eq 10, 3) := by decide +kernel
theorem dX12_find_88 : decode cX12_find 88 = .ok (.aload_n 0, 1) := by decide +kernel
theorem dX12_find_89 : decode cX12_find 89 = .ok (.iload 6, 2) := by decide +kernel
theorem dX12_find_91 : decode cX12_find 91 = .ok (.invokevirtual 226, 3) := by decide +kernel
theorem dX12_find_94 : decode cX12_find 94 = .ok (.lreturn, 1) := by decide +kernel
theorem dX12_find_95 : decode cX12_find 95 = .ok (.iload_n 2, 1) := by decide +kernel
theorem dX12_find_96 : decode cX12_find 96 = .ok (.aload_n 0, 1) := by decide +kernel
theorem dX12_find_97 : decode cX12_find 97 = .ok (.getfield 119, 3) := by decide +kernel
theorem dX12_find_100 : decode cX12_find 100 = .ok (.lload_n 3, 1) := by decide +kernel
theorem dX12_find_101 : decode cX12_find 101 = .ok (.invokestatic 172, 3) := by decide +kernel
theorem dX12_find_104 : decode cX12_find 104 = .ok (.ifCond .eq 7, 3) := by decide +kernel
theorem dX12_find_107 : decode cX12_find 107 = .ok (.iload 5, 2) := by decide +kernel
theorem dX12_find_109 : decode cX12_find 109 = .ok (.i2l, 1) := by decide +kernel
theorem dX12_find_110 : decode cX12_find 110 = .ok (.lreturn, 1) := by decide +kernel
theorem dX12_find_111 : decode cX12_find 111 = .ok (.iinc 5 1, 3) := by decide +kernel
theorem dX12_find_114 : decode cX12_find 114 = .ok (.goto (-73), 3) := by decide +kernel
theorem dX12_last_0 : decode cX12_last 0 = .ok (.aload_n 0, 1) := by decide +kernel
theorem dX12_last_1 : decode cX12_last 1 = .ok (.iconst 0, 1) := by decide +kernel
theorem dX12_last_2 : decode cX12_last 2 = .ok (.putfield 63, 3) := by decide +kernel
theorem dX12_last_5 : decode cX12_last 5 = .ok (.aload_n 0, 1) := by decide +kernel
theorem dX12_last_6 : decode cX12_last 6 = .ok (.iload_n 1, 1) := by decide +kernel
theorem dX12_last_7 : decode cX12_last 7 = .ok (.invokevirtual 84, 3) := by decide +kernel
theorem dX12_last_10 : decode cX12_last 10 = .ok (.ifCond .ne 10, 3) := by decide +kernel
theorem dX12_last_13 : decode cX12_last 13 = .ok (.aload_n 0, 1) := by decide +kernel
theorem dX12_last_14 : decode cX12_last 14 = .ok (.iconst 1, 1) := by decide +kernel
theorem dX12_last_15 : decode cX12_last 15 = .ok (.invokevirtual 72, 3) := by decide +kernel
theorem dX12_last_18 : decode cX12_last 18 = .ok (.i2l, 1) := by decide +kernel
theorem dX12_last_19 : decode cX12_last 19 = .ok (.lreturn, 1) := by decide +kernel
theorem dX12_last_20 : decode cX12_last 20 = .ok (.aload_n 0, 1) := by decide +kernel
theorem dX12_last_21 : decode cX12_last 21 = .ok (.invokevirtual 220, 3) := by decide +kernel
theorem dX12_last_24 : decode cX12_last 24 = .ok (.iconst 0, 1) := by decide +kernel
theorem dX12_last_25 : decode cX12_last 25 = .ok (.istore_n 2, 1) := by decide +kernel
theorem dX12_last_26 : decode cX12_last 26 = .ok (.aload_n 0, 1) := by decide +kernel
theorem dX12_last_27 : decode cX12_last 27 = .ok (.iload_n 1, 1) := by decide +kernel
theorem dX12_last_28 : decode cX12_last 28 = .ok (.iload_n 2, 1) := by decide +kernel
theorem dX12_last_29 : decode cX12_last 29 = .ok (.invokevirtual 223, 3) := by decide +kernel
theorem dX12_last_32 : decode cX12_last 32 = .ok (.istore_n 3, 1) := by decide +kernel
theorem dX12_last_33 : decode cX12_last 33 = .ok (.iload_n 3, 1) := by decide +kernel
theorem dX12_last_34 : decode cX12_last 34 = .ok (.iconst 2, 1) := by decide +kernel
theorem dX12_last_35 : decode cX12_last 35 = .ok (.if_icmp .ne 28, 3) := by decide +kernel
theorem dX12_last_38 : decode cX12_last 38 = .ok (.iload_n 2, 1) := by decide +kernel
theorem dX12_last_39 : decode cX12_last 39 = .ok (.ifCond .ne 11, 3) := by decide +kernel
theorem dX12_last_42 : decode cX12_last 42 = .ok (.aload_n 0, 1) := by decide +kernel
theorem dX12_last_43 : decode cX12_last 43 = .ok (.iconst 5, 1) := by decide +kernel
theorem dX12_last_44 : decode cX12_last 44 = .ok (.invokevirtual 216, 3) := by decide +kernel
theorem dX12_last_47 : decode cX12_last 47 = .ok (.goto 15, 3) := by decide +kernel
theorem dX12_last_50 : decode cX12_last 50 = .ok (.aload_n 0, 1) := by decide +kernel
theorem dX12_last_51 : decode cX12_last 51 = .ok (.aload_n 0, 1) := by decide +kernel
theorem dX12_last_52 : decode cX12_last 52 = .ok (.iload_n 1, 1) := by decide +kernel
theorem dX12_last_53 : decode cX12_last 53 = .ok (.iload_n 2, 1) := by decide +kernel
theorem dX12_last_54 : decode cX12_last 54 = .ok (.iconst 1, 1) := by decide +kernel
theorem dX12_last_55 : decode cX12_last 55 = .ok (.isub, 1) := by decide +kernel
theorem dX12_last_56 : decode cX12_last 56 = .ok (.invokevirtual 229, 3) := by decide +kernel
theorem dX12_last_59 : decode cX12_last 59 = .ok (.invokevirtual 226, 3) := by decide +kernel
theorem dX12_last_62 : decode cX12_last 62 = .ok (.lreturn, 1) := by decide +kernel
theorem dX12_last_63 : decode cX12_last 63 = .ok (.iload_n 3, 1) := by decide +kernel
theorem dX12_last_64 : decode cX12_last 64 = .ok (.iconst 1, 1) := by decide +kernel
theorem dX12_last_65 : decode cX12_last 65 = .ok (.if_icmp .eq 9, 3) := by decide +kernel
theorem dX12_last_68 : decode cX12_last 68 = .ok (.aload_n 0, 1) := by decide +kernel
theorem dX12_last_69 : decode cX12_last 69 = .ok (.iload_n 3, 1) := by decide +kernel
theorem dX12_last_70 : decode cX12_last 70 = .ok (.invokevirtual 226, 3) := by decide +kernel
theorem dX12_last_73 : decode cX12_last 73 = .ok (.lreturn, 1) := by decide +kernel
theorem dX12_last_74 : decode cX12_last 74 = .ok (.iinc 2 1, 3) := by decide +kernel
theorem dX12_last_77 : decode cX12_last 77 = .ok (.goto (-51), 3) := by decide +kernel
abbrev wmX12_fold : List Cond := .code yX12_fold cX12_fold 9 (some .long) :: WM
theorem hd_X12_fold : yX12_fold.cls = RX12 ∧ yX12_fold.cls ≠ "java/lang/invoke/MethodHandle" ∧ yX12_fold.cls ≠ "java/lang/invoke/VarHandle" ∧ (parseMethodDescriptor yX12_fold.desc).map (fun d => d.parameters.length) = some 3 := by decide +kernel
def B_X12_fold_44  (K44 : (Nat → Int32) → (Nat → Int64) → (Nat → Nat → Int32) → (Nat → Nat → Int64) → Int32 → Int32 → Int64 → Int32 → Prop) (Q : Int64 → (Nat → Int32) → (Nat → Int64) → (Nat → Nat → Int32) → (Nat → Nat → Int64) → Prop) (v : Nat → Int32) (w : Nat → Int64) (fi : Nat → Nat → Int32) (fl : Nat → Nat → Int64) (x1 : Int32) (x2 : Int32) (x5 : Int64) (x7 : Int32) : Prop := P_X12_reach v w fi fl x1 x7 (fun r1 v1 w1 fi1 fl1 => ((¬ r1 = 2) → (((r1 = 1) → (((¬ x2 = 7) → (P_X12_work v1 w1 fi1 fl1 x1 x7 (fun r2 v2 w2 fi2 fl2 => ((r2 = 1) → (P_X12_op v2 w2 fi2 fl2 x2 x5 (w2 25) (fun r3 v3 w3 fi3 fl3 => ((r3 = 1) → (K44 v3 w3 fi3 fl3 x1 x2 (w3 22) (x7 + 1))) ∧ ((¬ r3 = 1) → (P_X12_told v3 w3 fi3 fl3 r3 (fun r4 v4 w4 fi4 fl4 => Q r4 v4 w4 fi4 fl4)))))) ∧ ((¬ r2 = 1) → (P_X12_told v2 w2 fi2 fl2 r2 (fun r5 v5 w5 fi5 fl5 => Q r5 v5 w5 fi5 fl5)))))) ∧ ((x2 = 7) → (K44 v1 w1 fi1 fl1 x1 x2 x5 (x7 + 1))))) ∧ ((¬ r1 = 1) → (P_X12_told v1 w1 fi1 fl1 r1 (fun r6 v6 w6 fi6 fl6 => Q r6 v6 w6 fi6 fl6))))) ∧ ((r1 = 2) → (Q x5 v1 w1 fi1 fl1)))
def P_X12_fold_44  (Q : Int64 → (Nat → Int32) → (Nat → Int64) → (Nat → Nat → Int32) → (Nat → Nat → Int64) → Prop) : Nat → (Nat → Int32) → (Nat → Int64) → (Nat → Nat → Int32) → (Nat → Nat → Int64) → Int32 → Int32 → Int64 → Int32 → Prop
  | 0 => fun _ _ _ _ _ _ _ _ => False
  | n + 1 => B_X12_fold_44  (P_X12_fold_44  Q n) Q
set_option maxHeartbeats 4000000 in
set_option maxRecDepth 100000 in
theorem b_X12_fold_44 {p : Program} {l : Launch} {e : Env} {s : State} {m : MethodId} {args : Array Value} {below : List Frame} {meth : Method} {c : Code} {A : Nat → Prop} {dC : Nat → ClassId} {dI : Nat → Nat → Nat} {a : Nat → Nat} {ca : Nat → ClassId} {g0 : Nat}  {K44 : (Nat → Int32) → (Nat → Int64) → (Nat → Nat → Int32) → (Nat → Nat → Int64) → Int32 → Int32 → Int64 → Int32 → Prop} {Q : Int64 → (Nat → Int32) → (Nat → Int64) → (Nat → Nat → Int32) → (Nat → Nat → Int64) → Prop} (hx : p.tables.exec = Jvm.exec) (hb : c.code = cX12_fold) (hr : meth.sig.returnType = (some .long)) (hts : ∀ w ∈ WM, w.before args s = true) (hown : s.vm.findClass RX12 = some m.cls) (hlocks : meth.locks = false) (hml : c.maxLocals = 9) (hA : ∀ q : Nat, s.heap.size ≤ q → A q) (hK : va_K (dC, dI) vwCl (mT ca) s)  (hK44 : ∀ (v : Nat → Int32) (w : Nat → Int64) (fi : Nat → Nat → Int32) (fl : Nat → Nat → Int64) (x1 : Int32) (x2 : Int32) (x5 : Int64) (x7 : Int32) (H : Heap) (locs : List Loc) (ls : Array Slot), K44 v w fi fl x1 x2 x5 x7 → va_P (dC, dI) vwCl (mW a ca g0 v w fi fl) H → va_D A (mW a ca g0 v w fi fl) → va_S A s.heap H locs → lv_has ls 9 [(0, .ref g0), (1, .int x1), (2, .int x2), (5, .long x5), (7, .int x7)] → W p l e (headSpec wmX12_fold ({ frames := 32, cells := 0, slots := 0, locals := 480 })).room s m args below meth c H locs 0 0 (MQ below (va_Ql (S := MSt) (pL Q) (mB dC dI a ca g0 A) A) args s 0 0 A) (F0 m 44 ls [])) : ∀ (v : Nat → Int32) (w : Nat → Int64) (fi : Nat → Nat → Int32) (fl : Nat → Nat → Int64) (x1 : Int32) (x2 : Int32) (x5 : Int64) (x7 : Int32) (H : Heap) (locs : List Loc) (ls : Array Slot), B_X12_fold_44  K44 Q v w fi fl x1 x2 x5 x7 → va_P (dC, dI) vwCl (mW a ca g0 v w fi fl) H → va_D A (mW a ca g0 v w fi fl) → va_S A s.heap H locs → lv_has ls 9 [(0, .ref g0), (1, .int x1), (2, .int x2), (5, .long x5), (7, .int x7)] → W p l e (headSpec wmX12_fold ({ frames := 32, cells := 0, slots := 0, locals := 480 })).room s m args below meth c H locs 0 0 (MQ below (va_Ql (S := MSt) (pL Q) (mB dC dI a ca g0 A) A) args s 0 0 A) (F0 m 44 ls []) := by
  intro v w fi fl x1 x2 x5 x7 H locs ls h hP hD hS hl
  unfold B_X12_fold_44 at h
  refine lv_aload_n hx hb dX12_fold_44 rfl (lv_at hl 0 rfl) ?_
  refine lv_iload_n hx hb dX12_fold_45 rfl (lv_at hl 1 rfl) ?_
  refine lv_iload hx hb dX12_fold_46 (lv_at hl 4 rfl) ?_
  refine m_calli (rm := ({ frames := 28, cells := 0, slots := 0, locals := 420 })) (As := [.int x1, .int x7]) (rest := []) (fun sz => p_X12_reach l dC dI a ca g0 _ _ _ _ x1 x7 _ h sz) ⟨hx, hb, hml, hown, hts⟩ (cwV 2 hts (g_V gdM mwM_169 mwM_170 mwM_171 mwM_22 mwM_168) rfl rfl rfl hd_X12_reach ⟨Nat.le_of_ble_eq_true rfl, Nat.le_of_ble_eq_true rfl⟩) rfl hl.1 rfl hK hP hD hS hA (Nat.le_of_ble_eq_true rfl) ⟨Nat.le_of_ble_eq_true rfl, Nat.le_of_ble_eq_true rfl⟩ dX12_fold_48 (fun r1 v1 w1 fi1 fl1 H locs h hP hD hS => ?_)
  refine lv_istore (lv' := [(8, .int r1), (0, .ref g0), (1, .int x1), (2, .int x2), (5, .long x5), (7, .int x7)]) hx hb dX12_fold_51 hl (by decide) rfl (fun ls hl => ?_)
  refine lv_iload hx hb dX12_fold_53 (lv_at hl 0 rfl) ?_
  refine lv_iconst (v := 2) hx hb dX12_fold_55 (by decide) ?_
  refine lv_icmp_ne (tgt := 62) hx hb dX12_fold_56 (by decide) (fun c_56 => ?_) (fun c_56 => ?_)
  · have h := h.1 c_56
    refine lv_iload hx hb dX12_fold_62 (lv_at hl 0 rfl) ?_
    refine lv_iconst (v := 1) hx hb dX12_fold_64 (by decide) ?_
    refine lv_icmp_eq (tgt := 75) hx hb dX12_fold_65 (by decide) (fun c_65 => ?_) (fun c_65 => ?_)
    · have h := h.1 c_65
      refine lv_iload_n hx hb dX12_fold_75 rfl (lv_at hl 3 rfl) ?_
      refine lv_bipush (v := 7) hx hb dX12_fold_76 (by decide) ?_
      refine lv_icmp_ne (tgt := 84) hx hb dX12_fold_78 (by decide) (fun c_78 => ?_) (fun c_78 => ?_)
      · have h := h.1 c_78
        refine lv_aload_n hx hb dX12_fold_84 rfl (lv_at hl 1 rfl) ?_
        refine lv_iload_n hx hb dX12_fold_85 rfl (lv_at hl 2 rfl) ?_
        refine lv_iload hx hb dX12_fold_86 (lv_at hl 5 rfl) ?_
        refine m_calli (rm := ({ frames := 28, cells := 0, slots := 0, locals := 420 })) (As := [.int x1, .int x7]) (rest := []) (fun sz => p_X12_work l dC dI a ca g0 _ _ _ _ x1 x7 _ h sz) ⟨hx, hb, hml, hown, hts⟩ (cwV 2 hts (g_V gdM mwM_161 mwM_162 mwM_163 mwM_22 mwM_160) rfl rfl rfl hd_X12_work ⟨Nat.le_of_ble_eq_true rfl, Nat.le_of_ble_eq_true rfl⟩) rfl hl.1 rfl hK hP hD hS hA (Nat.le_of_ble_eq_true rfl) ⟨Nat.le_of_ble_eq_true rfl, Nat.le_of_ble_eq_true rfl⟩ dX12_fold_88 (fun r2 v2 w2 fi2 fl2 H locs h hP hD hS => ?_)
        refine lv_istore (lv' := [(8, .int r2), (0, .ref g0), (1, .int x1), (2, .int x2), (5, .long x5), (7, .int x7)]) hx hb dX12_fold_91 hl (by decide) rfl (fun ls hl => ?_)
        refine lv_iload hx hb dX12_fold_93 (lv_at hl 0 rfl) ?_
        refine lv_iconst (v := 1) hx hb dX12_fold_95 (by decide) ?_
        refine lv_icmp_eq (tgt := 106) hx hb dX12_fold_96 (by decide) (fun c_96 => ?_) (fun c_96 => ?_)
        · have h := h.1 c_96
          refine lv_aload_n hx hb dX12_fold_106 rfl (lv_at hl 1 rfl) ?_
          refine lv_iload_n hx hb dX12_fold_107 rfl (lv_at hl 3 rfl) ?_
          refine lv_lload hx hb dX12_fold_108 (lv_at hl 4 rfl) ?_
          refine lv_aload_n hx hb dX12_fold_110 rfl (lv_at hl 1 rfl) ?_
          refine va_get (D := (dC, dI)) (ci := 11) (v := .long (w2 25)) (C := RX12) (T := TX12) (N := 32) hx hb hts hinM hown hK hP 0 rfl rfl 25 (by decide) (hts _ mwM_56) (fun _ h9 => h9) rfl dX12_fold_111 ?_
          refine m_calli (rm := ({ frames := 8, cells := 0, slots := 0, locals := 120 })) (As := [.int x2, .long x5, .long (w2 25)]) (rest := []) (fun sz => p_X12_op l dC dI a ca g0 _ _ _ _ x2 x5 (w2 25) _ h sz) ⟨hx, hb, hml, hown, hts⟩ (cwV 3 hts (g_V gdM mwM_104 mwM_105 mwM_106 mwM_22 mwM_103) rfl rfl rfl hd_X12_op ⟨Nat.le_of_ble_eq_true rfl, Nat.le_of_ble_eq_true rfl⟩) rfl hl.1 rfl hK hP hD hS hA (Nat.le_of_ble_eq_true rfl) ⟨Nat.le_of_ble_eq_true rfl, Nat.le_of_ble_eq_true rfl⟩ dX12_fold_114 (fun r3 v3 w3 fi3 fl3 H locs h hP hD hS => ?_)
          refine lv_istore (lv' := [(8, .int r3), (0, .ref g0), (1, .int x1), (2, .int x2), (5, .long x5), (7, .int x7)]) hx hb dX12_fold_117 hl (by decide) rfl (fun ls hl => ?_)
          refine lv_iload hx hb dX12_fold_119 (lv_at hl 0 rfl) ?_
          refine lv_iconst (v := 1) hx hb dX12_fold_121 (by decide) ?_
          refine lv_icmp_eq (tgt := 132) hx hb dX12_fold_122 (by decide) (fun c_122 => ?_) (fun c_122 => ?_)
          · have h := h.1 c_122
            refine lv_aload_n hx hb dX12_fold_132 rfl (lv_at hl 1 rfl) ?_
            refine va_get (D := (dC, dI)) (ci := 11) (v := .long (w3 22)) (C := RX12) (T := TX12) (N := 32) hx hb hts hinM hown hK hP 0 rfl rfl 22 (by decide) (hts _ mwM_39) (fun _ h9 => h9) rfl dX12_fold_133 ?_
            refine lv_lstore (lv' := [(5, .long (w3 22)), (8, .int r3), (0, .ref g0), (1, .int x1), (2, .int x2), (7, .int x7)]) hx hb dX12_fold_136 hl (by decide) rfl (fun ls hl => ?_)
            refine lv_iinc (v := x7 + 1) (lv' := [(7, .int (x7 + 1)), (5, .long (w3 22)), (8, .int r3), (0, .ref g0), (1, .int x1), (2, .int x2)]) hx hb dX12_fold_138 hl (k := 5) rfl (iinc_1 _) (by decide) rfl (fun ls hl => ?_)
            refine lv_goto (tgt := 44) hx hb dX12_fold_141 (by decide) ?_
            exact hK44 _ _ _ _ _ _ _ _ H _ ls h hP hD hS (lv_sub hl [3, 4, 5, 1, 0] rfl)
          · have h := h.2 c_122
            refine lv_aload_n hx hb dX12_fold_125 rfl (lv_at hl 1 rfl) ?_
            refine lv_iload hx hb dX12_fold_126 (lv_at hl 0 rfl) ?_
            refine m_calll (rm := ({ frames := 8, cells := 0, slots := 0, locals := 120 })) (As := [.int r3]) (rest := []) (fun sz => p_X12_told l dC dI a ca g0 _ _ _ _ r3 _ h sz) ⟨hx, hb, hml, hown, hts⟩ (cwV 1 hts (g_V gdM mwM_165 mwM_166 mwM_167 mwM_22 mwM_164) rfl rfl rfl hd_X12_told ⟨Nat.le_of_ble_eq_true rfl, Nat.le_of_ble_eq_true rfl⟩) rfl hl.1 rfl hK hP hD hS hA (Nat.le_of_ble_eq_true rfl) ⟨Nat.le_of_ble_eq_true rfl, Nat.le_of_ble_eq_true rfl⟩ dX12_fold_128 (fun r4 v4 w4 fi4 fl4 H locs h hP hD hS => ?_)
            exact W.lret (v := r4) hx hb hr (fun t ht hW => ⟨⟨_, (v4, w4, fi4, fl4), rfl, h, by rw [ht]; exact hP, va_K.moved hW.alike hK, hD⟩, hS.F ht⟩) hS.2.2 dX12_fold_131
        · have h := h.2 c_96
          refine lv_aload_n hx hb dX12_fold_99 rfl (lv_at hl 1 rfl) ?_
          refine lv_iload hx hb dX12_fold_100 (lv_at hl 0 rfl) ?_
          refine m_calll (rm := ({ frames := 8, cells := 0, slots := 0, locals := 120 })) (As := [.int r2]) (rest := []) (fun sz => p_X12_told l dC dI a ca g0 _ _ _ _ r2 _ h sz) ⟨hx, hb, hml, hown, hts⟩ (cwV 1 hts (g_V gdM mwM_165 mwM_166 mwM_167 mwM_22 mwM_164) rfl rfl rfl hd_X12_told ⟨Nat.le_of_ble_eq_true rfl, Nat.le_of_ble_eq_true rfl⟩) rfl hl.1 rfl hK hP hD hS hA (Nat.le_of_ble_eq_true rfl) ⟨Nat.le_of_ble_eq_true rfl, Nat.le_of_ble_eq_true rfl⟩ dX12_fold_102 (fun r5 v5 w5 fi5 fl5 H locs h hP hD hS => ?_)
          exact W.lret (v := r5) hx hb hr (fun t ht hW => ⟨⟨_, (v5, w5, fi5, fl5), rfl, h, by rw [ht]; exact hP, va_K.moved hW.alike hK, hD⟩, hS.F ht⟩) hS.2.2 dX12_fold_105
      · have h := h.2 c_78
        refine lv_goto (tgt := 138) hx hb dX12_fold_81 (by decide) ?_
        refine lv_iinc (v := x7 + 1) (lv' := [(7, .int (x7 + 1)), (8, .int r1), (0, .ref g0), (1, .int x1), (2, .int x2), (5, .long x5)]) hx hb dX12_fold_138 hl (k := 5) rfl (iinc_1 _) (by decide) rfl (fun ls hl => ?_)
        refine lv_goto (tgt := 44) hx hb dX12_fold_141 (by decide) ?_
        exact hK44 _ _ _ _ _ _ _ _ H _ ls h hP hD hS (lv_sub hl [2, 3, 4, 5, 0] rfl)
    · have h := h.2 c_65
      refine lv_aload_n hx hb dX12_fold_68 rfl (lv_at hl 1 rfl) ?_
      refine lv_iload hx hb dX12_fold_69 (lv_at hl 0 rfl) ?_
      refine m_calll (rm := ({ frames := 8, cells := 0, slots := 0, locals := 120 })) (As := [.int r1]) (rest := []) (fun sz => p_X12_told l dC dI a ca g0 _ _ _ _ r1 _ h sz) ⟨hx, hb, hml, hown, hts⟩ (cwV 1 hts (g_V gdM mwM_165 mwM_166 mwM_167 mwM_22 mwM_164) rfl rfl rfl hd_X12_told ⟨Nat.le_of_ble_eq_true rfl, Nat.le_of_ble_eq_true rfl⟩) rfl hl.1 rfl hK hP hD hS hA (Nat.le_of_ble_eq_true rfl) ⟨Nat.le_of_ble_eq_true rfl, Nat.le_of_ble_eq_true rfl⟩ dX12_fold_71 (fun r6 v6 w6 fi6 fl6 H locs h hP hD hS => ?_)
      exact W.lret (v := r6) hx hb hr (fun t ht hW => ⟨⟨_, (v6, w6, fi6, fl6), rfl, h, by rw [ht]; exact hP, va_K.moved hW.alike hK, hD⟩, hS.F ht⟩) hS.2.2 dX12_fold_74
  · have h := h.2 c_56
    refine lv_lload hx hb dX12_fold_59 (lv_at hl 4 rfl) ?_
    exact W.lret (v := x5) hx hb hr (fun t ht hW => ⟨⟨_, (v1, w1, fi1, fl1), rfl, h, by rw [ht]; exact hP, va_K.moved hW.alike hK, hD⟩, hS.F ht⟩) hS.2.2 dX12_fold_61
set_option maxHeartbeats 4000000 in
set_option maxRecDepth 100000 in
theorem t_X12_fold_44 {p : Program} {l : Launch} {e : Env} {s : State} {m : MethodId} {args : Array Value} {below : List Frame} {meth : Method} {c : Code} {A : Nat → Prop} {dC : Nat → ClassId} {dI : Nat → Nat → Nat} {a : Nat → Nat} {ca : Nat → ClassId} {g0 : Nat}  {Q : Int64 → (Nat → Int32) → (Nat → Int64) → (Nat → Nat → Int32) → (Nat → Nat → Int64) → Prop} (hx : p.tables.exec = Jvm.exec) (hb : c.code = cX12_fold) (hr : meth.sig.returnType = (some .long)) (hts : ∀ w ∈ WM, w.before args s = true) (hown : s.vm.findClass RX12 = some m.cls) (hlocks : meth.locks = false) (hml : c.maxLocals = 9) (hA : ∀ q : Nat, s.heap.size ≤ q → A q) (hK : va_K (dC, dI) vwCl (mT ca) s)  : ∀ n : Nat, ∀ (v : Nat → Int32) (w : Nat → Int64) (fi : Nat → Nat → Int32) (fl : Nat → Nat → Int64) (x1 : Int32) (x2 : Int32) (x5 : Int64) (x7 : Int32) (H : Heap) (locs : List Loc) (ls : Array Slot), P_X12_fold_44  Q n v w fi fl x1 x2 x5 x7 → va_P (dC, dI) vwCl (mW a ca g0 v w fi fl) H → va_D A (mW a ca g0 v w fi fl) → va_S A s.heap H locs → lv_has ls 9 [(0, .ref g0), (1, .int x1), (2, .int x2), (5, .long x5), (7, .int x7)] → W p l e (headSpec wmX12_fold ({ frames := 32, cells := 0, slots := 0, locals := 480 })).room s m args below meth c H locs 0 0 (MQ below (va_Ql (S := MSt) (pL Q) (mB dC dI a ca g0 A) A) args s 0 0 A) (F0 m 44 ls []) := by
  intro n
  induction n with
  | zero => intro v w fi fl x1 x2 x5 x7 H locs ls h; exact h.elim
  | succ n ih => exact b_X12_fold_44 hx hb hr hts hown hlocks hml hA hK  ih
def P_X12_fold (v : Nat → Int32) (w : Nat → Int64) (fi : Nat → Nat → Int32) (fl : Nat → Nat → Int64) (p0 : Int32) (p1 : Int32) (p2 : Int64) (Q : Int64 → (Nat → Int32) → (Nat → Int64) → (Nat → Nat → Int32) → (Nat → Nat → Int64) → Prop) : Prop := P_X12_isList (va_up v 19 0) w fi fl p0 (fun r1 v1 w1 fi1 fl1 => ((¬ r1 = 0) → (P_X12_isOp p1 (fun r2 => ((¬ r2 = 0) → (P_X12_begin v1 w1 fi1 fl1 (fun v3 w3 fi3 fl3 => ∃ n9 : Nat, P_X12_fold_44  Q n9 v3 w3 fi3 fl3 p0 p1 p2 (0 : Int32)))) ∧ ((r2 = 0) → (P_X12_fail v1 w1 fi1 fl1 2 (fun r4 v4 w4 fi4 fl4 => Q r4.toInt64 v4 w4 fi4 fl4)))))) ∧ ((r1 = 0) → (P_X12_fail v1 w1 fi1 fl1 1 (fun r5 v5 w5 fi5 fl5 => Q r5.toInt64 v5 w5 fi5 fl5))))
set_option maxHeartbeats 4000000 in
set_option maxRecDepth 100000 in
theorem p_X12_fold (l : Launch) (dC : Nat → ClassId) (dI : Nat → Nat → Nat) (a : Nat → Nat) (ca : Nat → ClassId) (g0 : Nat) (v : Nat → Int32) (w : Nat → Int64) (fi : Nat → Nat → Int32) (fl : Nat → Nat → Int64) (p0 : Int32) (p1 : Int32) (p2 : Int64) (Q : Int64 → (Nat → Int32) → (Nat → Int64) → (Nat → Nat → Int32) → (Nat → Nat → Int64) → Prop) (h : P_X12_fold v w fi fl p0 p1 p2 Q) (sz : Nat) : Met l yX12_fold wmX12_fold ({ frames := 32, cells := 0, slots := 0, locals := 480 }) (va_Pc [.ref g0, .int p0, .int p1, .long p2] (mPre dC dI a ca g0 v w fi fl sz)) (va_Ql (S := MSt) (pL Q) (mB dC dI a ca g0 (va_A (mW a ca g0 v w fi fl) sz)) (va_A (mW a ca g0 v w fi fl) sz)) 0 0 (va_A (mW a ca g0 v w fi fl) sz) := by
  refine Met.ofW (cc := cX12_fold) (maxL := 9) (ret := (some .long)) (by decide) rfl ?_
  intro p e s m args below meth c s₁ B hml hv
  obtain ⟨rfl, hsz, hP, hK, hD0⟩ := hv
  have hx := B.exec
  have hb := B.bytes
  have hr := B.returns
  have hts : ∀ w ∈ WM, w.before _ s = true := fun w h => atoms_spec (ws := wmX12_fold) B.pre w (List.mem_cons_of_mem _ h)
  have hown : s.vm.findClass RX12 = some m.cls := findClass_of_methodNamed B.named
  have hlocks := B.notSynchronized
  subst hsz
  have hD := hD0.self (sz := s.heap.size)
  generalize hAe : va_A (mW a ca g0 v w fi fl) s.heap.size = A at hD ⊢
  have hA : ∀ q : Nat, s.heap.size ≤ q → A q := fun q h => by rw [← hAe]; exact Or.inr h
  generalize hH : s.heap = H at hP ⊢
  have hS : va_S A s.heap H [] := by rw [← hH]; exact va_S.rf
  have hl := lv_entry [.ref g0, .int p0, .int p1, .long p2] (n := 9) (Nat.le_of_ble_eq_true rfl)
  rw [lg_entry_eq]
  generalize (lg_sl [.ref g0, .int p0, .int p1, .long p2] ++ List.replicate (9 - (lg_sl [.ref g0, .int p0, .int p1, .long p2]).length) Slot.unset).toArray = ls at hl ⊢
  have hl : lv_has ls 9 [(0, .ref g0), (1, .int p0), (2, .int p1), (3, .long p2)] := hl
  unfold P_X12_fold at h
  refine lv_aload_n hx hb dX12_fold_0 rfl (lv_at hl 0 rfl) ?_
  refine lv_iconst (v := 0) hx hb dX12_fold_1 (by decide) ?_
  refine m_put_19 hx hb hts hinM hown hK hP hD hS (hts _ mwM_0) dX12_fold_2 (fun H locs hP hD hS => ?_)
  refine lv_aload_n hx hb dX12_fold_5 rfl (lv_at hl 0 rfl) ?_
  refine lv_iload_n hx hb dX12_fold_6 rfl (lv_at hl 1 rfl) ?_
  refine m_calli (rm := ({ frames := 4, cells := 0, slots := 0, locals := 60 })) (As := [.int p0]) (rest := []) (fun sz => p_X12_isList l dC dI a ca g0 _ _ _ _ p0 _ h sz) ⟨hx, hb, hml, hown, hts⟩ (cwV 1 hts (g_V gdM mwM_33 mwM_34 mwM_35 mwM_22 mwM_32) rfl rfl rfl hd_X12_isList ⟨Nat.le_of_ble_eq_true rfl, Nat.le_of_ble_eq_true rfl⟩) rfl hl.1 rfl hK hP hD hS hA (Nat.le_of_ble_eq_true rfl) ⟨Nat.le_of_ble_eq_true rfl, Nat.le_of_ble_eq_true rfl⟩ dX12_fold_7 (fun r1 v1 w1 fi1 fl1 H locs h hP hD hS => ?_)
  refine lv_if_ne (tgt := 20) hx hb dX12_fold_10 (by decide) (fun c_10 => ?_) (fun c_10 => ?_)
  · have h := h.1 c_10
    refine lv_iload_n hx hb dX12_fold_20 rfl (lv_at hl 2 rfl) ?_
    refine s_calli (rm := ({ frames := 4, cells := 0, slots := 0, locals := 60 })) (As := [.int p1]) (rest := []) (fun sz => p_X12_isOp l dC dI p1 _ h sz) ⟨hx, hb, hml, hown, hts⟩ (va_cwS 1 hts (g_S gdM mwM_30 mwM_31 mwM_22 mwM_29) rfl rfl rfl hd_X12_isOp ⟨Nat.le_of_ble_eq_true rfl, Nat.le_of_ble_eq_true rfl⟩) rfl hl.1 rfl hP hD hS hA (Nat.le_of_ble_eq_true rfl) ⟨Nat.le_of_ble_eq_true rfl, Nat.le_of_ble_eq_true rfl⟩ dX12_fold_21 (fun r2 H locs h hP hS => ?_)
    refine lv_if_ne (tgt := 34) hx hb dX12_fold_24 (by decide) (fun c_24 => ?_) (fun c_24 => ?_)
    · have h := h.1 c_24
      refine lv_aload_n hx hb dX12_fold_34 rfl (lv_at hl 0 rfl) ?_
      refine m_callv (rm := ({ frames := 4, cells := 0, slots := 0, locals := 60 })) (As := []) (rest := []) (fun sz => p_X12_begin l dC dI a ca g0 _ _ _ _  _ h sz) ⟨hx, hb, hml, hown, hts⟩ (cwV 0 hts (g_V gdM mwM_157 mwM_158 mwM_159 mwM_22 mwM_156) rfl rfl rfl hd_X12_begin ⟨Nat.le_of_ble_eq_true rfl, Nat.le_of_ble_eq_true rfl⟩) rfl hl.1 rfl hK hP hD hS hA (Nat.le_of_ble_eq_true rfl) ⟨Nat.le_of_ble_eq_true rfl, Nat.le_of_ble_eq_true rfl⟩ dX12_fold_35 (fun v3 w3 fi3 fl3 H locs h hP hD hS => ?_)
      refine lv_lload_n hx hb dX12_fold_38 rfl (lv_at hl 3 rfl) ?_
      refine lv_lstore (lv' := [(5, .long p2), (0, .ref g0), (1, .int p0), (2, .int p1), (3, .long p2)]) hx hb dX12_fold_39 hl (by decide) rfl (fun ls hl => ?_)
      refine lv_iconst (v := 0) hx hb dX12_fold_41 (by decide) ?_
      refine lv_istore (lv' := [(7, .int 0), (5, .long p2), (0, .ref g0), (1, .int p0), (2, .int p1), (3, .long p2)]) hx hb dX12_fold_42 hl (by decide) rfl (fun ls hl => ?_)
      obtain ⟨n9, h⟩ := h
      exact t_X12_fold_44 hx hb hr hts hown hlocks hml hA hK  n9 _ _ _ _ _ _ _ _ H _ ls h hP hD hS (lv_sub hl [2, 3, 4, 1, 0] rfl)
    · have h := h.2 c_24
      refine lv_aload_n hx hb dX12_fold_27 rfl (lv_at hl 0 rfl) ?_
      refine lv_iconst (v := 2) hx hb dX12_fold_28 (by decide) ?_
      refine m_calli (rm := ({ frames := 4, cells := 0, slots := 0, locals := 60 })) (As := [.int 2]) (rest := []) (fun sz => p_X12_fail l dC dI a ca g0 _ _ _ _ 2 _ h sz) ⟨hx, hb, hml, hown, hts⟩ (cwV 1 hts (g_V gdM mwM_19 mwM_20 mwM_21 mwM_22 mwM_18) rfl rfl rfl hd_X12_fail ⟨Nat.le_of_ble_eq_true rfl, Nat.le_of_ble_eq_true rfl⟩) rfl hl.1 rfl hK hP hD hS hA (Nat.le_of_ble_eq_true rfl) ⟨Nat.le_of_ble_eq_true rfl, Nat.le_of_ble_eq_true rfl⟩ dX12_fold_29 (fun r4 v4 w4 fi4 fl4 H locs h hP hD hS => ?_)
      refine lv_i2l hx hb dX12_fold_32 rfl ?_
      exact W.lret (v := r4.toInt64) hx hb hr (fun t ht hW => ⟨⟨_, (v4, w4, fi4, fl4), rfl, h, by rw [ht]; exact hP, va_K.moved hW.alike hK, hD⟩, hS.F ht⟩) hS.2.2 dX12_fold_33
  · have h := h.2 c_10
    refine lv_aload_n hx hb dX12_fold_13 rfl (lv_at hl 0 rfl) ?_
    refine lv_iconst (v := 1) hx hb dX12_fold_14 (by decide) ?_
    refine m_calli (rm := ({ frames := 4, cells := 0, slots := 0, locals := 60 })) (As := [.int 1]) (rest := []) (fun sz => p_X12_fail l dC dI a ca g0 _ _ _ _ 1 _ h sz) ⟨hx, hb, hml, hown, hts⟩ (cwV 1 hts (g_V gdM mwM_19 mwM_20 mwM_21 mwM_22 mwM_18) rfl rfl rfl hd_X12_fail ⟨Nat.le_of_ble_eq_true rfl, Nat.le_of_ble_eq_true rfl⟩) rfl hl.1 rfl hK hP hD hS hA (Nat.le_of_ble_eq_true rfl) ⟨Nat.le_of_ble_eq_true rfl, Nat.le_of_ble_eq_true rfl⟩ dX12_fold_15 (fun r5 v5 w5 fi5 fl5 H locs h hP hD hS => ?_)
    refine lv_i2l hx hb dX12_fold_18 rfl ?_
    exact W.lret (v := r5.toInt64) hx hb hr (fun t ht hW => ⟨⟨_, (v5, w5, fi5, fl5), rfl, h, by rw [ht]; exact hP, va_K.moved hW.alike hK, hD⟩, hS.F ht⟩) hS.2.2 dX12_fold_19

abbrev wmX12_find : List Cond := .code yX12_find cX12_find 7 (some .long) :: WM
theorem hd_X12_find : yX12_find.cls = RX12 ∧ yX12_find.cls ≠ "java/lang/invoke/MethodHandle" ∧ yX12_find.cls ≠ "java/lang/invoke/VarHandle" ∧ (parseMethodDescriptor yX12_find.desc).map (fun d => d.parameters.length) = some 3 := by decide +kernel
def B_X12_find_41  (K41 : (Nat → Int32) → (Nat → Int64) → (Nat → Nat → Int32) → (Nat → Nat → Int64) → Int32 → Int32 → Int64 → Int32 → Prop) (Q : Int64 → (Nat → Int32) → (Nat → Int64) → (Nat → Nat → Int32) → (Nat → Nat → Int64) → Prop) (v : Nat → Int32) (w : Nat → Int64) (fi : Nat → Nat → Int32) (fl : Nat → Nat → Int64) (x1 : Int32) (x2 : Int32) (x3 : Int64) (x5 : Int32) : Prop := P_X12_reach v w fi fl x1 x5 (fun r1 v1 w1 fi1 fl1 => ((¬ r1 = 2) → (((r1 = 1) → (P_X12_work v1 w1 fi1 fl1 x1 x5 (fun r2 v2 w2 fi2 fl2 => ((r2 = 1) → (P_X12_meets x2 (w2 25) x3 (fun r3 => ((r3 = 0) → (K41 v2 w2 fi2 fl2 x1 x2 x3 (x5 + 1))) ∧ ((¬ r3 = 0) → (Q x5.toInt64 v2 w2 fi2 fl2))))) ∧ ((¬ r2 = 1) → (P_X12_told v2 w2 fi2 fl2 r2 (fun r4 v4 w4 fi4 fl4 => Q r4 v4 w4 fi4 fl4)))))) ∧ ((¬ r1 = 1) → (P_X12_told v1 w1 fi1 fl1 r1 (fun r5 v5 w5 fi5 fl5 => Q r5 v5 w5 fi5 fl5))))) ∧ ((r1 = 2) → (Q (-1) v1 w1 fi1 fl1)))
def P_X12_find_41  (Q : Int64 → (Nat → Int32) → (Nat → Int64) → (Nat → Nat → Int32) → (Nat → Nat → Int64) → Prop) : Nat → (Nat → Int32) → (Nat → Int64) → (Nat → Nat → Int32) → (Nat → Nat → Int64) → Int32 → Int32 → Int64 → Int32 → Prop
  | 0 => fun _ _ _ _ _ _ _ _ => False
  | n + 1 => B_X12_find_41  (P_X12_find_41  Q n) Q
set_option maxHeartbeats 4000000 in
set_option maxRecDepth 100000 in
theorem b_X12_find_41 {p : Program} {l : Launch} {e : Env} {s : State} {m : MethodId} {args : Array Value} {below : List Frame} {meth : Method} {c : Code} {A : Nat → Prop} {dC : Nat → ClassId} {dI : Nat → Nat → Nat} {a : Nat → Nat} {ca : Nat → ClassId} {g0 : Nat}  {K41 : (Nat → Int32) → (Nat → Int64) → (Nat → Nat → Int32) → (Nat → Nat → Int64) → Int32 → Int32 → Int64 → Int32 → Prop} {Q : Int64 → (Nat → Int32) → (Nat → Int64) → (Nat → Nat → Int32) → (Nat → Nat → Int64) → Prop} (hx : p.tables.exec = Jvm.exec) (hb : c.code = cX12_find) (hr : meth.sig.returnType = (some .long)) (hts : ∀ w ∈ WM, w.before args s = true) (hown : s.vm.findClass RX12 = some m.cls) (hlocks : meth.locks = false) (hml : c.maxLocals = 7) (hA : ∀ q : Nat, s.heap.size ≤ q → A q) (hK : va_K (dC, dI) vwCl (mT ca) s)  (hK41 : ∀ (v : Nat → Int32) (w : Nat → Int64) (fi : Nat → Nat → Int32) (fl : Nat → Nat → Int64) (x1 : Int32) (x2 : Int32) (x3 : Int64) (x5 : Int32) (H : Heap) (locs : List Loc) (ls : Array Slot), K41 v w fi fl x1 x2 x3 x5 → va_P (dC, dI) vwCl (mW a ca g0 v w fi fl) H → va_D A (mW a ca g0 v w fi fl) → va_S A s.heap H locs → lv_has ls 7 [(0, .ref g0), (1, .int x1), (2, .int x2), (3, .long x3), (5, .int x5)] → W p l e (headSpec wmX12_find ({ frames := 32, cells := 0, slots := 0, locals := 480 })).room s m args below meth c H locs 0 0 (MQ below (va_Ql (S := MSt) (pL Q) (mB dC dI a ca g0 A) A) args s 0 0 A) (F0 m 41 ls [])) : ∀ (v : Nat → Int32) (w : Nat → Int64) (fi : Nat → Nat → Int32) (fl : Nat → Nat → Int64) (x1 : Int32) (x2 : Int32) (x3 : Int64) (x5 : Int32) (H : Heap) (locs : List Loc) (ls : Array Slot), B_X12_find_41  K41 Q v w fi fl x1 x2 x3 x5 → va_P (dC, dI) vwCl (mW a ca g0 v w fi fl) H → va_D A (mW a ca g0 v w fi fl) → va_S A s.heap H locs → lv_has ls 7 [(0, .ref g0), (1, .int x1), (2, .int x2), (3, .long x3), (5, .int x5)] → W p l e (headSpec wmX12_find ({ frames := 32, cells := 0, slots := 0, locals := 480 })).room s m args below meth c H locs 0 0 (MQ below (va_Ql (S := MSt) (pL Q) (mB dC dI a ca g0 A) A) args s 0 0 A) (F0 m 41 ls []) := by
  intro v w fi fl x1 x2 x3 x5 H locs ls h hP hD hS hl
  unfold B_X12_find_41 at h
  refine lv_aload_n hx hb dX12_find_41 rfl (lv_at hl 0 rfl) ?_
  refine lv_iload_n hx hb dX12_find_42 rfl (lv_at hl 1 rfl) ?_
  refine lv_iload hx hb dX12_find_43 (lv_at hl 4 rfl) ?_
  refine m_calli (rm := ({ frames := 28, cells := 0, slots := 0, locals := 420 })) (As := [.int x1, .int x5]) (rest := []) (fun sz => p_X12_reach l dC dI a ca g0 _ _ _ _ x1 x5 _ h sz) ⟨hx, hb, hml, hown, hts⟩ (cwV 2 hts (g_V gdM mwM_169 mwM_170 mwM_171 mwM_22 mwM_168) rfl rfl rfl hd_X12_reach ⟨Nat.le_of_ble_eq_true rfl, Nat.le_of_ble_eq_true rfl⟩) rfl hl.1 rfl hK hP hD hS hA (Nat.le_of_ble_eq_true rfl) ⟨Nat.le_of_ble_eq_true rfl, Nat.le_of_ble_eq_true rfl⟩ dX12_find_45 (fun r1 v1 w1 fi1 fl1 H locs h hP hD hS => ?_)
  refine lv_istore (lv' := [(6, .int r1), (0, .ref g0), (1, .int x1), (2, .int x2), (3, .long x3), (5, .int x5)]) hx hb dX12_find_48 hl (by decide) rfl (fun ls hl => ?_)
  refine lv_iload hx hb dX12_find_50 (lv_at hl 0 rfl) ?_
  refine lv_iconst (v := 2) hx hb dX12_find_52 (by decide) ?_
  refine lv_icmp_ne (tgt := 60) hx hb dX12_find_53 (by decide) (fun c_53 => ?_) (fun c_53 => ?_)
  · have h := h.1 c_53
    refine lv_iload hx hb dX12_find_60 (lv_at hl 0 rfl) ?_
    refine lv_iconst (v := 1) hx hb dX12_find_62 (by decide) ?_
    refine lv_icmp_eq (tgt := 73) hx hb dX12_find_63 (by decide) (fun c_63 => ?_) (fun c_63 => ?_)
    · have h := h.1 c_63
      refine lv_aload_n hx hb dX12_find_73 rfl (lv_at hl 1 rfl) ?_
      refine lv_iload_n hx hb dX12_find_74 rfl (lv_at hl 2 rfl) ?_
      refine lv_iload hx hb dX12_find_75 (lv_at hl 5 rfl) ?_
      refine m_calli (rm := ({ frames := 28, cells := 0, slots := 0, locals := 420 })) (As := [.int x1, .int x5]) (rest := []) (fun sz => p_X12_work l dC dI a ca g0 _ _ _ _ x1 x5 _ h sz) ⟨hx, hb, hml, hown, hts⟩ (cwV 2 hts (g_V gdM mwM_161 mwM_162 mwM_163 mwM_22 mwM_160) rfl rfl rfl hd_X12_work ⟨Nat.le_of_ble_eq_true rfl, Nat.le_of_ble_eq_true rfl⟩) rfl hl.1 rfl hK hP hD hS hA (Nat.le_of_ble_eq_true rfl) ⟨Nat.le_of_ble_eq_true rfl, Nat.le_of_ble_eq_true rfl⟩ dX12_find_77 (fun r2 v2 w2 fi2 fl2 H locs h hP hD hS => ?_)
      refine lv_istore (lv' := [(6, .int r2), (0, .ref g0), (1, .int x1), (2, .int x2), (3, .long x3), (5, .int x5)]) hx hb dX12_find_80 hl (by decide) rfl (fun ls hl => ?_)
      refine lv_iload hx hb dX12_find_82 (lv_at hl 0 rfl) ?_
      refine lv_iconst (v := 1) hx hb dX12_find_84 (by decide) ?_
      refine lv_icmp_eq (tgt := 95) hx hb dX12_find_85 (by decide) (fun c_85 => ?_) (fun c_85 => ?_)
      · have h := h.1 c_85
        refine lv_iload_n hx hb dX12_find_95 rfl (lv_at hl 3 rfl) ?_
        refine lv_aload_n hx hb dX12_find_96 rfl (lv_at hl 1 rfl) ?_
        refine va_get (D := (dC, dI)) (ci := 11) (v := .long (w2 25)) (C := RX12) (T := TX12) (N := 32) hx hb hts hinM hown hK hP 0 rfl rfl 25 (by decide) (hts _ mwM_56) (fun _ h9 => h9) rfl dX12_find_97 ?_
        refine lv_lload_n hx hb dX12_find_100 rfl (lv_at hl 4 rfl) ?_
        refine s_calli (rm := ({ frames := 4, cells := 0, slots := 0, locals := 60 })) (As := [.int x2, .long (w2 25), .long x3]) (rest := []) (fun sz => p_X12_meets l dC dI x2 (w2 25) x3 _ h sz) ⟨hx, hb, hml, hown, hts⟩ (va_cwS 3 hts (g_S gdM mwM_88 mwM_89 mwM_22 mwM_87) rfl rfl rfl hd_X12_meets ⟨Nat.le_of_ble_eq_true rfl, Nat.le_of_ble_eq_true rfl⟩) rfl hl.1 rfl hP hD hS hA (Nat.le_of_ble_eq_true rfl) ⟨Nat.le_of_ble_eq_true rfl, Nat.le_of_ble_eq_true rfl⟩ dX12_find_101 (fun r3 H locs h hP hS => ?_)
        refine lv_if_eq (tgt := 111) hx hb dX12_find_104 (by decide) (fun c_104 => ?_) (fun c_104 => ?_)
        · have h := h.1 c_104
          refine lv_iinc (v := x5 + 1) (lv' := [(5, .int (x5 + 1)), (6, .int r2), (0, .ref g0), (1, .int x1), (2, .int x2), (3, .long x3)]) hx hb dX12_find_111 hl (k := 5) rfl (iinc_1 _) (by decide) rfl (fun ls hl => ?_)
          refine lv_goto (tgt := 41) hx hb dX12_find_114 (by decide) ?_
          exact hK41 _ _ _ _ _ _ _ _ H _ ls h hP hD hS (lv_sub hl [2, 3, 4, 5, 0] rfl)
        · have h := h.2 c_104
          refine lv_iload hx hb dX12_find_107 (lv_at hl 5 rfl) ?_
          refine lv_i2l hx hb dX12_find_109 rfl ?_
          exact W.lret (v := x5.toInt64) hx hb hr (fun t ht hW => ⟨⟨_, (v2, w2, fi2, fl2), rfl, h, by rw [ht]; exact hP, va_K.moved hW.alike hK, hD⟩, hS.F ht⟩) hS.2.2 dX12_find_110
      · have h := h.2 c_85
        refine lv_aload_n hx hb dX12_find_88 rfl (lv_at hl 1 rfl) ?_
        refine lv_iload hx hb dX12_find_89 (lv_at hl 0 rfl) ?_
        refine m_calll (rm := ({ frames := 8, cells := 0, slots := 0, locals := 120 })) (As := [.int r2]) (rest := []) (fun sz => p_X12_told l dC dI a ca g0 _ _ _ _ r2 _ h sz) ⟨hx, hb, hml, hown, hts⟩ (cwV 1 hts (g_V gdM mwM_165 mwM_166 mwM_167 mwM_22 mwM_164) rfl rfl rfl hd_X12_told ⟨Nat.le_of_ble_eq_true rfl, Nat.le_of_ble_eq_true rfl⟩) rfl hl.1 rfl hK hP hD hS hA (Nat.le_of_ble_eq_true rfl) ⟨Nat.le_of_ble_eq_true rfl, Nat.le_of_ble_eq_true rfl⟩ dX12_find_91 (fun r4 v4 w4 fi4 fl4 H locs h hP hD hS => ?_)
        exact W.lret (v := r4) hx hb hr (fun t ht hW => ⟨⟨_, (v4, w4, fi4, fl4), rfl, h, by rw [ht]; exact hP, va_K.moved hW.alike hK, hD⟩, hS.F ht⟩) hS.2.2 dX12_find_94
    · have h := h.2 c_63
      refine lv_aload_n hx hb dX12_find_66 rfl (lv_at hl 1 rfl) ?_
      refine lv_iload hx hb dX12_find_67 (lv_at hl 0 rfl) ?_
      refine m_calll (rm := ({ frames := 8, cells := 0, slots := 0, locals := 120 })) (As := [.int r1]) (rest := []) (fun sz => p_X12_told l dC dI a ca g0 _ _ _ _ r1 _ h sz) ⟨hx, hb, hml, hown, hts⟩ (cwV 1 hts (g_V gdM mwM_165 mwM_166 mwM_167 mwM_22 mwM_164) rfl rfl rfl hd_X12_told ⟨Nat.le_of_ble_eq_true rfl, Nat.le_of_ble_eq_true rfl⟩) rfl hl.1 rfl hK hP hD hS hA (Nat.le_of_ble_eq_true rfl) ⟨Nat.le_of_ble_eq_true rfl, Nat.le_of_ble_eq_true rfl⟩ dX12_find_69 (fun r5 v5 w5 fi5 fl5 H locs h hP hD hS => ?_)
      exact W.lret (v := r5) hx hb hr (fun t ht hW => ⟨⟨_, (v5, w5, fi5, fl5), rfl, h, by rw [ht]; exact hP, va_K.moved hW.alike hK, hD⟩, hS.F ht⟩) hS.2.2 dX12_find_72
  · have h := h.2 c_53
    refine lv_ldc2 (v := (-1)) hx hb hown (hts _ mwM_172) dX12_find_56 ?_
    exact W.lret (v := (-1)) hx hb hr (fun t ht hW => ⟨⟨_, (v1, w1, fi1, fl1), rfl, h, by rw [ht]; exact hP, va_K.moved hW.alike hK, hD⟩, hS.F ht⟩) hS.2.2 dX12_find_59
set_option maxHeartbeats 4000000 in
set_option maxRecDepth 100000 in
theorem t_X12_find_41 {p : Program} {l : Launch} {e : Env} {s : State} {m : MethodId} {args : Array Value} {below : List Frame} {meth : Method} {c : Code} {A : Nat → Prop} {dC : Nat → ClassId} {dI : Nat → Nat → Nat} {a : Nat → Nat} {ca : Nat → ClassId} {g0 : Nat}  {Q : Int64 → (Nat → Int32) → (Nat → Int64) → (Nat → Nat → Int32) → (Nat → Nat → Int64) → Prop} (hx : p.tables.exec = Jvm.exec) (hb : c.code = cX12_find) (hr : meth.sig.returnType = (some .long)) (hts : ∀ w ∈ WM, w.before args s = true) (hown : s.vm.findClass RX12 = some m.cls) (hlocks : meth.locks = false) (hml : c.maxLocals = 7) (hA : ∀ q : Nat, s.heap.size ≤ q → A q) (hK : va_K (dC, dI) vwCl (mT ca) s)  : ∀ n : Nat, ∀ (v : Nat → Int32) (w : Nat → Int64) (fi : Nat → Nat → Int32) (fl : Nat → Nat → Int64) (x1 : Int32) (x2 : Int32) (x3 : Int64) (x5 : Int32) (H : Heap) (locs : List Loc) (ls : Array Slot), P_X12_find_41  Q n v w fi fl x1 x2 x3 x5 → va_P (dC, dI) vwCl (mW a ca g0 v w fi fl) H → va_D A (mW a ca g0 v w fi fl) → va_S A s.heap H locs → lv_has ls 7 [(0, .ref g0), (1, .int x1), (2, .int x2), (3, .long x3), (5, .int x5)] → W p l e (headSpec wmX12_find ({ frames := 32, cells := 0, slots := 0, locals := 480 })).room s m args below meth c H locs 0 0 (MQ below (va_Ql (S := MSt) (pL Q) (mB dC dI a ca g0 A) A) args s 0 0 A) (F0 m 41 ls []) := by
  intro n
  induction n with
  | zero => intro v w fi fl x1 x2 x3 x5 H locs ls h; exact h.elim
  | succ n ih => exact b_X12_find_41 hx hb hr hts hown hlocks hml hA hK  ih
def P_X12_find (v : Nat → Int32) (w : Nat → Int64) (fi : Nat → Nat → Int32) (fl : Nat → Nat → Int64) (p0 : Int32) (p1 : Int32) (p2 : Int64) (Q : Int64 → (Nat → Int32) → (Nat → Int64) → (Nat → Nat → Int32) → (Nat → Nat → Int64) → Prop) : Prop := P_X12_isList (va_up v 19 0) w fi fl p0 (fun r1 v1 w1 fi1 fl1 => ((¬ r1 = 0) → (P_X12_isCond p1 (fun r2 => ((¬ r2 = 0) → (P_X12_begin v1 w1 fi1 fl1 (fun v3 w3 fi3 fl3 => ∃ n9 : Nat, P_X12_find_41  Q n9 v3 w3 fi3 fl3 p0 p1 p2 (0 : Int32)))) ∧ ((r2 = 0) → (P_X12_fail v1 w1 fi1 fl1 2 (fun r4 v4 w4 fi4 fl4 => Q r4.toInt64 v4 w4 fi4 fl4)))))) ∧ ((r1 = 0) → (P_X12_fail v1 w1 fi1 fl1 1 (fun r5 v5 w5 fi5 fl5 => Q r5.toInt64 v5 w5 fi5 fl5))))
set_option maxHeartbeats 4000000 in
set_option maxRecDepth 100000 in
theorem p_X12_find (l : Launch) (dC : Nat → ClassId) (dI : Nat → Nat → Nat) (a : Nat → Nat) (ca : Nat → ClassId) (g0 : Nat) (v : Nat → Int32) (w : Nat → Int64) (fi : Nat → Nat → Int32) (fl : Nat → Nat → Int64) (p0 : Int32) (p1 : Int32) (p2 : Int64) (Q : Int64 → (Nat → Int32) → (Nat → Int64) → (Nat → Nat → Int32) → (Nat → Nat → Int64) → Prop) (h : P_X12_find v w fi fl p0 p1 p2 Q) (sz : Nat) : Met l yX12_find wmX12_find ({ frames := 32, cells := 0, slots := 0, locals := 480 }) (va_Pc [.ref g0, .int p0, .int p1, .long p2] (mPre dC dI a ca g0 v w fi fl sz)) (va_Ql (S := MSt) (pL Q) (mB dC dI a ca g0 (va_A (mW a ca g0 v w fi fl) sz)) (va_A (mW a ca g0 v w fi fl) sz)) 0 0 (va_A (mW a ca g0 v w fi fl) sz) := by
  refine Met.ofW (cc := cX12_find) (maxL := 7) (ret := (some .long)) (by decide) rfl ?_
  intro p e s m args below meth c s₁ B hml hv
  obtain ⟨rfl, hsz, hP, hK, hD0⟩ := hv
  have hx := B.exec
  have hb := B.bytes
  have hr := B.returns
  have hts : ∀ w ∈ WM, w.before _ s = true := fun w h => atoms_spec (ws := wmX12_find) B.pre w (List.mem_cons_of_mem _ h)
  have hown : s.vm.findClass RX12 = some m.cls := findClass_of_methodNamed B.named
  have hlocks := B.notSynchronized
  subst hsz
  have hD := hD0.self (sz := s.heap.size)
  generalize hAe : va_A (mW a ca g0 v w fi fl) s.heap.size = A at hD ⊢
  have hA : ∀ q : Nat, s.heap.size ≤ q → A q := fun q h => by rw [← hAe]; exact Or.inr h
  generalize hH : s.heap = H at hP ⊢
  have hS : va_S A s.heap H [] := by rw [← hH]; exact va_S.rf
  have hl := lv_entry [.ref g0, .int p0, .int p1, .long p2] (n := 7) (Nat.le_of_ble_eq_true rfl)
  rw [lg_entry_eq]
  generalize (lg_sl [.ref g0, .int p0, .int p1, .long p2] ++ List.replicate (7 - (lg_sl [.ref g0, .int p0, .int p1, .long p2]).length) Slot.unset).toArray = ls at hl ⊢
  have hl : lv_has ls 7 [(0, .ref g0), (1, .int p0), (2, .int p1), (3, .long p2)] := hl
  unfold P_X12_find at h
  refine lv_aload_n hx hb dX12_find_0 rfl (lv_at hl 0 rfl) ?_
  refine lv_iconst (v := 0) hx hb dX12_find_1 (by decide) ?_
  refine m_put_19 hx hb hts hinM hown hK hP hD hS (hts _ mwM_0) dX12_find_2 (fun H locs hP hD hS => ?_)
  refine lv_aload_n hx hb dX12_find_5 rfl (lv_at hl 0 rfl) ?_
  refine lv_iload_n hx hb dX12_find_6 rfl (lv_at hl 1 rfl) ?_
  refine m_calli (rm := ({ frames := 4, cells := 0, slots := 0, locals := 60 })) (As := [.int p0]) (rest := []) (fun sz => p_X12_isList l dC dI a ca g0 _ _ _ _ p0 _ h sz) ⟨hx, hb, hml, hown, hts⟩ (cwV 1 hts (g_V gdM mwM_33 mwM_34 mwM_35 mwM_22 mwM_32) rfl rfl rfl hd_X12_isList ⟨Nat.le_of_ble_eq_true rfl, Nat.le_of_ble_eq_true rfl⟩) rfl hl.1 rfl hK hP hD hS hA (Nat.le_of_ble_eq_true rfl) ⟨Nat.le_of_ble_eq_true rfl, Nat.le_of_ble_eq_true rfl⟩ dX12_find_7 (fun r1 v1 w1 fi1 fl1 H locs h hP hD hS => ?_)
  refine lv_if_ne (tgt := 20) hx hb dX12_find_10 (by decide) (fun c_10 => ?_) (fun c_10 => ?_)
  · have h := h.1 c_10
    refine lv_iload_n hx hb dX12_find_20 rfl (lv_at hl 2 rfl) ?_
    refine s_calli (rm := ({ frames := 4, cells := 0, slots := 0, locals := 60 })) (As := [.int p1]) (rest := []) (fun sz => p_X12_isCond l dC dI p1 _ h sz) ⟨hx, hb, hml, hown, hts⟩ (va_cwS 1 hts (g_S gdM mwM_37 mwM_38 mwM_22 mwM_36) rfl rfl rfl hd_X12_isCond ⟨Nat.le_of_ble_eq_true rfl, Nat.le_of_ble_eq_true rfl⟩) rfl hl.1 rfl hP hD hS hA (Nat.le_of_ble_eq_true rfl) ⟨Nat.le_of_ble_eq_true rfl, Nat.le_of_ble_eq_true rfl⟩ dX12_find_21 (fun r2 H locs h hP hS => ?_)
    refine lv_if_ne (tgt := 34) hx hb dX12_find_24 (by decide) (fun c_24 => ?_) (fun c_24 => ?_)
    · have h := h.1 c_24
      refine lv_aload_n hx hb dX12_find_34 rfl (lv_at hl 0 rfl) ?_
      refine m_callv (rm := ({ frames := 4, cells := 0, slots := 0, locals := 60 })) (As := []) (rest := []) (fun sz => p_X12_begin l dC dI a ca g0 _ _ _ _  _ h sz) ⟨hx, hb, hml, hown, hts⟩ (cwV 0 hts (g_V gdM mwM_157 mwM_158 mwM_159 mwM_22 mwM_156) rfl rfl rfl hd_X12_begin ⟨Nat.le_of_ble_eq_true rfl, Nat.le_of_ble_eq_true rfl⟩) rfl hl.1 rfl hK hP hD hS hA (Nat.le_of_ble_eq_true rfl) ⟨Nat.le_of_ble_eq_true rfl, Nat.le_of_ble_eq_true rfl⟩ dX12_find_35 (fun v3 w3 fi3 fl3 H locs h hP hD hS => ?_)
      refine lv_iconst (v := 0) hx hb dX12_find_38 (by decide) ?_
      refine lv_istore (lv' := [(5, .int 0), (0, .ref g0), (1, .int p0), (2, .int p1), (3, .long p2)]) hx hb dX12_find_39 hl (by decide) rfl (fun ls hl => ?_)
      obtain ⟨n9, h⟩ := h
      exact t_X12_find_41 hx hb hr hts hown hlocks hml hA hK  n9 _ _ _ _ _ _ _ _ H _ ls h hP hD hS (lv_sub hl [1, 2, 3, 4, 0] rfl)
    · have h := h.2 c_24
      refine lv_aload_n hx hb dX12_find_27 rfl (lv_at hl 0 rfl) ?_
      refine lv_iconst (v := 2) hx hb dX12_find_28 (by decide) ?_
      refine m_calli (rm := ({ frames := 4, cells := 0, slots := 0, locals := 60 })) (As := [.int 2]) (rest := []) (fun sz => p_X12_fail l dC dI a ca g0 _ _ _ _ 2 _ h sz) ⟨hx, hb, hml, hown, hts⟩ (cwV 1 hts (g_V gdM mwM_19 mwM_20 mwM_21 mwM_22 mwM_18) rfl rfl rfl hd_X12_fail ⟨Nat.le_of_ble_eq_true rfl, Nat.le_of_ble_eq_true rfl⟩) rfl hl.1 rfl hK hP hD hS hA (Nat.le_of_ble_eq_true rfl) ⟨Nat.le_of_ble_eq_true rfl, Nat.le_of_ble_eq_true rfl⟩ dX12_find_29 (fun r4 v4 w4 fi4 fl4 H locs h hP hD hS => ?_)
      refine lv_i2l hx hb dX12_find_32 rfl ?_
      exact W.lret (v := r4.toInt64) hx hb hr (fun t ht hW => ⟨⟨_, (v4, w4, fi4, fl4), rfl, h, by rw [ht]; exact hP, va_K.moved hW.alike hK, hD⟩, hS.F ht⟩) hS.2.2 dX12_find_33
  · have h := h.2 c_10
    refine lv_aload_n hx hb dX12_find_13 rfl (lv_at hl 0 rfl) ?_
    refine lv_iconst (v := 1) hx hb dX12_find_14 (by decide) ?_
    refine m_calli (rm := ({ frames := 4, cells := 0, slots := 0, locals := 60 })) (As := [.int 1]) (rest := []) (fun sz => p_X12_fail l dC dI a ca g0 _ _ _ _ 1 _ h sz) ⟨hx, hb, hml, hown, hts⟩ (cwV 1 hts (g_V gdM mwM_19 mwM_20 mwM_21 mwM_22 mwM_18) rfl rfl rfl hd_X12_fail ⟨Nat.le_of_ble_eq_true rfl, Nat.le_of_ble_eq_true rfl⟩) rfl hl.1 rfl hK hP hD hS hA (Nat.le_of_ble_eq_true rfl) ⟨Nat.le_of_ble_eq_true rfl, Nat.le_of_ble_eq_true rfl⟩ dX12_find_15 (fun r5 v5 w5 fi5 fl5 H locs h hP hD hS => ?_)
    refine lv_i2l hx hb dX12_find_18 rfl ?_
    exact W.lret (v := r5.toInt64) hx hb hr (fun t ht hW => ⟨⟨_, (v5, w5, fi5, fl5), rfl, h, by rw [ht]; exact hP, va_K.moved hW.alike hK, hD⟩, hS.F ht⟩) hS.2.2 dX12_find_19

abbrev wmX12_last : List Cond := .code yX12_last cX12_last 4 (some .long) :: WM
theorem hd_X12_last : yX12_last.cls = RX12 ∧ yX12_last.cls ≠ "java/lang/invoke/MethodHandle" ∧ yX12_last.cls ≠ "java/lang/invoke/VarHandle" ∧ (parseMethodDescriptor yX12_last.desc).map (fun d => d.parameters.length) = some 1 := by decide +kernel
def B_X12_last_26  (K26 : (Nat → Int32) → (Nat → Int64) → (Nat → Nat → Int32) → (Nat → Nat → Int64) → Int32 → Int32 → Prop) (Q : Int64 → (Nat → Int32) → (Nat → Int64) → (Nat → Nat → Int32) → (Nat → Nat → Int64) → Prop) (v : Nat → Int32) (w : Nat → Int64) (fi : Nat → Nat → Int32) (fl : Nat → Nat → Int64) (x1 : Int32) (x2 : Int32) : Prop := P_X12_reach v w fi fl x1 x2 (fun r1 v1 w1 fi1 fl1 => ((¬ r1 = 2) → (((r1 = 1) → (K26 v1 w1 fi1 fl1 x1 (x2 + 1))) ∧ ((¬ r1 = 1) → (P_X12_told v1 w1 fi1 fl1 r1 (fun r2 v2 w2 fi2 fl2 => Q r2 v2 w2 fi2 fl2))))) ∧ ((r1 = 2) → (((¬ x2 = 0) → (P_X12_work v1 w1 fi1 fl1 x1 (x2 - 1) (fun r3 v3 w3 fi3 fl3 => P_X12_told v3 w3 fi3 fl3 r3 (fun r4 v4 w4 fi4 fl4 => Q r4 v4 w4 fi4 fl4)))) ∧ ((x2 = 0) → (P_X12_failed v1 w1 fi1 fl1 5 (fun r5 v5 w5 fi5 fl5 => Q r5 v5 w5 fi5 fl5))))))
def P_X12_last_26  (Q : Int64 → (Nat → Int32) → (Nat → Int64) → (Nat → Nat → Int32) → (Nat → Nat → Int64) → Prop) : Nat → (Nat → Int32) → (Nat → Int64) → (Nat → Nat → Int32) → (Nat → Nat → Int64) → Int32 → Int32 → Prop
  | 0 => fun _ _ _ _ _ _ => False
  | n + 1 => B_X12_last_26  (P_X12_last_26  Q n) Q
set_option maxHeartbeats 4000000 in
set_option maxRecDepth 100000 in
theorem b_X12_last_26 {p : Program} {l : Launch} {e : Env} {s : State} {m : MethodId} {args : Array Value} {below : List Frame} {meth : Method} {c : Code} {A : Nat → Prop} {dC : Nat → ClassId} {dI : Nat → Nat → Nat} {a : Nat → Nat} {ca : Nat → ClassId} {g0 : Nat}  {K26 : (Nat → Int32) → (Nat → Int64) → (Nat → Nat → Int32) → (Nat → Nat → Int64) → Int32 → Int32 → Prop} {Q : Int64 → (Nat → Int32) → (Nat → Int64) → (Nat → Nat → Int32) → (Nat → Nat → Int64) → Prop} (hx : p.tables.exec = Jvm.exec) (hb : c.code = cX12_last) (hr : meth.sig.returnType = (some .long)) (hts : ∀ w ∈ WM, w.before args s = true) (hown : s.vm.findClass RX12 = some m.cls) (hlocks : meth.locks = false) (hml : c.maxLocals = 4) (hA : ∀ q : Nat, s.heap.size ≤ q → A q) (hK : va_K (dC, dI) vwCl (mT ca) s)  (hK26 : ∀ (v : Nat → Int32) (w : Nat → Int64) (fi : Nat → Nat → Int32) (fl : Nat → Nat → Int64) (x1 : Int32) (x2 : Int32) (H : Heap) (locs : List Loc) (ls : Array Slot), K26 v w fi fl x1 x2 → va_P (dC, dI) vwCl (mW a ca g0 v w fi fl) H → va_D A (mW a ca g0 v w fi fl) → va_S A s.heap H locs → lv_has ls 4 [(0, .ref g0), (1, .int x1), (2, .int x2)] → W p l e (headSpec wmX12_last ({ frames := 32, cells := 0, slots := 0, locals := 480 })).room s m args below meth c H locs 0 0 (MQ below (va_Ql (S := MSt) (pL Q) (mB dC dI a ca g0 A) A) args s 0 0 A) (F0 m 26 ls [])) : ∀ (v : Nat → Int32) (w : Nat → Int64) (fi : Nat → Nat → Int32) (fl : Nat → Nat → Int64) (x1 : Int32) (x2 : Int32) (H : Heap) (locs : List Loc) (ls : Array Slot), B_X12_last_26  K26 Q v w fi fl x1 x2 → va_P (dC, dI) vwCl (mW a ca g0 v w fi fl) H → va_D A (mW a ca g0 v w fi fl) → va_S A s.heap H locs → lv_has ls 4 [(0, .ref g0), (1, .int x1), (2, .int x2)] → W p l e (headSpec wmX12_last ({ frames := 32, cells := 0, slots := 0, locals := 480 })).room s m args below meth c H locs 0 0 (MQ below (va_Ql (S := MSt) (pL Q) (mB dC dI a ca g0 A) A) args s 0 0 A) (F0 m 26 ls []) := by
  intro v w fi fl x1 x2 H locs ls h hP hD hS hl
  unfold B_X12_last_26 at h
  refine lv_aload_n hx hb dX12_last_26 rfl (lv_at hl 0 rfl) ?_
  refine lv_iload_n hx hb dX12_last_27 rfl (lv_at hl 1 rfl) ?_
  refine lv_iload_n hx hb dX12_last_28 rfl (lv_at hl 2 rfl) ?_
  refine m_calli (rm := ({ frames := 28, cells := 0, slots := 0, locals := 420 })) (As := [.int x1, .int x2]) (rest := []) (fun sz => p_X12_reach l dC dI a ca g0 _ _ _ _ x1 x2 _ h sz) ⟨hx, hb, hml, hown, hts⟩ (cwV 2 hts (g_V gdM mwM_169 mwM_170 mwM_171 mwM_22 mwM_168) rfl rfl rfl hd_X12_reach ⟨Nat.le_of_ble_eq_true rfl, Nat.le_of_ble_eq_true rfl⟩) rfl hl.1 rfl hK hP hD hS hA (Nat.le_of_ble_eq_true rfl) ⟨Nat.le_of_ble_eq_true rfl, Nat.le_of_ble_eq_true rfl⟩ dX12_last_29 (fun r1 v1 w1 fi1 fl1 H locs h hP hD hS => ?_)
  refine lv_istore_n (lv' := [(3, .int r1), (0, .ref g0), (1, .int x1), (2, .int x2)]) hx hb dX12_last_32 rfl hl (by decide) rfl (fun ls hl => ?_)
  refine lv_iload_n hx hb dX12_last_33 rfl (lv_at hl 0 rfl) ?_
  refine lv_iconst (v := 2) hx hb dX12_last_34 (by decide) ?_
  refine lv_icmp_ne (tgt := 63) hx hb dX12_last_35 (by decide) (fun c_35 => ?_) (fun c_35 => ?_)
  · have h := h.1 c_35
    refine lv_iload_n hx hb dX12_last_63 rfl (lv_at hl 0 rfl) ?_
    refine lv_iconst (v := 1) hx hb dX12_last_64 (by decide) ?_
    refine lv_icmp_eq (tgt := 74) hx hb dX12_last_65 (by decide) (fun c_65 => ?_) (fun c_65 => ?_)
    · have h := h.1 c_65
      refine lv_iinc (v := x2 + 1) (lv' := [(2, .int (x2 + 1)), (3, .int r1), (0, .ref g0), (1, .int x1)]) hx hb dX12_last_74 hl (k := 3) rfl (iinc_1 _) (by decide) rfl (fun ls hl => ?_)
      refine lv_goto (tgt := 26) hx hb dX12_last_77 (by decide) ?_
      exact hK26 _ _ _ _ _ _ H _ ls h hP hD hS (lv_sub hl [2, 3, 0] rfl)
    · have h := h.2 c_65
      refine lv_aload_n hx hb dX12_last_68 rfl (lv_at hl 1 rfl) ?_
      refine lv_iload_n hx hb dX12_last_69 rfl (lv_at hl 0 rfl) ?_
      refine m_calll (rm := ({ frames := 8, cells := 0, slots := 0, locals := 120 })) (As := [.int r1]) (rest := []) (fun sz => p_X12_told l dC dI a ca g0 _ _ _ _ r1 _ h sz) ⟨hx, hb, hml, hown, hts⟩ (cwV 1 hts (g_V gdM mwM_165 mwM_166 mwM_167 mwM_22 mwM_164) rfl rfl rfl hd_X12_told ⟨Nat.le_of_ble_eq_true rfl, Nat.le_of_ble_eq_true rfl⟩) rfl hl.1 rfl hK hP hD hS hA (Nat.le_of_ble_eq_true rfl) ⟨Nat.le_of_ble_eq_true rfl, Nat.le_of_ble_eq_true rfl⟩ dX12_last_70 (fun r2 v2 w2 fi2 fl2 H locs h hP hD hS => ?_)
      exact W.lret (v := r2) hx hb hr (fun t ht hW => ⟨⟨_, (v2, w2, fi2, fl2), rfl, h, by rw [ht]; exact hP, va_K.moved hW.alike hK, hD⟩, hS.F ht⟩) hS.2.2 dX12_last_73
  · have h := h.2 c_35
    refine lv_iload_n hx hb dX12_last_38 rfl (lv_at hl 3 rfl) ?_
    refine lv_if_ne (tgt := 50) hx hb dX12_last_39 (by decide) (fun c_39 => ?_) (fun c_39 => ?_)
    · have h := h.1 c_39
      refine lv_aload_n hx hb dX12_last_50 rfl (lv_at hl 1 rfl) ?_
      refine lv_aload_n hx hb dX12_last_51 rfl (lv_at hl 1 rfl) ?_
      refine lv_iload_n hx hb dX12_last_52 rfl (lv_at hl 2 rfl) ?_
      refine lv_iload_n hx hb dX12_last_53 rfl (lv_at hl 3 rfl) ?_
      refine lv_iconst (v := 1) hx hb dX12_last_54 (by decide) ?_
      refine lv_isub hx hb dX12_last_55 ?_
      refine m_calli (rm := ({ frames := 28, cells := 0, slots := 0, locals := 420 })) (As := [.int x1, .int (x2 - 1)]) (rest := [.ref g0]) (fun sz => p_X12_work l dC dI a ca g0 _ _ _ _ x1 (x2 - 1) _ h sz) ⟨hx, hb, hml, hown, hts⟩ (cwV 2 hts (g_V gdM mwM_161 mwM_162 mwM_163 mwM_22 mwM_160) rfl rfl rfl hd_X12_work ⟨Nat.le_of_ble_eq_true rfl, Nat.le_of_ble_eq_true rfl⟩) rfl hl.1 rfl hK hP hD hS hA (Nat.le_of_ble_eq_true rfl) ⟨Nat.le_of_ble_eq_true rfl, Nat.le_of_ble_eq_true rfl⟩ dX12_last_56 (fun r3 v3 w3 fi3 fl3 H locs h hP hD hS => ?_)
      refine m_calll (rm := ({ frames := 8, cells := 0, slots := 0, locals := 120 })) (As := [.int r3]) (rest := []) (fun sz => p_X12_told l dC dI a ca g0 _ _ _ _ r3 _ h sz) ⟨hx, hb, hml, hown, hts⟩ (cwV 1 hts (g_V gdM mwM_165 mwM_166 mwM_167 mwM_22 mwM_164) rfl rfl rfl hd_X12_told ⟨Nat.le_of_ble_eq_true rfl, Nat.le_of_ble_eq_true rfl⟩) rfl hl.1 rfl hK hP hD hS hA (Nat.le_of_ble_eq_true rfl) ⟨Nat.le_of_ble_eq_true rfl, Nat.le_of_ble_eq_true rfl⟩ dX12_last_59 (fun r4 v4 w4 fi4 fl4 H locs h hP hD hS => ?_)
      exact W.lret (v := r4) hx hb hr (fun t ht hW => ⟨⟨_, (v4, w4, fi4, fl4), rfl, h, by rw [ht]; exact hP, va_K.moved hW.alike hK, hD⟩, hS.F ht⟩) hS.2.2 dX12_last_62
    · have h := h.2 c_39
      refine lv_aload_n hx hb dX12_last_42 rfl (lv_at hl 1 rfl) ?_
      refine lv_iconst (v := 5) hx hb dX12_last_43 (by decide) ?_
      refine m_calll (rm := ({ frames := 4, cells := 0, slots := 0, locals := 60 })) (As := [.int 5]) (rest := []) (fun sz => p_X12_failed l dC dI a ca g0 _ _ _ _ 5 _ h sz) ⟨hx, hb, hml, hown, hts⟩ (cwV 1 hts (g_V gdM mwM_53 mwM_54 mwM_55 mwM_22 mwM_52) rfl rfl rfl hd_X12_failed ⟨Nat.le_of_ble_eq_true rfl, Nat.le_of_ble_eq_true rfl⟩) rfl hl.1 rfl hK hP hD hS hA (Nat.le_of_ble_eq_true rfl) ⟨Nat.le_of_ble_eq_true rfl, Nat.le_of_ble_eq_true rfl⟩ dX12_last_44 (fun r5 v5 w5 fi5 fl5 H locs h hP hD hS => ?_)
      refine lv_goto (tgt := 62) hx hb dX12_last_47 (by decide) ?_
      exact W.lret (v := r5) hx hb hr (fun t ht hW => ⟨⟨_, (v5, w5, fi5, fl5), rfl, h, by rw [ht]; exact hP, va_K.moved hW.alike hK, hD⟩, hS.F ht⟩) hS.2.2 dX12_last_62
set_option maxHeartbeats 4000000 in
set_option maxRecDepth 100000 in
theorem t_X12_last_26 {p : Program} {l : Launch} {e : Env} {s : State} {m : MethodId} {args : Array Value} {below : List Frame} {meth : Method} {c : Code} {A : Nat → Prop} {dC : Nat → ClassId} {dI : Nat → Nat → Nat} {a : Nat → Nat} {ca : Nat → ClassId} {g0 : Nat}  {Q : Int64 → (Nat → Int32) → (Nat → Int64) → (Nat → Nat → Int32) → (Nat → Nat → Int64) → Prop} (hx : p.tables.exec = Jvm.exec) (hb : c.code = cX12_last) (hr : meth.sig.returnType = (some .long)) (hts : ∀ w ∈ WM, w.before args s = true) (hown : s.vm.findClass RX12 = some m.cls) (hlocks : meth.locks = false) (hml : c.maxLocals = 4) (hA : ∀ q : Nat, s.heap.size ≤ q → A q) (hK : va_K (dC, dI) vwCl (mT ca) s)  : ∀ n : Nat, ∀ (v : Nat → Int32) (w : Nat → Int64) (fi : Nat → Nat → Int32) (fl : Nat → Nat → Int64) (x1 : Int32) (x2 : Int32) (H : Heap) (locs : List Loc) (ls : Array Slot), P_X12_last_26  Q n v w fi fl x1 x2 → va_P (dC, dI) vwCl (mW a ca g0 v w fi fl) H → va_D A (mW a ca g0 v w fi fl) → va_S A s.heap H locs → lv_has ls 4 [(0, .ref g0), (1, .int x1), (2, .int x2)] → W p l e (headSpec wmX12_last ({ frames := 32, cells := 0, slots := 0, locals := 480 })).room s m args below meth c H locs 0 0 (MQ below (va_Ql (S := MSt) (pL Q) (mB dC dI a ca g0 A) A) args s 0 0 A) (F0 m 26 ls []) := by
  intro n
  induction n with
  | zero => intro v w fi fl x1 x2 H locs ls h; exact h.elim
  | succ n ih => exact b_X12_last_26 hx hb hr hts hown hlocks hml hA hK  ih
def P_X12_last (v : Nat → Int32) (w : Nat → Int64) (fi : Nat → Nat → Int32) (fl : Nat → Nat → Int64) (p0 : Int32) (Q : Int64 → (Nat → Int32) → (Nat → Int64) → (Nat → Nat → Int32) → (Nat → Nat → Int64) → Prop) : Prop := P_X12_isList (va_up v 19 0) w fi fl p0 (fun r1 v1 w1 fi1 fl1 => ((¬ r1 = 0) → (P_X12_begin v1 w1 fi1 fl1 (fun v2 w2 fi2 fl2 => ∃ n9 : Nat, P_X12_last_26  Q n9 v2 w2 fi2 fl2 p0 (0 : Int32)))) ∧ ((r1 = 0) → (P_X12_fail v1 w1 fi1 fl1 1 (fun r3 v3 w3 fi3 fl3 => Q r3.toInt64 v3 w3 fi3 fl3))))
set_option maxHeartbeats 4000000 in
set_option maxRecDepth 100000 in
theorem p_X12_last (l : Launch) (dC : Nat → ClassId) (dI : Nat → Nat → Nat) (a : Nat → Nat) (ca : Nat → ClassId) (g0 : Nat) (v : Nat → Int32) (w : Nat → Int64) (fi : Nat → Nat → Int32) (fl : Nat → Nat → Int64) (p0 : Int32) (Q : Int64 → (Nat → Int32) → (Nat → Int64) → (Nat → Nat → Int32) → (Nat → Nat → Int64) → Prop) (h : P_X12_last v w fi fl p0 Q) (sz : Nat) : Met l yX12_last wmX12_last ({ frames := 32, cells := 0, slots := 0, locals := 480 }) (va_Pc [.ref g0, .int p0] (mPre dC dI a ca g0 v w fi fl sz)) (va_Ql (S := MSt) (pL Q) (mB dC dI a ca g0 (va_A (mW a ca g0 v w fi fl) sz)) (va_A (mW a ca g0 v w fi fl) sz)) 0 0 (va_A (mW a ca g0 v w fi fl) sz) := by
  refine Met.ofW (cc := cX12_last) (maxL := 4) (ret := (some .long)) (by decide) rfl ?_
  intro p e s m args below meth c s₁ B hml hv
  obtain ⟨rfl, hsz, hP, hK, hD0⟩ := hv
  have hx := B.exec
  have hb := B.bytes
  have hr := B.returns
  have hts : ∀ w ∈ WM, w.before _ s = true := fun w h => atoms_spec (ws := wmX12_last) B.pre w (List.mem_cons_of_mem _ h)
  have hown : s.vm.findClass RX12 = some m.cls := findClass_of_methodNamed B.named
  have hlocks := B.notSynchronized
  subst hsz
  have hD := hD0.self (sz := s.heap.size)
  generalize hAe : va_A (mW a ca g0 v w fi fl) s.heap.size = A at hD ⊢
  have hA : ∀ q : Nat, s.heap.size ≤ q → A q := fun q h => by rw [← hAe]; exact Or.inr h
  generalize hH : s.heap = H at hP ⊢
  have hS : va_S A s.heap H [] := by rw [← hH]; exact va_S.rf
  have hl := lv_entry [.ref g0, .int p0] (n := 4) (Nat.le_of_ble_eq_true rfl)
  rw [lg_entry_eq]
  generalize (lg_sl [.ref g0, .int p0] ++ List.replicate (4 - (lg_sl [.ref g0, .int p0]).length) Slot.unset).toArray = ls at hl ⊢
  have hl : lv_has ls 4 [(0, .ref g0), (1, .int p0)] := hl
  unfold P_X12_last at h
  refine lv_aload_n hx hb dX12_last_0 rfl (lv_at hl 0 rfl) ?_
  refine lv_iconst (v := 0) hx hb dX12_last_1 (by decide) ?_
  refine m_put_19 hx hb hts hinM hown hK hP hD hS (hts _ mwM_0) dX12_last_2 (fun H locs hP hD hS => ?_)
  refine lv_aload_n hx hb dX12_last_5 rfl (lv_at hl 0 rfl) ?_
  refine lv_iload_n hx hb dX12_last_6 rfl (lv_at hl 1 rfl) ?_
  refine m_calli (rm := ({ frames := 4, cells := 0, slots := 0, locals := 60 })) (As := [.int p0]) (rest := []) (fun sz => p_X12_isList l dC dI a ca g0 _ _ _ _ p0 _ h sz) ⟨hx, hb, hml, hown, hts⟩ (cwV 1 hts (g_V gdM mwM_33 mwM_34 mwM_35 mwM_22 mwM_32) rfl rfl rfl hd_X12_isList ⟨Nat.le_of_ble_eq_true rfl, Nat.le_of_ble_eq_true rfl⟩) rfl hl.1 rfl hK hP hD hS hA (Nat.le_of_ble_eq_true rfl) ⟨Nat.le_of_ble_eq_true rfl, Nat.le_of_ble_eq_true rfl⟩ dX12_last_7 (fun r1 v1 w1 fi1 fl1 H locs h hP hD hS => ?_)
  refine lv_if_ne (tgt := 20) hx hb dX12_last_10 (by decide) (fun c_10 => ?_) (fun c_10 => ?_)
  · have h := h.1 c_10
    refine lv_aload_n hx hb dX12_last_20 rfl (lv_at hl 0 rfl) ?_
    refine m_callv (rm := ({ frames := 4, cells := 0, slots := 0, locals := 60 })) (As := []) (rest := []) (fun sz => p_X12_begin l dC dI a ca g0 _ _ _ _  _ h sz) ⟨hx, hb, hml, hown, hts⟩ (cwV 0 hts (g_V gdM mwM_157 mwM_158 mwM_159 mwM_22 mwM_156) rfl rfl rfl hd_X12_begin ⟨Nat.le_of_ble_eq_true rfl, Nat.le_of_ble_eq_true rfl⟩) rfl hl.1 rfl hK hP hD hS hA (Nat.le_of_ble_eq_true rfl) ⟨Nat.le_of_ble_eq_true rfl, Nat.le_of_ble_eq_true rfl⟩ dX12_last_21 (fun v2 w2 fi2 fl2 H locs h hP hD hS => ?_)
    refine lv_iconst (v := 0) hx hb dX12_last_24 (by decide) ?_
    refine lv_istore_n (lv' := [(2, .int 0), (0, .ref g0), (1, .int p0)]) hx hb dX12_last_25 rfl hl (by decide) rfl (fun ls hl => ?_)
    obtain ⟨n9, h⟩ := h
    exact t_X12_last_26 hx hb hr hts hown hlocks hml hA hK  n9 _ _ _ _ _ _ H _ ls h hP hD hS (lv_sub hl [1, 2, 0] rfl)
  · have h := h.2 c_10
    refine lv_aload_n hx hb dX12_last_13 rfl (lv_at hl 0 rfl) ?_
    refine lv_iconst (v := 1) hx hb dX12_last_14 (by decide) ?_
    refine m_calli (rm := ({ frames := 4, cells := 0, slots := 0, locals := 60 })) (As := [.int 1]) (rest := []) (fun sz => p_X12_fail l dC dI a ca g0 _ _ _ _ 1 _ h sz) ⟨hx, hb, hml, hown, hts⟩ (cwV 1 hts (g_V gdM mwM_19 mwM_20 mwM_21 mwM_22 mwM_18) rfl rfl rfl hd_X12_fail ⟨Nat.le_of_ble_eq_true rfl, Nat.le_of_ble_eq_true rfl⟩) rfl hl.1 rfl hK hP hD hS hA (Nat.le_of_ble_eq_true rfl) ⟨Nat.le_of_ble_eq_true rfl, Nat.le_of_ble_eq_true rfl⟩ dX12_last_15 (fun r3 v3 w3 fi3 fl3 H locs h hP hD hS => ?_)
    refine lv_i2l hx hb dX12_last_18 rfl ?_
    exact W.lret (v := r3.toInt64) hx hb hr (fun t ht hW => ⟨⟨_, (v3, w3, fi3, fl3), rfl, h, by rw [ht]; exact hP, va_K.moved hW.alike hK, hD⟩, hS.F ht⟩) hS.2.2 dX12_last_19
