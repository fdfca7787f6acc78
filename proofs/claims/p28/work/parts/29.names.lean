abbrev cX12_op : ByteArray := prog_14_method_25_code
def yX12_op : MethodName := ⟨RX12, "op", "(IJJ)I"⟩
def wsX12_op : List Cond := .code yX12_op cX12_op 8 (some .int) :: ([.fieldLink RX12 98 "NeededListsModel" "opValue" "J", .methodLink RX12 102 yX12_floor, .static yX12_floor, .initialized RX12, .code yX12_floor cX12_floor 6 (some .long)] ++ wsX120)
set_option maxRecDepth 20000 in
theorem ggX12_op_X12_floor : GoodIn wsX12_op wsX12_floor := goodIn_r _ [5] (by decide +kernel) (by decide +kernel)
set_option maxRecDepth 20000 in
theorem gX12_op_X12_floor : GoodIn wsX12_op (va_wsS RX12 102 yX12_floor wsX12_floor) := goodIn_app (goodIn_of _ (by decide +kernel)) ggX12_op_X12_floor
theorem dX12_op_0 : decode cX12_op 0 = .ok (.aload_n 0, 1) := by decide +kernel
theorem dX12_op_1 : decode cX12_op 1 = .ok (.lconst 0, 1) := by decide +kernel
theorem dX12_op_2 : decode cX12_op 2 = .ok (.putfield 98, 3) := by decide +kernel
theorem dX12_op_5 : decode cX12_op 5 = .ok (.iload_n 1, 1) := by decide +kernel
theorem dX12_op_6 : decode cX12_op 6 = .ok (.iconst 3, 1) := by decide +kernel
theorem dX12_op_7 : decode cX12_op 7 = .ok (.if_icmp .eq 8, 3) := by decide +kernel
theorem dX12_op_10 : decode cX12_op 10 = .ok (.iload_n 1, 1) := by decide +kernel
theorem dX12_op_11 : decode cX12_op 11 = .ok (.iconst 4, 1) := by decide +kernel
theorem dX12_op_12 : decode cX12_op 12 = .ok (.if_icmp .ne 12, 3) := by decide +kernel
theorem dX12_op_15 : decode cX12_op 15 = .ok (.lload 4, 2) := by decide +kernel
theorem dX12_op_17 : decode cX12_op 17 = .ok (.lconst 0, 1) := by decide +kernel
theorem dX12_op_18 : decode cX12_op 18 = .ok (.lcmp, 1) := by decide +kernel
theorem dX12_op_19 : decode cX12_op 19 = .ok (.ifCond .ne 5, 3) := by decide +kernel
theorem dX12_op_22 : decode cX12_op 22 = .ok (.iconst 4, 1) := by decide +kernel
theorem dX12_op_23 : decode cX12_op 23 = .ok (.ireturn, 1) := by decide +kernel
theorem dX12_op_24 : decode cX12_op 24 = .ok (.iload_n 1, 1) := by decide +kernel
theorem dX12_op_25 : decode cX12_op 25 = .ok (.iconst 3, 1) := by decide +kernel
theorem dX12_op_26 : decode cX12_op 26 = .ok (.if_icmp .eq 8, 3) := by decide +kernel
theorem dX12_op_29 : decode cX12_op 29 = .ok (.iload_n 1, 1) := by decide +kernel
theorem dX12_op_30 : decode cX12_op 30 = .ok (.iconst 4, 1) := by decide +kernel
theorem dX12_op_31 : decode cX12_op 31 = .ok (.if_icmp .ne 12, 3) := by decide +kernel
theorem dX12_op_34 : decode cX12_op 34 = .ok (.lload_n 2, 1) := by decide +kernel
theorem dX12_op_35 : decode cX12_op 35 = .ok (.lload 4, 2) := by decide +kernel
theorem dX12_op_37 : decode cX12_op 37 = .ok (.invokestatic 102, 3) := by decide +kernel
theorem dX12_op_40 : decode cX12_op 40 = .ok (.goto 4, 3) := by decide +kernel
theorem dX12_op_43 : decode cX12_op 43 = .ok (.lconst 0, 1) := by decide +kernel
theorem dX12_op_44 : decode cX12_op 44 = .ok (.lstore 6, 2) := by decide +kernel
theorem dX12_op_46 : decode cX12_op 46 = .ok (.iload_n 1, 1) := by decide +kernel
theorem dX12_op_47 : decode cX12_op 47 = .ok (.tableswitch 149 0 7 #[45, 56, 67, 78, 87, 101, 121, 141], 45) := by decide +kernel
theorem dX12_op_92 : decode cX12_op 92 = .ok (.aload_n 0, 1) := by decide +kernel
theorem dX12_op_93 : decode cX12_op 93 = .ok (.lload_n 2, 1) := by decide +kernel
theorem dX12_op_94 : decode cX12_op 94 = .ok (.lload 4, 2) := by decide +kernel
theorem dX12_op_96 : decode cX12_op 96 = .ok (.ladd, 1) := by decide +kernel
theorem dX12_op_97 : decode cX12_op 97 = .ok (.putfield 98, 3) := by decide +kernel
theorem dX12_op_100 : decode cX12_op 100 = .ok (.goto 102, 3) := by decide +kernel
theorem dX12_op_103 : decode cX12_op 103 = .ok (.aload_n 0, 1) := by decide +kernel
theorem dX12_op_104 : decode cX12_op 104 = .ok (.lload_n 2, 1) := by decide +kernel
theorem dX12_op_105 : decode cX12_op 105 = .ok (.lload 4, 2) := by decide +kernel
theorem dX12_op_107 : decode cX12_op 107 = .ok (.lsub, 1) := by decide +kernel
theorem dX12_op_108 : decode cX12_op 108 = .ok (.putfield 98, 3) := by decide +kernel
theorem dX12_op_111 : decode cX12_op 111 = .ok (.goto 91, 3) := by decide +kernel
theorem dX12_op_114 : decode cX12_op 114 = .ok (.aload_n 0, 1) := by decide +kernel
theorem dX12_op_115 : decode cX12_op 115 = .ok (.lload_n 2, 1) := by decide +kernel
theorem dX12_op_116 : decode cX12_op 116 = .ok (.lload 4, 2) := by decide +kernel
theorem dX12_op_118 : decode cX12_op 118 = .ok (.lmul, 1) := by decide +kernel
theorem dX12_op_119 : decode cX12_op 119 = .ok (.putfield 98, 3) := by decide +kernel
theorem dX12_op_122 : decode cX12_op 122 = .ok (.goto 80, 3) := by decide +kernel
theorem dX12_op_125 : decode cX12_op 125 = .ok (.aload_n 0, 1) := by decide +kernel
theorem dX12_op_126 : decode cX12_op 126 = .ok (.lload 6, 2) := by decide +kernel
theorem dX12_op_128 : decode cX12_op 128 = .ok (.putfield 98, 3) := by decide +kernel
theorem dX12_op_131 : decode cX12_op 131 = .ok (.goto 71, 3) := by decide +kernel
theorem dX12_op_134 : decode cX12_op 134 = .ok (.aload_n 0, 1) := by decide +kernel
theorem dX12_op_135 : decode cX12_op 135 = .ok (.lload_n 2, 1) := by decide +kernel
theorem dX12_op_136 : decode cX12_op 136 = .ok (.lload 4, 2) := by decide +kernel
theorem dX12_op_138 : decode cX12_op 138 = .ok (.lload 6, 2) := by decide +kernel
theorem dX12_op_140 : decode cX12_op 140 = .ok (.lmul, 1) := by decide +kernel
theorem dX12_op_141 : decode cX12_op 141 = .ok (.lsub, 1) := by decide +kernel
theorem dX12_op_142 : decode cX12_op 142 = .ok (.putfield 98, 3) := by decide +kernel
theorem dX12_op_145 : decode cX12_op 145 = .ok (.goto 57, 3) := by decide +kernel
theorem dX12_op_148 : decode cX12_op 148 = .ok (.aload_n 0, 1) := by decide +kernel
theorem dX12_op_149 : decode cX12_op 149 = .ok (.lload_n 2, 1) := by decide +kernel
theorem dX12_op_150 : decode cX12_op 150 = .ok (.lload 4, 2) := by decide +kernel
theorem dX12_op_152 : decode cX12_op 152 = .ok (.lcmp, 1) := by decide +kernel
theorem dX12_op_153 : decode cX12_op 153 = .ok (.ifCond .ge 7, 3) := by decide +kernel
theorem dX12_op_156 : decode cX12_op 156 = .ok (.lload_n 2, 1) := by decide +kernel
theorem dX12_op_157 : decode cX12_op 157 = .ok (.goto 5, 3) := by decide +kernel
theorem dX12_op_160 : decode cX12_op 160 = .ok (.lload 4, 2) := by decide +kernel
theorem dX12_op_162 : decode cX12_op 162 = .ok (.putfield 98, 3) := by decide +kernel
theorem dX12_op_165 : decode cX12_op 165 = .ok (.goto 37, 3) := by decide +kernel
theorem dX12_op_168 : decode cX12_op 168 = .ok (.aload_n 0, 1) := by decide +kernel
theorem dX12_op_169 : decode cX12_op 169 = .ok (.lload_n 2, 1) := by decide +kernel
theorem dX12_op_170 : decode cX12_op 170 = .ok (.lload 4, 2) := by decide +kernel
theorem dX12_op_172 : decode cX12_op 172 = .ok (.lcmp, 1) := by decide +kernel
theorem dX12_op_173 : decode cX12_op 173 = .ok (.ifCond .le 7, 3) := by decide +kernel
theorem dX12_op_176 : decode cX12_op 176 = .ok (.lload_n 2, 1) := by decide +kernel
theorem dX12_op_177 : decode cX12_op 177 = .ok (.goto 5, 3) := by decide +kernel
theorem dX12_op_180 : decode cX12_op 180 = .ok (.lload 4, 2) := by decide +kernel
theorem dX12_op_182 : decode cX12_op 182 = .ok (.putfield 98, 3) := by decide +kernel
theorem dX12_op_185 : decode cX12_op 185 = .ok (.goto 17, 3) := by decide +kernel
theorem dX12_op_188 : decode cX12_op 188 = .ok (.aload_n 0, 1) := by decide +kernel
theorem dX12_op_189 : decode cX12_op 189 = .ok (.lload_n 2, 1) := by decide +kernel
theorem dX12_op_190 : decode cX12_op 190 = .ok (.putfield 98, 3) := by decide +kernel
theorem dX12_op_193 : decode cX12_op 193 = .ok (.goto 9, 3) := by decide +kernel
theorem dX12_op_196 : decode cX12_op 196 = .ok (.aload_n 0, 1) := by decide +kernel
theorem dX12_op_197 : decode cX12_op 197 = .ok (.lload 4, 2) := by decide +kernel
theorem dX12_op_199 : decode cX12_op 199 = .ok (.putfield 98, 3) := by decide +kernel
theorem dX12_op_202 : decode cX12_op 202 = .ok (.iconst 1, 1) := by decide +kernel
theorem dX12_op_203 : decode cX12_op 203 = .ok (.ireturn, 1) := by decide +kernel
