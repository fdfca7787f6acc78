abbrev cX11_size : ByteArray := prog_1_method_22_code
def yX11_size : MethodName := ⟨RX11, "size", "(I)J"⟩
abbrev cX11_fold : ByteArray := prog_1_method_23_code
def yX11_fold : MethodName := ⟨RX11, "fold", "(IIJ)J"⟩
abbrev cX11_find : ByteArray := prog_1_method_24_code
def yX11_find : MethodName := ⟨RX11, "find", "(IIJ)J"⟩
theorem dX11_size_0 : decode cX11_size 0 = .ok (.aload_n 0, 1) := by decide +kernel
theorem dX11_size_1 : decode cX11_size 1 = .ok (.iload_n 1, 1) := by decide +kernel
theorem dX11_size_2 : decode cX11_size 2 = .ok (.invokevirtual 87, 3) := by decide +kernel
theorem dX11_size_5 : decode cX11_size 5 = .ok (.astore_n 2, 1) := by decide +kernel
theorem dX11_size_6 : decode cX11_size 6 = .ok (.aload_n 0, 1) := by decide +kernel
theorem dX11_size_7 : decode cX11_size 7 = .ok (.getfield 12, 3) := by decide +kernel
theorem dX11_size_10 : decode cX11_size 10 = .ok (.aload_n 0, 1) := by decide +kernel
theorem dX11_size_11 : decode cX11_size 11 = .ok (.getfield 30, 3) := by decide +kernel
theorem dX11_size_14 : decode cX11_size 14 = .ok (.invokevirtual 143, 3) := by decide +kernel
theorem dX11_size_17 : decode cX11_size 17 = .ok (.aload_n 2, 1) := by decide +kernel
theorem dX11_size_18 : decode cX11_size 18 = .ok (.invokevirtual 161, 3) := by decide +kernel
theorem dX11_size_21 : decode cX11_size 21 = .ok (.istore_n 3, 1) := by decide +kernel
theorem dX11_size_22 : decode cX11_size 22 = .ok (.aload_n 0, 1) := by decide +kernel
theorem dX11_size_23 : decode cX11_size 23 = .ok (.iload_n 3, 1) := by decide +kernel
theorem dX11_size_24 : decode cX11_size 24 = .ok (.iconst 2, 1) := by decide +kernel
theorem dX11_size_25 : decode cX11_size 25 = .ok (.if_icmp .ne 7, 3) := by decide +kernel
theorem dX11_size_28 : decode cX11_size 28 = .ok (.iconst 1, 1) := by decide +kernel
theorem dX11_size_29 : decode cX11_size 29 = .ok (.goto 4, 3) := by decide +kernel
theorem dX11_size_32 : decode cX11_size 32 = .ok (.iload_n 3, 1) := by decide +kernel
theorem dX11_size_33 : decode cX11_size 33 = .ok (.aload_n 2, 1) := by decide +kernel
theorem dX11_size_34 : decode cX11_size 34 = .ok (.invokevirtual 165, 3) := by decide +kernel
theorem dX11_size_37 : decode cX11_size 37 = .ok (.i2l, 1) := by decide +kernel
theorem dX11_size_38 : decode cX11_size 38 = .ok (.invokevirtual 150, 3) := by decide +kernel
theorem dX11_size_41 : decode cX11_size 41 = .ok (.lreturn, 1) := by decide +kernel
theorem dX11_fold_0 : decode cX11_fold 0 = .ok (.aload_n 0, 1) := by decide +kernel
theorem dX11_fold_1 : decode cX11_fold 1 = .ok (.iload_n 1, 1) := by decide +kernel
theorem dX11_fold_2 : decode cX11_fold 2 = .ok (.invokevirtual 87, 3) := by decide +kernel
theorem dX11_fold_5 : decode cX11_fold 5 = .ok (.astore 5, 2) := by decide +kernel
theorem dX11_fold_7 : decode cX11_fold 7 = .ok (.iload_n 2, 1) := by decide +kernel
theorem dX11_fold_8 : decode cX11_fold 8 = .ok (.invokestatic 78, 3) := by decide +kernel
theorem dX11_fold_11 : decode cX11_fold 11 = .ok (.aload_n 0, 1) := by decide +kernel
theorem dX11_fold_12 : decode cX11_fold 12 = .ok (.getfield 12, 3) := by decide +kernel
theorem dX11_fold_15 : decode cX11_fold 15 = .ok (.aload_n 0, 1) := by decide +kernel
theorem dX11_fold_16 : decode cX11_fold 16 = .ok (.getfield 30, 3) := by decide +kernel
theorem dX11_fold_19 : decode cX11_fold 19 = .ok (.invokevirtual 143, 3) := by decide +kernel
theorem dX11_fold_22 : decode cX11_fold 22 = .ok (.lload_n 3, 1) := by decide +kernel
theorem dX11_fold_23 : decode cX11_fold 23 = .ok (.lstore 6, 2) := by decide +kernel
theorem dX11_fold_25 : decode cX11_fold 25 = .ok (.iconst 1, 1) := by decide +kernel
theorem dX11_fold_26 : decode cX11_fold 26 = .ok (.istore 8, 2) := by decide +kernel
theorem dX11_fold_28 : decode cX11_fold 28 = .ok (.iconst 0, 1) := by decide +kernel
theorem dX11_fold_29 : decode cX11_fold 29 = .ok (.istore 9, 2) := by decide +kernel
theorem dX11_fold_31 : decode cX11_fold 31 = .ok (.iload 9, 2) := by decide +kernel
theorem dX11_fold_33 : decode cX11_fold 33 = .ok (.sipush 400, 3) := by decide +kernel
theorem dX11_fold_36 : decode cX11_fold 36 = .ok (.if_icmp .gt 125, 3) := by decide +kernel
theorem dX11_fold_39 : decode cX11_fold 39 = .ok (.aload 5, 2) := by decide +kernel
theorem dX11_fold_41 : decode cX11_fold 41 = .ok (.iload 9, 2) := by decide +kernel
theorem dX11_fold_43 : decode cX11_fold 43 = .ok (.invokevirtual 146, 3) := by decide +kernel
theorem dX11_fold_46 : decode cX11_fold 46 = .ok (.istore 10, 2) := by decide +kernel
theorem dX11_fold_48 : decode cX11_fold 48 = .ok (.iload 10, 2) := by decide +kernel
theorem dX11_fold_50 : decode cX11_fold 50 = .ok (.iconst 1, 1) := by decide +kernel
theorem dX11_fold_51 : decode cX11_fold 51 = .ok (.if_icmp .eq 23, 3) := by decide +kernel
theorem dX11_fold_54 : decode cX11_fold 54 = .ok (.aload_n 0, 1) := by decide +kernel
theorem dX11_fold_55 : decode cX11_fold 55 = .ok (.iload 10, 2) := by decide +kernel
theorem dX11_fold_57 : decode cX11_fold 57 = .ok (.iconst 2, 1) := by decide +kernel
theorem dX11_fold_58 : decode cX11_fold 58 = .ok (.if_icmp .ne 8, 3) := by decide +kernel
theorem dX11_fold_61 : decode cX11_fold 61 = .ok (.iload 8, 2) := by decide +kernel
theorem dX11_fold_63 : decode cX11_fold 63 = .ok (.goto 5, 3) := by decide +kernel
theorem dX11_fold_66 : decode cX11_fold 66 = .ok (.iload 10, 2) := by decide +kernel
theorem dX11_fold_68 : decode cX11_fold 68 = .ok (.lload 6, 2) := by decide +kernel
theorem dX11_fold_70 : decode cX11_fold 70 = .ok (.invokevirtual 150, 3) := by decide +kernel
theorem dX11_fold_73 : decode cX11_fold 73 = .ok (.lreturn, 1) := by decide +kernel
theorem dX11_fold_74 : decode cX11_fold 74 = .ok (.iload_n 2, 1) := by decide +kernel
theorem dX11_fold_75 : decode cX11_fold 75 = .ok (.bipush 7, 2) := by decide +kernel
theorem dX11_fold_77 : decode cX11_fold 77 = .ok (.if_icmp .ne 6, 3) := by decide +kernel
theorem dX11_fold_80 : decode cX11_fold 80 = .ok (.goto 75, 3) := by decide +kernel
theorem dX11_fold_83 : decode cX11_fold 83 = .ok (.aload 5, 2) := by decide +kernel
theorem dX11_fold_85 : decode cX11_fold 85 = .ok (.iload 9, 2) := by decide +kernel
theorem dX11_fold_87 : decode cX11_fold 87 = .ok (.invokevirtual 154, 3) := by decide +kernel
theorem dX11_fold_90 : decode cX11_fold 90 = .ok (.istore 8, 2) := by decide +kernel
theorem dX11_fold_92 : decode cX11_fold 92 = .ok (.aload 5, 2) := by decide +kernel
theorem dX11_fold_94 : decode cX11_fold 94 = .ok (.iload 9, 2) := by decide +kernel
theorem dX11_fold_96 : decode cX11_fold 96 = .ok (.invokevirtual 157, 3) := by decide +kernel
theorem dX11_fold_99 : decode cX11_fold 99 = .ok (.lstore 11, 2) := by decide +kernel
theorem dX11_fold_101 : decode cX11_fold 101 = .ok (.iload 8, 2) := by decide +kernel
theorem dX11_fold_103 : decode cX11_fold 103 = .ok (.iconst 1, 1) := by decide +kernel
theorem dX11_fold_104 : decode cX11_fold 104 = .ok (.if_icmp .ne 15, 3) := by decide +kernel
theorem dX11_fold_107 : decode cX11_fold 107 = .ok (.iload_n 2, 1) := by decide +kernel
theorem dX11_fold_108 : decode cX11_fold 108 = .ok (.lload 11, 2) := by decide +kernel
theorem dX11_fold_110 : decode cX11_fold 110 = .ok (.invokestatic 168, 3) := by decide +kernel
theorem dX11_fold_113 : decode cX11_fold 113 = .ok (.ifCond .eq 6, 3) := by decide +kernel
theorem dX11_fold_116 : decode cX11_fold 116 = .ok (.iconst 5, 1) := by decide +kernel
theorem dX11_fold_117 : decode cX11_fold 117 = .ok (.istore 8, 2) := by decide +kernel
theorem dX11_fold_119 : decode cX11_fold 119 = .ok (.iload 8, 2) := by decide +kernel
theorem dX11_fold_121 : decode cX11_fold 121 = .ok (.iconst 3, 1) := by decide +kernel
theorem dX11_fold_122 : decode cX11_fold 122 = .ok (.if_icmp .eq 15, 3) := by decide +kernel
theorem dX11_fold_125 : decode cX11_fold 125 = .ok (.iload 8, 2) := by decide +kernel
theorem dX11_fold_127 : decode cX11_fold 127 = .ok (.iconst 1, 1) := by decide +kernel
theorem dX11_fold_128 : decode cX11_fold 128 = .ok (.if_icmp .eq 17, 3) := by decide +kernel
theorem dX11_fold_131 : decode cX11_fold 131 = .ok (.iload_n 2, 1) := by decide +kernel
theorem dX11_fold_132 : decode cX11_fold 132 = .ok (.bipush 8, 2) := by decide +kernel
theorem dX11_fold_134 : decode cX11_fold 134 = .ok (.if_icmp .eq 11, 3) := by decide +kernel
theorem dX11_fold_137 : decode cX11_fold 137 = .ok (.aload_n 0, 1) := by decide +kernel
theorem dX11_fold_138 : decode cX11_fold 138 = .ok (.iload 8, 2) := by decide +kernel
theorem dX11_fold_140 : decode cX11_fold 140 = .ok (.lconst 0, 1) := by decide +kernel
theorem dX11_fold_141 : decode cX11_fold 141 = .ok (.invokevirtual 150, 3) := by decide +kernel
theorem dX11_fold_144 : decode cX11_fold 144 = .ok (.lreturn, 1) := by decide +kernel
theorem dX11_fold_145 : decode cX11_fold 145 = .ok (.iload_n 2, 1) := by decide +kernel
theorem dX11_fold_146 : decode cX11_fold 146 = .ok (.lload 6, 2) := by decide +kernel
theorem dX11_fold_148 : decode cX11_fold 148 = .ok (.lload 11, 2) := by decide +kernel
theorem dX11_fold_150 : decode cX11_fold 150 = .ok (.invokestatic 172, 3) := by decide +kernel
theorem dX11_fold_153 : decode cX11_fold 153 = .ok (.lstore 6, 2) := by decide +kernel
theorem dX11_fold_155 : decode cX11_fold 155 = .ok (.iinc 9 1, 3) := by decide +kernel
theorem dX11_fold_158 : decode cX11_fold 158 = .ok (.goto (-127), 3) := by decide +kernel
theorem dX11_fold_161 : decode cX11_fold 161 = .ok (.aload_n 0, 1) := by decide +kernel
theorem dX11_fold_162 : decode cX11_fold 162 = .ok (.iconst 3, 1) := by decide +kernel
theorem dX11_fold_163 : decode cX11_fold 163 = .ok (.lconst 0, 1) := by decide +kernel
theorem dX11_fold_164 : decode cX11_fold 164 = .ok (.invokevirtual 150, 3) := by decide +kernel
theorem dX11_fold_167 : decode cX11_fold 167 = .ok (.lreturn, 1) := by decide +kernel
theorem dX11_find_0 : decode cX11_find 0 = .ok (.aload_n 0, 1) := by decide +kernel
theorem dX11_find_1 : decode cX11_find 1 = .ok (.iload_n 1, 1) := by decide +kernel
theorem dX11_find_2 : decode cX11_find 2 = .ok (.invokevirtual 87, 3) := by decide +kernel
theorem dX11_find_5 : decode cX11_find 5 = .ok (.astore 5, 2) := by decide +kernel
theorem dX11_find_7 : decode cX11_find 7 = .ok (.iload_n 2, 1) := by decide +kernel
theorem dX11_find_8 : decode cX11_find 8 = .ok (.invokestatic 107, 3) := by decide +kernel
theorem dX11_find_11 : decode cX11_find 11 = .ok (.aload_n 0, 1) := by decide +kernel
theorem dX11_find_12 : decode cX11_find 12 = .ok (.getfield 12, 3) := by decide +kernel
theorem dX11_find_15 : decode cX11_find 15 = .ok (.aload_n 0, 1) := by decide +kernel
theorem dX11_find_16 : decode cX11_find 16 = .ok (.getfield 30, 3) := by decide +kernel
theorem dX11_find_19 : decode cX11_find 19 = .ok (.invokevirtual 143, 3) := by decide +kernel
theorem dX11_find_22 : decode cX11_find 22 = .ok (.iconst 0, 1) := by decide +kernel
theorem dX11_find_23 : decode cX11_find 23 = .ok (.istore 6, 2) := by decide +kernel
theorem dX11_find_25 : decode cX11_find 25 = .ok (.iload 6, 2) := by decide +kernel
theorem dX11_find_27 : decode cX11_find 27 = .ok (.sipush 400, 3) := by decide +kernel
theorem dX11_find_30 : decode cX11_find 30 = .ok (.if_icmp .gt 84, 3) := by decide +kernel
theorem dX11_find_33 : decode cX11_find 33 = .ok (.aload 5, 2) := by decide +kernel
theorem dX11_find_35 : decode cX11_find 35 = .ok (.iload 6, 2) := by decide +kernel
theorem dX11_find_37 : decode cX11_find 37 = .ok (.invokevirtual 146, 3) := by decide +kernel
theorem dX11_find_40 : decode cX11_find 40 = .ok (.istore 7, 2) := by decide +kernel
theorem dX11_find_42 : decode cX11_find 42 = .ok (.iload 7, 2) := by decide +kernel
theorem dX11_find_44 : decode cX11_find 44 = .ok (.iconst 1, 1) := by decide +kernel
theorem dX11_find_45 : decode cX11_find 45 = .ok (.if_icmp .eq 23, 3) := by decide +kernel
theorem dX11_find_48 : decode cX11_find 48 = .ok (.aload_n 0, 1) := by decide +kernel
theorem dX11_find_49 : decode cX11_find 49 = .ok (.iload 7, 2) := by decide +kernel
theorem dX11_find_51 : decode cX11_find 51 = .ok (.iconst 2, 1) := by decide +kernel
theorem dX11_find_52 : decode cX11_find 52 = .ok (.if_icmp .ne 7, 3) := by decide +kernel
theorem dX11_find_55 : decode cX11_find 55 = .ok (.iconst 1, 1) := by decide +kernel
theorem dX11_find_56 : decode cX11_find 56 = .ok (.goto 5, 3) := by decide +kernel
theorem dX11_find_59 : decode cX11_find 59 = .ok (.iload 7, 2) := by decide +kernel
theorem dX11_find_61 : decode cX11_find 61 = .ok (.ldc2_w 176, 3) := by decide +kernel
theorem dX11_find_64 : decode cX11_find 64 = .ok (.invokevirtual 150, 3) := by decide +kernel
theorem dX11_find_67 : decode cX11_find 67 = .ok (.lreturn, 1) := by decide +kernel
theorem dX11_find_68 : decode cX11_find 68 = .ok (.aload 5, 2) := by decide +kernel
theorem dX11_find_70 : decode cX11_find 70 = .ok (.iload 6, 2) := by decide +kernel
theorem dX11_find_72 : decode cX11_find 72 = .ok (.invokevirtual 154, 3) := by decide +kernel
theorem dX11_find_75 : decode cX11_find 75 = .ok (.istore 8, 2) := by decide +kernel
theorem dX11_find_77 : decode cX11_find 77 = .ok (.iload 8, 2) := by decide +kernel
theorem dX11_find_79 : decode cX11_find 79 = .ok (.iconst 1, 1) := by decide +kernel
theorem dX11_find_80 : decode cX11_find 80 = .ok (.if_icmp .ne 18, 3) := by decide +kernel
theorem dX11_find_83 : decode cX11_find 83 = .ok (.iload_n 2, 1) := by decide +kernel
theorem dX11_find_84 : decode cX11_find 84 = .ok (.aload 5, 2) := by decide +kernel
theorem dX11_find_86 : decode cX11_find 86 = .ok (.iload 6, 2) := by decide +kernel
theorem dX11_find_88 : decode cX11_find 88 = .ok (.invokevirtual 157, 3) := by decide +kernel
theorem dX11_find_91 : decode cX11_find 91 = .ok (.lload_n 3, 1) := by decide +kernel
theorem dX11_find_92 : decode cX11_find 92 = .ok (.invokestatic 178, 3) := by decide +kernel
theorem dX11_find_95 : decode cX11_find 95 = .ok (.ifCond .eq 13, 3) := by decide +kernel
theorem dX11_find_98 : decode cX11_find 98 = .ok (.aload_n 0, 1) := by decide +kernel
theorem dX11_find_99 : decode cX11_find 99 = .ok (.iload 8, 2) := by decide +kernel
theorem dX11_find_101 : decode cX11_find 101 = .ok (.iload 6, 2) := by decide +kernel
theorem dX11_find_103 : decode cX11_find 103 = .ok (.i2l, 1) := by decide +kernel
theorem dX11_find_104 : decode cX11_find 104 = .ok (.invokevirtual 150, 3) := by decide +kernel
theorem dX11_find_107 : decode cX11_find 107 = .ok (.lreturn, 1) := by decide +kernel
theorem dX11_find_108 : decode cX11_find 108 = .ok (.iinc 6 1, 3) := by decide +kernel
theorem dX11_find_111 : decode cX11_find 111 = .ok (.goto (-86), 3) := by decide +kernel
theorem dX11_find_114 : decode cX11_find 114 = .ok (.aload_n 0, 1) := by decide +kernel
theorem dX11_find_115 : decode cX11_find 115 = .ok (.iconst 3, 1) := by decide +kernel
theorem dX11_find_116 : decode cX11_find 116 = .ok (.lconst 0, 1) := by decide +kernel
theorem dX11_find_117 : decode cX11_find 117 = .ok (.invokevirtual 150, 3) := by decide +kernel
theorem dX11_find_120 : decode cX11_find 120 = .ok (.lreturn, 1) := by decide +kernel
abbrev wmX11_size : List Cond := .code yX11_size cX11_size 4 (some .long) :: WC
theorem hd_X11_size : yX11_size.cls = RX11 ∧ yX11_size.cls ≠ "java/lang/invoke/MethodHandle" ∧ yX11_size.cls ≠ "java/lang/invoke/VarHandle" ∧ (parseMethodDescriptor yX11_size.desc).map (fun d => d.parameters.length) = some 1 := by decide +kernel
def P_X11_size (sh : Sh) (ci : Nat → Nat → Int32) (ai : Nat → Nat → Int32) (al : Nat → Nat → Int64) (q : Nat) (p0 : Int32) (Q : Int64 → Sh → (Nat → Nat → Int32) → (Nat → Nat → Int32) → (Nat → Nat → Int64) → Prop) (X : String → Prop) : Prop := (q ∈ sL sh ∧ sK sh q = 10) ∧ P_X11_listOf sh ci ai al q p0 (fun r1 => ∃ q2 : Nat, sR sh q 0 = some q2 ∧ (q2 ∈ sL sh ∧ sK sh q2 = 5) ∧ P_X6_begin sh ci ai al q2 (ci q 6) (fun ci6 ai6 al6 => (r1 ∈ sL sh ∧ isZ (sK sh r1)) ∧ P_X5_reachAll sh (PG sh 100).1 (PG sh 100).2 ci6 ai6 al6 r1  (fun r9 ci9 ai9 al9 => ((¬ r9 = 2) → (P_X5_there sh ci9 ai9 al9 r1  (fun r10 => P_X11_finish sh ci9 ai9 al9 q r9 r10.toInt64 (fun r11 sh11 ci11 ai11 al11 => Q r11 sh11 ci11 ai11 al11)))) ∧ ((r9 = 2) → (P_X5_there sh ci9 ai9 al9 r1  (fun r12 => P_X11_finish sh ci9 ai9 al9 q 1 r12.toInt64 (fun r13 sh13 ci13 ai13 al13 => Q r13 sh13 ci13 ai13 al13))))))) X
set_option maxHeartbeats 4000000 in
set_option maxRecDepth 100000 in
theorem p_X11_size (l : Launch) (hl0 : l.stackTraces = false) (dC : Nat → ClassId) (dI : Nat → Nat → Nat) (sh : Sh) (ci : Nat → Nat → Int32) (ai : Nat → Nat → Int32) (al : Nat → Nat → Int64) (q : Nat) (p0 : Int32) (Q : Int64 → Sh → (Nat → Nat → Int32) → (Nat → Nat → Int32) → (Nat → Nat → Int64) → Prop) (X : String → Prop) (h : P_X11_size sh ci ai al q p0 Q X) (sz : Nat) : vx_Met l yX11_size wmX11_size ({ frames := 1000, cells := 3, slots := 20, locals := 40000 }) (va_Pc [.ref q, .int p0] (xPre dC dI sh ci ai al sz)) (va_Ql (S := XSt) (xJ Q) (xB dC dI (va_A (cW sh ci ai al) sz)) (va_A (cW sh ci ai al) sz)) (XC X sz) 3 20 (va_A (cW sh ci ai al) sz) := by
  refine vx_ofW (cc := cX11_size) (maxL := 4) (ret := (some .long)) (by decide) rfl ?_
  intro p e s m args below meth c s₁ B hml htab hv
  obtain ⟨rfl, ⟨hsz, hP, hK, hD0, hG⟩, hZ⟩ := hv
  have hx := B.exec
  have hb := B.bytes
  have hr := B.returns
  have hts : ∀ w ∈ WC, w.before _ s = true := fun w h => atoms_spec (ws := wmX11_size) B.pre w (List.mem_cons_of_mem _ h)
  have hown : s.vm.findClass RX11 = some m.cls := findClass_of_methodNamed B.named
  have hlocks := B.notSynchronized
  subst hsz
  have hD := hD0.self (sz := s.heap.size)
  generalize hAe : va_A (cW sh ci ai al) s.heap.size = A at hD hZ ⊢
  have hA : ∀ q : Nat, s.heap.size ≤ q → A q := fun q h => by rw [← hAe]; exact Or.inr h
  generalize hz9 : s.heap.size = z9
  generalize hH : s.heap = H at hP ⊢
  subst hz9
  have hS : va_S A s.heap H [] := by rw [← hH]; exact va_S.rf
  have hE : xE s.heap H := by rw [← hH]; exact xE.rf
  have hl := lv_entry [.ref q, .int p0] (n := 4) (Nat.le_of_ble_eq_true rfl)
  rw [lg_entry_eq]
  generalize (lg_sl [.ref q, .int p0] ++ List.replicate (4 - (lg_sl [.ref q, .int p0]).length) Slot.unset).toArray = ls at hl ⊢
  have hl : lv_has ls 4 [(0, .ref q), (1, .int p0)] := hl
  unfold P_X11_size at h
  obtain ⟨⟨hq, hk⟩, h⟩ := h
  refine lv_aload_n hx hb dX11_size_0 rfl (lv_at hl 0 rfl) ?_
  refine lv_iload_n hx hb dX11_size_1 rfl (lv_at hl 1 rfl) ?_
  refine xr_endr (cells := 0) (slots := 0) (mc0 := 3) (ms0 := 20) (vx_runV (rm := ({ frames := 20, cells := 1, slots := 6, locals := 300 })) (As := [.int p0]) (rest := []) ⟨hx, hb, hml, hown, hts⟩ (p_X11_listOf l hl0 dC dI _ _ _ _ q p0 _ _ h H.size) (cwV 1 hts (g_V gdC mwC_436 mwC_437 mwC_438 mwC_119 mwC_435) rfl rfl rfl hd_X11_listOf ⟨Nat.le_of_ble_eq_true rfl, Nat.le_of_ble_eq_true rfl⟩) (x_preV hK hP hD hS hA hS hG hZ hq hk) rfl rfl hl.1 rfl (lv_room (Nat.le_of_ble_eq_true rfl)) dX11_size_2 ⟨Nat.le_of_ble_eq_true rfl, Nat.le_of_ble_eq_true rfl⟩) hE hS hP hA (fun x h => (htab x h).elim) hlocks (Nat.le_of_ble_eq_true rfl) (Nat.le_of_ble_eq_true rfl) (fun r1 H locs h hE hP hS => ?_)
  refine lv_astore_n (lv' := [(2, .ref r1), (0, .ref q), (1, .int p0)]) hx hb dX11_size_5 rfl hl (by decide) rfl (fun ls hl => ?_)
  refine lv_aload_n hx hb dX11_size_6 rfl (lv_at hl 1 rfl) ?_
  obtain ⟨q2, e3, h⟩ := h
  refine c_get (C := RX11) (T := TX11) (N := 9) (K := 10) (v := .ref q2) hx hb hts hinX11 hown hK hP hq hk (by decide) rfl 0 (by decide) (hts _ mwC_383) (fun _ h9 => h9) (by show some (va_rf (sR sh q 0)) = _; rw [e3]; rfl) dX11_size_7 ?_
  refine lv_aload_n hx hb dX11_size_10 rfl (lv_at hl 1 rfl) ?_
  refine c_get (C := RX11) (T := TX11) (N := 9) (K := 10) (v := .int (ci q 6)) hx hb hts hinX11 hown hK hP hq hk (by decide) rfl 6 (by decide) (hts _ mwC_380) (fun _ h9 => h9) rfl dX11_size_11 ?_
  obtain ⟨⟨hm4, hk5⟩, h⟩ := h
  refine c_endv (va_runV (rm := ({ frames := 4, cells := 0, slots := 0, locals := 60 })) (As := [.int (ci q 6)]) (rest := []) ⟨hx, hb, hml, hown, hts⟩ (p_X6_begin l dC dI sh _ _ _ q2 (ci q 6) _ h H.size) (cwV 1 hts (g_V gdC mwC_464 mwC_465 mwC_466 mwC_329 mwC_467) rfl rfl rfl hd_X6_begin ⟨Nat.le_of_ble_eq_true rfl, Nat.le_of_ble_eq_true rfl⟩) (c_preV (vc := (RX6, TX6, 2)) hK hP hD hG hm4 hk5 (by decide) rfl) rfl rfl hl.1 rfl (lv_room (Nat.le_of_ble_eq_true rfl)) dX11_size_14 ⟨Nat.le_of_ble_eq_true rfl, Nat.le_of_ble_eq_true rfl⟩) hD hS hA (fun ci6 ai6 al6 H locs h hP hD hS => ?_)
  refine lv_aload_n hx hb dX11_size_17 rfl (lv_at hl 0 rfl) ?_
  obtain ⟨⟨hm7, hk8⟩, h⟩ := h
  refine c_endi (c_runZ (rm := ({ frames := 301 + 5 * 100, cells := 0, slots := 0, locals := 6040 + 200 * 100 })) (y := yX5_reachAll) (x := ⟨"NeededLists$LazyList", "reachAll", "()I"⟩) (n := 0) (bytes := cX5_reachAll) (maxL := 1) (ret := (some .int)) (q := r1) (As := []) (rest := []) ⟨hx, hb, hml, hown, hts⟩ (p_X5_reachAll l dC dI sh 100 (pg l dC dI sh 100).1 (pg l dC dI sh 100).2 _ _ _ r1  _ h H.size) mwC_475 mwC_205 mwC_206 mwC_22 mwC_207 mwC_208 mwC_209 mwC_210 mwC_211 mwC_212 mwC_213 mwC_214 mwC_215 mwC_216 rfl (by decide +kernel) rfl rfl ⟨(show 301 + 5 * 100 + 1 ≤ 1000 by omega), (show 8 + (1 + 11) + (6040 + 200 * 100) ≤ 40000 by omega)⟩ hK hP hD hG hm7 hk8 rfl hl.1 rfl (Nat.le_of_ble_eq_true rfl) ⟨Nat.le_of_ble_eq_true rfl, Nat.le_of_ble_eq_true rfl⟩ dX11_size_18) hD hS hA (fun r9 ci9 ai9 al9 H locs h hP hD hS => ?_)
  refine lv_istore_n (lv' := [(3, .int r9), (2, .ref r1), (0, .ref q), (1, .int p0)]) hx hb dX11_size_21 rfl hl (by decide) rfl (fun ls hl => ?_)
  refine lv_aload_n hx hb dX11_size_22 rfl (lv_at hl 2 rfl) ?_
  refine lv_iload_n hx hb dX11_size_23 rfl (lv_at hl 0 rfl) ?_
  refine lv_iconst (v := 2) hx hb dX11_size_24 (by decide) ?_
  refine lv_icmp_ne (tgt := 32) hx hb dX11_size_25 (by decide) (fun c_25 => ?_) (fun c_25 => ?_)
  · have h := h.1 c_25
    refine lv_iload_n hx hb dX11_size_32 rfl (lv_at hl 0 rfl) ?_
    refine lv_aload_n hx hb dX11_size_33 rfl (lv_at hl 1 rfl) ?_
    refine r_endi (c_runZ (rm := ({ frames := 4, cells := 0, slots := 0, locals := 60 })) (y := yX5_there) (x := ⟨"NeededLists$LazyList", "there", "()I"⟩) (n := 0) (bytes := cX5_there) (maxL := 1) (ret := (some .int)) (q := r1) (As := []) (rest := [.int r9, .ref q]) ⟨hx, hb, hml, hown, hts⟩ (p_X5_there l dC dI sh _ _ _ r1  _ h H.size) mwC_476 mwC_20 mwC_21 mwC_22 mwC_23 mwC_24 mwC_25 mwC_26 mwC_27 mwC_28 mwC_29 mwC_30 mwC_31 mwC_32 rfl (by decide +kernel) rfl rfl ⟨Nat.le_of_ble_eq_true rfl, Nat.le_of_ble_eq_true rfl⟩ hK hP hD hG hm7 hk8 rfl hl.1 rfl (Nat.le_of_ble_eq_true rfl) ⟨Nat.le_of_ble_eq_true rfl, Nat.le_of_ble_eq_true rfl⟩ dX11_size_34) hP hS hA (fun r10 H locs h hP hS => ?_)
    refine lv_i2l hx hb dX11_size_37 rfl ?_
    refine xn_endl (va_runV (rm := ({ frames := 60, cells := 0, slots := 0, locals := 2000 })) (As := [.int r9, .long r10.toInt64]) (rest := []) ⟨hx, hb, hml, hown, hts⟩ (p_X11_finish l dC dI _ _ _ _ q r9 r10.toInt64 _ h H.size) (cwV 2 hts (g_V gdC mwC_472 mwC_473 mwC_474 mwC_119 mwC_471) rfl rfl rfl hd_X11_finish ⟨Nat.le_of_ble_eq_true rfl, Nat.le_of_ble_eq_true rfl⟩) (c_preV (vc := (RX11, TX11, 9)) hK hP hD hG hq hk (by decide) rfl) rfl rfl hl.1 rfl (lv_room (Nat.le_of_ble_eq_true rfl)) dX11_size_38 ⟨Nat.le_of_ble_eq_true rfl, Nat.le_of_ble_eq_true rfl⟩) hD hS hA (fun r11 sh11 ci11 ai11 al11 H locs h hK hP hD hS => ?_)
    refine W.widen (k := 3) (n := 20) (by decide) (by decide) ?_
    refine vx_ret ?_
    exact W.lret (v := r11) hx hb hr (fun t ht hW => ⟨⟨_, (sh11, ci11, ai11, al11), rfl, h, by rw [ht]; exact hP, cK.moved hW.alike hK, hD⟩, hS.F ht⟩) hS.2.2 dX11_size_41
  · have h := h.2 c_25
    refine lv_iconst (v := 1) hx hb dX11_size_28 (by decide) ?_
    refine lv_goto (tgt := 33) hx hb dX11_size_29 (by decide) ?_
    refine lv_aload_n hx hb dX11_size_33 rfl (lv_at hl 1 rfl) ?_
    refine r_endi (c_runZ (rm := ({ frames := 4, cells := 0, slots := 0, locals := 60 })) (y := yX5_there) (x := ⟨"NeededLists$LazyList", "there", "()I"⟩) (n := 0) (bytes := cX5_there) (maxL := 1) (ret := (some .int)) (q := r1) (As := []) (rest := [.int 1, .ref q]) ⟨hx, hb, hml, hown, hts⟩ (p_X5_there l dC dI sh _ _ _ r1  _ h H.size) mwC_476 mwC_20 mwC_21 mwC_22 mwC_23 mwC_24 mwC_25 mwC_26 mwC_27 mwC_28 mwC_29 mwC_30 mwC_31 mwC_32 rfl (by decide +kernel) rfl rfl ⟨Nat.le_of_ble_eq_true rfl, Nat.le_of_ble_eq_true rfl⟩ hK hP hD hG hm7 hk8 rfl hl.1 rfl (Nat.le_of_ble_eq_true rfl) ⟨Nat.le_of_ble_eq_true rfl, Nat.le_of_ble_eq_true rfl⟩ dX11_size_34) hP hS hA (fun r12 H locs h hP hS => ?_)
    refine lv_i2l hx hb dX11_size_37 rfl ?_
    refine xn_endl (va_runV (rm := ({ frames := 60, cells := 0, slots := 0, locals := 2000 })) (As := [.int 1, .long r12.toInt64]) (rest := []) ⟨hx, hb, hml, hown, hts⟩ (p_X11_finish l dC dI _ _ _ _ q 1 r12.toInt64 _ h H.size) (cwV 2 hts (g_V gdC mwC_472 mwC_473 mwC_474 mwC_119 mwC_471) rfl rfl rfl hd_X11_finish ⟨Nat.le_of_ble_eq_true rfl, Nat.le_of_ble_eq_true rfl⟩) (c_preV (vc := (RX11, TX11, 9)) hK hP hD hG hq hk (by decide) rfl) rfl rfl hl.1 rfl (lv_room (Nat.le_of_ble_eq_true rfl)) dX11_size_38 ⟨Nat.le_of_ble_eq_true rfl, Nat.le_of_ble_eq_true rfl⟩) hD hS hA (fun r13 sh13 ci13 ai13 al13 H locs h hK hP hD hS => ?_)
    refine W.widen (k := 3) (n := 20) (by decide) (by decide) ?_
    refine vx_ret ?_
    exact W.lret (v := r13) hx hb hr (fun t ht hW => ⟨⟨_, (sh13, ci13, ai13, al13), rfl, h, by rw [ht]; exact hP, cK.moved hW.alike hK, hD⟩, hS.F ht⟩) hS.2.2 dX11_size_41
abbrev wmX11_fold : List Cond := .code yX11_fold cX11_fold 13 (some .long) :: WC
theorem hd_X11_fold : yX11_fold.cls = RX11 ∧ yX11_fold.cls ≠ "java/lang/invoke/MethodHandle" ∧ yX11_fold.cls ≠ "java/lang/invoke/VarHandle" ∧ (parseMethodDescriptor yX11_fold.desc).map (fun d => d.parameters.length) = some 3 := by decide +kernel
def B_X11_fold_31 (K31 : Sh → (Nat → Nat → Int32) → (Nat → Nat → Int32) → (Nat → Nat → Int64) → Int32 → Nat → Int64 → Int32 → Int32 → Prop) (Q : Int64 → Sh → (Nat → Nat → Int32) → (Nat → Nat → Int32) → (Nat → Nat → Int64) → Prop) (q : Nat) (sh : Sh) (ci : Nat → Nat → Int32) (ai : Nat → Nat → Int32) (al : Nat → Nat → Int64) (x2 : Int32) (x5 : Nat) (x6 : Int64) (x8 : Int32) (x9 : Int32) : Prop := ((400 < x9) → ((q ∈ sL sh ∧ sK sh q = 10) ∧ P_X11_finish sh ci ai al q 3 0 (fun r3 sh3 ci3 ai3 al3 => Q r3 sh3 ci3 ai3 al3))) ∧ ((¬ 400 < x9) → ((x5 ∈ sL sh ∧ isZ (sK sh x5)) ∧ (PG sh 100).1 ci ai al x5 x9 (fun r6 ci6 ai6 al6 => ((r6 = 1) → (((¬ x2 = 7) → ((PG sh 100).2 ci6 ai6 al6 x5 x9 (fun r7 ci7 ai7 al7 => P_X5_number_f sh 30 ci7 ai7 al7 x5 x9 (fun r8 => ((¬ r7 = 1) → (((r7 = 3) → ((q ∈ sL sh ∧ sK sh q = 10) ∧ P_X11_finish sh ci7 ai7 al7 q r7 0 (fun r11 sh11 ci11 ai11 al11 => Q r11 sh11 ci11 ai11 al11))) ∧ ((¬ r7 = 3) → (((x2 = 8) → (P_X11_reckon x2 x6 r8 (fun r12 => K31 sh ci7 ai7 al7 x2 x5 r12 r7 (x9 + 1)))) ∧ ((¬ x2 = 8) → ((q ∈ sL sh ∧ sK sh q = 10) ∧ P_X11_finish sh ci7 ai7 al7 q r7 0 (fun r15 sh15 ci15 ai15 al15 => Q r15 sh15 ci15 ai15 al15))))))) ∧ ((r7 = 1) → (P_X11_dividesByNone x2 r8 (fun r16 => ((r16 = 0) → (P_X11_reckon x2 x6 r8 (fun r17 => K31 sh ci7 ai7 al7 x2 x5 r17 r7 (x9 + 1)))) ∧ ((¬ r16 = 0) → (((x2 = 8) → (P_X11_reckon x2 x6 r8 (fun r18 => K31 sh ci7 ai7 al7 x2 x5 r18 (5 : Int32) (x9 + 1)))) ∧ ((¬ x2 = 8) → ((q ∈ sL sh ∧ sK sh q = 10) ∧ P_X11_finish sh ci7 ai7 al7 q 5 0 (fun r21 sh21 ci21 ai21 al21 => Q r21 sh21 ci21 ai21 al21)))))))))))) ∧ ((x2 = 7) → (K31 sh ci6 ai6 al6 x2 x5 x6 x8 (x9 + 1))))) ∧ ((¬ r6 = 1) → (((¬ r6 = 2) → ((q ∈ sL sh ∧ sK sh q = 10) ∧ P_X11_finish sh ci6 ai6 al6 q r6 x6 (fun r24 sh24 ci24 ai24 al24 => Q r24 sh24 ci24 ai24 al24))) ∧ ((r6 = 2) → ((q ∈ sL sh ∧ sK sh q = 10) ∧ P_X11_finish sh ci6 ai6 al6 q x8 x6 (fun r27 sh27 ci27 ai27 al27 => Q r27 sh27 ci27 ai27 al27))))))))
def P_X11_fold_31 (Q : Int64 → Sh → (Nat → Nat → Int32) → (Nat → Nat → Int32) → (Nat → Nat → Int64) → Prop) (q : Nat) : Nat → Sh → (Nat → Nat → Int32) → (Nat → Nat → Int32) → (Nat → Nat → Int64) → Int32 → Nat → Int64 → Int32 → Int32 → Prop
  | 0 => fun _ _ _ _ _ _ _ _ _ => False
  | n + 1 => B_X11_fold_31 (P_X11_fold_31 Q q n) Q q
set_option maxHeartbeats 4000000 in
set_option maxRecDepth 100000 in
theorem b_X11_fold_31 {p : Program} {l : Launch} {e : Env} {s : State} {m : MethodId} {args : Array Value} {below : List Frame} {meth : Method} {c : Code} {A : Nat → Prop} {dC : Nat → ClassId} {dI : Nat → Nat → Nat} {q : Nat} {K31 : Sh → (Nat → Nat → Int32) → (Nat → Nat → Int32) → (Nat → Nat → Int64) → Int32 → Nat → Int64 → Int32 → Int32 → Prop} {Q : Int64 → Sh → (Nat → Nat → Int32) → (Nat → Nat → Int32) → (Nat → Nat → Int64) → Prop} {X : String → Prop} (hx : p.tables.exec = Jvm.exec) (hb : c.code = cX11_fold) (hr : meth.sig.returnType = (some .long)) (hts : ∀ w ∈ WC, w.before args s = true) (hown : s.vm.findClass RX11 = some m.cls) (hlocks : meth.locks = false) (hml : c.maxLocals = 13) (hA : ∀ q : Nat, s.heap.size ≤ q → A q) (hG : Gc s) (hK31 : ∀ (sh : Sh) (ci : Nat → Nat → Int32) (ai : Nat → Nat → Int32) (al : Nat → Nat → Int64) (x2 : Int32) (x5 : Nat) (x6 : Int64) (x8 : Int32) (x9 : Int32) (H : Heap) (locs : List Loc) (ls : Array Slot), K31 sh ci ai al x2 x5 x6 x8 x9 → cK dC dI sh s → va_P (dC, dI) vwCl (cW sh ci ai al) H → va_D A (cW sh ci ai al) → va_S A s.heap H locs → lv_has ls 13 [(0, .ref q), (2, .int x2), (5, .ref x5), (6, .long x6), (8, .int x8), (9, .int x9)] → W p l e (headSpec wmX11_fold ({ frames := 1000, cells := 3, slots := 20, locals := 40000 })).room s m args below meth c H locs 2 12 (vx_MQ below (va_Ql (S := XSt) (xJ Q) (xB dC dI A) A) (XC X s.heap.size) args s 3 20 A) (F0 m 31 ls [])) : ∀ (sh : Sh) (ci : Nat → Nat → Int32) (ai : Nat → Nat → Int32) (al : Nat → Nat → Int64) (x2 : Int32) (x5 : Nat) (x6 : Int64) (x8 : Int32) (x9 : Int32) (H : Heap) (locs : List Loc) (ls : Array Slot), B_X11_fold_31 K31 Q q sh ci ai al x2 x5 x6 x8 x9 → cK dC dI sh s → va_P (dC, dI) vwCl (cW sh ci ai al) H → va_D A (cW sh ci ai al) → va_S A s.heap H locs → lv_has ls 13 [(0, .ref q), (2, .int x2), (5, .ref x5), (6, .long x6), (8, .int x8), (9, .int x9)] → W p l e (headSpec wmX11_fold ({ frames := 1000, cells := 3, slots := 20, locals := 40000 })).room s m args below meth c H locs 2 12 (vx_MQ below (va_Ql (S := XSt) (xJ Q) (xB dC dI A) A) (XC X s.heap.size) args s 3 20 A) (F0 m 31 ls []) := by
  intro sh ci ai al x2 x5 x6 x8 x9 H locs ls h hK hP hD hS hl
  unfold B_X11_fold_31 at h
  refine lv_iload hx hb dX11_fold_31 (lv_at hl 5 rfl) ?_
  refine lv_sipush (v := 400) hx hb dX11_fold_33 (by decide) ?_
  refine lv_icmp_gt (tgt := 161) hx hb dX11_fold_36 (by decide) (fun c_36 => ?_) (fun c_36 => ?_)
  · have h := h.1 c_36
    refine lv_aload_n hx hb dX11_fold_161 rfl (lv_at hl 0 rfl) ?_
    refine lv_iconst (v := 3) hx hb dX11_fold_162 (by decide) ?_
    refine lv_lconst (v := 0) hx hb dX11_fold_163 (by decide) ?_
    obtain ⟨⟨hm1, hk2⟩, h⟩ := h
    refine xn_endl (va_runV (rm := ({ frames := 60, cells := 0, slots := 0, locals := 2000 })) (As := [.int 3, .long 0]) (rest := []) ⟨hx, hb, hml, hown, hts⟩ (p_X11_finish l dC dI _ _ _ _ q 3 0 _ h H.size) (cwV 2 hts (g_V gdC mwC_472 mwC_473 mwC_474 mwC_119 mwC_471) rfl rfl rfl hd_X11_finish ⟨Nat.le_of_ble_eq_true rfl, Nat.le_of_ble_eq_true rfl⟩) (c_preV (vc := (RX11, TX11, 9)) hK hP hD hG hm1 hk2 (by decide) rfl) rfl rfl hl.1 rfl (lv_room (Nat.le_of_ble_eq_true rfl)) dX11_fold_164 ⟨Nat.le_of_ble_eq_true rfl, Nat.le_of_ble_eq_true rfl⟩) hD hS hA (fun r3 sh3 ci3 ai3 al3 H locs h hK hP hD hS => ?_)
    refine W.widen (k := 3) (n := 20) (by decide) (by decide) ?_
    refine vx_ret ?_
    exact W.lret (v := r3) hx hb hr (fun t ht hW => ⟨⟨_, (sh3, ci3, ai3, al3), rfl, h, by rw [ht]; exact hP, cK.moved hW.alike hK, hD⟩, hS.F ht⟩) hS.2.2 dX11_fold_167
  · have h := h.2 c_36
    refine lv_aload hx hb dX11_fold_39 (lv_at hl 2 rfl) ?_
    refine lv_iload hx hb dX11_fold_41 (lv_at hl 5 rfl) ?_
    obtain ⟨⟨hm4, hk5⟩, h⟩ := h
    refine c_endi (c_runZ (rm := ({ frames := 300 + 5 * 100, cells := 0, slots := 0, locals := 6000 + 200 * 100 })) (y := yX5_reach) (x := ⟨"NeededLists$LazyList", "reach", "(I)I"⟩) (n := 1) (bytes := cX5_reach) (maxL := 5) (ret := (some .int)) (q := x5) (As := [.int x9]) (rest := []) ⟨hx, hb, hml, hown, hts⟩ ((pg l dC dI sh 100).1 _ _ _ x5 x9 _ h H.size) mwC_468 mwC_145 mwC_146 mwC_22 mwC_147 mwC_148 mwC_149 mwC_150 mwC_151 mwC_152 mwC_153 mwC_154 mwC_155 mwC_156 rfl (by decide +kernel) rfl rfl ⟨(show 300 + 5 * 100 + 1 ≤ 1000 by omega), (show 8 + (5 + 11) + (6000 + 200 * 100) ≤ 40000 by omega)⟩ hK hP hD hG hm4 hk5 rfl hl.1 rfl (Nat.le_of_ble_eq_true rfl) ⟨Nat.le_of_ble_eq_true rfl, Nat.le_of_ble_eq_true rfl⟩ dX11_fold_43) hD hS hA (fun r6 ci6 ai6 al6 H locs h hP hD hS => ?_)
    refine lv_istore (lv' := [(10, .int r6), (0, .ref q), (2, .int x2), (5, .ref x5), (6, .long x6), (8, .int x8), (9, .int x9)]) hx hb dX11_fold_46 hl (by decide) rfl (fun ls hl => ?_)
    refine lv_iload hx hb dX11_fold_48 (lv_at hl 0 rfl) ?_
    refine lv_iconst (v := 1) hx hb dX11_fold_50 (by decide) ?_
    refine lv_icmp_eq (tgt := 74) hx hb dX11_fold_51 (by decide) (fun c_51 => ?_) (fun c_51 => ?_)
    · have h := h.1 c_51
      refine lv_iload_n hx hb dX11_fold_74 rfl (lv_at hl 2 rfl) ?_
      refine lv_bipush (v := 7) hx hb dX11_fold_75 (by decide) ?_
      refine lv_icmp_ne (tgt := 83) hx hb dX11_fold_77 (by decide) (fun c_77 => ?_) (fun c_77 => ?_)
      · have h := h.1 c_77
        refine lv_aload hx hb dX11_fold_83 (lv_at hl 3 rfl) ?_
        refine lv_iload hx hb dX11_fold_85 (lv_at hl 6 rfl) ?_
        refine c_endi (c_runZ (rm := ({ frames := 300 + 5 * 100, cells := 0, slots := 0, locals := 6000 + 200 * 100 })) (y := yX5_work) (x := ⟨"NeededLists$LazyList", "work", "(I)I"⟩) (n := 1) (bytes := cX5_work) (maxL := 4) (ret := (some .int)) (q := x5) (As := [.int x9]) (rest := []) ⟨hx, hb, hml, hown, hts⟩ ((pg l dC dI sh 100).2 _ _ _ x5 x9 _ h H.size) mwC_469 mwC_159 mwC_160 mwC_22 mwC_161 mwC_162 mwC_163 mwC_164 mwC_165 mwC_166 mwC_167 mwC_168 mwC_169 mwC_170 rfl (by decide +kernel) rfl rfl ⟨(show 300 + 5 * 100 + 1 ≤ 1000 by omega), (show 8 + (4 + 11) + (6000 + 200 * 100) ≤ 40000 by omega)⟩ hK hP hD hG hm4 hk5 rfl hl.1 rfl (Nat.le_of_ble_eq_true rfl) ⟨Nat.le_of_ble_eq_true rfl, Nat.le_of_ble_eq_true rfl⟩ dX11_fold_87) hD hS hA (fun r7 ci7 ai7 al7 H locs h hP hD hS => ?_)
        refine lv_istore (lv' := [(8, .int r7), (10, .int r6), (0, .ref q), (2, .int x2), (5, .ref x5), (6, .long x6), (9, .int x9)]) hx hb dX11_fold_90 hl (by decide) rfl (fun ls hl => ?_)
        refine lv_aload hx hb dX11_fold_92 (lv_at hl 4 rfl) ?_
        refine lv_iload hx hb dX11_fold_94 (lv_at hl 6 rfl) ?_
        refine r_endl (c_runZ (rm := ({ frames := 20 + 2 * 30, cells := 0, slots := 0, locals := 300 + 50 * 30 })) (y := yX5_number) (x := ⟨"NeededLists$LazyList", "number", "(I)J"⟩) (n := 1) (bytes := cX5_number) (maxL := 3) (ret := (some .long)) (q := x5) (As := [.int x9]) (rest := []) ⟨hx, hb, hml, hown, hts⟩ (p_X5_number_f l dC dI sh 30 _ _ _ x5 x9 _ h H.size) mwC_470 mwC_92 mwC_93 mwC_22 mwC_94 mwC_95 mwC_96 mwC_97 mwC_98 mwC_99 mwC_100 mwC_101 mwC_102 mwC_103 rfl (by decide +kernel) rfl rfl ⟨(show 20 + 2 * 30 + 1 ≤ 1000 by omega), (show 8 + (3 + 11) + (300 + 50 * 30) ≤ 40000 by omega)⟩ hK hP hD hG hm4 hk5 rfl hl.1 rfl (Nat.le_of_ble_eq_true rfl) ⟨Nat.le_of_ble_eq_true rfl, Nat.le_of_ble_eq_true rfl⟩ dX11_fold_96) hP hS hA (fun r8 H locs h hP hS => ?_)
        refine lv_lstore (lv' := [(11, .long r8), (8, .int r7), (10, .int r6), (0, .ref q), (2, .int x2), (5, .ref x5), (6, .long x6), (9, .int x9)]) hx hb dX11_fold_99 hl (by decide) rfl (fun ls hl => ?_)
        refine lv_iload hx hb dX11_fold_101 (lv_at hl 1 rfl) ?_
        refine lv_iconst (v := 1) hx hb dX11_fold_103 (by decide) ?_
        refine lv_icmp_ne (tgt := 119) hx hb dX11_fold_104 (by decide) (fun c_104 => ?_) (fun c_104 => ?_)
        · have h := h.1 c_104
          refine lv_iload hx hb dX11_fold_119 (lv_at hl 1 rfl) ?_
          refine lv_iconst (v := 3) hx hb dX11_fold_121 (by decide) ?_
          refine lv_icmp_eq (tgt := 137) hx hb dX11_fold_122 (by decide) (fun c_122 => ?_) (fun c_122 => ?_)
          · have h := h.1 c_122
            refine lv_aload_n hx hb dX11_fold_137 rfl (lv_at hl 3 rfl) ?_
            refine lv_iload hx hb dX11_fold_138 (lv_at hl 1 rfl) ?_
            refine lv_lconst (v := 0) hx hb dX11_fold_140 (by decide) ?_
            obtain ⟨⟨hm9, hk10⟩, h⟩ := h
            refine xn_endl (va_runV (rm := ({ frames := 60, cells := 0, slots := 0, locals := 2000 })) (As := [.int r7, .long 0]) (rest := []) ⟨hx, hb, hml, hown, hts⟩ (p_X11_finish l dC dI _ _ _ _ q r7 0 _ h H.size) (cwV 2 hts (g_V gdC mwC_472 mwC_473 mwC_474 mwC_119 mwC_471) rfl rfl rfl hd_X11_finish ⟨Nat.le_of_ble_eq_true rfl, Nat.le_of_ble_eq_true rfl⟩) (c_preV (vc := (RX11, TX11, 9)) hK hP hD hG hm9 hk10 (by decide) rfl) rfl rfl hl.1 rfl (lv_room (Nat.le_of_ble_eq_true rfl)) dX11_fold_141 ⟨Nat.le_of_ble_eq_true rfl, Nat.le_of_ble_eq_true rfl⟩) hD hS hA (fun r11 sh11 ci11 ai11 al11 H locs h hK hP hD hS => ?_)
            refine W.widen (k := 3) (n := 20) (by decide) (by decide) ?_
            refine vx_ret ?_
            exact W.lret (v := r11) hx hb hr (fun t ht hW => ⟨⟨_, (sh11, ci11, ai11, al11), rfl, h, by rw [ht]; exact hP, cK.moved hW.alike hK, hD⟩, hS.F ht⟩) hS.2.2 dX11_fold_144
          · have h := h.2 c_122
            refine lv_iload hx hb dX11_fold_125 (lv_at hl 1 rfl) ?_
            refine lv_iconst (v := 1) hx hb dX11_fold_127 (by decide) ?_
            refine lv_icmp_eq (tgt := 145) hx hb dX11_fold_128 (by decide) (fun c_128 => ?_) (fun c_128 => ?_)
            · exact (c_104 c_128).elim
            · refine lv_iload_n hx hb dX11_fold_131 rfl (lv_at hl 4 rfl) ?_
              refine lv_bipush (v := 8) hx hb dX11_fold_132 (by decide) ?_
              refine lv_icmp_eq (tgt := 145) hx hb dX11_fold_134 (by decide) (fun c_134 => ?_) (fun c_134 => ?_)
              · have h := h.1 c_134
                refine lv_iload_n hx hb dX11_fold_145 rfl (lv_at hl 4 rfl) ?_
                refine lv_lload hx hb dX11_fold_146 (lv_at hl 6 rfl) ?_
                refine lv_lload hx hb dX11_fold_148 (lv_at hl 0 rfl) ?_
                refine r_endl (va_runS (rm := ({ frames := 8, cells := 0, slots := 0, locals := 120 })) (As := [.int x2, .long x6, .long r8]) (rest := []) ⟨hx, hb, hml, hown, hts⟩ (p_X11_reckon l dC dI x2 x6 r8 _ h H.size) (va_cwS 3 hts (g_S gdC mwC_477 mwC_122 mwC_119 mwC_121) rfl rfl rfl hd_X11_reckon ⟨Nat.le_of_ble_eq_true rfl, Nat.le_of_ble_eq_true rfl⟩) ⟨s_blind, fun U hU hW => ⟨rfl, congrArg Array.size hU⟩⟩ rfl rfl hl.1 rfl (lv_room (Nat.le_of_ble_eq_true rfl)) dX11_fold_150 ⟨Nat.le_of_ble_eq_true rfl, Nat.le_of_ble_eq_true rfl⟩) hP hS hA (fun r12 H locs h hP hS => ?_)
                refine lv_lstore (lv' := [(6, .long r12), (11, .long r8), (8, .int r7), (10, .int r6), (0, .ref q), (2, .int x2), (5, .ref x5), (9, .int x9)]) hx hb dX11_fold_153 hl (by decide) rfl (fun ls hl => ?_)
                refine lv_iinc (v := x9 + 1) (lv' := [(9, .int (x9 + 1)), (6, .long r12), (11, .long r8), (8, .int r7), (10, .int r6), (0, .ref q), (2, .int x2), (5, .ref x5)]) hx hb dX11_fold_155 hl (k := 7) rfl (iinc_1 _) (by decide) rfl (fun ls hl => ?_)
                refine lv_goto (tgt := 31) hx hb dX11_fold_158 (by decide) ?_
                exact hK31 _ _ _ _ _ _ _ _ _ H _ ls h hK hP hD hS (lv_sub hl [5, 6, 7, 1, 3, 0] rfl)
              · have h := h.2 c_134
                refine lv_aload_n hx hb dX11_fold_137 rfl (lv_at hl 3 rfl) ?_
                refine lv_iload hx hb dX11_fold_138 (lv_at hl 1 rfl) ?_
                refine lv_lconst (v := 0) hx hb dX11_fold_140 (by decide) ?_
                obtain ⟨⟨hm13, hk14⟩, h⟩ := h
                refine xn_endl (va_runV (rm := ({ frames := 60, cells := 0, slots := 0, locals := 2000 })) (As := [.int r7, .long 0]) (rest := []) ⟨hx, hb, hml, hown, hts⟩ (p_X11_finish l dC dI _ _ _ _ q r7 0 _ h H.size) (cwV 2 hts (g_V gdC mwC_472 mwC_473 mwC_474 mwC_119 mwC_471) rfl rfl rfl hd_X11_finish ⟨Nat.le_of_ble_eq_true rfl, Nat.le_of_ble_eq_true rfl⟩) (c_preV (vc := (RX11, TX11, 9)) hK hP hD hG hm13 hk14 (by decide) rfl) rfl rfl hl.1 rfl (lv_room (Nat.le_of_ble_eq_true rfl)) dX11_fold_141 ⟨Nat.le_of_ble_eq_true rfl, Nat.le_of_ble_eq_true rfl⟩) hD hS hA (fun r15 sh15 ci15 ai15 al15 H locs h hK hP hD hS => ?_)
                refine W.widen (k := 3) (n := 20) (by decide) (by decide) ?_
                refine vx_ret ?_
                exact W.lret (v := r15) hx hb hr (fun t ht hW => ⟨⟨_, (sh15, ci15, ai15, al15), rfl, h, by rw [ht]; exact hP, cK.moved hW.alike hK, hD⟩, hS.F ht⟩) hS.2.2 dX11_fold_144
        · have h := h.2 c_104
          refine lv_iload_n hx hb dX11_fold_107 rfl (lv_at hl 4 rfl) ?_
          refine lv_lload hx hb dX11_fold_108 (lv_at hl 0 rfl) ?_
          refine r_endi (va_runS (rm := ({ frames := 4, cells := 0, slots := 0, locals := 60 })) (As := [.int x2, .long r8]) (rest := []) ⟨hx, hb, hml, hown, hts⟩ (p_X11_dividesByNone l dC dI x2 r8 _ h H.size) (va_cwS 2 hts (g_S gdC mwC_478 mwC_120 mwC_119 mwC_118) rfl rfl rfl hd_X11_dividesByNone ⟨Nat.le_of_ble_eq_true rfl, Nat.le_of_ble_eq_true rfl⟩) ⟨s_blind, fun U hU hW => ⟨rfl, congrArg Array.size hU⟩⟩ rfl rfl hl.1 rfl (lv_room (Nat.le_of_ble_eq_true rfl)) dX11_fold_110 ⟨Nat.le_of_ble_eq_true rfl, Nat.le_of_ble_eq_true rfl⟩) hP hS hA (fun r16 H locs h hP hS => ?_)
          refine lv_if_eq (tgt := 119) hx hb dX11_fold_113 (by decide) (fun c_113 => ?_) (fun c_113 => ?_)
          · have h := h.1 c_113
            refine lv_iload hx hb dX11_fold_119 (lv_at hl 1 rfl) ?_
            refine lv_iconst (v := 3) hx hb dX11_fold_121 (by decide) ?_
            refine lv_icmp_eq (tgt := 137) hx hb dX11_fold_122 (by decide) (fun c_122 => ?_) (fun c_122 => ?_)
            · exact absurd (c_104.symm.trans c_122) (by decide)
            · refine lv_iload hx hb dX11_fold_125 (lv_at hl 1 rfl) ?_
              refine lv_iconst (v := 1) hx hb dX11_fold_127 (by decide) ?_
              refine lv_icmp_eq (tgt := 145) hx hb dX11_fold_128 (by decide) (fun c_128 => ?_) (fun c_128 => ?_)
              · refine lv_iload_n hx hb dX11_fold_145 rfl (lv_at hl 4 rfl) ?_
                refine lv_lload hx hb dX11_fold_146 (lv_at hl 6 rfl) ?_
                refine lv_lload hx hb dX11_fold_148 (lv_at hl 0 rfl) ?_
                refine r_endl (va_runS (rm := ({ frames := 8, cells := 0, slots := 0, locals := 120 })) (As := [.int x2, .long x6, .long r8]) (rest := []) ⟨hx, hb, hml, hown, hts⟩ (p_X11_reckon l dC dI x2 x6 r8 _ h H.size) (va_cwS 3 hts (g_S gdC mwC_477 mwC_122 mwC_119 mwC_121) rfl rfl rfl hd_X11_reckon ⟨Nat.le_of_ble_eq_true rfl, Nat.le_of_ble_eq_true rfl⟩) ⟨s_blind, fun U hU hW => ⟨rfl, congrArg Array.size hU⟩⟩ rfl rfl hl.1 rfl (lv_room (Nat.le_of_ble_eq_true rfl)) dX11_fold_150 ⟨Nat.le_of_ble_eq_true rfl, Nat.le_of_ble_eq_true rfl⟩) hP hS hA (fun r17 H locs h hP hS => ?_)
                refine lv_lstore (lv' := [(6, .long r17), (11, .long r8), (8, .int r7), (10, .int r6), (0, .ref q), (2, .int x2), (5, .ref x5), (9, .int x9)]) hx hb dX11_fold_153 hl (by decide) rfl (fun ls hl => ?_)
                refine lv_iinc (v := x9 + 1) (lv' := [(9, .int (x9 + 1)), (6, .long r17), (11, .long r8), (8, .int r7), (10, .int r6), (0, .ref q), (2, .int x2), (5, .ref x5)]) hx hb dX11_fold_155 hl (k := 7) rfl (iinc_1 _) (by decide) rfl (fun ls hl => ?_)
                refine lv_goto (tgt := 31) hx hb dX11_fold_158 (by decide) ?_
                exact hK31 _ _ _ _ _ _ _ _ _ H _ ls h hK hP hD hS (lv_sub hl [5, 6, 7, 1, 3, 0] rfl)
              · exact (c_128 c_104).elim
          · have h := h.2 c_113
            refine lv_iconst (v := 5) hx hb dX11_fold_116 (by decide) ?_
            refine lv_istore (lv' := [(8, .int 5), (11, .long r8), (10, .int r6), (0, .ref q), (2, .int x2), (5, .ref x5), (6, .long x6), (9, .int x9)]) hx hb dX11_fold_117 hl (by decide) rfl (fun ls hl => ?_)
            refine lv_iload hx hb dX11_fold_119 (lv_at hl 0 rfl) ?_
            refine lv_iconst (v := 3) hx hb dX11_fold_121 (by decide) ?_
            refine lv_icmp_eq (tgt := 137) hx hb dX11_fold_122 (by decide) (fun c_122 => ?_) (fun c_122 => ?_)
            · exact absurd c_122 (by decide)
            · refine lv_iload hx hb dX11_fold_125 (lv_at hl 0 rfl) ?_
              refine lv_iconst (v := 1) hx hb dX11_fold_127 (by decide) ?_
              refine lv_icmp_eq (tgt := 145) hx hb dX11_fold_128 (by decide) (fun c_128 => ?_) (fun c_128 => ?_)
              · exact absurd c_128 (by decide)
              · refine lv_iload_n hx hb dX11_fold_131 rfl (lv_at hl 4 rfl) ?_
                refine lv_bipush (v := 8) hx hb dX11_fold_132 (by decide) ?_
                refine lv_icmp_eq (tgt := 145) hx hb dX11_fold_134 (by decide) (fun c_134 => ?_) (fun c_134 => ?_)
                · have h := h.1 c_134
                  refine lv_iload_n hx hb dX11_fold_145 rfl (lv_at hl 4 rfl) ?_
                  refine lv_lload hx hb dX11_fold_146 (lv_at hl 6 rfl) ?_
                  refine lv_lload hx hb dX11_fold_148 (lv_at hl 1 rfl) ?_
                  refine r_endl (va_runS (rm := ({ frames := 8, cells := 0, slots := 0, locals := 120 })) (As := [.int x2, .long x6, .long r8]) (rest := []) ⟨hx, hb, hml, hown, hts⟩ (p_X11_reckon l dC dI x2 x6 r8 _ h H.size) (va_cwS 3 hts (g_S gdC mwC_477 mwC_122 mwC_119 mwC_121) rfl rfl rfl hd_X11_reckon ⟨Nat.le_of_ble_eq_true rfl, Nat.le_of_ble_eq_true rfl⟩) ⟨s_blind, fun U hU hW => ⟨rfl, congrArg Array.size hU⟩⟩ rfl rfl hl.1 rfl (lv_room (Nat.le_of_ble_eq_true rfl)) dX11_fold_150 ⟨Nat.le_of_ble_eq_true rfl, Nat.le_of_ble_eq_true rfl⟩) hP hS hA (fun r18 H locs h hP hS => ?_)
                  refine lv_lstore (lv' := [(6, .long r18), (8, .int 5), (11, .long r8), (10, .int r6), (0, .ref q), (2, .int x2), (5, .ref x5), (9, .int x9)]) hx hb dX11_fold_153 hl (by decide) rfl (fun ls hl => ?_)
                  refine lv_iinc (v := x9 + 1) (lv' := [(9, .int (x9 + 1)), (6, .long r18), (8, .int 5), (11, .long r8), (10, .int r6), (0, .ref q), (2, .int x2), (5, .ref x5)]) hx hb dX11_fold_155 hl (k := 7) rfl (iinc_1 _) (by decide) rfl (fun ls hl => ?_)
                  refine lv_goto (tgt := 31) hx hb dX11_fold_158 (by decide) ?_
                  exact hK31 _ _ _ _ _ _ _ _ _ H _ ls h hK hP hD hS (lv_sub hl [5, 6, 7, 1, 2, 0] rfl)
                · have h := h.2 c_134
                  refine lv_aload_n hx hb dX11_fold_137 rfl (lv_at hl 3 rfl) ?_
                  refine lv_iload hx hb dX11_fold_138 (lv_at hl 0 rfl) ?_
                  refine lv_lconst (v := 0) hx hb dX11_fold_140 (by decide) ?_
                  obtain ⟨⟨hm19, hk20⟩, h⟩ := h
                  refine xn_endl (va_runV (rm := ({ frames := 60, cells := 0, slots := 0, locals := 2000 })) (As := [.int 5, .long 0]) (rest := []) ⟨hx, hb, hml, hown, hts⟩ (p_X11_finish l dC dI _ _ _ _ q 5 0 _ h H.size) (cwV 2 hts (g_V gdC mwC_472 mwC_473 mwC_474 mwC_119 mwC_471) rfl rfl rfl hd_X11_finish ⟨Nat.le_of_ble_eq_true rfl, Nat.le_of_ble_eq_true rfl⟩) (c_preV (vc := (RX11, TX11, 9)) hK hP hD hG hm19 hk20 (by decide) rfl) rfl rfl hl.1 rfl (lv_room (Nat.le_of_ble_eq_true rfl)) dX11_fold_141 ⟨Nat.le_of_ble_eq_true rfl, Nat.le_of_ble_eq_true rfl⟩) hD hS hA (fun r21 sh21 ci21 ai21 al21 H locs h hK hP hD hS => ?_)
                  refine W.widen (k := 3) (n := 20) (by decide) (by decide) ?_
                  refine vx_ret ?_
                  exact W.lret (v := r21) hx hb hr (fun t ht hW => ⟨⟨_, (sh21, ci21, ai21, al21), rfl, h, by rw [ht]; exact hP, cK.moved hW.alike hK, hD⟩, hS.F ht⟩) hS.2.2 dX11_fold_144
      · have h := h.2 c_77
        refine lv_goto (tgt := 155) hx hb dX11_fold_80 (by decide) ?_
        refine lv_iinc (v := x9 + 1) (lv' := [(9, .int (x9 + 1)), (10, .int r6), (0, .ref q), (2, .int x2), (5, .ref x5), (6, .long x6), (8, .int x8)]) hx hb dX11_fold_155 hl (k := 6) rfl (iinc_1 _) (by decide) rfl (fun ls hl => ?_)
        refine lv_goto (tgt := 31) hx hb dX11_fold_158 (by decide) ?_
        exact hK31 _ _ _ _ _ _ _ _ _ H _ ls h hK hP hD hS (lv_sub hl [2, 3, 4, 5, 6, 0] rfl)
    · have h := h.2 c_51
      refine lv_aload_n hx hb dX11_fold_54 rfl (lv_at hl 1 rfl) ?_
      refine lv_iload hx hb dX11_fold_55 (lv_at hl 0 rfl) ?_
      refine lv_iconst (v := 2) hx hb dX11_fold_57 (by decide) ?_
      refine lv_icmp_ne (tgt := 66) hx hb dX11_fold_58 (by decide) (fun c_58 => ?_) (fun c_58 => ?_)
      · have h := h.1 c_58
        refine lv_iload hx hb dX11_fold_66 (lv_at hl 0 rfl) ?_
        refine lv_lload hx hb dX11_fold_68 (lv_at hl 4 rfl) ?_
        obtain ⟨⟨hm22, hk23⟩, h⟩ := h
        refine xn_endl (va_runV (rm := ({ frames := 60, cells := 0, slots := 0, locals := 2000 })) (As := [.int r6, .long x6]) (rest := []) ⟨hx, hb, hml, hown, hts⟩ (p_X11_finish l dC dI _ _ _ _ q r6 x6 _ h H.size) (cwV 2 hts (g_V gdC mwC_472 mwC_473 mwC_474 mwC_119 mwC_471) rfl rfl rfl hd_X11_finish ⟨Nat.le_of_ble_eq_true rfl, Nat.le_of_ble_eq_true rfl⟩) (c_preV (vc := (RX11, TX11, 9)) hK hP hD hG hm22 hk23 (by decide) rfl) rfl rfl hl.1 rfl (lv_room (Nat.le_of_ble_eq_true rfl)) dX11_fold_70 ⟨Nat.le_of_ble_eq_true rfl, Nat.le_of_ble_eq_true rfl⟩) hD hS hA (fun r24 sh24 ci24 ai24 al24 H locs h hK hP hD hS => ?_)
        refine W.widen (k := 3) (n := 20) (by decide) (by decide) ?_
        refine vx_ret ?_
        exact W.lret (v := r24) hx hb hr (fun t ht hW => ⟨⟨_, (sh24, ci24, ai24, al24), rfl, h, by rw [ht]; exact hP, cK.moved hW.alike hK, hD⟩, hS.F ht⟩) hS.2.2 dX11_fold_73
      · have h := h.2 c_58
        refine lv_iload hx hb dX11_fold_61 (lv_at hl 5 rfl) ?_
        refine lv_goto (tgt := 68) hx hb dX11_fold_63 (by decide) ?_
        refine lv_lload hx hb dX11_fold_68 (lv_at hl 4 rfl) ?_
        obtain ⟨⟨hm25, hk26⟩, h⟩ := h
        refine xn_endl (va_runV (rm := ({ frames := 60, cells := 0, slots := 0, locals := 2000 })) (As := [.int x8, .long x6]) (rest := []) ⟨hx, hb, hml, hown, hts⟩ (p_X11_finish l dC dI _ _ _ _ q x8 x6 _ h H.size) (cwV 2 hts (g_V gdC mwC_472 mwC_473 mwC_474 mwC_119 mwC_471) rfl rfl rfl hd_X11_finish ⟨Nat.le_of_ble_eq_true rfl, Nat.le_of_ble_eq_true rfl⟩) (c_preV (vc := (RX11, TX11, 9)) hK hP hD hG hm25 hk26 (by decide) rfl) rfl rfl hl.1 rfl (lv_room (Nat.le_of_ble_eq_true rfl)) dX11_fold_70 ⟨Nat.le_of_ble_eq_true rfl, Nat.le_of_ble_eq_true rfl⟩) hD hS hA (fun r27 sh27 ci27 ai27 al27 H locs h hK hP hD hS => ?_)
        refine W.widen (k := 3) (n := 20) (by decide) (by decide) ?_
        refine vx_ret ?_
        exact W.lret (v := r27) hx hb hr (fun t ht hW => ⟨⟨_, (sh27, ci27, ai27, al27), rfl, h, by rw [ht]; exact hP, cK.moved hW.alike hK, hD⟩, hS.F ht⟩) hS.2.2 dX11_fold_73
set_option maxHeartbeats 4000000 in
set_option maxRecDepth 100000 in
theorem t_X11_fold_31 {p : Program} {l : Launch} {e : Env} {s : State} {m : MethodId} {args : Array Value} {below : List Frame} {meth : Method} {c : Code} {A : Nat → Prop} {dC : Nat → ClassId} {dI : Nat → Nat → Nat} {q : Nat} {Q : Int64 → Sh → (Nat → Nat → Int32) → (Nat → Nat → Int32) → (Nat → Nat → Int64) → Prop} {X : String → Prop} (hx : p.tables.exec = Jvm.exec) (hb : c.code = cX11_fold) (hr : meth.sig.returnType = (some .long)) (hts : ∀ w ∈ WC, w.before args s = true) (hown : s.vm.findClass RX11 = some m.cls) (hlocks : meth.locks = false) (hml : c.maxLocals = 13) (hA : ∀ q : Nat, s.heap.size ≤ q → A q) (hG : Gc s) : ∀ n : Nat, ∀ (sh : Sh) (ci : Nat → Nat → Int32) (ai : Nat → Nat → Int32) (al : Nat → Nat → Int64) (x2 : Int32) (x5 : Nat) (x6 : Int64) (x8 : Int32) (x9 : Int32) (H : Heap) (locs : List Loc) (ls : Array Slot), P_X11_fold_31 Q q n sh ci ai al x2 x5 x6 x8 x9 → cK dC dI sh s → va_P (dC, dI) vwCl (cW sh ci ai al) H → va_D A (cW sh ci ai al) → va_S A s.heap H locs → lv_has ls 13 [(0, .ref q), (2, .int x2), (5, .ref x5), (6, .long x6), (8, .int x8), (9, .int x9)] → W p l e (headSpec wmX11_fold ({ frames := 1000, cells := 3, slots := 20, locals := 40000 })).room s m args below meth c H locs 2 12 (vx_MQ below (va_Ql (S := XSt) (xJ Q) (xB dC dI A) A) (XC X s.heap.size) args s 3 20 A) (F0 m 31 ls []) := by
  intro n
  induction n with
  | zero => intro sh ci ai al x2 x5 x6 x8 x9 H locs ls h; exact h.elim
  | succ n ih => exact b_X11_fold_31 hx hb hr hts hown hlocks hml hA hG ih
def P_X11_fold (sh : Sh) (ci : Nat → Nat → Int32) (ai : Nat → Nat → Int32) (al : Nat → Nat → Int64) (q : Nat) (p0 : Int32) (p1 : Int32) (p2 : Int64) (Q : Int64 → Sh → (Nat → Nat → Int32) → (Nat → Nat → Int32) → (Nat → Nat → Int64) → Prop) (X : String → Prop) : Prop := (q ∈ sL sh ∧ sK sh q = 10) ∧ P_X11_listOf sh ci ai al q p0 (fun r1 => P_X11_checkOp p1 (∃ q3 : Nat, sR sh q 0 = some q3 ∧ (q3 ∈ sL sh ∧ sK sh q3 = 5) ∧ P_X6_begin sh ci ai al q3 (ci q 6) (fun ci7 ai7 al7 => ∃ n9 : Nat, P_X11_fold_31 Q q n9 sh ci7 ai7 al7 p1 r1 p2 (1 : Int32) (0 : Int32))) X) X
set_option maxHeartbeats 4000000 in
set_option maxRecDepth 100000 in
theorem p_X11_fold (l : Launch) (hl0 : l.stackTraces = false) (dC : Nat → ClassId) (dI : Nat → Nat → Nat) (sh : Sh) (ci : Nat → Nat → Int32) (ai : Nat → Nat → Int32) (al : Nat → Nat → Int64) (q : Nat) (p0 : Int32) (p1 : Int32) (p2 : Int64) (Q : Int64 → Sh → (Nat → Nat → Int32) → (Nat → Nat → Int32) → (Nat → Nat → Int64) → Prop) (X : String → Prop) (h : P_X11_fold sh ci ai al q p0 p1 p2 Q X) (sz : Nat) : vx_Met l yX11_fold wmX11_fold ({ frames := 1000, cells := 3, slots := 20, locals := 40000 }) (va_Pc [.ref q, .int p0, .int p1, .long p2] (xPre dC dI sh ci ai al sz)) (va_Ql (S := XSt) (xJ Q) (xB dC dI (va_A (cW sh ci ai al) sz)) (va_A (cW sh ci ai al) sz)) (XC X sz) 3 20 (va_A (cW sh ci ai al) sz) := by
  refine vx_ofW (cc := cX11_fold) (maxL := 13) (ret := (some .long)) (by decide) rfl ?_
  intro p e s m args below meth c s₁ B hml htab hv
  obtain ⟨rfl, ⟨hsz, hP, hK, hD0, hG⟩, hZ⟩ := hv
  have hx := B.exec
  have hb := B.bytes
  have hr := B.returns
  have hts : ∀ w ∈ WC, w.before _ s = true := fun w h => atoms_spec (ws := wmX11_fold) B.pre w (List.mem_cons_of_mem _ h)
  have hown : s.vm.findClass RX11 = some m.cls := findClass_of_methodNamed B.named
  have hlocks := B.notSynchronized
  subst hsz
  have hD := hD0.self (sz := s.heap.size)
  generalize hAe : va_A (cW sh ci ai al) s.heap.size = A at hD hZ ⊢
  have hA : ∀ q : Nat, s.heap.size ≤ q → A q := fun q h => by rw [← hAe]; exact Or.inr h
  generalize hz9 : s.heap.size = z9
  generalize hH : s.heap = H at hP ⊢
  subst hz9
  have hS : va_S A s.heap H [] := by rw [← hH]; exact va_S.rf
  have hE : xE s.heap H := by rw [← hH]; exact xE.rf
  have hl := lv_entry [.ref q, .int p0, .int p1, .long p2] (n := 13) (Nat.le_of_ble_eq_true rfl)
  rw [lg_entry_eq]
  generalize (lg_sl [.ref q, .int p0, .int p1, .long p2] ++ List.replicate (13 - (lg_sl [.ref q, .int p0, .int p1, .long p2]).length) Slot.unset).toArray = ls at hl ⊢
  have hl : lv_has ls 13 [(0, .ref q), (1, .int p0), (2, .int p1), (3, .long p2)] := hl
  unfold P_X11_fold at h
  obtain ⟨⟨hq, hk⟩, h⟩ := h
  refine lv_aload_n hx hb dX11_fold_0 rfl (lv_at hl 0 rfl) ?_
  refine lv_iload_n hx hb dX11_fold_1 rfl (lv_at hl 1 rfl) ?_
  refine xr_endr (cells := 0) (slots := 0) (mc0 := 3) (ms0 := 20) (vx_runV (rm := ({ frames := 20, cells := 1, slots := 6, locals := 300 })) (As := [.int p0]) (rest := []) ⟨hx, hb, hml, hown, hts⟩ (p_X11_listOf l hl0 dC dI _ _ _ _ q p0 _ _ h H.size) (cwV 1 hts (g_V gdC mwC_436 mwC_437 mwC_438 mwC_119 mwC_435) rfl rfl rfl hd_X11_listOf ⟨Nat.le_of_ble_eq_true rfl, Nat.le_of_ble_eq_true rfl⟩) (x_preV hK hP hD hS hA hS hG hZ hq hk) rfl rfl hl.1 rfl (lv_room (Nat.le_of_ble_eq_true rfl)) dX11_fold_2 ⟨Nat.le_of_ble_eq_true rfl, Nat.le_of_ble_eq_true rfl⟩) hE hS hP hA (fun x h => (htab x h).elim) hlocks (Nat.le_of_ble_eq_true rfl) (Nat.le_of_ble_eq_true rfl) (fun r1 H locs h hE hP hS => ?_)
  refine lv_astore (lv' := [(5, .ref r1), (0, .ref q), (1, .int p0), (2, .int p1), (3, .long p2)]) hx hb dX11_fold_5 hl (by decide) rfl (fun ls hl => ?_)
  refine lv_iload_n hx hb dX11_fold_7 rfl (lv_at hl 3 rfl) ?_
  refine xr_endv (cells := 1) (slots := 6) (mc0 := 3) (ms0 := 20) (vx_runS (rm := ({ frames := 20, cells := 1, slots := 6, locals := 300 })) (As := [.int p1]) (rest := []) ⟨hx, hb, hml, hown, hts⟩ (p_X11_checkOp l hl0 p1 _ _ h H.size) (va_cwS 1 hts (g_S gdC mwC_428 mwC_429 mwC_119 mwC_427) rfl rfl rfl hd_X11_checkOp ⟨Nat.le_of_ble_eq_true rfl, Nat.le_of_ble_eq_true rfl⟩) (x_preS hA hS hG hZ) rfl rfl hl.1 rfl (lv_room (Nat.le_of_ble_eq_true rfl)) dX11_fold_8 ⟨Nat.le_of_ble_eq_true rfl, Nat.le_of_ble_eq_true rfl⟩) hE hS hP hA (fun x h => (htab x h).elim) hlocks (Nat.le_of_ble_eq_true rfl) (Nat.le_of_ble_eq_true rfl) (fun H locs h hE hP hS => ?_)
  refine lv_aload_n hx hb dX11_fold_11 rfl (lv_at hl 1 rfl) ?_
  obtain ⟨q3, e4, h⟩ := h
  refine c_get (C := RX11) (T := TX11) (N := 9) (K := 10) (v := .ref q3) hx hb hts hinX11 hown hK hP hq hk (by decide) rfl 0 (by decide) (hts _ mwC_383) (fun _ h9 => h9) (by show some (va_rf (sR sh q 0)) = _; rw [e4]; rfl) dX11_fold_12 ?_
  refine lv_aload_n hx hb dX11_fold_15 rfl (lv_at hl 1 rfl) ?_
  refine c_get (C := RX11) (T := TX11) (N := 9) (K := 10) (v := .int (ci q 6)) hx hb hts hinX11 hown hK hP hq hk (by decide) rfl 6 (by decide) (hts _ mwC_380) (fun _ h9 => h9) rfl dX11_fold_16 ?_
  obtain ⟨⟨hm5, hk6⟩, h⟩ := h
  refine c_endv (va_runV (rm := ({ frames := 4, cells := 0, slots := 0, locals := 60 })) (As := [.int (ci q 6)]) (rest := []) ⟨hx, hb, hml, hown, hts⟩ (p_X6_begin l dC dI sh _ _ _ q3 (ci q 6) _ h H.size) (cwV 1 hts (g_V gdC mwC_464 mwC_465 mwC_466 mwC_329 mwC_467) rfl rfl rfl hd_X6_begin ⟨Nat.le_of_ble_eq_true rfl, Nat.le_of_ble_eq_true rfl⟩) (c_preV (vc := (RX6, TX6, 2)) hK hP hD hG hm5 hk6 (by decide) rfl) rfl rfl hl.1 rfl (lv_room (Nat.le_of_ble_eq_true rfl)) dX11_fold_19 ⟨Nat.le_of_ble_eq_true rfl, Nat.le_of_ble_eq_true rfl⟩) hD hS hA (fun ci7 ai7 al7 H locs h hP hD hS => ?_)
  refine lv_lload_n hx hb dX11_fold_22 rfl (lv_at hl 4 rfl) ?_
  refine lv_lstore (lv' := [(6, .long p2), (5, .ref r1), (0, .ref q), (1, .int p0), (2, .int p1), (3, .long p2)]) hx hb dX11_fold_23 hl (by decide) rfl (fun ls hl => ?_)
  refine lv_iconst (v := 1) hx hb dX11_fold_25 (by decide) ?_
  refine lv_istore (lv' := [(8, .int 1), (6, .long p2), (5, .ref r1), (0, .ref q), (1, .int p0), (2, .int p1), (3, .long p2)]) hx hb dX11_fold_26 hl (by decide) rfl (fun ls hl => ?_)
  refine lv_iconst (v := 0) hx hb dX11_fold_28 (by decide) ?_
  refine lv_istore (lv' := [(9, .int 0), (8, .int 1), (6, .long p2), (5, .ref r1), (0, .ref q), (1, .int p0), (2, .int p1), (3, .long p2)]) hx hb dX11_fold_29 hl (by decide) rfl (fun ls hl => ?_)
  obtain ⟨n9, h⟩ := h
  exact t_X11_fold_31 hx hb hr hts hown hlocks hml hA hG n9 _ _ _ _ _ _ _ _ _ H _ ls h hK hP hD hS (lv_sub hl [4, 6, 3, 2, 1, 0] rfl)
abbrev wmX11_find : List Cond := .code yX11_find cX11_find 9 (some .long) :: WC
theorem hd_X11_find : yX11_find.cls = RX11 ∧ yX11_find.cls ≠ "java/lang/invoke/MethodHandle" ∧ yX11_find.cls ≠ "java/lang/invoke/VarHandle" ∧ (parseMethodDescriptor yX11_find.desc).map (fun d => d.parameters.length) = some 3 := by decide +kernel
def B_X11_find_25 (K25 : Sh → (Nat → Nat → Int32) → (Nat → Nat → Int32) → (Nat → Nat → Int64) → Int32 → Int64 → Nat → Int32 → Prop) (Q : Int64 → Sh → (Nat → Nat → Int32) → (Nat → Nat → Int32) → (Nat → Nat → Int64) → Prop) (q : Nat) (sh : Sh) (ci : Nat → Nat → Int32) (ai : Nat → Nat → Int32) (al : Nat → Nat → Int64) (x2 : Int32) (x3 : Int64) (x5 : Nat) (x6 : Int32) : Prop := ((400 < x6) → ((q ∈ sL sh ∧ sK sh q = 10) ∧ P_X11_finish sh ci ai al q 3 0 (fun r3 sh3 ci3 ai3 al3 => Q r3 sh3 ci3 ai3 al3))) ∧ ((¬ 400 < x6) → ((x5 ∈ sL sh ∧ isZ (sK sh x5)) ∧ (PG sh 100).1 ci ai al x5 x6 (fun r6 ci6 ai6 al6 => ((r6 = 1) → ((PG sh 100).2 ci6 ai6 al6 x5 x6 (fun r7 ci7 ai7 al7 => ((¬ r7 = 1) → ((q ∈ sL sh ∧ sK sh q = 10) ∧ P_X11_finish sh ci7 ai7 al7 q r7 x6.toInt64 (fun r10 sh10 ci10 ai10 al10 => Q r10 sh10 ci10 ai10 al10))) ∧ ((r7 = 1) → (P_X5_number_f sh 30 ci7 ai7 al7 x5 x6 (fun r11 => P_X11_meets x2 r11 x3 (fun r12 => ((r12 = 0) → (K25 sh ci7 ai7 al7 x2 x3 x5 (x6 + 1))) ∧ ((¬ r12 = 0) → ((q ∈ sL sh ∧ sK sh q = 10) ∧ P_X11_finish sh ci7 ai7 al7 q r7 x6.toInt64 (fun r15 sh15 ci15 ai15 al15 => Q r15 sh15 ci15 ai15 al15)))))))))) ∧ ((¬ r6 = 1) → (((¬ r6 = 2) → ((q ∈ sL sh ∧ sK sh q = 10) ∧ P_X11_finish sh ci6 ai6 al6 q r6 (-1) (fun r18 sh18 ci18 ai18 al18 => Q r18 sh18 ci18 ai18 al18))) ∧ ((r6 = 2) → ((q ∈ sL sh ∧ sK sh q = 10) ∧ P_X11_finish sh ci6 ai6 al6 q 1 (-1) (fun r21 sh21 ci21 ai21 al21 => Q r21 sh21 ci21 ai21 al21))))))))
def P_X11_find_25 (Q : Int64 → Sh → (Nat → Nat → Int32) → (Nat → Nat → Int32) → (Nat → Nat → Int64) → Prop) (q : Nat) : Nat → Sh → (Nat → Nat → Int32) → (Nat → Nat → Int32) → (Nat → Nat → Int64) → Int32 → Int64 → Nat → Int32 → Prop
  | 0 => fun _ _ _ _ _ _ _ _ => False
  | n + 1 => B_X11_find_25 (P_X11_find_25 Q q n) Q q
set_option maxHeartbeats 4000000 in
set_option maxRecDepth 100000 in
theorem b_X11_find_25 {p : Program} {l : Launch} {e : Env} {s : State} {m : MethodId} {args : Array Value} {below : List Frame} {meth : Method} {c : Code} {A : Nat → Prop} {dC : Nat → ClassId} {dI : Nat → Nat → Nat} {q : Nat} {K25 : Sh → (Nat → Nat → Int32) → (Nat → Nat → Int32) → (Nat → Nat → Int64) → Int32 → Int64 → Nat → Int32 → Prop} {Q : Int64 → Sh → (Nat → Nat → Int32) → (Nat → Nat → Int32) → (Nat → Nat → Int64) → Prop} {X : String → Prop} (hx : p.tables.exec = Jvm.exec) (hb : c.code = cX11_find) (hr : meth.sig.returnType = (some .long)) (hts : ∀ w ∈ WC, w.before args s = true) (hown : s.vm.findClass RX11 = some m.cls) (hlocks : meth.locks = false) (hml : c.maxLocals = 9) (hA : ∀ q : Nat, s.heap.size ≤ q → A q) (hG : Gc s) (hK25 : ∀ (sh : Sh) (ci : Nat → Nat → Int32) (ai : Nat → Nat → Int32) (al : Nat → Nat → Int64) (x2 : Int32) (x3 : Int64) (x5 : Nat) (x6 : Int32) (H : Heap) (locs : List Loc) (ls : Array Slot), K25 sh ci ai al x2 x3 x5 x6 → cK dC dI sh s → va_P (dC, dI) vwCl (cW sh ci ai al) H → va_D A (cW sh ci ai al) → va_S A s.heap H locs → lv_has ls 9 [(0, .ref q), (2, .int x2), (3, .long x3), (5, .ref x5), (6, .int x6)] → W p l e (headSpec wmX11_find ({ frames := 1000, cells := 3, slots := 20, locals := 40000 })).room s m args below meth c H locs 2 12 (vx_MQ below (va_Ql (S := XSt) (xJ Q) (xB dC dI A) A) (XC X s.heap.size) args s 3 20 A) (F0 m 25 ls [])) : ∀ (sh : Sh) (ci : Nat → Nat → Int32) (ai : Nat → Nat → Int32) (al : Nat → Nat → Int64) (x2 : Int32) (x3 : Int64) (x5 : Nat) (x6 : Int32) (H : Heap) (locs : List Loc) (ls : Array Slot), B_X11_find_25 K25 Q q sh ci ai al x2 x3 x5 x6 → cK dC dI sh s → va_P (dC, dI) vwCl (cW sh ci ai al) H → va_D A (cW sh ci ai al) → va_S A s.heap H locs → lv_has ls 9 [(0, .ref q), (2, .int x2), (3, .long x3), (5, .ref x5), (6, .int x6)] → W p l e (headSpec wmX11_find ({ frames := 1000, cells := 3, slots := 20, locals := 40000 })).room s m args below meth c H locs 2 12 (vx_MQ below (va_Ql (S := XSt) (xJ Q) (xB dC dI A) A) (XC X s.heap.size) args s 3 20 A) (F0 m 25 ls []) := by
  intro sh ci ai al x2 x3 x5 x6 H locs ls h hK hP hD hS hl
  unfold B_X11_find_25 at h
  refine lv_iload hx hb dX11_find_25 (lv_at hl 4 rfl) ?_
  refine lv_sipush (v := 400) hx hb dX11_find_27 (by decide) ?_
  refine lv_icmp_gt (tgt := 114) hx hb dX11_find_30 (by decide) (fun c_30 => ?_) (fun c_30 => ?_)
  · have h := h.1 c_30
    refine lv_aload_n hx hb dX11_find_114 rfl (lv_at hl 0 rfl) ?_
    refine lv_iconst (v := 3) hx hb dX11_find_115 (by decide) ?_
    refine lv_lconst (v := 0) hx hb dX11_find_116 (by decide) ?_
    obtain ⟨⟨hm1, hk2⟩, h⟩ := h
    refine xn_endl (va_runV (rm := ({ frames := 60, cells := 0, slots := 0, locals := 2000 })) (As := [.int 3, .long 0]) (rest := []) ⟨hx, hb, hml, hown, hts⟩ (p_X11_finish l dC dI _ _ _ _ q 3 0 _ h H.size) (cwV 2 hts (g_V gdC mwC_472 mwC_473 mwC_474 mwC_119 mwC_471) rfl rfl rfl hd_X11_finish ⟨Nat.le_of_ble_eq_true rfl, Nat.le_of_ble_eq_true rfl⟩) (c_preV (vc := (RX11, TX11, 9)) hK hP hD hG hm1 hk2 (by decide) rfl) rfl rfl hl.1 rfl (lv_room (Nat.le_of_ble_eq_true rfl)) dX11_find_117 ⟨Nat.le_of_ble_eq_true rfl, Nat.le_of_ble_eq_true rfl⟩) hD hS hA (fun r3 sh3 ci3 ai3 al3 H locs h hK hP hD hS => ?_)
    refine W.widen (k := 3) (n := 20) (by decide) (by decide) ?_
    refine vx_ret ?_
    exact W.lret (v := r3) hx hb hr (fun t ht hW => ⟨⟨_, (sh3, ci3, ai3, al3), rfl, h, by rw [ht]; exact hP, cK.moved hW.alike hK, hD⟩, hS.F ht⟩) hS.2.2 dX11_find_120
  · have h := h.2 c_30
    refine lv_aload hx hb dX11_find_33 (lv_at hl 3 rfl) ?_
    refine lv_iload hx hb dX11_find_35 (lv_at hl 4 rfl) ?_
    obtain ⟨⟨hm4, hk5⟩, h⟩ := h
    refine c_endi (c_runZ (rm := ({ frames := 300 + 5 * 100, cells := 0, slots := 0, locals := 6000 + 200 * 100 })) (y := yX5_reach) (x := ⟨"NeededLists$LazyList", "reach", "(I)I"⟩) (n := 1) (bytes := cX5_reach) (maxL := 5) (ret := (some .int)) (q := x5) (As := [.int x6]) (rest := []) ⟨hx, hb, hml, hown, hts⟩ ((pg l dC dI sh 100).1 _ _ _ x5 x6 _ h H.size) mwC_468 mwC_145 mwC_146 mwC_22 mwC_147 mwC_148 mwC_149 mwC_150 mwC_151 mwC_152 mwC_153 mwC_154 mwC_155 mwC_156 rfl (by decide +kernel) rfl rfl ⟨(show 300 + 5 * 100 + 1 ≤ 1000 by omega), (show 8 + (5 + 11) + (6000 + 200 * 100) ≤ 40000 by omega)⟩ hK hP hD hG hm4 hk5 rfl hl.1 rfl (Nat.le_of_ble_eq_true rfl) ⟨Nat.le_of_ble_eq_true rfl, Nat.le_of_ble_eq_true rfl⟩ dX11_find_37) hD hS hA (fun r6 ci6 ai6 al6 H locs h hP hD hS => ?_)
    refine lv_istore (lv' := [(7, .int r6), (0, .ref q), (2, .int x2), (3, .long x3), (5, .ref x5), (6, .int x6)]) hx hb dX11_find_40 hl (by decide) rfl (fun ls hl => ?_)
    refine lv_iload hx hb dX11_find_42 (lv_at hl 0 rfl) ?_
    refine lv_iconst (v := 1) hx hb dX11_find_44 (by decide) ?_
    refine lv_icmp_eq (tgt := 68) hx hb dX11_find_45 (by decide) (fun c_45 => ?_) (fun c_45 => ?_)
    · have h := h.1 c_45
      refine lv_aload hx hb dX11_find_68 (lv_at hl 4 rfl) ?_
      refine lv_iload hx hb dX11_find_70 (lv_at hl 5 rfl) ?_
      refine c_endi (c_runZ (rm := ({ frames := 300 + 5 * 100, cells := 0, slots := 0, locals := 6000 + 200 * 100 })) (y := yX5_work) (x := ⟨"NeededLists$LazyList", "work", "(I)I"⟩) (n := 1) (bytes := cX5_work) (maxL := 4) (ret := (some .int)) (q := x5) (As := [.int x6]) (rest := []) ⟨hx, hb, hml, hown, hts⟩ ((pg l dC dI sh 100).2 _ _ _ x5 x6 _ h H.size) mwC_469 mwC_159 mwC_160 mwC_22 mwC_161 mwC_162 mwC_163 mwC_164 mwC_165 mwC_166 mwC_167 mwC_168 mwC_169 mwC_170 rfl (by decide +kernel) rfl rfl ⟨(show 300 + 5 * 100 + 1 ≤ 1000 by omega), (show 8 + (4 + 11) + (6000 + 200 * 100) ≤ 40000 by omega)⟩ hK hP hD hG hm4 hk5 rfl hl.1 rfl (Nat.le_of_ble_eq_true rfl) ⟨Nat.le_of_ble_eq_true rfl, Nat.le_of_ble_eq_true rfl⟩ dX11_find_72) hD hS hA (fun r7 ci7 ai7 al7 H locs h hP hD hS => ?_)
      refine lv_istore (lv' := [(8, .int r7), (7, .int r6), (0, .ref q), (2, .int x2), (3, .long x3), (5, .ref x5), (6, .int x6)]) hx hb dX11_find_75 hl (by decide) rfl (fun ls hl => ?_)
      refine lv_iload hx hb dX11_find_77 (lv_at hl 0 rfl) ?_
      refine lv_iconst (v := 1) hx hb dX11_find_79 (by decide) ?_
      refine lv_icmp_ne (tgt := 98) hx hb dX11_find_80 (by decide) (fun c_80 => ?_) (fun c_80 => ?_)
      · have h := h.1 c_80
        refine lv_aload_n hx hb dX11_find_98 rfl (lv_at hl 2 rfl) ?_
        refine lv_iload hx hb dX11_find_99 (lv_at hl 0 rfl) ?_
        refine lv_iload hx hb dX11_find_101 (lv_at hl 6 rfl) ?_
        refine lv_i2l hx hb dX11_find_103 rfl ?_
        obtain ⟨⟨hm8, hk9⟩, h⟩ := h
        refine xn_endl (va_runV (rm := ({ frames := 60, cells := 0, slots := 0, locals := 2000 })) (As := [.int r7, .long x6.toInt64]) (rest := []) ⟨hx, hb, hml, hown, hts⟩ (p_X11_finish l dC dI _ _ _ _ q r7 x6.toInt64 _ h H.size) (cwV 2 hts (g_V gdC mwC_472 mwC_473 mwC_474 mwC_119 mwC_471) rfl rfl rfl hd_X11_finish ⟨Nat.le_of_ble_eq_true rfl, Nat.le_of_ble_eq_true rfl⟩) (c_preV (vc := (RX11, TX11, 9)) hK hP hD hG hm8 hk9 (by decide) rfl) rfl rfl hl.1 rfl (lv_room (Nat.le_of_ble_eq_true rfl)) dX11_find_104 ⟨Nat.le_of_ble_eq_true rfl, Nat.le_of_ble_eq_true rfl⟩) hD hS hA (fun r10 sh10 ci10 ai10 al10 H locs h hK hP hD hS => ?_)
        refine W.widen (k := 3) (n := 20) (by decide) (by decide) ?_
        refine vx_ret ?_
        exact W.lret (v := r10) hx hb hr (fun t ht hW => ⟨⟨_, (sh10, ci10, ai10, al10), rfl, h, by rw [ht]; exact hP, cK.moved hW.alike hK, hD⟩, hS.F ht⟩) hS.2.2 dX11_find_107
      · have h := h.2 c_80
        refine lv_iload_n hx hb dX11_find_83 rfl (lv_at hl 3 rfl) ?_
        refine lv_aload hx hb dX11_find_84 (lv_at hl 5 rfl) ?_
        refine lv_iload hx hb dX11_find_86 (lv_at hl 6 rfl) ?_
        refine r_endl (c_runZ (rm := ({ frames := 20 + 2 * 30, cells := 0, slots := 0, locals := 300 + 50 * 30 })) (y := yX5_number) (x := ⟨"NeededLists$LazyList", "number", "(I)J"⟩) (n := 1) (bytes := cX5_number) (maxL := 3) (ret := (some .long)) (q := x5) (As := [.int x6]) (rest := [.int x2]) ⟨hx, hb, hml, hown, hts⟩ (p_X5_number_f l dC dI sh 30 _ _ _ x5 x6 _ h H.size) mwC_470 mwC_92 mwC_93 mwC_22 mwC_94 mwC_95 mwC_96 mwC_97 mwC_98 mwC_99 mwC_100 mwC_101 mwC_102 mwC_103 rfl (by decide +kernel) rfl rfl ⟨(show 20 + 2 * 30 + 1 ≤ 1000 by omega), (show 8 + (3 + 11) + (300 + 50 * 30) ≤ 40000 by omega)⟩ hK hP hD hG hm4 hk5 rfl hl.1 rfl (Nat.le_of_ble_eq_true rfl) ⟨Nat.le_of_ble_eq_true rfl, Nat.le_of_ble_eq_true rfl⟩ dX11_find_88) hP hS hA (fun r11 H locs h hP hS => ?_)
        refine lv_lload_n hx hb dX11_find_91 rfl (lv_at hl 4 rfl) ?_
        refine r_endi (va_runS (rm := ({ frames := 4, cells := 0, slots := 0, locals := 60 })) (As := [.int x2, .long r11, .long x3]) (rest := []) ⟨hx, hb, hml, hown, hts⟩ (p_X11_meets l dC dI x2 r11 x3 _ h H.size) (va_cwS 3 hts (g_S gdC mwC_479 mwC_139 mwC_119 mwC_138) rfl rfl rfl hd_X11_meets ⟨Nat.le_of_ble_eq_true rfl, Nat.le_of_ble_eq_true rfl⟩) ⟨s_blind, fun U hU hW => ⟨rfl, congrArg Array.size hU⟩⟩ rfl rfl hl.1 rfl (lv_room (Nat.le_of_ble_eq_true rfl)) dX11_find_92 ⟨Nat.le_of_ble_eq_true rfl, Nat.le_of_ble_eq_true rfl⟩) hP hS hA (fun r12 H locs h hP hS => ?_)
        refine lv_if_eq (tgt := 108) hx hb dX11_find_95 (by decide) (fun c_95 => ?_) (fun c_95 => ?_)
        · have h := h.1 c_95
          refine lv_iinc (v := x6 + 1) (lv' := [(6, .int (x6 + 1)), (8, .int r7), (7, .int r6), (0, .ref q), (2, .int x2), (3, .long x3), (5, .ref x5)]) hx hb dX11_find_108 hl (k := 6) rfl (iinc_1 _) (by decide) rfl (fun ls hl => ?_)
          refine lv_goto (tgt := 25) hx hb dX11_find_111 (by decide) ?_
          exact hK25 _ _ _ _ _ _ _ _ H _ ls h hK hP hD hS (lv_sub hl [3, 4, 5, 6, 0] rfl)
        · have h := h.2 c_95
          refine lv_aload_n hx hb dX11_find_98 rfl (lv_at hl 2 rfl) ?_
          refine lv_iload hx hb dX11_find_99 (lv_at hl 0 rfl) ?_
          refine lv_iload hx hb dX11_find_101 (lv_at hl 6 rfl) ?_
          refine lv_i2l hx hb dX11_find_103 rfl ?_
          obtain ⟨⟨hm13, hk14⟩, h⟩ := h
          refine xn_endl (va_runV (rm := ({ frames := 60, cells := 0, slots := 0, locals := 2000 })) (As := [.int r7, .long x6.toInt64]) (rest := []) ⟨hx, hb, hml, hown, hts⟩ (p_X11_finish l dC dI _ _ _ _ q r7 x6.toInt64 _ h H.size) (cwV 2 hts (g_V gdC mwC_472 mwC_473 mwC_474 mwC_119 mwC_471) rfl rfl rfl hd_X11_finish ⟨Nat.le_of_ble_eq_true rfl, Nat.le_of_ble_eq_true rfl⟩) (c_preV (vc := (RX11, TX11, 9)) hK hP hD hG hm13 hk14 (by decide) rfl) rfl rfl hl.1 rfl (lv_room (Nat.le_of_ble_eq_true rfl)) dX11_find_104 ⟨Nat.le_of_ble_eq_true rfl, Nat.le_of_ble_eq_true rfl⟩) hD hS hA (fun r15 sh15 ci15 ai15 al15 H locs h hK hP hD hS => ?_)
          refine W.widen (k := 3) (n := 20) (by decide) (by decide) ?_
          refine vx_ret ?_
          exact W.lret (v := r15) hx hb hr (fun t ht hW => ⟨⟨_, (sh15, ci15, ai15, al15), rfl, h, by rw [ht]; exact hP, cK.moved hW.alike hK, hD⟩, hS.F ht⟩) hS.2.2 dX11_find_107
    · have h := h.2 c_45
      refine lv_aload_n hx hb dX11_find_48 rfl (lv_at hl 1 rfl) ?_
      refine lv_iload hx hb dX11_find_49 (lv_at hl 0 rfl) ?_
      refine lv_iconst (v := 2) hx hb dX11_find_51 (by decide) ?_
      refine lv_icmp_ne (tgt := 59) hx hb dX11_find_52 (by decide) (fun c_52 => ?_) (fun c_52 => ?_)
      · have h := h.1 c_52
        refine lv_iload hx hb dX11_find_59 (lv_at hl 0 rfl) ?_
        refine lv_ldc2 (v := (-1)) hx hb hown (hts _ mwC_480) dX11_find_61 ?_
        obtain ⟨⟨hm16, hk17⟩, h⟩ := h
        refine xn_endl (va_runV (rm := ({ frames := 60, cells := 0, slots := 0, locals := 2000 })) (As := [.int r6, .long (-1)]) (rest := []) ⟨hx, hb, hml, hown, hts⟩ (p_X11_finish l dC dI _ _ _ _ q r6 (-1) _ h H.size) (cwV 2 hts (g_V gdC mwC_472 mwC_473 mwC_474 mwC_119 mwC_471) rfl rfl rfl hd_X11_finish ⟨Nat.le_of_ble_eq_true rfl, Nat.le_of_ble_eq_true rfl⟩) (c_preV (vc := (RX11, TX11, 9)) hK hP hD hG hm16 hk17 (by decide) rfl) rfl rfl hl.1 rfl (lv_room (Nat.le_of_ble_eq_true rfl)) dX11_find_64 ⟨Nat.le_of_ble_eq_true rfl, Nat.le_of_ble_eq_true rfl⟩) hD hS hA (fun r18 sh18 ci18 ai18 al18 H locs h hK hP hD hS => ?_)
        refine W.widen (k := 3) (n := 20) (by decide) (by decide) ?_
        refine vx_ret ?_
        exact W.lret (v := r18) hx hb hr (fun t ht hW => ⟨⟨_, (sh18, ci18, ai18, al18), rfl, h, by rw [ht]; exact hP, cK.moved hW.alike hK, hD⟩, hS.F ht⟩) hS.2.2 dX11_find_67
      · have h := h.2 c_52
        refine lv_iconst (v := 1) hx hb dX11_find_55 (by decide) ?_
        refine lv_goto (tgt := 61) hx hb dX11_find_56 (by decide) ?_
        refine lv_ldc2 (v := (-1)) hx hb hown (hts _ mwC_480) dX11_find_61 ?_
        obtain ⟨⟨hm19, hk20⟩, h⟩ := h
        refine xn_endl (va_runV (rm := ({ frames := 60, cells := 0, slots := 0, locals := 2000 })) (As := [.int 1, .long (-1)]) (rest := []) ⟨hx, hb, hml, hown, hts⟩ (p_X11_finish l dC dI _ _ _ _ q 1 (-1) _ h H.size) (cwV 2 hts (g_V gdC mwC_472 mwC_473 mwC_474 mwC_119 mwC_471) rfl rfl rfl hd_X11_finish ⟨Nat.le_of_ble_eq_true rfl, Nat.le_of_ble_eq_true rfl⟩) (c_preV (vc := (RX11, TX11, 9)) hK hP hD hG hm19 hk20 (by decide) rfl) rfl rfl hl.1 rfl (lv_room (Nat.le_of_ble_eq_true rfl)) dX11_find_64 ⟨Nat.le_of_ble_eq_true rfl, Nat.le_of_ble_eq_true rfl⟩) hD hS hA (fun r21 sh21 ci21 ai21 al21 H locs h hK hP hD hS => ?_)
        refine W.widen (k := 3) (n := 20) (by decide) (by decide) ?_
        refine vx_ret ?_
        exact W.lret (v := r21) hx hb hr (fun t ht hW => ⟨⟨_, (sh21, ci21, ai21, al21), rfl, h, by rw [ht]; exact hP, cK.moved hW.alike hK, hD⟩, hS.F ht⟩) hS.2.2 dX11_find_67
set_option maxHeartbeats 4000000 in
set_option maxRecDepth 100000 in
theorem t_X11_find_25 {p : Program} {l : Launch} {e : Env} {s : State} {m : MethodId} {args : Array Value} {below : List Frame} {meth : Method} {c : Code} {A : Nat → Prop} {dC : Nat → ClassId} {dI : Nat → Nat → Nat} {q : Nat} {Q : Int64 → Sh → (Nat → Nat → Int32) → (Nat → Nat → Int32) → (Nat → Nat → Int64) → Prop} {X : String → Prop} (hx : p.tables.exec = Jvm.exec) (hb : c.code = cX11_find) (hr : meth.sig.returnType = (some .long)) (hts : ∀ w ∈ WC, w.before args s = true) (hown : s.vm.findClass RX11 = some m.cls) (hlocks : meth.locks = false) (hml : c.maxLocals = 9) (hA : ∀ q : Nat, s.heap.size ≤ q → A q) (hG : Gc s) : ∀ n : Nat, ∀ (sh : Sh) (ci : Nat → Nat → Int32) (ai : Nat → Nat → Int32) (al : Nat → Nat → Int64) (x2 : Int32) (x3 : Int64) (x5 : Nat) (x6 : Int32) (H : Heap) (locs : List Loc) (ls : Array Slot), P_X11_find_25 Q q n sh ci ai al x2 x3 x5 x6 → cK dC dI sh s → va_P (dC, dI) vwCl (cW sh ci ai al) H → va_D A (cW sh ci ai al) → va_S A s.heap H locs → lv_has ls 9 [(0, .ref q), (2, .int x2), (3, .long x3), (5, .ref x5), (6, .int x6)] → W p l e (headSpec wmX11_find ({ frames := 1000, cells := 3, slots := 20, locals := 40000 })).room s m args below meth c H locs 2 12 (vx_MQ below (va_Ql (S := XSt) (xJ Q) (xB dC dI A) A) (XC X s.heap.size) args s 3 20 A) (F0 m 25 ls []) := by
  intro n
  induction n with
  | zero => intro sh ci ai al x2 x3 x5 x6 H locs ls h; exact h.elim
  | succ n ih => exact b_X11_find_25 hx hb hr hts hown hlocks hml hA hG ih
def P_X11_find (sh : Sh) (ci : Nat → Nat → Int32) (ai : Nat → Nat → Int32) (al : Nat → Nat → Int64) (q : Nat) (p0 : Int32) (p1 : Int32) (p2 : Int64) (Q : Int64 → Sh → (Nat → Nat → Int32) → (Nat → Nat → Int32) → (Nat → Nat → Int64) → Prop) (X : String → Prop) : Prop := (q ∈ sL sh ∧ sK sh q = 10) ∧ P_X11_listOf sh ci ai al q p0 (fun r1 => P_X11_checkCond p1 (∃ q3 : Nat, sR sh q 0 = some q3 ∧ (q3 ∈ sL sh ∧ sK sh q3 = 5) ∧ P_X6_begin sh ci ai al q3 (ci q 6) (fun ci7 ai7 al7 => ∃ n9 : Nat, P_X11_find_25 Q q n9 sh ci7 ai7 al7 p1 p2 r1 (0 : Int32))) X) X
set_option maxHeartbeats 4000000 in
set_option maxRecDepth 100000 in
theorem p_X11_find (l : Launch) (hl0 : l.stackTraces = false) (dC : Nat → ClassId) (dI : Nat → Nat → Nat) (sh : Sh) (ci : Nat → Nat → Int32) (ai : Nat → Nat → Int32) (al : Nat → Nat → Int64) (q : Nat) (p0 : Int32) (p1 : Int32) (p2 : Int64) (Q : Int64 → Sh → (Nat → Nat → Int32) → (Nat → Nat → Int32) → (Nat → Nat → Int64) → Prop) (X : String → Prop) (h : P_X11_find sh ci ai al q p0 p1 p2 Q X) (sz : Nat) : vx_Met l yX11_find wmX11_find ({ frames := 1000, cells := 3, slots := 20, locals := 40000 }) (va_Pc [.ref q, .int p0, .int p1, .long p2] (xPre dC dI sh ci ai al sz)) (va_Ql (S := XSt) (xJ Q) (xB dC dI (va_A (cW sh ci ai al) sz)) (va_A (cW sh ci ai al) sz)) (XC X sz) 3 20 (va_A (cW sh ci ai al) sz) := by
  refine vx_ofW (cc := cX11_find) (maxL := 9) (ret := (some .long)) (by decide) rfl ?_
  intro p e s m args below meth c s₁ B hml htab hv
  obtain ⟨rfl, ⟨hsz, hP, hK, hD0, hG⟩, hZ⟩ := hv
  have hx := B.exec
  have hb := B.bytes
  have hr := B.returns
  have hts : ∀ w ∈ WC, w.before _ s = true := fun w h => atoms_spec (ws := wmX11_find) B.pre w (List.mem_cons_of_mem _ h)
  have hown : s.vm.findClass RX11 = some m.cls := findClass_of_methodNamed B.named
  have hlocks := B.notSynchronized
  subst hsz
  have hD := hD0.self (sz := s.heap.size)
  generalize hAe : va_A (cW sh ci ai al) s.heap.size = A at hD hZ ⊢
  have hA : ∀ q : Nat, s.heap.size ≤ q → A q := fun q h => by rw [← hAe]; exact Or.inr h
  generalize hz9 : s.heap.size = z9
  generalize hH : s.heap = H at hP ⊢
  subst hz9
  have hS : va_S A s.heap H [] := by rw [← hH]; exact va_S.rf
  have hE : xE s.heap H := by rw [← hH]; exact xE.rf
  have hl := lv_entry [.ref q, .int p0, .int p1, .long p2] (n := 9) (Nat.le_of_ble_eq_true rfl)
  rw [lg_entry_eq]
  generalize (lg_sl [.ref q, .int p0, .int p1, .long p2] ++ List.replicate (9 - (lg_sl [.ref q, .int p0, .int p1, .long p2]).length) Slot.unset).toArray = ls at hl ⊢
  have hl : lv_has ls 9 [(0, .ref q), (1, .int p0), (2, .int p1), (3, .long p2)] := hl
  unfold P_X11_find at h
  obtain ⟨⟨hq, hk⟩, h⟩ := h
  refine lv_aload_n hx hb dX11_find_0 rfl (lv_at hl 0 rfl) ?_
  refine lv_iload_n hx hb dX11_find_1 rfl (lv_at hl 1 rfl) ?_
  refine xr_endr (cells := 0) (slots := 0) (mc0 := 3) (ms0 := 20) (vx_runV (rm := ({ frames := 20, cells := 1, slots := 6, locals := 300 })) (As := [.int p0]) (rest := []) ⟨hx, hb, hml, hown, hts⟩ (p_X11_listOf l hl0 dC dI _ _ _ _ q p0 _ _ h H.size) (cwV 1 hts (g_V gdC mwC_436 mwC_437 mwC_438 mwC_119 mwC_435) rfl rfl rfl hd_X11_listOf ⟨Nat.le_of_ble_eq_true rfl, Nat.le_of_ble_eq_true rfl⟩) (x_preV hK hP hD hS hA hS hG hZ hq hk) rfl rfl hl.1 rfl (lv_room (Nat.le_of_ble_eq_true rfl)) dX11_find_2 ⟨Nat.le_of_ble_eq_true rfl, Nat.le_of_ble_eq_true rfl⟩) hE hS hP hA (fun x h => (htab x h).elim) hlocks (Nat.le_of_ble_eq_true rfl) (Nat.le_of_ble_eq_true rfl) (fun r1 H locs h hE hP hS => ?_)
  refine lv_astore (lv' := [(5, .ref r1), (0, .ref q), (1, .int p0), (2, .int p1), (3, .long p2)]) hx hb dX11_find_5 hl (by decide) rfl (fun ls hl => ?_)
  refine lv_iload_n hx hb dX11_find_7 rfl (lv_at hl 3 rfl) ?_
  refine xr_endv (cells := 1) (slots := 6) (mc0 := 3) (ms0 := 20) (vx_runS (rm := ({ frames := 20, cells := 1, slots := 6, locals := 300 })) (As := [.int p1]) (rest := []) ⟨hx, hb, hml, hown, hts⟩ (p_X11_checkCond l hl0 p1 _ _ h H.size) (va_cwS 1 hts (g_S gdC mwC_458 mwC_459 mwC_119 mwC_457) rfl rfl rfl hd_X11_checkCond ⟨Nat.le_of_ble_eq_true rfl, Nat.le_of_ble_eq_true rfl⟩) (x_preS hA hS hG hZ) rfl rfl hl.1 rfl (lv_room (Nat.le_of_ble_eq_true rfl)) dX11_find_8 ⟨Nat.le_of_ble_eq_true rfl, Nat.le_of_ble_eq_true rfl⟩) hE hS hP hA (fun x h => (htab x h).elim) hlocks (Nat.le_of_ble_eq_true rfl) (Nat.le_of_ble_eq_true rfl) (fun H locs h hE hP hS => ?_)
  refine lv_aload_n hx hb dX11_find_11 rfl (lv_at hl 1 rfl) ?_
  obtain ⟨q3, e4, h⟩ := h
  refine c_get (C := RX11) (T := TX11) (N := 9) (K := 10) (v := .ref q3) hx hb hts hinX11 hown hK hP hq hk (by decide) rfl 0 (by decide) (hts _ mwC_383) (fun _ h9 => h9) (by show some (va_rf (sR sh q 0)) = _; rw [e4]; rfl) dX11_find_12 ?_
  refine lv_aload_n hx hb dX11_find_15 rfl (lv_at hl 1 rfl) ?_
  refine c_get (C := RX11) (T := TX11) (N := 9) (K := 10) (v := .int (ci q 6)) hx hb hts hinX11 hown hK hP hq hk (by decide) rfl 6 (by decide) (hts _ mwC_380) (fun _ h9 => h9) rfl dX11_find_16 ?_
  obtain ⟨⟨hm5, hk6⟩, h⟩ := h
  refine c_endv (va_runV (rm := ({ frames := 4, cells := 0, slots := 0, locals := 60 })) (As := [.int (ci q 6)]) (rest := []) ⟨hx, hb, hml, hown, hts⟩ (p_X6_begin l dC dI sh _ _ _ q3 (ci q 6) _ h H.size) (cwV 1 hts (g_V gdC mwC_464 mwC_465 mwC_466 mwC_329 mwC_467) rfl rfl rfl hd_X6_begin ⟨Nat.le_of_ble_eq_true rfl, Nat.le_of_ble_eq_true rfl⟩) (c_preV (vc := (RX6, TX6, 2)) hK hP hD hG hm5 hk6 (by decide) rfl) rfl rfl hl.1 rfl (lv_room (Nat.le_of_ble_eq_true rfl)) dX11_find_19 ⟨Nat.le_of_ble_eq_true rfl, Nat.le_of_ble_eq_true rfl⟩) hD hS hA (fun ci7 ai7 al7 H locs h hP hD hS => ?_)
  refine lv_iconst (v := 0) hx hb dX11_find_22 (by decide) ?_
  refine lv_istore (lv' := [(6, .int 0), (5, .ref r1), (0, .ref q), (1, .int p0), (2, .int p1), (3, .long p2)]) hx hb dX11_find_23 hl (by decide) rfl (fun ls hl => ?_)
  obtain ⟨n9, h⟩ := h
  exact t_X11_find_25 hx hb hr hts hown hlocks hml hA hG n9 _ _ _ _ _ _ _ _ H _ ls h hK hP hD hS (lv_sub hl [2, 4, 5, 1, 0] rfl)
