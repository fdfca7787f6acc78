abbrev cX11_put : ByteArray := prog_1_method_2_code
def yX11_put : MethodName := ⟨RX11, "put", "(J)I"⟩
abbrev cX11_hole : ByteArray := prog_1_method_3_code
def yX11_hole : MethodName := ⟨RX11, "hole", "(I)I"⟩
abbrev cX11_steps : ByteArray := prog_1_method_20_code
def yX11_steps : MethodName := ⟨RX11, "steps", "(I)I"⟩
theorem dX11_put_0 : decode cX11_put 0 = .ok (.aload_n 0, 1) := by decide +kernel
theorem dX11_put_1 : decode cX11_put 1 = .ok (.lload_n 1, 1) := by decide +kernel
theorem dX11_put_2 : decode cX11_put 2 = .ok (.iconst 1, 1) := by decide +kernel
theorem dX11_put_3 : decode cX11_put 3 = .ok (.invokevirtual 34, 3) := by decide +kernel
theorem dX11_put_6 : decode cX11_put 6 = .ok (.ireturn, 1) := by decide +kernel
theorem dX11_hole_0 : decode cX11_hole 0 = .ok (.iload_n 1, 1) := by decide +kernel
theorem dX11_hole_1 : decode cX11_hole 1 = .ok (.ifCond .eq 18, 3) := by decide +kernel
theorem dX11_hole_4 : decode cX11_hole 4 = .ok (.iload_n 1, 1) := by decide +kernel
theorem dX11_hole_5 : decode cX11_hole 5 = .ok (.iconst 1, 1) := by decide +kernel
theorem dX11_hole_6 : decode cX11_hole 6 = .ok (.if_icmp .eq 13, 3) := by decide +kernel
theorem dX11_hole_9 : decode cX11_hole 9 = .ok (.new 38, 3) := by decide +kernel
theorem dX11_hole_12 : decode cX11_hole 12 = .ok (.dup, 1) := by decide +kernel
theorem dX11_hole_13 : decode cX11_hole 13 = .ok (.ldc 40, 2) := by decide +kernel
theorem dX11_hole_15 : decode cX11_hole 15 = .ok (.invokespecial 42, 3) := by decide +kernel
theorem dX11_hole_18 : decode cX11_hole 18 = .ok (.athrow, 1) := by decide +kernel
theorem dX11_hole_19 : decode cX11_hole 19 = .ok (.aload_n 0, 1) := by decide +kernel
theorem dX11_hole_20 : decode cX11_hole 20 = .ok (.lconst 0, 1) := by decide +kernel
theorem dX11_hole_21 : decode cX11_hole 21 = .ok (.iload_n 1, 1) := by decide +kernel
theorem dX11_hole_22 : decode cX11_hole 22 = .ok (.ifCond .ne 7, 3) := by decide +kernel
theorem dX11_hole_25 : decode cX11_hole 25 = .ok (.iconst 4, 1) := by decide +kernel
theorem dX11_hole_26 : decode cX11_hole 26 = .ok (.goto 5, 3) := by decide +kernel
theorem dX11_hole_29 : decode cX11_hole 29 = .ok (.bipush 8, 2) := by decide +kernel
theorem dX11_hole_31 : decode cX11_hole 31 = .ok (.invokevirtual 34, 3) := by decide +kernel
theorem dX11_hole_34 : decode cX11_hole 34 = .ok (.ireturn, 1) := by decide +kernel
theorem dX11_otherList_0 : decode cX11_otherList 0 = .ok (.iload_n 2, 1) := by decide +kernel
theorem dX11_otherList_1 : decode cX11_otherList 1 = .ok (.tableswitch 88 0 3 #[31, 45, 59, 73], 31) := by decide +kernel
theorem dX11_otherList_32 : decode cX11_otherList 32 = .ok (.new 115, 3) := by decide +kernel
theorem dX11_otherList_35 : decode cX11_otherList 35 = .ok (.dup, 1) := by decide +kernel
theorem dX11_otherList_36 : decode cX11_otherList 36 = .ok (.aload_n 0, 1) := by decide +kernel
theorem dX11_otherList_37 : decode cX11_otherList 37 = .ok (.getfield 12, 3) := by decide +kernel
theorem dX11_otherList_40 : decode cX11_otherList 40 = .ok (.aload_n 1, 1) := by decide +kernel
theorem dX11_otherList_41 : decode cX11_otherList 41 = .ok (.aconst_null, 1) := by decide +kernel
theorem dX11_otherList_42 : decode cX11_otherList 42 = .ok (.invokespecial 117, 3) := by decide +kernel
theorem dX11_otherList_45 : decode cX11_otherList 45 = .ok (.areturn, 1) := by decide +kernel
theorem dX11_otherList_46 : decode cX11_otherList 46 = .ok (.new 126, 3) := by decide +kernel
theorem dX11_otherList_49 : decode cX11_otherList 49 = .ok (.dup, 1) := by decide +kernel
theorem dX11_otherList_50 : decode cX11_otherList 50 = .ok (.aload_n 0, 1) := by decide +kernel
theorem dX11_otherList_51 : decode cX11_otherList 51 = .ok (.getfield 12, 3) := by decide +kernel
theorem dX11_otherList_54 : decode cX11_otherList 54 = .ok (.aload_n 1, 1) := by decide +kernel
theorem dX11_otherList_55 : decode cX11_otherList 55 = .ok (.iconst 0, 1) := by decide +kernel
theorem dX11_otherList_56 : decode cX11_otherList 56 = .ok (.invokespecial 128, 3) := by decide +kernel
theorem dX11_otherList_59 : decode cX11_otherList 59 = .ok (.areturn, 1) := by decide +kernel
theorem dX11_otherList_60 : decode cX11_otherList 60 = .ok (.new 126, 3) := by decide +kernel
theorem dX11_otherList_63 : decode cX11_otherList 63 = .ok (.dup, 1) := by decide +kernel
theorem dX11_otherList_64 : decode cX11_otherList 64 = .ok (.aload_n 0, 1) := by decide +kernel
theorem dX11_otherList_65 : decode cX11_otherList 65 = .ok (.getfield 12, 3) := by decide +kernel
theorem dX11_otherList_68 : decode cX11_otherList 68 = .ok (.aload_n 1, 1) := by decide +kernel
theorem dX11_otherList_69 : decode cX11_otherList 69 = .ok (.iconst 1, 1) := by decide +kernel
theorem dX11_otherList_70 : decode cX11_otherList 70 = .ok (.invokespecial 128, 3) := by decide +kernel
theorem dX11_otherList_73 : decode cX11_otherList 73 = .ok (.areturn, 1) := by decide +kernel
theorem dX11_otherList_74 : decode cX11_otherList 74 = .ok (.new 110, 3) := by decide +kernel
theorem dX11_otherList_77 : decode cX11_otherList 77 = .ok (.dup, 1) := by decide +kernel
theorem dX11_otherList_78 : decode cX11_otherList 78 = .ok (.aload_n 0, 1) := by decide +kernel
theorem dX11_otherList_79 : decode cX11_otherList 79 = .ok (.getfield 12, 3) := by decide +kernel
theorem dX11_otherList_82 : decode cX11_otherList 82 = .ok (.aload_n 1, 1) := by decide +kernel
theorem dX11_otherList_83 : decode cX11_otherList 83 = .ok (.iconst (-1), 1) := by decide +kernel
theorem dX11_otherList_84 : decode cX11_otherList 84 = .ok (.lconst 0, 1) := by decide +kernel
theorem dX11_otherList_85 : decode cX11_otherList 85 = .ok (.invokespecial 112, 3) := by decide +kernel
theorem dX11_otherList_88 : decode cX11_otherList 88 = .ok (.areturn, 1) := by decide +kernel
theorem dX11_otherList_89 : decode cX11_otherList 89 = .ok (.new 131, 3) := by decide +kernel
theorem dX11_otherList_92 : decode cX11_otherList 92 = .ok (.dup, 1) := by decide +kernel
theorem dX11_otherList_93 : decode cX11_otherList 93 = .ok (.aload_n 0, 1) := by decide +kernel
theorem dX11_otherList_94 : decode cX11_otherList 94 = .ok (.getfield 12, 3) := by decide +kernel
theorem dX11_otherList_97 : decode cX11_otherList 97 = .ok (.aload_n 1, 1) := by decide +kernel
theorem dX11_otherList_98 : decode cX11_otherList 98 = .ok (.invokespecial 133, 3) := by decide +kernel
theorem dX11_otherList_101 : decode cX11_otherList 101 = .ok (.areturn, 1) := by decide +kernel
theorem dX11_addList_0 : decode cX11_addList 0 = .ok (.aload_n 0, 1) := by decide +kernel
theorem dX11_addList_1 : decode cX11_addList 1 = .ok (.getfield 136, 3) := by decide +kernel
theorem dX11_addList_4 : decode cX11_addList 4 = .ok (.istore_n 2, 1) := by decide +kernel
theorem dX11_addList_5 : decode cX11_addList 5 = .ok (.iload_n 2, 1) := by decide +kernel
theorem dX11_addList_6 : decode cX11_addList 6 = .ok (.aload_n 0, 1) := by decide +kernel
theorem dX11_addList_7 : decode cX11_addList 7 = .ok (.getfield 18, 3) := by decide +kernel
theorem dX11_addList_10 : decode cX11_addList 10 = .ok (.arraylength, 1) := by decide +kernel
theorem dX11_addList_11 : decode cX11_addList 11 = .ok (.if_icmp .ge 17, 3) := by decide +kernel
theorem dX11_addList_14 : decode cX11_addList 14 = .ok (.aload_n 0, 1) := by decide +kernel
theorem dX11_addList_15 : decode cX11_addList 15 = .ok (.getfield 18, 3) := by decide +kernel
theorem dX11_addList_18 : decode cX11_addList 18 = .ok (.iload_n 2, 1) := by decide +kernel
theorem dX11_addList_19 : decode cX11_addList 19 = .ok (.aload_n 1, 1) := by decide +kernel
theorem dX11_addList_20 : decode cX11_addList 20 = .ok (.aastore, 1) := by decide +kernel
theorem dX11_addList_21 : decode cX11_addList 21 = .ok (.aload_n 0, 1) := by decide +kernel
theorem dX11_addList_22 : decode cX11_addList 22 = .ok (.iload_n 2, 1) := by decide +kernel
theorem dX11_addList_23 : decode cX11_addList 23 = .ok (.iconst 1, 1) := by decide +kernel
theorem dX11_addList_24 : decode cX11_addList 24 = .ok (.iadd, 1) := by decide +kernel
theorem dX11_addList_25 : decode cX11_addList 25 = .ok (.putfield 136, 3) := by decide +kernel
theorem dX11_addList_28 : decode cX11_addList 28 = .ok (.iload_n 2, 1) := by decide +kernel
theorem dX11_addList_29 : decode cX11_addList 29 = .ok (.ireturn, 1) := by decide +kernel
theorem dX11_steps_0 : decode cX11_steps 0 = .ok (.iload_n 1, 1) := by decide +kernel
theorem dX11_steps_1 : decode cX11_steps 1 = .ok (.iconst 1, 1) := by decide +kernel
theorem dX11_steps_2 : decode cX11_steps 2 = .ok (.if_icmp .lt 10, 3) := by decide +kernel
theorem dX11_steps_5 : decode cX11_steps 5 = .ok (.iload_n 1, 1) := by decide +kernel
theorem dX11_steps_6 : decode cX11_steps 6 = .ok (.sipush 5000, 3) := by decide +kernel
theorem dX11_steps_9 : decode cX11_steps 9 = .ok (.if_icmp .le 13, 3) := by decide +kernel
theorem dX11_steps_12 : decode cX11_steps 12 = .ok (.new 38, 3) := by decide +kernel
theorem dX11_steps_15 : decode cX11_steps 15 = .ok (.dup, 1) := by decide +kernel
theorem dX11_steps_16 : decode cX11_steps 16 = .ok (.ldc 139, 2) := by decide +kernel
theorem dX11_steps_18 : decode cX11_steps 18 = .ok (.invokespecial 42, 3) := by decide +kernel
theorem dX11_steps_21 : decode cX11_steps 21 = .ok (.athrow, 1) := by decide +kernel
theorem dX11_steps_22 : decode cX11_steps 22 = .ok (.aload_n 0, 1) := by decide +kernel
theorem dX11_steps_23 : decode cX11_steps 23 = .ok (.getfield 30, 3) := by decide +kernel
theorem dX11_steps_26 : decode cX11_steps 26 = .ok (.istore_n 2, 1) := by decide +kernel
theorem dX11_steps_27 : decode cX11_steps 27 = .ok (.aload_n 0, 1) := by decide +kernel
theorem dX11_steps_28 : decode cX11_steps 28 = .ok (.iload_n 1, 1) := by decide +kernel
theorem dX11_steps_29 : decode cX11_steps 29 = .ok (.putfield 30, 3) := by decide +kernel
theorem dX11_steps_32 : decode cX11_steps 32 = .ok (.iload_n 2, 1) := by decide +kernel
theorem dX11_steps_33 : decode cX11_steps 33 = .ok (.ireturn, 1) := by decide +kernel
theorem dX11_finish_0 : decode cX11_finish 0 = .ok (.aload_n 0, 1) := by decide +kernel
theorem dX11_finish_1 : decode cX11_finish 1 = .ok (.iload_n 1, 1) := by decide +kernel
theorem dX11_finish_2 : decode cX11_finish 2 = .ok (.iconst 4, 1) := by decide +kernel
theorem dX11_finish_3 : decode cX11_finish 3 = .ok (.if_icmp .le 9, 3) := by decide +kernel
theorem dX11_finish_6 : decode cX11_finish 6 = .ok (.iload_n 1, 1) := by decide +kernel
theorem dX11_finish_7 : decode cX11_finish 7 = .ok (.iconst 4, 1) := by decide +kernel
theorem dX11_finish_8 : decode cX11_finish 8 = .ok (.isub, 1) := by decide +kernel
theorem dX11_finish_9 : decode cX11_finish 9 = .ok (.goto 4, 3) := by decide +kernel
theorem dX11_finish_12 : decode cX11_finish 12 = .ok (.iconst 0, 1) := by decide +kernel
theorem dX11_finish_13 : decode cX11_finish 13 = .ok (.putfield 185, 3) := by decide +kernel
theorem dX11_finish_16 : decode cX11_finish 16 = .ok (.iload_n 1, 1) := by decide +kernel
theorem dX11_finish_17 : decode cX11_finish 17 = .ok (.tableswitch 52 1 4 #[31, 52, 45, 38], 31) := by decide +kernel
theorem dX11_finish_48 : decode cX11_finish 48 = .ok (.aload_n 0, 1) := by decide +kernel
theorem dX11_finish_49 : decode cX11_finish 49 = .ok (.iconst 0, 1) := by decide +kernel
theorem dX11_finish_50 : decode cX11_finish 50 = .ok (.putfield 182, 3) := by decide +kernel
theorem dX11_finish_53 : decode cX11_finish 53 = .ok (.lload_n 2, 1) := by decide +kernel
theorem dX11_finish_54 : decode cX11_finish 54 = .ok (.lreturn, 1) := by decide +kernel
theorem dX11_finish_55 : decode cX11_finish 55 = .ok (.aload_n 0, 1) := by decide +kernel
theorem dX11_finish_56 : decode cX11_finish 56 = .ok (.iconst 1, 1) := by decide +kernel
theorem dX11_finish_57 : decode cX11_finish 57 = .ok (.putfield 182, 3) := by decide +kernel
theorem dX11_finish_60 : decode cX11_finish 60 = .ok (.lconst 0, 1) := by decide +kernel
theorem dX11_finish_61 : decode cX11_finish 61 = .ok (.lreturn, 1) := by decide +kernel
theorem dX11_finish_62 : decode cX11_finish 62 = .ok (.aload_n 0, 1) := by decide +kernel
theorem dX11_finish_63 : decode cX11_finish 63 = .ok (.iconst 3, 1) := by decide +kernel
theorem dX11_finish_64 : decode cX11_finish 64 = .ok (.putfield 182, 3) := by decide +kernel
theorem dX11_finish_67 : decode cX11_finish 67 = .ok (.lconst 0, 1) := by decide +kernel
theorem dX11_finish_68 : decode cX11_finish 68 = .ok (.lreturn, 1) := by decide +kernel
theorem dX11_finish_69 : decode cX11_finish 69 = .ok (.aload_n 0, 1) := by decide +kernel
theorem dX11_finish_70 : decode cX11_finish 70 = .ok (.iconst 2, 1) := by decide +kernel
theorem dX11_finish_71 : decode cX11_finish 71 = .ok (.putfield 182, 3) := by decide +kernel
theorem dX11_finish_74 : decode cX11_finish 74 = .ok (.lconst 0, 1) := by decide +kernel
theorem dX11_finish_75 : decode cX11_finish 75 = .ok (.lreturn, 1) := by decide +kernel
abbrev wmX11_put : List Cond := .code yX11_put cX11_put 3 (some .int) :: WC
theorem hd_X11_put : yX11_put.cls = RX11 ∧ yX11_put.cls ≠ "java/lang/invoke/MethodHandle" ∧ yX11_put.cls ≠ "java/lang/invoke/VarHandle" ∧ (parseMethodDescriptor yX11_put.desc).map (fun d => d.parameters.length) = some 1 := by decide +kernel
def P_X11_put (sh : Sh) (ci : Nat → Nat → Int32) (ai : Nat → Nat → Int32) (al : Nat → Nat → Int64) (q : Nat) (p0 : Int64) (Q : Int32 → Sh → (Nat → Nat → Int32) → (Nat → Nat → Int32) → (Nat → Nat → Int64) → Prop) (X : String → Prop) : Prop := (q ∈ sL sh ∧ sK sh q = 10) ∧ P_X11_addToRow sh ci ai al q p0 1 (fun r1 sh1 ci1 ai1 al1 => Q r1 sh1 ci1 ai1 al1) X
set_option maxHeartbeats 4000000 in
set_option maxRecDepth 100000 in
theorem p_X11_put (l : Launch) (hl0 : l.stackTraces = false) (dC : Nat → ClassId) (dI : Nat → Nat → Nat) (sh : Sh) (ci : Nat → Nat → Int32) (ai : Nat → Nat → Int32) (al : Nat → Nat → Int64) (q : Nat) (p0 : Int64) (Q : Int32 → Sh → (Nat → Nat → Int32) → (Nat → Nat → Int32) → (Nat → Nat → Int64) → Prop) (X : String → Prop) (h : P_X11_put sh ci ai al q p0 Q X) (sz : Nat) : vx_Met l yX11_put wmX11_put ({ frames := 40, cells := 1, slots := 6, locals := 600 }) (va_Pc [.ref q, .long p0] (xPre dC dI sh ci ai al sz)) (va_Qi (S := XSt) (xI Q) (xB dC dI (va_A (cW sh ci ai al) sz)) (va_A (cW sh ci ai al) sz)) (XC X sz) 1 6 (va_A (cW sh ci ai al) sz) := by
  refine vx_ofW (cc := cX11_put) (maxL := 3) (ret := (some .int)) (by decide) rfl ?_
  intro p e s m args below meth c s₁ B hml htab hv
  obtain ⟨rfl, ⟨hsz, hP, hK, hD0, hG⟩, hZ⟩ := hv
  have hx := B.exec
  have hb := B.bytes
  have hr := B.returns
  have hts : ∀ w ∈ WC, w.before _ s = true := fun w h => atoms_spec (ws := wmX11_put) B.pre w (List.mem_cons_of_mem _ h)
  have hown : s.vm.findClass RX11 = some m.cls := findClass_of_methodNamed B.named
  have hlocks := B.notSynchronized
  subst hsz
  have hD := hD0.self (sz := s.heap.size)
  generalize hAe : va_A (cW sh ci ai al) s.heap.size = A at hD hZ ⊢
  have hA : ∀ q : Nat, s.heap.size ≤ q → A q := fun q h => by rw [← hAe]; exact Or.inr h
  generalize hz9 : s.heap.size = z9
  generalize hH : s.heap = H at hP ⊢
  subst hz9
  have hS : va_S A s.heap H [] := by rw [← hH]; exact va_S.rf
  have hE : xE s.heap H := by rw [← hH]; exact xE.rf
  have hl := lv_entry [.ref q, .long p0] (n := 3) (Nat.le_of_ble_eq_true rfl)
  rw [lg_entry_eq]
  generalize (lg_sl [.ref q, .long p0] ++ List.replicate (3 - (lg_sl [.ref q, .long p0]).length) Slot.unset).toArray = ls at hl ⊢
  have hl : lv_has ls 3 [(0, .ref q), (1, .long p0)] := hl
  unfold P_X11_put at h
  obtain ⟨⟨hq, hk⟩, h⟩ := h
  refine lv_aload_n hx hb dX11_put_0 rfl (lv_at hl 0 rfl) ?_
  refine lv_lload_n hx hb dX11_put_1 rfl (lv_at hl 1 rfl) ?_
  refine lv_iconst (v := 1) hx hb dX11_put_2 (by decide) ?_
  refine xw_endi (R := (headSpec wmX11_put ({ frames := 40, cells := 1, slots := 6, locals := 600 })).room) (cells := 0) (slots := 0) (mc0 := 1) (ms0 := 6) (vx_runV (rm := ({ frames := 20, cells := 1, slots := 6, locals := 300 })) (As := [.long p0, .int 1]) (rest := []) ⟨hx, hb, hml, hown, hts⟩ (p_X11_addToRow l hl0 dC dI _ _ _ _ q p0 1 _ _ h H.size) (cwV 2 hts (g_V gdC mwC_377 mwC_378 mwC_379 mwC_119 mwC_376) rfl rfl rfl hd_X11_addToRow ⟨Nat.le_of_ble_eq_true rfl, Nat.le_of_ble_eq_true rfl⟩) (x_preV hK hP hD hS hA hS hG hZ hq hk) rfl rfl hl.1 rfl (lv_room (Nat.le_of_ble_eq_true rfl)) dX11_put_3 ⟨Nat.le_of_ble_eq_true rfl, Nat.le_of_ble_eq_true rfl⟩) hE hS hP hA (fun x h => (htab x h).elim) hlocks (Nat.le_of_ble_eq_true rfl) (Nat.le_of_ble_eq_true rfl) hD (fun r1 sh1 ci1 ai1 al1 H locs h hK hP hD hS => ?_)
  refine W.widen (k := 1) (n := 6) (by decide) (by decide) ?_
  refine vx_ret ?_
  exact W.iret (v := r1) hx hb hr (fun t ht hW => ⟨⟨_, (sh1, ci1, ai1, al1), rfl, h, by rw [ht]; exact hP, cK.moved hW.alike hK, hD⟩, hS.F ht⟩) hS.2.2 dX11_put_6
abbrev wmX11_hole : List Cond := .code yX11_hole cX11_hole 2 (some .int) :: WC
theorem hd_X11_hole : yX11_hole.cls = RX11 ∧ yX11_hole.cls ≠ "java/lang/invoke/MethodHandle" ∧ yX11_hole.cls ≠ "java/lang/invoke/VarHandle" ∧ (parseMethodDescriptor yX11_hole.desc).map (fun d => d.parameters.length) = some 1 := by decide +kernel
def P_X11_hole (sh : Sh) (ci : Nat → Nat → Int32) (ai : Nat → Nat → Int32) (al : Nat → Nat → Int64) (q : Nat) (p0 : Int32) (Q : Int32 → Sh → (Nat → Nat → Int32) → (Nat → Nat → Int32) → (Nat → Nat → Int64) → Prop) (X : String → Prop) : Prop := (q ∈ sL sh ∧ sK sh q = 10) ∧ ((p0 = 0) → (P_X11_addToRow sh ci ai al q 0 4 (fun r1 sh1 ci1 ai1 al1 => Q r1 sh1 ci1 ai1 al1) X)) ∧ ((¬ p0 = 0) → (((p0 = 1) → (P_X11_addToRow sh ci ai al q 0 8 (fun r2 sh2 ci2 ai2 al2 => Q r2 sh2 ci2 ai2 al2) X)) ∧ ((¬ p0 = 1) → (X "java/lang/IllegalArgumentException"))))
set_option maxHeartbeats 4000000 in
set_option maxRecDepth 100000 in
theorem p_X11_hole (l : Launch) (hl0 : l.stackTraces = false) (dC : Nat → ClassId) (dI : Nat → Nat → Nat) (sh : Sh) (ci : Nat → Nat → Int32) (ai : Nat → Nat → Int32) (al : Nat → Nat → Int64) (q : Nat) (p0 : Int32) (Q : Int32 → Sh → (Nat → Nat → Int32) → (Nat → Nat → Int32) → (Nat → Nat → Int64) → Prop) (X : String → Prop) (h : P_X11_hole sh ci ai al q p0 Q X) (sz : Nat) : vx_Met l yX11_hole wmX11_hole ({ frames := 40, cells := 1, slots := 6, locals := 600 }) (va_Pc [.ref q, .int p0] (xPre dC dI sh ci ai al sz)) (va_Qi (S := XSt) (xI Q) (xB dC dI (va_A (cW sh ci ai al) sz)) (va_A (cW sh ci ai al) sz)) (XC X sz) 1 6 (va_A (cW sh ci ai al) sz) := by
  refine vx_ofW (cc := cX11_hole) (maxL := 2) (ret := (some .int)) (by decide) rfl ?_
  intro p e s m args below meth c s₁ B hml htab hv
  obtain ⟨rfl, ⟨hsz, hP, hK, hD0, hG⟩, hZ⟩ := hv
  have hx := B.exec
  have hb := B.bytes
  have hr := B.returns
  have hts : ∀ w ∈ WC, w.before _ s = true := fun w h => atoms_spec (ws := wmX11_hole) B.pre w (List.mem_cons_of_mem _ h)
  have hown : s.vm.findClass RX11 = some m.cls := findClass_of_methodNamed B.named
  have hlocks := B.notSynchronized
  subst hsz
  have hD := hD0.self (sz := s.heap.size)
  generalize hAe : va_A (cW sh ci ai al) s.heap.size = A at hD hZ ⊢
  have hA : ∀ q : Nat, s.heap.size ≤ q → A q := fun q h => by rw [← hAe]; exact Or.inr h
  generalize hz9 : s.heap.size = z9
  generalize hH : s.heap = H at hP ⊢
  subst hz9
  have hS : va_S A s.heap H [] := by rw [← hH]; exact va_S.rf
  have hE : xE s.heap H := by rw [← hH]; exact xE.rf
  have hl := lv_entry [.ref q, .int p0] (n := 2) (Nat.le_of_ble_eq_true rfl)
  rw [lg_entry_eq]
  generalize (lg_sl [.ref q, .int p0] ++ List.replicate (2 - (lg_sl [.ref q, .int p0]).length) Slot.unset).toArray = ls at hl ⊢
  have hl : lv_has ls 2 [(0, .ref q), (1, .int p0)] := hl
  unfold P_X11_hole at h
  obtain ⟨⟨hq, hk⟩, h⟩ := h
  refine lv_iload_n hx hb dX11_hole_0 rfl (lv_at hl 1 rfl) ?_
  refine lv_if_eq (tgt := 19) hx hb dX11_hole_1 (by decide) (fun c_1 => ?_) (fun c_1 => ?_)
  · have h := h.1 c_1
    refine lv_aload_n hx hb dX11_hole_19 rfl (lv_at hl 0 rfl) ?_
    refine lv_lconst (v := 0) hx hb dX11_hole_20 (by decide) ?_
    refine lv_iload_n hx hb dX11_hole_21 rfl (lv_at hl 1 rfl) ?_
    refine lv_if_ne (tgt := 29) hx hb dX11_hole_22 (by decide) (fun c_22 => ?_) (fun c_22 => ?_)
    · exact (c_22 c_1).elim
    · refine lv_iconst (v := 4) hx hb dX11_hole_25 (by decide) ?_
      refine lv_goto (tgt := 31) hx hb dX11_hole_26 (by decide) ?_
      refine xw_endi (R := (headSpec wmX11_hole ({ frames := 40, cells := 1, slots := 6, locals := 600 })).room) (cells := 0) (slots := 0) (mc0 := 1) (ms0 := 6) (vx_runV (rm := ({ frames := 20, cells := 1, slots := 6, locals := 300 })) (As := [.long 0, .int 4]) (rest := []) ⟨hx, hb, hml, hown, hts⟩ (p_X11_addToRow l hl0 dC dI _ _ _ _ q 0 4 _ _ h H.size) (cwV 2 hts (g_V gdC mwC_377 mwC_378 mwC_379 mwC_119 mwC_376) rfl rfl rfl hd_X11_addToRow ⟨Nat.le_of_ble_eq_true rfl, Nat.le_of_ble_eq_true rfl⟩) (x_preV hK hP hD hS hA hS hG hZ hq hk) rfl rfl hl.1 rfl (lv_room (Nat.le_of_ble_eq_true rfl)) dX11_hole_31 ⟨Nat.le_of_ble_eq_true rfl, Nat.le_of_ble_eq_true rfl⟩) hE hS hP hA (fun x h => (htab x h).elim) hlocks (Nat.le_of_ble_eq_true rfl) (Nat.le_of_ble_eq_true rfl) hD (fun r1 sh1 ci1 ai1 al1 H locs h hK hP hD hS => ?_)
      refine W.widen (k := 1) (n := 6) (by decide) (by decide) ?_
      refine vx_ret ?_
      exact W.iret (v := r1) hx hb hr (fun t ht hW => ⟨⟨_, (sh1, ci1, ai1, al1), rfl, h, by rw [ht]; exact hP, cK.moved hW.alike hK, hD⟩, hS.F ht⟩) hS.2.2 dX11_hole_34
  · have h := h.2 c_1
    refine lv_iload_n hx hb dX11_hole_4 rfl (lv_at hl 1 rfl) ?_
    refine lv_iconst (v := 1) hx hb dX11_hole_5 (by decide) ?_
    refine lv_icmp_eq (tgt := 19) hx hb dX11_hole_6 (by decide) (fun c_6 => ?_) (fun c_6 => ?_)
    · have h := h.1 c_6
      refine lv_aload_n hx hb dX11_hole_19 rfl (lv_at hl 0 rfl) ?_
      refine lv_lconst (v := 0) hx hb dX11_hole_20 (by decide) ?_
      refine lv_iload_n hx hb dX11_hole_21 rfl (lv_at hl 1 rfl) ?_
      refine lv_if_ne (tgt := 29) hx hb dX11_hole_22 (by decide) (fun c_22 => ?_) (fun c_22 => ?_)
      · refine lv_bipush (v := 8) hx hb dX11_hole_29 (by decide) ?_
        refine xw_endi (R := (headSpec wmX11_hole ({ frames := 40, cells := 1, slots := 6, locals := 600 })).room) (cells := 0) (slots := 0) (mc0 := 1) (ms0 := 6) (vx_runV (rm := ({ frames := 20, cells := 1, slots := 6, locals := 300 })) (As := [.long 0, .int 8]) (rest := []) ⟨hx, hb, hml, hown, hts⟩ (p_X11_addToRow l hl0 dC dI _ _ _ _ q 0 8 _ _ h H.size) (cwV 2 hts (g_V gdC mwC_377 mwC_378 mwC_379 mwC_119 mwC_376) rfl rfl rfl hd_X11_addToRow ⟨Nat.le_of_ble_eq_true rfl, Nat.le_of_ble_eq_true rfl⟩) (x_preV hK hP hD hS hA hS hG hZ hq hk) rfl rfl hl.1 rfl (lv_room (Nat.le_of_ble_eq_true rfl)) dX11_hole_31 ⟨Nat.le_of_ble_eq_true rfl, Nat.le_of_ble_eq_true rfl⟩) hE hS hP hA (fun x h => (htab x h).elim) hlocks (Nat.le_of_ble_eq_true rfl) (Nat.le_of_ble_eq_true rfl) hD (fun r2 sh2 ci2 ai2 al2 H locs h hK hP hD hS => ?_)
        refine W.widen (k := 1) (n := 6) (by decide) (by decide) ?_
        refine vx_ret ?_
        exact W.iret (v := r2) hx hb hr (fun t ht hW => ⟨⟨_, (sh2, ci2, ai2, al2), rfl, h, by rw [ht]; exact hP, cK.moved hW.alike hK, hD⟩, hS.F ht⟩) hS.2.2 dX11_hole_34
      · exact (c_1 c_22).elim
    · have h := h.2 c_6
      obtain ⟨sa, hsa⟩ := hG.t40
      exact vx_throwS (A := A) (own := RX11) (cls := "java/lang/IllegalArgumentException") (text := "kind is not 0 or 1") (names := ["java/lang/RuntimeException", "java/lang/Exception"]) (sa := sa) (rest := []) hx hb hl0 hown (by decide) (by decide) (hts _ mwC_371) (hts _ mwC_372) hsa (vx_hat (B := [.castable "java/lang/IllegalArgumentException" "java/lang/IllegalArgumentException", .declares ⟨"java/lang/RuntimeException", "<init>", "(Ljava/lang/String;)V"⟩, .declares ⟨"java/lang/Exception", "<init>", "(Ljava/lang/String;)V"⟩, .declares ⟨"java/lang/Throwable", "<init>", "(Ljava/lang/String;)V"⟩]) (fun w h => hts w (xat_IAE w h)) (by decide +kernel) (vx_c (va_Nw.use rfl hG.xIAE) (vx_c (va_Nw.use rfl hG.dR) (vx_c (va_Nw.use rfl hG.dE) (vx_c (va_Nw.use rfl hG.dT) vx_n))))) (by decide +kernel) hZ.1 hZ.2 hS (hl.1.trans hml.symm) dX11_hole_9 dX11_hole_12 dX11_hole_13 dX11_hole_15 dX11_hole_18 (fun x h => (htab x h).elim) (Nat.le_of_ble_eq_true rfl) (Nat.le_of_ble_eq_true rfl) (Nat.le_of_ble_eq_true rfl) (Nat.le_of_ble_eq_true rfl) hlocks (fun t hvm hz hq => ⟨(), trivial, h, Nat.le_trans hE.1 hz, fun q h1 h2 => (hq q (Nat.lt_of_lt_of_le h1 hE.1)).trans (hE.2 q h1)⟩) hS.2.2 (Nat.le_of_ble_eq_true rfl) (Nat.le_of_ble_eq_true rfl)
abbrev wmX11_steps : List Cond := .code yX11_steps cX11_steps 3 (some .int) :: WC
theorem hd_X11_steps : yX11_steps.cls = RX11 ∧ yX11_steps.cls ≠ "java/lang/invoke/MethodHandle" ∧ yX11_steps.cls ≠ "java/lang/invoke/VarHandle" ∧ (parseMethodDescriptor yX11_steps.desc).map (fun d => d.parameters.length) = some 1 := by decide +kernel
def P_X11_steps (sh : Sh) (ci : Nat → Nat → Int32) (ai : Nat → Nat → Int32) (al : Nat → Nat → Int64) (q : Nat) (p0 : Int32) (Q : Int32 → Sh → (Nat → Nat → Int32) → (Nat → Nat → Int32) → (Nat → Nat → Int64) → Prop) (X : String → Prop) : Prop := (q ∈ sL sh ∧ sK sh q = 10) ∧ ((p0 < 1) → (X "java/lang/IllegalArgumentException")) ∧ ((¬ p0 < 1) → (((p0 ≤ 5000) → (Q (ci q 6) sh (va_up ci q (va_up (ci q) 6 p0)) ai al)) ∧ ((¬ p0 ≤ 5000) → (X "java/lang/IllegalArgumentException"))))
set_option maxHeartbeats 4000000 in
set_option maxRecDepth 100000 in
theorem p_X11_steps (l : Launch) (hl0 : l.stackTraces = false) (dC : Nat → ClassId) (dI : Nat → Nat → Nat) (sh : Sh) (ci : Nat → Nat → Int32) (ai : Nat → Nat → Int32) (al : Nat → Nat → Int64) (q : Nat) (p0 : Int32) (Q : Int32 → Sh → (Nat → Nat → Int32) → (Nat → Nat → Int32) → (Nat → Nat → Int64) → Prop) (X : String → Prop) (h : P_X11_steps sh ci ai al q p0 Q X) (sz : Nat) : vx_Met l yX11_steps wmX11_steps ({ frames := 40, cells := 1, slots := 6, locals := 600 }) (va_Pc [.ref q, .int p0] (xPre dC dI sh ci ai al sz)) (va_Qi (S := XSt) (xI Q) (xB dC dI (va_A (cW sh ci ai al) sz)) (va_A (cW sh ci ai al) sz)) (XC X sz) 1 6 (va_A (cW sh ci ai al) sz) := by
  refine vx_ofW (cc := cX11_steps) (maxL := 3) (ret := (some .int)) (by decide) rfl ?_
  intro p e s m args below meth c s₁ B hml htab hv
  obtain ⟨rfl, ⟨hsz, hP, hK, hD0, hG⟩, hZ⟩ := hv
  have hx := B.exec
  have hb := B.bytes
  have hr := B.returns
  have hts : ∀ w ∈ WC, w.before _ s = true := fun w h => atoms_spec (ws := wmX11_steps) B.pre w (List.mem_cons_of_mem _ h)
  have hown : s.vm.findClass RX11 = some m.cls := findClass_of_methodNamed B.named
  have hlocks := B.notSynchronized
  subst hsz
  have hD := hD0.self (sz := s.heap.size)
  generalize hAe : va_A (cW sh ci ai al) s.heap.size = A at hD hZ ⊢
  have hA : ∀ q : Nat, s.heap.size ≤ q → A q := fun q h => by rw [← hAe]; exact Or.inr h
  generalize hz9 : s.heap.size = z9
  generalize hH : s.heap = H at hP ⊢
  subst hz9
  have hS : va_S A s.heap H [] := by rw [← hH]; exact va_S.rf
  have hE : xE s.heap H := by rw [← hH]; exact xE.rf
  have hl := lv_entry [.ref q, .int p0] (n := 3) (Nat.le_of_ble_eq_true rfl)
  rw [lg_entry_eq]
  generalize (lg_sl [.ref q, .int p0] ++ List.replicate (3 - (lg_sl [.ref q, .int p0]).length) Slot.unset).toArray = ls at hl ⊢
  have hl : lv_has ls 3 [(0, .ref q), (1, .int p0)] := hl
  unfold P_X11_steps at h
  obtain ⟨⟨hq, hk⟩, h⟩ := h
  refine lv_iload_n hx hb dX11_steps_0 rfl (lv_at hl 1 rfl) ?_
  refine lv_iconst (v := 1) hx hb dX11_steps_1 (by decide) ?_
  refine lv_icmp_lt (tgt := 12) hx hb dX11_steps_2 (by decide) (fun c_2 => ?_) (fun c_2 => ?_)
  · have h := h.1 c_2
    obtain ⟨sa, hsa⟩ := hG.t139
    exact vx_throwS (A := A) (own := RX11) (cls := "java/lang/IllegalArgumentException") (text := "n is not 1 .. 5000") (names := ["java/lang/RuntimeException", "java/lang/Exception"]) (sa := sa) (rest := []) hx hb hl0 hown (by decide) (by decide) (hts _ mwC_371) (hts _ mwC_372) hsa (vx_hat (B := [.castable "java/lang/IllegalArgumentException" "java/lang/IllegalArgumentException", .declares ⟨"java/lang/RuntimeException", "<init>", "(Ljava/lang/String;)V"⟩, .declares ⟨"java/lang/Exception", "<init>", "(Ljava/lang/String;)V"⟩, .declares ⟨"java/lang/Throwable", "<init>", "(Ljava/lang/String;)V"⟩]) (fun w h => hts w (xat_IAE w h)) (by decide +kernel) (vx_c (va_Nw.use rfl hG.xIAE) (vx_c (va_Nw.use rfl hG.dR) (vx_c (va_Nw.use rfl hG.dE) (vx_c (va_Nw.use rfl hG.dT) vx_n))))) (by decide +kernel) hZ.1 hZ.2 hS (hl.1.trans hml.symm) dX11_steps_12 dX11_steps_15 dX11_steps_16 dX11_steps_18 dX11_steps_21 (fun x h => (htab x h).elim) (Nat.le_of_ble_eq_true rfl) (Nat.le_of_ble_eq_true rfl) (Nat.le_of_ble_eq_true rfl) (Nat.le_of_ble_eq_true rfl) hlocks (fun t hvm hz hq => ⟨(), trivial, h, Nat.le_trans hE.1 hz, fun q h1 h2 => (hq q (Nat.lt_of_lt_of_le h1 hE.1)).trans (hE.2 q h1)⟩) hS.2.2 (Nat.le_of_ble_eq_true rfl) (Nat.le_of_ble_eq_true rfl)
  · have h := h.2 c_2
    refine lv_iload_n hx hb dX11_steps_5 rfl (lv_at hl 1 rfl) ?_
    refine lv_sipush (v := 5000) hx hb dX11_steps_6 (by decide) ?_
    refine lv_icmp_le (tgt := 22) hx hb dX11_steps_9 (by decide) (fun c_9 => ?_) (fun c_9 => ?_)
    · have h := h.1 c_9
      refine lv_aload_n hx hb dX11_steps_22 rfl (lv_at hl 0 rfl) ?_
      refine c_get (C := RX11) (T := TX11) (N := 9) (K := 10) (v := .int (ci q 6)) hx hb hts hinX11 hown hK hP hq hk (by decide) rfl 6 (by decide) (hts _ mwC_380) (fun _ h9 => h9) rfl dX11_steps_23 ?_
      refine lv_istore_n (lv' := [(2, .int (ci q 6)), (0, .ref q), (1, .int p0)]) hx hb dX11_steps_26 rfl hl (by decide) rfl (fun ls hl => ?_)
      refine lv_aload_n hx hb dX11_steps_27 rfl (lv_at hl 1 rfl) ?_
      refine lv_iload_n hx hb dX11_steps_28 rfl (lv_at hl 2 rfl) ?_
      refine c_put (C := RX11) (T := TX11) (N := 9) (K := 10) hx hb hts hinX11 tyX11 tyX11_ok nmX11 hown hK hP hD hS hq hk (by decide) rfl 6 (by decide) (hts _ mwC_380) (fun _ h9 => h9) rfl (by decide +kernel) (Nat.le_of_ble_eq_true rfl) rfl dX11_steps_29 (fun H locs hP hD hS => ?_)
      refine lv_iload_n hx hb dX11_steps_32 rfl (lv_at hl 0 rfl) ?_
      refine W.widen (k := 1) (n := 6) (by decide) (by decide) ?_
      refine vx_ret ?_
      exact W.iret (v := (ci q 6)) hx hb hr (fun t ht hW => ⟨⟨_, (sh, va_up ci q (va_up (ci q) 6 p0), ai, al), rfl, h, by rw [ht]; exact hP, cK.moved hW.alike hK, hD⟩, hS.F ht⟩) hS.2.2 dX11_steps_33
    · have h := h.2 c_9
      obtain ⟨sa, hsa⟩ := hG.t139
      exact vx_throwS (A := A) (own := RX11) (cls := "java/lang/IllegalArgumentException") (text := "n is not 1 .. 5000") (names := ["java/lang/RuntimeException", "java/lang/Exception"]) (sa := sa) (rest := []) hx hb hl0 hown (by decide) (by decide) (hts _ mwC_371) (hts _ mwC_372) hsa (vx_hat (B := [.castable "java/lang/IllegalArgumentException" "java/lang/IllegalArgumentException", .declares ⟨"java/lang/RuntimeException", "<init>", "(Ljava/lang/String;)V"⟩, .declares ⟨"java/lang/Exception", "<init>", "(Ljava/lang/String;)V"⟩, .declares ⟨"java/lang/Throwable", "<init>", "(Ljava/lang/String;)V"⟩]) (fun w h => hts w (xat_IAE w h)) (by decide +kernel) (vx_c (va_Nw.use rfl hG.xIAE) (vx_c (va_Nw.use rfl hG.dR) (vx_c (va_Nw.use rfl hG.dE) (vx_c (va_Nw.use rfl hG.dT) vx_n))))) (by decide +kernel) hZ.1 hZ.2 hS (hl.1.trans hml.symm) dX11_steps_12 dX11_steps_15 dX11_steps_16 dX11_steps_18 dX11_steps_21 (fun x h => (htab x h).elim) (Nat.le_of_ble_eq_true rfl) (Nat.le_of_ble_eq_true rfl) (Nat.le_of_ble_eq_true rfl) (Nat.le_of_ble_eq_true rfl) hlocks (fun t hvm hz hq => ⟨(), trivial, h, Nat.le_trans hE.1 hz, fun q h1 h2 => (hq q (Nat.lt_of_lt_of_le h1 hE.1)).trans (hE.2 q h1)⟩) hS.2.2 (Nat.le_of_ble_eq_true rfl) (Nat.le_of_ble_eq_true rfl)
abbrev wmX11_addList : List Cond := .code yX11_addList cX11_addList 3 (some .int) :: WC
theorem hd_X11_addList : yX11_addList.cls = RX11 ∧ yX11_addList.cls ≠ "java/lang/invoke/MethodHandle" ∧ yX11_addList.cls ≠ "java/lang/invoke/VarHandle" ∧ (parseMethodDescriptor yX11_addList.desc).map (fun d => d.parameters.length) = some 1 := by decide +kernel
def P_X11_addList (sh : Sh) (ci : Nat → Nat → Int32) (ai : Nat → Nat → Int32) (al : Nat → Nat → Int64) (q : Nat) (p0 : Nat) (Q : Int32 → Sh → (Nat → Nat → Int32) → (Nat → Nat → Int32) → (Nat → Nat → Int64) → Prop) : Prop := (q ∈ sL sh ∧ sK sh q = 10) ∧ ∃ q1 : Nat, sR sh q 1 = some q1 ∧ (q1 ∈ sL sh ∧ sK sh q1 = 23) ∧ (((nI (sN sh q1)) ≤ (ci q 4)) → (Q (ci q 4) sh ci ai al)) ∧ ((¬ (nI (sN sh q1)) ≤ (ci q 4)) → ((p0 ∈ sL sh ∧ isZ (sK sh p0)) ∧ vp_in (ci q 4) (sN sh q1) ∧ ∀ sh8 : Sh, sh8 = shQ sh q1 (ci q 4).toNatClampNeg (some p0) → (q ∈ sL sh8 ∧ sK sh8 q = 10) ∧ Q (ci q 4) sh8 (va_up ci q (va_up (ci q) 4 ((ci q 4) + 1))) ai al))
set_option maxHeartbeats 4000000 in
set_option maxRecDepth 100000 in
theorem p_X11_addList (l : Launch) (dC : Nat → ClassId) (dI : Nat → Nat → Nat) (sh : Sh) (ci : Nat → Nat → Int32) (ai : Nat → Nat → Int32) (al : Nat → Nat → Int64) (q : Nat) (p0 : Nat) (Q : Int32 → Sh → (Nat → Nat → Int32) → (Nat → Nat → Int32) → (Nat → Nat → Int64) → Prop) (h : P_X11_addList sh ci ai al q p0 Q) (sz : Nat) : Met l yX11_addList wmX11_addList ({ frames := 60, cells := 0, slots := 0, locals := 2000 }) (va_Pc [.ref q, .ref p0] (cPre dC dI sh ci ai al sz)) (va_Qi (S := XSt) (xI Q) (xB dC dI (va_A (cW sh ci ai al) sz)) (va_A (cW sh ci ai al) sz)) 0 0 (va_A (cW sh ci ai al) sz) := by
  refine Met.ofW (cc := cX11_addList) (maxL := 3) (ret := (some .int)) (by decide) rfl ?_
  intro p e s m args below meth c s₁ B hml hv
  obtain ⟨rfl, hsz, hP, hK, hD0, hG⟩ := hv
  have hx := B.exec
  have hb := B.bytes
  have hr := B.returns
  have hts : ∀ w ∈ WC, w.before _ s = true := fun w h => atoms_spec (ws := wmX11_addList) B.pre w (List.mem_cons_of_mem _ h)
  have hown : s.vm.findClass RX11 = some m.cls := findClass_of_methodNamed B.named
  have hlocks := B.notSynchronized
  subst hsz
  have hD := hD0.self (sz := s.heap.size)
  generalize hAe : va_A (cW sh ci ai al) s.heap.size = A at hD ⊢
  have hA : ∀ q : Nat, s.heap.size ≤ q → A q := fun q h => by rw [← hAe]; exact Or.inr h
  generalize hH : s.heap = H at hP ⊢
  have hS : va_S A s.heap H [] := by rw [← hH]; exact va_S.rf
  have hl := lv_entry [.ref q, .ref p0] (n := 3) (Nat.le_of_ble_eq_true rfl)
  rw [lg_entry_eq]
  generalize (lg_sl [.ref q, .ref p0] ++ List.replicate (3 - (lg_sl [.ref q, .ref p0]).length) Slot.unset).toArray = ls at hl ⊢
  have hl : lv_has ls 3 [(0, .ref q), (1, .ref p0)] := hl
  unfold P_X11_addList at h
  obtain ⟨⟨hq, hk⟩, h⟩ := h
  refine lv_aload_n hx hb dX11_addList_0 rfl (lv_at hl 0 rfl) ?_
  refine c_get (C := RX11) (T := TX11) (N := 9) (K := 10) (v := .int (ci q 4)) hx hb hts hinX11 hown hK hP hq hk (by decide) rfl 4 (by decide) (hts _ mwC_365) (fun _ h9 => h9) rfl dX11_addList_1 ?_
  refine lv_istore_n (lv' := [(2, .int (ci q 4)), (0, .ref q), (1, .ref p0)]) hx hb dX11_addList_4 rfl hl (by decide) rfl (fun ls hl => ?_)
  refine lv_iload_n hx hb dX11_addList_5 rfl (lv_at hl 0 rfl) ?_
  refine lv_aload_n hx hb dX11_addList_6 rfl (lv_at hl 1 rfl) ?_
  obtain ⟨q1, e2, h⟩ := h
  refine c_get (C := RX11) (T := TX11) (N := 9) (K := 10) (v := .ref q1) hx hb hts hinX11 hown hK hP hq hk (by decide) rfl 1 (by decide) (hts _ mwC_370) (fun _ h9 => h9) (by show some (va_rf (sR sh q 1)) = _; rw [e2]; rfl) dX11_addList_7 ?_
  obtain ⟨⟨hm3, hk4⟩, h⟩ := h
  refine c_alen hx hb hK hP hm3 (Or.inr (Or.inr (Or.inr hk4))) dX11_addList_10 ?_
  refine lv_icmp_ge (tgt := 28) hx hb dX11_addList_11 (by decide) (fun c_11 => ?_) (fun c_11 => ?_)
  · have h := h.1 c_11
    refine lv_iload_n hx hb dX11_addList_28 rfl (lv_at hl 0 rfl) ?_
    refine W.widen (k := 0) (n := 0) (by decide) (by decide) ?_
    exact W.iret (v := (ci q 4)) hx hb hr (fun t ht hW => ⟨⟨_, (sh, ci, ai, al), rfl, h, by rw [ht]; exact hP, cK.moved hW.alike hK, hD⟩, hS.F ht⟩) hS.2.2 dX11_addList_29
  · have h := h.2 c_11
    refine lv_aload_n hx hb dX11_addList_14 rfl (lv_at hl 1 rfl) ?_
    refine c_get (C := RX11) (T := TX11) (N := 9) (K := 10) (v := .ref q1) hx hb hts hinX11 hown hK hP hq hk (by decide) rfl 1 (by decide) (hts _ mwC_370) (fun _ h9 => h9) (by show some (va_rf (sR sh q 1)) = _; rw [e2]; rfl) dX11_addList_15 ?_
    refine lv_iload_n hx hb dX11_addList_18 rfl (lv_at hl 0 rfl) ?_
    refine lv_aload_n hx hb dX11_addList_19 rfl (lv_at hl 2 rfl) ?_
    obtain ⟨⟨hm5, hk6⟩, h⟩ := h
    obtain ⟨hi7, h⟩ := h
    refine x_aast hx hb hK hP hD hS hG hm3 hk4 hm5 hk6 hi7 dX11_addList_20 (fun sh8 H locs es9 hK hP hD hS => ?_)
    have h := h sh8 es9
    refine lv_aload_n hx hb dX11_addList_21 rfl (lv_at hl 1 rfl) ?_
    refine lv_iload_n hx hb dX11_addList_22 rfl (lv_at hl 0 rfl) ?_
    refine lv_iconst (v := 1) hx hb dX11_addList_23 (by decide) ?_
    refine lv_iadd hx hb dX11_addList_24 ?_
    obtain ⟨⟨hm10, hk11⟩, h⟩ := h
    refine c_put (C := RX11) (T := TX11) (N := 9) (K := 10) hx hb hts hinX11 tyX11 tyX11_ok nmX11 hown hK hP hD hS hm10 hk11 (by decide) rfl 4 (by decide) (hts _ mwC_365) (fun _ h9 => h9) rfl (by decide +kernel) (Nat.le_of_ble_eq_true rfl) rfl dX11_addList_25 (fun H locs hP hD hS => ?_)
    refine lv_iload_n hx hb dX11_addList_28 rfl (lv_at hl 0 rfl) ?_
    refine W.widen (k := 0) (n := 0) (by decide) (by decide) ?_
    exact W.iret (v := (ci q 4)) hx hb hr (fun t ht hW => ⟨⟨_, (sh8, va_up ci q (va_up (ci q) 4 ((ci q 4) + 1)), ai, al), rfl, h, by rw [ht]; exact hP, cK.moved hW.alike hK, hD⟩, hS.F ht⟩) hS.2.2 dX11_addList_29
abbrev wmX11_otherList : List Cond := .code yX11_otherList cX11_otherList 3 (some (.object "NeededLists$LazyList")) :: WC
theorem hd_X11_otherList : yX11_otherList.cls = RX11 ∧ yX11_otherList.cls ≠ "java/lang/invoke/MethodHandle" ∧ yX11_otherList.cls ≠ "java/lang/invoke/VarHandle" ∧ (parseMethodDescriptor yX11_otherList.desc).map (fun d => d.parameters.length) = some 2 := by decide +kernel
def P_X11_otherList (sh : Sh) (ci : Nat → Nat → Int32) (ai : Nat → Nat → Int32) (al : Nat → Nat → Int64) (q : Nat) (p0 : Nat) (p1 : Int32) (Q : Nat → Sh → (Nat → Nat → Int32) → (Nat → Nat → Int32) → (Nat → Nat → Int64) → Prop) : Prop := (q ∈ sL sh ∧ sK sh q = 10) ∧ ((p1 = 0) → (∀ (q1 : Nat) (sh2 : Sh), q1 ∉ sL sh → sh2 = shO sh q1 4 → (q ∈ sL sh2 ∧ sK sh2 q = 10) ∧ ∃ q7 : Nat, sR sh2 q 0 = some q7 ∧ (q1 ∈ sL sh2 ∧ sK sh2 q1 = 4) ∧ P_X4_initN sh2 (va_up ci q1 (fun _ => 0)) ai al q1 q7 p0 (fun sh11 ci11 ai11 al11 => Q q1 sh11 ci11 ai11 al11))) ∧ ((¬ p1 = 0) → ((p1 = 1) → (∀ (q12 : Nat) (sh13 : Sh), q12 ∉ sL sh → sh13 = shO sh q12 6 → (q ∈ sL sh13 ∧ sK sh13 q = 10) ∧ ∃ q18 : Nat, sR sh13 q 0 = some q18 ∧ (q12 ∈ sL sh13 ∧ sK sh13 q12 = 6) ∧ P_X7_init sh13 (va_up ci q12 (fun _ => 0)) ai al q12 q18 p0 0 (fun sh22 ci22 ai22 al22 => Q q12 sh22 ci22 ai22 al22))) ∧ ((¬ p1 = 1) → ((p1 = 2) → (∀ (q23 : Nat) (sh24 : Sh), q23 ∉ sL sh → sh24 = shO sh q23 6 → (q ∈ sL sh24 ∧ sK sh24 q = 10) ∧ ∃ q29 : Nat, sR sh24 q 0 = some q29 ∧ (q23 ∈ sL sh24 ∧ sK sh24 q23 = 6) ∧ P_X7_init sh24 (va_up ci q23 (fun _ => 0)) ai al q23 q29 p0 1 (fun sh33 ci33 ai33 al33 => Q q23 sh33 ci33 ai33 al33))) ∧ ((¬ p1 = 2) → ((p1 = 3) → (∀ (q34 : Nat) (sh35 : Sh), q34 ∉ sL sh → sh35 = shO sh q34 9 → (q ∈ sL sh35 ∧ sK sh35 q = 10) ∧ ∃ q40 : Nat, sR sh35 q 0 = some q40 ∧ (q34 ∈ sL sh35 ∧ sK sh35 q34 = 9) ∧ P_X10_init sh35 (va_up ci q34 (fun _ => 0)) ai al q34 q40 p0 (-1) 0 (fun sh44 ci44 ai44 al44 => Q q34 sh44 ci44 ai44 al44))) ∧ ((¬ p1 = 3) → (∀ (q45 : Nat) (sh46 : Sh), q45 ∉ sL sh → sh46 = shO sh q45 8 → (q ∈ sL sh46 ∧ sK sh46 q = 10) ∧ ∃ q51 : Nat, sR sh46 q 0 = some q51 ∧ (q45 ∈ sL sh46 ∧ sK sh46 q45 = 8) ∧ P_X9_init sh46 (va_up ci q45 (fun _ => 0)) ai al q45 q51 p0 (fun sh55 ci55 ai55 al55 => Q q45 sh55 ci55 ai55 al55))))))
set_option maxHeartbeats 4000000 in
set_option maxRecDepth 100000 in
theorem p_X11_otherList (l : Launch) (dC : Nat → ClassId) (dI : Nat → Nat → Nat) (sh : Sh) (ci : Nat → Nat → Int32) (ai : Nat → Nat → Int32) (al : Nat → Nat → Int64) (q : Nat) (p0 : Nat) (p1 : Int32) (Q : Nat → Sh → (Nat → Nat → Int32) → (Nat → Nat → Int32) → (Nat → Nat → Int64) → Prop) (h : P_X11_otherList sh ci ai al q p0 p1 Q) (sz : Nat) : Met l yX11_otherList wmX11_otherList ({ frames := 60, cells := 4, slots := 1210, locals := 2000 }) (va_Pc [.ref q, .ref p0, .int p1] (cPre dC dI sh ci ai al sz)) (va_Qr (S := XSt) (fun _ => True) (fun u a t => xA Q u a ∧ xB dC dI (va_A (cW sh ci ai al) sz) u t) (va_A (cW sh ci ai al) sz)) 4 1210 (va_A (cW sh ci ai al) sz) := by
  refine Met.ofW (cc := cX11_otherList) (maxL := 3) (ret := (some (.object "NeededLists$LazyList"))) (by decide) rfl ?_
  intro p e s m args below meth c s₁ B hml hv
  obtain ⟨rfl, hsz, hP, hK, hD0, hG⟩ := hv
  have hx := B.exec
  have hb := B.bytes
  have hr := B.returns
  have hts : ∀ w ∈ WC, w.before _ s = true := fun w h => atoms_spec (ws := wmX11_otherList) B.pre w (List.mem_cons_of_mem _ h)
  have hown : s.vm.findClass RX11 = some m.cls := findClass_of_methodNamed B.named
  have hlocks := B.notSynchronized
  subst hsz
  have hD := hD0.self (sz := s.heap.size)
  generalize hAe : va_A (cW sh ci ai al) s.heap.size = A at hD ⊢
  have hA : ∀ q : Nat, s.heap.size ≤ q → A q := fun q h => by rw [← hAe]; exact Or.inr h
  generalize hH : s.heap = H at hP ⊢
  have hS : va_S A s.heap H [] := by rw [← hH]; exact va_S.rf
  have hl := lv_entry [.ref q, .ref p0, .int p1] (n := 3) (Nat.le_of_ble_eq_true rfl)
  rw [lg_entry_eq]
  generalize (lg_sl [.ref q, .ref p0, .int p1] ++ List.replicate (3 - (lg_sl [.ref q, .ref p0, .int p1]).length) Slot.unset).toArray = ls at hl ⊢
  have hl : lv_has ls 3 [(0, .ref q), (1, .ref p0), (2, .int p1)] := hl
  unfold P_X11_otherList at h
  obtain ⟨⟨hq, hk⟩, h⟩ := h
  refine lv_iload_n hx hb dX11_otherList_0 rfl (lv_at hl 2 rfl) ?_
  by_cases hs_1_0 : p1 = 0
  · have h := h.1 hs_1_0
    refine lv_tableIn (tgt := 32) hx hb dX11_otherList_1 (by rw [hs_1_0]; decide) (by rw [hs_1_0]; decide) (off := 31) (by rw [hs_1_0]; decide) (by decide) ?_
    refine x_newX4 hx hb hts hown (hts _ mwC_381) (hts _ mwC_382) (hts _ mwC_54) hK hP hD hS hA (Nat.le_of_ble_eq_true rfl) (Nat.le_of_ble_eq_true rfl) dX11_otherList_32 (fun q1 sh2 H hn4 es3 hK hP hD hS => ?_)
    have h := h q1 sh2 hn4 es3
    refine lv_dup hx hb dX11_otherList_35 rfl ?_
    refine lv_aload_n hx hb dX11_otherList_36 rfl (lv_at hl 0 rfl) ?_
    obtain ⟨⟨hm5, hk6⟩, h⟩ := h
    obtain ⟨q7, e8, h⟩ := h
    refine c_get (C := RX11) (T := TX11) (N := 9) (K := 10) (v := .ref q7) hx hb hts hinX11 hown hK hP hm5 hk6 (by decide) rfl 0 (by decide) (hts _ mwC_383) (fun _ h9 => h9) (by show some (va_rf (sR sh2 q 0)) = _; rw [e8]; rfl) dX11_otherList_37 ?_
    refine lv_aload_n hx hb dX11_otherList_40 rfl (lv_at hl 1 rfl) ?_
    refine lv_null hx hb dX11_otherList_41 ?_
    obtain ⟨⟨hm9, hk10⟩, h⟩ := h
    refine xn_endv (va_runI (rm := ({ frames := 30, cells := 2, slots := 800, locals := 400 })) (As := [.ref q7, .ref p0, .null]) (rest := [.ref q1]) ⟨hx, hb, hml, hown, hts⟩ (p_X4_initN l dC dI _ _ _ _ q1 q7 p0 _ h H.size) (cwI 3 hts (g_C gdC mwC_384) rfl rfl rfl (hts _ mwC_54) (hts _ mwC_385) (hts _ mwC_386) rfl hd_X4_initN ⟨Nat.le_of_ble_eq_true rfl, Nat.le_of_ble_eq_true rfl⟩) (c_preS hK hP hD hG) rfl rfl hl.1 rfl (lv_room (Nat.le_of_ble_eq_true rfl)) dX11_otherList_42 ⟨Nat.le_of_ble_eq_true rfl, Nat.le_of_ble_eq_true rfl⟩) hD hS hA (fun sh11 ci11 ai11 al11 H locs h hK hP hD hS => ?_)
    refine W.widen (k := 4) (n := 1210) (by decide) (by decide) ?_
    exact W.aret hx hb hr (Or.inl ⟨_, rfl⟩) (Or.inr ⟨_, rfl⟩) (fun t ht hW => ⟨⟨(sh11, ci11, ai11, al11), q1, rfl, trivial, h, by rw [ht]; exact hP, cK.moved hW.alike hK, hD⟩, hS.F ht⟩) hS.2.2 dX11_otherList_45
  replace h := h.2 hs_1_0
  by_cases hs_1_1 : p1 = 1
  · have h := h.1 hs_1_1
    refine lv_tableIn (tgt := 46) hx hb dX11_otherList_1 (by rw [hs_1_1]; decide) (by rw [hs_1_1]; decide) (off := 45) (by rw [hs_1_1]; decide) (by decide) ?_
    refine x_newX7 hx hb hts hown (hts _ mwC_387) (hts _ mwC_388) (hts _ mwC_58) hK hP hD hS hA (Nat.le_of_ble_eq_true rfl) (Nat.le_of_ble_eq_true rfl) dX11_otherList_46 (fun q12 sh13 H hn15 es14 hK hP hD hS => ?_)
    have h := h q12 sh13 hn15 es14
    refine lv_dup hx hb dX11_otherList_49 rfl ?_
    refine lv_aload_n hx hb dX11_otherList_50 rfl (lv_at hl 0 rfl) ?_
    obtain ⟨⟨hm16, hk17⟩, h⟩ := h
    obtain ⟨q18, e19, h⟩ := h
    refine c_get (C := RX11) (T := TX11) (N := 9) (K := 10) (v := .ref q18) hx hb hts hinX11 hown hK hP hm16 hk17 (by decide) rfl 0 (by decide) (hts _ mwC_383) (fun _ h9 => h9) (by show some (va_rf (sR sh13 q 0)) = _; rw [e19]; rfl) dX11_otherList_51 ?_
    refine lv_aload_n hx hb dX11_otherList_54 rfl (lv_at hl 1 rfl) ?_
    refine lv_iconst (v := 0) hx hb dX11_otherList_55 (by decide) ?_
    obtain ⟨⟨hm20, hk21⟩, h⟩ := h
    refine xn_endv (va_runI (rm := ({ frames := 30, cells := 3, slots := 1200, locals := 400 })) (As := [.ref q18, .ref p0, .int 0]) (rest := [.ref q12]) ⟨hx, hb, hml, hown, hts⟩ (p_X7_init l dC dI _ _ _ _ q12 q18 p0 0 _ h H.size) (cwI 3 hts (g_C gdC mwC_389) rfl rfl rfl (hts _ mwC_58) (hts _ mwC_390) (hts _ mwC_391) rfl hd_X7_init ⟨Nat.le_of_ble_eq_true rfl, Nat.le_of_ble_eq_true rfl⟩) (c_preS hK hP hD hG) rfl rfl hl.1 rfl (lv_room (Nat.le_of_ble_eq_true rfl)) dX11_otherList_56 ⟨Nat.le_of_ble_eq_true rfl, Nat.le_of_ble_eq_true rfl⟩) hD hS hA (fun sh22 ci22 ai22 al22 H locs h hK hP hD hS => ?_)
    refine W.widen (k := 4) (n := 1210) (by decide) (by decide) ?_
    exact W.aret hx hb hr (Or.inl ⟨_, rfl⟩) (Or.inr ⟨_, rfl⟩) (fun t ht hW => ⟨⟨(sh22, ci22, ai22, al22), q12, rfl, trivial, h, by rw [ht]; exact hP, cK.moved hW.alike hK, hD⟩, hS.F ht⟩) hS.2.2 dX11_otherList_59
  replace h := h.2 hs_1_1
  by_cases hs_1_2 : p1 = 2
  · have h := h.1 hs_1_2
    refine lv_tableIn (tgt := 60) hx hb dX11_otherList_1 (by rw [hs_1_2]; decide) (by rw [hs_1_2]; decide) (off := 59) (by rw [hs_1_2]; decide) (by decide) ?_
    refine x_newX7 hx hb hts hown (hts _ mwC_387) (hts _ mwC_388) (hts _ mwC_58) hK hP hD hS hA (Nat.le_of_ble_eq_true rfl) (Nat.le_of_ble_eq_true rfl) dX11_otherList_60 (fun q23 sh24 H hn26 es25 hK hP hD hS => ?_)
    have h := h q23 sh24 hn26 es25
    refine lv_dup hx hb dX11_otherList_63 rfl ?_
    refine lv_aload_n hx hb dX11_otherList_64 rfl (lv_at hl 0 rfl) ?_
    obtain ⟨⟨hm27, hk28⟩, h⟩ := h
    obtain ⟨q29, e30, h⟩ := h
    refine c_get (C := RX11) (T := TX11) (N := 9) (K := 10) (v := .ref q29) hx hb hts hinX11 hown hK hP hm27 hk28 (by decide) rfl 0 (by decide) (hts _ mwC_383) (fun _ h9 => h9) (by show some (va_rf (sR sh24 q 0)) = _; rw [e30]; rfl) dX11_otherList_65 ?_
    refine lv_aload_n hx hb dX11_otherList_68 rfl (lv_at hl 1 rfl) ?_
    refine lv_iconst (v := 1) hx hb dX11_otherList_69 (by decide) ?_
    obtain ⟨⟨hm31, hk32⟩, h⟩ := h
    refine xn_endv (va_runI (rm := ({ frames := 30, cells := 3, slots := 1200, locals := 400 })) (As := [.ref q29, .ref p0, .int 1]) (rest := [.ref q23]) ⟨hx, hb, hml, hown, hts⟩ (p_X7_init l dC dI _ _ _ _ q23 q29 p0 1 _ h H.size) (cwI 3 hts (g_C gdC mwC_389) rfl rfl rfl (hts _ mwC_58) (hts _ mwC_390) (hts _ mwC_391) rfl hd_X7_init ⟨Nat.le_of_ble_eq_true rfl, Nat.le_of_ble_eq_true rfl⟩) (c_preS hK hP hD hG) rfl rfl hl.1 rfl (lv_room (Nat.le_of_ble_eq_true rfl)) dX11_otherList_70 ⟨Nat.le_of_ble_eq_true rfl, Nat.le_of_ble_eq_true rfl⟩) hD hS hA (fun sh33 ci33 ai33 al33 H locs h hK hP hD hS => ?_)
    refine W.widen (k := 4) (n := 1210) (by decide) (by decide) ?_
    exact W.aret hx hb hr (Or.inl ⟨_, rfl⟩) (Or.inr ⟨_, rfl⟩) (fun t ht hW => ⟨⟨(sh33, ci33, ai33, al33), q23, rfl, trivial, h, by rw [ht]; exact hP, cK.moved hW.alike hK, hD⟩, hS.F ht⟩) hS.2.2 dX11_otherList_73
  replace h := h.2 hs_1_2
  by_cases hs_1_3 : p1 = 3
  · have h := h.1 hs_1_3
    refine lv_tableIn (tgt := 74) hx hb dX11_otherList_1 (by rw [hs_1_3]; decide) (by rw [hs_1_3]; decide) (off := 73) (by rw [hs_1_3]; decide) (by decide) ?_
    refine x_newX10 hx hb hts hown (hts _ mwC_392) (hts _ mwC_393) (hts _ mwC_67) hK hP hD hS hA (Nat.le_of_ble_eq_true rfl) (Nat.le_of_ble_eq_true rfl) dX11_otherList_74 (fun q34 sh35 H hn37 es36 hK hP hD hS => ?_)
    have h := h q34 sh35 hn37 es36
    refine lv_dup hx hb dX11_otherList_77 rfl ?_
    refine lv_aload_n hx hb dX11_otherList_78 rfl (lv_at hl 0 rfl) ?_
    obtain ⟨⟨hm38, hk39⟩, h⟩ := h
    obtain ⟨q40, e41, h⟩ := h
    refine c_get (C := RX11) (T := TX11) (N := 9) (K := 10) (v := .ref q40) hx hb hts hinX11 hown hK hP hm38 hk39 (by decide) rfl 0 (by decide) (hts _ mwC_383) (fun _ h9 => h9) (by show some (va_rf (sR sh35 q 0)) = _; rw [e41]; rfl) dX11_otherList_79 ?_
    refine lv_aload_n hx hb dX11_otherList_82 rfl (lv_at hl 1 rfl) ?_
    refine lv_iconst (v := (-1)) hx hb dX11_otherList_83 (by decide) ?_
    refine lv_lconst (v := 0) hx hb dX11_otherList_84 (by decide) ?_
    obtain ⟨⟨hm42, hk43⟩, h⟩ := h
    refine xn_endv (va_runI (rm := ({ frames := 30, cells := 3, slots := 1200, locals := 400 })) (As := [.ref q40, .ref p0, .int (-1), .long 0]) (rest := [.ref q34]) ⟨hx, hb, hml, hown, hts⟩ (p_X10_init l dC dI _ _ _ _ q34 q40 p0 (-1) 0 _ h H.size) (cwI 4 hts (g_C gdC mwC_394) rfl rfl rfl (hts _ mwC_67) (hts _ mwC_395) (hts _ mwC_396) rfl hd_X10_init ⟨Nat.le_of_ble_eq_true rfl, Nat.le_of_ble_eq_true rfl⟩) (c_preS hK hP hD hG) rfl rfl hl.1 rfl (lv_room (Nat.le_of_ble_eq_true rfl)) dX11_otherList_85 ⟨Nat.le_of_ble_eq_true rfl, Nat.le_of_ble_eq_true rfl⟩) hD hS hA (fun sh44 ci44 ai44 al44 H locs h hK hP hD hS => ?_)
    refine W.widen (k := 4) (n := 1210) (by decide) (by decide) ?_
    exact W.aret hx hb hr (Or.inl ⟨_, rfl⟩) (Or.inr ⟨_, rfl⟩) (fun t ht hW => ⟨⟨(sh44, ci44, ai44, al44), q34, rfl, trivial, h, by rw [ht]; exact hP, cK.moved hW.alike hK, hD⟩, hS.F ht⟩) hS.2.2 dX11_otherList_88
  replace h := h.2 hs_1_3
  refine lv_tableOut (tgt := 89) hx hb dX11_otherList_1 (by have n0 := lv_neT hs_1_0 (a := 0) (by decide); have n1 := lv_neT hs_1_1 (a := 1) (by decide); have n2 := lv_neT hs_1_2 (a := 2) (by decide); have n3 := lv_neT hs_1_3 (a := 3) (by decide); omega) (by decide) ?_
  refine x_newX9 hx hb hts hown (hts _ mwC_397) (hts _ mwC_398) (hts _ mwC_229) hK hP hD hS hA (Nat.le_of_ble_eq_true rfl) (Nat.le_of_ble_eq_true rfl) dX11_otherList_89 (fun q45 sh46 H hn48 es47 hK hP hD hS => ?_)
  have h := h q45 sh46 hn48 es47
  refine lv_dup hx hb dX11_otherList_92 rfl ?_
  refine lv_aload_n hx hb dX11_otherList_93 rfl (lv_at hl 0 rfl) ?_
  obtain ⟨⟨hm49, hk50⟩, h⟩ := h
  obtain ⟨q51, e52, h⟩ := h
  refine c_get (C := RX11) (T := TX11) (N := 9) (K := 10) (v := .ref q51) hx hb hts hinX11 hown hK hP hm49 hk50 (by decide) rfl 0 (by decide) (hts _ mwC_383) (fun _ h9 => h9) (by show some (va_rf (sR sh46 q 0)) = _; rw [e52]; rfl) dX11_otherList_94 ?_
  refine lv_aload_n hx hb dX11_otherList_97 rfl (lv_at hl 1 rfl) ?_
  obtain ⟨⟨hm53, hk54⟩, h⟩ := h
  refine xn_endv (va_runI (rm := ({ frames := 30, cells := 3, slots := 1200, locals := 400 })) (As := [.ref q51, .ref p0]) (rest := [.ref q45]) ⟨hx, hb, hml, hown, hts⟩ (p_X9_init l dC dI _ _ _ _ q45 q51 p0 _ h H.size) (cwI 2 hts (g_C gdC mwC_399) rfl rfl rfl (hts _ mwC_229) (hts _ mwC_400) (hts _ mwC_401) rfl hd_X9_init ⟨Nat.le_of_ble_eq_true rfl, Nat.le_of_ble_eq_true rfl⟩) (c_preS hK hP hD hG) rfl rfl hl.1 rfl (lv_room (Nat.le_of_ble_eq_true rfl)) dX11_otherList_98 ⟨Nat.le_of_ble_eq_true rfl, Nat.le_of_ble_eq_true rfl⟩) hD hS hA (fun sh55 ci55 ai55 al55 H locs h hK hP hD hS => ?_)
  refine W.widen (k := 4) (n := 1210) (by decide) (by decide) ?_
  exact W.aret hx hb hr (Or.inl ⟨_, rfl⟩) (Or.inr ⟨_, rfl⟩) (fun t ht hW => ⟨⟨(sh55, ci55, ai55, al55), q45, rfl, trivial, h, by rw [ht]; exact hP, cK.moved hW.alike hK, hD⟩, hS.F ht⟩) hS.2.2 dX11_otherList_101
abbrev wmX11_finish : List Cond := .code yX11_finish cX11_finish 4 (some .long) :: WC
theorem hd_X11_finish : yX11_finish.cls = RX11 ∧ yX11_finish.cls ≠ "java/lang/invoke/MethodHandle" ∧ yX11_finish.cls ≠ "java/lang/invoke/VarHandle" ∧ (parseMethodDescriptor yX11_finish.desc).map (fun d => d.parameters.length) = some 2 := by decide +kernel
def P_X11_finish (sh : Sh) (ci : Nat → Nat → Int32) (ai : Nat → Nat → Int32) (al : Nat → Nat → Int64) (q : Nat) (p0 : Int32) (p1 : Int64) (Q : Int64 → Sh → (Nat → Nat → Int32) → (Nat → Nat → Int32) → (Nat → Nat → Int64) → Prop) : Prop := (q ∈ sL sh ∧ sK sh q = 10) ∧ ((p0 ≤ 4) → (((p0 = 1) → (Q p1 sh (va_up (va_up ci q (va_up (ci q) 8 0)) q (va_up ((va_up ci q (va_up (ci q) 8 0)) q) 7 0)) ai al)) ∧ ((¬ p0 = 1) → ((p0 = 2) → (Q 0 sh (va_up (va_up ci q (va_up (ci q) 8 0)) q (va_up ((va_up ci q (va_up (ci q) 8 0)) q) 7 2)) ai al)) ∧ ((¬ p0 = 2) → ((p0 = 3) → (Q 0 sh (va_up (va_up ci q (va_up (ci q) 8 0)) q (va_up ((va_up ci q (va_up (ci q) 8 0)) q) 7 3)) ai al)) ∧ ((¬ p0 = 3) → ((p0 = 4) → (Q 0 sh (va_up (va_up ci q (va_up (ci q) 8 0)) q (va_up ((va_up ci q (va_up (ci q) 8 0)) q) 7 1)) ai al)) ∧ ((¬ p0 = 4) → (Q 0 sh (va_up (va_up ci q (va_up (ci q) 8 0)) q (va_up ((va_up ci q (va_up (ci q) 8 0)) q) 7 2)) ai al))))))) ∧ ((¬ p0 ≤ 4) → (((p0 = 1) → (Q p1 sh (va_up (va_up ci q (va_up (ci q) 8 (p0 - 4))) q (va_up ((va_up ci q (va_up (ci q) 8 (p0 - 4))) q) 7 0)) ai al)) ∧ ((¬ p0 = 1) → ((p0 = 2) → (Q 0 sh (va_up (va_up ci q (va_up (ci q) 8 (p0 - 4))) q (va_up ((va_up ci q (va_up (ci q) 8 (p0 - 4))) q) 7 2)) ai al)) ∧ ((¬ p0 = 2) → ((p0 = 3) → (Q 0 sh (va_up (va_up ci q (va_up (ci q) 8 (p0 - 4))) q (va_up ((va_up ci q (va_up (ci q) 8 (p0 - 4))) q) 7 3)) ai al)) ∧ ((¬ p0 = 3) → ((p0 = 4) → (Q 0 sh (va_up (va_up ci q (va_up (ci q) 8 (p0 - 4))) q (va_up ((va_up ci q (va_up (ci q) 8 (p0 - 4))) q) 7 1)) ai al)) ∧ ((¬ p0 = 4) → (Q 0 sh (va_up (va_up ci q (va_up (ci q) 8 (p0 - 4))) q (va_up ((va_up ci q (va_up (ci q) 8 (p0 - 4))) q) 7 2)) ai al)))))))
set_option maxHeartbeats 4000000 in
set_option maxRecDepth 100000 in
theorem p_X11_finish (l : Launch) (dC : Nat → ClassId) (dI : Nat → Nat → Nat) (sh : Sh) (ci : Nat → Nat → Int32) (ai : Nat → Nat → Int32) (al : Nat → Nat → Int64) (q : Nat) (p0 : Int32) (p1 : Int64) (Q : Int64 → Sh → (Nat → Nat → Int32) → (Nat → Nat → Int32) → (Nat → Nat → Int64) → Prop) (h : P_X11_finish sh ci ai al q p0 p1 Q) (sz : Nat) : Met l yX11_finish wmX11_finish ({ frames := 60, cells := 0, slots := 0, locals := 2000 }) (va_Pc [.ref q, .int p0, .long p1] (cPre dC dI sh ci ai al sz)) (va_Ql (S := XSt) (xJ Q) (xB dC dI (va_A (cW sh ci ai al) sz)) (va_A (cW sh ci ai al) sz)) 0 0 (va_A (cW sh ci ai al) sz) := by
  refine Met.ofW (cc := cX11_finish) (maxL := 4) (ret := (some .long)) (by decide) rfl ?_
  intro p e s m args below meth c s₁ B hml hv
  obtain ⟨rfl, hsz, hP, hK, hD0, hG⟩ := hv
  have hx := B.exec
  have hb := B.bytes
  have hr := B.returns
  have hts : ∀ w ∈ WC, w.before _ s = true := fun w h => atoms_spec (ws := wmX11_finish) B.pre w (List.mem_cons_of_mem _ h)
  have hown : s.vm.findClass RX11 = some m.cls := findClass_of_methodNamed B.named
  have hlocks := B.notSynchronized
  subst hsz
  have hD := hD0.self (sz := s.heap.size)
  generalize hAe : va_A (cW sh ci ai al) s.heap.size = A at hD ⊢
  have hA : ∀ q : Nat, s.heap.size ≤ q → A q := fun q h => by rw [← hAe]; exact Or.inr h
  generalize hH : s.heap = H at hP ⊢
  have hS : va_S A s.heap H [] := by rw [← hH]; exact va_S.rf
  have hl := lv_entry [.ref q, .int p0, .long p1] (n := 4) (Nat.le_of_ble_eq_true rfl)
  rw [lg_entry_eq]
  generalize (lg_sl [.ref q, .int p0, .long p1] ++ List.replicate (4 - (lg_sl [.ref q, .int p0, .long p1]).length) Slot.unset).toArray = ls at hl ⊢
  have hl : lv_has ls 4 [(0, .ref q), (1, .int p0), (2, .long p1)] := hl
  unfold P_X11_finish at h
  obtain ⟨⟨hq, hk⟩, h⟩ := h
  refine lv_aload_n hx hb dX11_finish_0 rfl (lv_at hl 0 rfl) ?_
  refine lv_iload_n hx hb dX11_finish_1 rfl (lv_at hl 1 rfl) ?_
  refine lv_iconst (v := 4) hx hb dX11_finish_2 (by decide) ?_
  refine lv_icmp_le (tgt := 12) hx hb dX11_finish_3 (by decide) (fun c_3 => ?_) (fun c_3 => ?_)
  · have h := h.1 c_3
    refine lv_iconst (v := 0) hx hb dX11_finish_12 (by decide) ?_
    refine c_put (C := RX11) (T := TX11) (N := 9) (K := 10) hx hb hts hinX11 tyX11 tyX11_ok nmX11 hown hK hP hD hS hq hk (by decide) rfl 8 (by decide) (hts _ mwC_402) (fun _ h9 => h9) rfl (by decide +kernel) (Nat.le_of_ble_eq_true rfl) rfl dX11_finish_13 (fun H locs hP hD hS => ?_)
    refine lv_iload_n hx hb dX11_finish_16 rfl (lv_at hl 1 rfl) ?_
    by_cases hs_17_1 : p0 = 1
    · have h := h.1 hs_17_1
      refine lv_tableIn (tgt := 48) hx hb dX11_finish_17 (by rw [hs_17_1]; decide) (by rw [hs_17_1]; decide) (off := 31) (by rw [hs_17_1]; decide) (by decide) ?_
      refine lv_aload_n hx hb dX11_finish_48 rfl (lv_at hl 0 rfl) ?_
      refine lv_iconst (v := 0) hx hb dX11_finish_49 (by decide) ?_
      refine c_put (C := RX11) (T := TX11) (N := 9) (K := 10) hx hb hts hinX11 tyX11 tyX11_ok nmX11 hown hK hP hD hS hq hk (by decide) rfl 7 (by decide) (hts _ mwC_403) (fun _ h9 => h9) rfl (by decide +kernel) (Nat.le_of_ble_eq_true rfl) rfl dX11_finish_50 (fun H locs hP hD hS => ?_)
      refine lv_lload_n hx hb dX11_finish_53 rfl (lv_at hl 2 rfl) ?_
      refine W.widen (k := 0) (n := 0) (by decide) (by decide) ?_
      exact W.lret (v := p1) hx hb hr (fun t ht hW => ⟨⟨_, (sh, va_up (va_up ci q (va_up (ci q) 8 0)) q (va_up ((va_up ci q (va_up (ci q) 8 0)) q) 7 0), ai, al), rfl, h, by rw [ht]; exact hP, cK.moved hW.alike hK, hD⟩, hS.F ht⟩) hS.2.2 dX11_finish_54
    replace h := h.2 hs_17_1
    by_cases hs_17_2 : p0 = 2
    · have h := h.1 hs_17_2
      refine lv_tableIn (tgt := 69) hx hb dX11_finish_17 (by rw [hs_17_2]; decide) (by rw [hs_17_2]; decide) (off := 52) (by rw [hs_17_2]; decide) (by decide) ?_
      refine lv_aload_n hx hb dX11_finish_69 rfl (lv_at hl 0 rfl) ?_
      refine lv_iconst (v := 2) hx hb dX11_finish_70 (by decide) ?_
      refine c_put (C := RX11) (T := TX11) (N := 9) (K := 10) hx hb hts hinX11 tyX11 tyX11_ok nmX11 hown hK hP hD hS hq hk (by decide) rfl 7 (by decide) (hts _ mwC_403) (fun _ h9 => h9) rfl (by decide +kernel) (Nat.le_of_ble_eq_true rfl) rfl dX11_finish_71 (fun H locs hP hD hS => ?_)
      refine lv_lconst (v := 0) hx hb dX11_finish_74 (by decide) ?_
      refine W.widen (k := 0) (n := 0) (by decide) (by decide) ?_
      exact W.lret (v := 0) hx hb hr (fun t ht hW => ⟨⟨_, (sh, va_up (va_up ci q (va_up (ci q) 8 0)) q (va_up ((va_up ci q (va_up (ci q) 8 0)) q) 7 2), ai, al), rfl, h, by rw [ht]; exact hP, cK.moved hW.alike hK, hD⟩, hS.F ht⟩) hS.2.2 dX11_finish_75
    replace h := h.2 hs_17_2
    by_cases hs_17_3 : p0 = 3
    · have h := h.1 hs_17_3
      refine lv_tableIn (tgt := 62) hx hb dX11_finish_17 (by rw [hs_17_3]; decide) (by rw [hs_17_3]; decide) (off := 45) (by rw [hs_17_3]; decide) (by decide) ?_
      refine lv_aload_n hx hb dX11_finish_62 rfl (lv_at hl 0 rfl) ?_
      refine lv_iconst (v := 3) hx hb dX11_finish_63 (by decide) ?_
      refine c_put (C := RX11) (T := TX11) (N := 9) (K := 10) hx hb hts hinX11 tyX11 tyX11_ok nmX11 hown hK hP hD hS hq hk (by decide) rfl 7 (by decide) (hts _ mwC_403) (fun _ h9 => h9) rfl (by decide +kernel) (Nat.le_of_ble_eq_true rfl) rfl dX11_finish_64 (fun H locs hP hD hS => ?_)
      refine lv_lconst (v := 0) hx hb dX11_finish_67 (by decide) ?_
      refine W.widen (k := 0) (n := 0) (by decide) (by decide) ?_
      exact W.lret (v := 0) hx hb hr (fun t ht hW => ⟨⟨_, (sh, va_up (va_up ci q (va_up (ci q) 8 0)) q (va_up ((va_up ci q (va_up (ci q) 8 0)) q) 7 3), ai, al), rfl, h, by rw [ht]; exact hP, cK.moved hW.alike hK, hD⟩, hS.F ht⟩) hS.2.2 dX11_finish_68
    replace h := h.2 hs_17_3
    by_cases hs_17_4 : p0 = 4
    · have h := h.1 hs_17_4
      refine lv_tableIn (tgt := 55) hx hb dX11_finish_17 (by rw [hs_17_4]; decide) (by rw [hs_17_4]; decide) (off := 38) (by rw [hs_17_4]; decide) (by decide) ?_
      refine lv_aload_n hx hb dX11_finish_55 rfl (lv_at hl 0 rfl) ?_
      refine lv_iconst (v := 1) hx hb dX11_finish_56 (by decide) ?_
      refine c_put (C := RX11) (T := TX11) (N := 9) (K := 10) hx hb hts hinX11 tyX11 tyX11_ok nmX11 hown hK hP hD hS hq hk (by decide) rfl 7 (by decide) (hts _ mwC_403) (fun _ h9 => h9) rfl (by decide +kernel) (Nat.le_of_ble_eq_true rfl) rfl dX11_finish_57 (fun H locs hP hD hS => ?_)
      refine lv_lconst (v := 0) hx hb dX11_finish_60 (by decide) ?_
      refine W.widen (k := 0) (n := 0) (by decide) (by decide) ?_
      exact W.lret (v := 0) hx hb hr (fun t ht hW => ⟨⟨_, (sh, va_up (va_up ci q (va_up (ci q) 8 0)) q (va_up ((va_up ci q (va_up (ci q) 8 0)) q) 7 1), ai, al), rfl, h, by rw [ht]; exact hP, cK.moved hW.alike hK, hD⟩, hS.F ht⟩) hS.2.2 dX11_finish_61
    replace h := h.2 hs_17_4
    refine lv_tableOut (tgt := 69) hx hb dX11_finish_17 (by have n1 := lv_neT hs_17_1 (a := 1) (by decide); have n2 := lv_neT hs_17_2 (a := 2) (by decide); have n3 := lv_neT hs_17_3 (a := 3) (by decide); have n4 := lv_neT hs_17_4 (a := 4) (by decide); omega) (by decide) ?_
    refine lv_aload_n hx hb dX11_finish_69 rfl (lv_at hl 0 rfl) ?_
    refine lv_iconst (v := 2) hx hb dX11_finish_70 (by decide) ?_
    refine c_put (C := RX11) (T := TX11) (N := 9) (K := 10) hx hb hts hinX11 tyX11 tyX11_ok nmX11 hown hK hP hD hS hq hk (by decide) rfl 7 (by decide) (hts _ mwC_403) (fun _ h9 => h9) rfl (by decide +kernel) (Nat.le_of_ble_eq_true rfl) rfl dX11_finish_71 (fun H locs hP hD hS => ?_)
    refine lv_lconst (v := 0) hx hb dX11_finish_74 (by decide) ?_
    refine W.widen (k := 0) (n := 0) (by decide) (by decide) ?_
    exact W.lret (v := 0) hx hb hr (fun t ht hW => ⟨⟨_, (sh, va_up (va_up ci q (va_up (ci q) 8 0)) q (va_up ((va_up ci q (va_up (ci q) 8 0)) q) 7 2), ai, al), rfl, h, by rw [ht]; exact hP, cK.moved hW.alike hK, hD⟩, hS.F ht⟩) hS.2.2 dX11_finish_75
  · have h := h.2 c_3
    refine lv_iload_n hx hb dX11_finish_6 rfl (lv_at hl 1 rfl) ?_
    refine lv_iconst (v := 4) hx hb dX11_finish_7 (by decide) ?_
    refine lv_isub hx hb dX11_finish_8 ?_
    refine lv_goto (tgt := 13) hx hb dX11_finish_9 (by decide) ?_
    refine c_put (C := RX11) (T := TX11) (N := 9) (K := 10) hx hb hts hinX11 tyX11 tyX11_ok nmX11 hown hK hP hD hS hq hk (by decide) rfl 8 (by decide) (hts _ mwC_402) (fun _ h9 => h9) rfl (by decide +kernel) (Nat.le_of_ble_eq_true rfl) rfl dX11_finish_13 (fun H locs hP hD hS => ?_)
    refine lv_iload_n hx hb dX11_finish_16 rfl (lv_at hl 1 rfl) ?_
    by_cases hs_17_1 : p0 = 1
    · have h := h.1 hs_17_1
      refine lv_tableIn (tgt := 48) hx hb dX11_finish_17 (by rw [hs_17_1]; decide) (by rw [hs_17_1]; decide) (off := 31) (by rw [hs_17_1]; decide) (by decide) ?_
      refine lv_aload_n hx hb dX11_finish_48 rfl (lv_at hl 0 rfl) ?_
      refine lv_iconst (v := 0) hx hb dX11_finish_49 (by decide) ?_
      refine c_put (C := RX11) (T := TX11) (N := 9) (K := 10) hx hb hts hinX11 tyX11 tyX11_ok nmX11 hown hK hP hD hS hq hk (by decide) rfl 7 (by decide) (hts _ mwC_403) (fun _ h9 => h9) rfl (by decide +kernel) (Nat.le_of_ble_eq_true rfl) rfl dX11_finish_50 (fun H locs hP hD hS => ?_)
      refine lv_lload_n hx hb dX11_finish_53 rfl (lv_at hl 2 rfl) ?_
      refine W.widen (k := 0) (n := 0) (by decide) (by decide) ?_
      exact W.lret (v := p1) hx hb hr (fun t ht hW => ⟨⟨_, (sh, va_up (va_up ci q (va_up (ci q) 8 (p0 - 4))) q (va_up ((va_up ci q (va_up (ci q) 8 (p0 - 4))) q) 7 0), ai, al), rfl, h, by rw [ht]; exact hP, cK.moved hW.alike hK, hD⟩, hS.F ht⟩) hS.2.2 dX11_finish_54
    replace h := h.2 hs_17_1
    by_cases hs_17_2 : p0 = 2
    · have h := h.1 hs_17_2
      refine lv_tableIn (tgt := 69) hx hb dX11_finish_17 (by rw [hs_17_2]; decide) (by rw [hs_17_2]; decide) (off := 52) (by rw [hs_17_2]; decide) (by decide) ?_
      refine lv_aload_n hx hb dX11_finish_69 rfl (lv_at hl 0 rfl) ?_
      refine lv_iconst (v := 2) hx hb dX11_finish_70 (by decide) ?_
      refine c_put (C := RX11) (T := TX11) (N := 9) (K := 10) hx hb hts hinX11 tyX11 tyX11_ok nmX11 hown hK hP hD hS hq hk (by decide) rfl 7 (by decide) (hts _ mwC_403) (fun _ h9 => h9) rfl (by decide +kernel) (Nat.le_of_ble_eq_true rfl) rfl dX11_finish_71 (fun H locs hP hD hS => ?_)
      refine lv_lconst (v := 0) hx hb dX11_finish_74 (by decide) ?_
      refine W.widen (k := 0) (n := 0) (by decide) (by decide) ?_
      exact W.lret (v := 0) hx hb hr (fun t ht hW => ⟨⟨_, (sh, va_up (va_up ci q (va_up (ci q) 8 (p0 - 4))) q (va_up ((va_up ci q (va_up (ci q) 8 (p0 - 4))) q) 7 2), ai, al), rfl, h, by rw [ht]; exact hP, cK.moved hW.alike hK, hD⟩, hS.F ht⟩) hS.2.2 dX11_finish_75
    replace h := h.2 hs_17_2
    by_cases hs_17_3 : p0 = 3
    · have h := h.1 hs_17_3
      refine lv_tableIn (tgt := 62) hx hb dX11_finish_17 (by rw [hs_17_3]; decide) (by rw [hs_17_3]; decide) (off := 45) (by rw [hs_17_3]; decide) (by decide) ?_
      refine lv_aload_n hx hb dX11_finish_62 rfl (lv_at hl 0 rfl) ?_
      refine lv_iconst (v := 3) hx hb dX11_finish_63 (by decide) ?_
      refine c_put (C := RX11) (T := TX11) (N := 9) (K := 10) hx hb hts hinX11 tyX11 tyX11_ok nmX11 hown hK hP hD hS hq hk (by decide) rfl 7 (by decide) (hts _ mwC_403) (fun _ h9 => h9) rfl (by decide +kernel) (Nat.le_of_ble_eq_true rfl) rfl dX11_finish_64 (fun H locs hP hD hS => ?_)
      refine lv_lconst (v := 0) hx hb dX11_finish_67 (by decide) ?_
      refine W.widen (k := 0) (n := 0) (by decide) (by decide) ?_
      exact W.lret (v := 0) hx hb hr (fun t ht hW => ⟨⟨_, (sh, va_up (va_up ci q (va_up (ci q) 8 (p0 - 4))) q (va_up ((va_up ci q (va_up (ci q) 8 (p0 - 4))) q) 7 3), ai, al), rfl, h, by rw [ht]; exact hP, cK.moved hW.alike hK, hD⟩, hS.F ht⟩) hS.2.2 dX11_finish_68
    replace h := h.2 hs_17_3
    by_cases hs_17_4 : p0 = 4
    · have h := h.1 hs_17_4
      refine lv_tableIn (tgt := 55) hx hb dX11_finish_17 (by rw [hs_17_4]; decide) (by rw [hs_17_4]; decide) (off := 38) (by rw [hs_17_4]; decide) (by decide) ?_
      refine lv_aload_n hx hb dX11_finish_55 rfl (lv_at hl 0 rfl) ?_
      refine lv_iconst (v := 1) hx hb dX11_finish_56 (by decide) ?_
      refine c_put (C := RX11) (T := TX11) (N := 9) (K := 10) hx hb hts hinX11 tyX11 tyX11_ok nmX11 hown hK hP hD hS hq hk (by decide) rfl 7 (by decide) (hts _ mwC_403) (fun _ h9 => h9) rfl (by decide +kernel) (Nat.le_of_ble_eq_true rfl) rfl dX11_finish_57 (fun H locs hP hD hS => ?_)
      refine lv_lconst (v := 0) hx hb dX11_finish_60 (by decide) ?_
      refine W.widen (k := 0) (n := 0) (by decide) (by decide) ?_
      exact W.lret (v := 0) hx hb hr (fun t ht hW => ⟨⟨_, (sh, va_up (va_up ci q (va_up (ci q) 8 (p0 - 4))) q (va_up ((va_up ci q (va_up (ci q) 8 (p0 - 4))) q) 7 1), ai, al), rfl, h, by rw [ht]; exact hP, cK.moved hW.alike hK, hD⟩, hS.F ht⟩) hS.2.2 dX11_finish_61
    replace h := h.2 hs_17_4
    refine lv_tableOut (tgt := 69) hx hb dX11_finish_17 (by have n1 := lv_neT hs_17_1 (a := 1) (by decide); have n2 := lv_neT hs_17_2 (a := 2) (by decide); have n3 := lv_neT hs_17_3 (a := 3) (by decide); have n4 := lv_neT hs_17_4 (a := 4) (by decide); omega) (by decide) ?_
    refine lv_aload_n hx hb dX11_finish_69 rfl (lv_at hl 0 rfl) ?_
    refine lv_iconst (v := 2) hx hb dX11_finish_70 (by decide) ?_
    refine c_put (C := RX11) (T := TX11) (N := 9) (K := 10) hx hb hts hinX11 tyX11 tyX11_ok nmX11 hown hK hP hD hS hq hk (by decide) rfl 7 (by decide) (hts _ mwC_403) (fun _ h9 => h9) rfl (by decide +kernel) (Nat.le_of_ble_eq_true rfl) rfl dX11_finish_71 (fun H locs hP hD hS => ?_)
    refine lv_lconst (v := 0) hx hb dX11_finish_74 (by decide) ?_
    refine W.widen (k := 0) (n := 0) (by decide) (by decide) ?_
    exact W.lret (v := 0) hx hb hr (fun t ht hW => ⟨⟨_, (sh, va_up (va_up ci q (va_up (ci q) 8 (p0 - 4))) q (va_up ((va_up ci q (va_up (ci q) 8 (p0 - 4))) q) 7 2), ai, al), rfl, h, by rw [ht]; exact hP, cK.moved hW.alike hK, hD⟩, hS.F ht⟩) hS.2.2 dX11_finish_75
