abbrev cX11_given : ByteArray := prog_1_method_5_code
def yX11_given : MethodName := ⟨RX11, "given", "(Z)I"⟩
abbrev cX11_count : ByteArray := prog_1_method_6_code
def yX11_count : MethodName := ⟨RX11, "count", "(JJ)I"⟩
abbrev cX11_iterate : ByteArray := prog_1_method_7_code
def yX11_iterate : MethodName := ⟨RX11, "iterate", "(IJJ)I"⟩
abbrev cX11_outcome : ByteArray := prog_1_method_26_code
def yX11_outcome : MethodName := ⟨RX11, "outcome", "()I"⟩
abbrev cX11_error : ByteArray := prog_1_method_27_code
def yX11_error : MethodName := ⟨RX11, "error", "()I"⟩
abbrev cX11_spent : ByteArray := prog_1_method_28_code
def yX11_spent : MethodName := ⟨RX11, "spent", "()I"⟩
abbrev cX11_lists : ByteArray := prog_1_method_32_code
def yX11_lists : MethodName := ⟨RX11, "lists", "()I"⟩
theorem dX11_given_0 : decode cX11_given 0 = .ok (.aload_n 0, 1) := by decide +kernel
theorem dX11_given_1 : decode cX11_given 1 = .ok (.invokevirtual 53, 3) := by decide +kernel
theorem dX11_given_4 : decode cX11_given 4 = .ok (.aload_n 0, 1) := by decide +kernel
theorem dX11_given_5 : decode cX11_given 5 = .ok (.getfield 22, 3) := by decide +kernel
theorem dX11_given_8 : decode cX11_given 8 = .ok (.aload_n 0, 1) := by decide +kernel
theorem dX11_given_9 : decode cX11_given 9 = .ok (.getfield 45, 3) := by decide +kernel
theorem dX11_given_12 : decode cX11_given 12 = .ok (.invokestatic 56, 3) := by decide +kernel
theorem dX11_given_15 : decode cX11_given 15 = .ok (.astore_n 2, 1) := by decide +kernel
theorem dX11_given_16 : decode cX11_given 16 = .ok (.aload_n 0, 1) := by decide +kernel
theorem dX11_given_17 : decode cX11_given 17 = .ok (.getfield 26, 3) := by decide +kernel
theorem dX11_given_20 : decode cX11_given 20 = .ok (.aload_n 0, 1) := by decide +kernel
theorem dX11_given_21 : decode cX11_given 21 = .ok (.getfield 45, 3) := by decide +kernel
theorem dX11_given_24 : decode cX11_given 24 = .ok (.invokestatic 62, 3) := by decide +kernel
theorem dX11_given_27 : decode cX11_given 27 = .ok (.astore_n 3, 1) := by decide +kernel
theorem dX11_given_28 : decode cX11_given 28 = .ok (.aload_n 0, 1) := by decide +kernel
theorem dX11_given_29 : decode cX11_given 29 = .ok (.iconst 0, 1) := by decide +kernel
theorem dX11_given_30 : decode cX11_given 30 = .ok (.putfield 45, 3) := by decide +kernel
theorem dX11_given_33 : decode cX11_given 33 = .ok (.aload_n 0, 1) := by decide +kernel
theorem dX11_given_34 : decode cX11_given 34 = .ok (.new 65, 3) := by decide +kernel
theorem dX11_given_37 : decode cX11_given 37 = .ok (.dup, 1) := by decide +kernel
theorem dX11_given_38 : decode cX11_given 38 = .ok (.aload_n 0, 1) := by decide +kernel
theorem dX11_given_39 : decode cX11_given 39 = .ok (.getfield 12, 3) := by decide +kernel
theorem dX11_given_42 : decode cX11_given 42 = .ok (.aload_n 2, 1) := by decide +kernel
theorem dX11_given_43 : decode cX11_given 43 = .ok (.aload_n 3, 1) := by decide +kernel
theorem dX11_given_44 : decode cX11_given 44 = .ok (.iload_n 1, 1) := by decide +kernel
theorem dX11_given_45 : decode cX11_given 45 = .ok (.ifCond .eq 7, 3) := by decide +kernel
theorem dX11_given_48 : decode cX11_given 48 = .ok (.iconst 4, 1) := by decide +kernel
theorem dX11_given_49 : decode cX11_given 49 = .ok (.goto 4, 3) := by decide +kernel
theorem dX11_given_52 : decode cX11_given 52 = .ok (.iconst 2, 1) := by decide +kernel
theorem dX11_given_53 : decode cX11_given 53 = .ok (.invokespecial 67, 3) := by decide +kernel
theorem dX11_given_56 : decode cX11_given 56 = .ok (.invokevirtual 70, 3) := by decide +kernel
theorem dX11_given_59 : decode cX11_given 59 = .ok (.ireturn, 1) := by decide +kernel
theorem dX11_count_0 : decode cX11_count 0 = .ok (.aload_n 0, 1) := by decide +kernel
theorem dX11_count_1 : decode cX11_count 1 = .ok (.invokevirtual 53, 3) := by decide +kernel
theorem dX11_count_4 : decode cX11_count 4 = .ok (.sipush 400, 3) := by decide +kernel
theorem dX11_count_7 : decode cX11_count 7 = .ok (.newarray .long, 2) := by decide +kernel
theorem dX11_count_9 : decode cX11_count 9 = .ok (.astore 5, 2) := by decide +kernel
theorem dX11_count_11 : decode cX11_count 11 = .ok (.iconst 0, 1) := by decide +kernel
theorem dX11_count_12 : decode cX11_count 12 = .ok (.istore 6, 2) := by decide +kernel
theorem dX11_count_14 : decode cX11_count 14 = .ok (.iload 6, 2) := by decide +kernel
theorem dX11_count_16 : decode cX11_count 16 = .ok (.sipush 400, 3) := by decide +kernel
theorem dX11_count_19 : decode cX11_count 19 = .ok (.if_icmp .ge 21, 3) := by decide +kernel
theorem dX11_count_22 : decode cX11_count 22 = .ok (.aload 5, 2) := by decide +kernel
theorem dX11_count_24 : decode cX11_count 24 = .ok (.iload 6, 2) := by decide +kernel
theorem dX11_count_26 : decode cX11_count 26 = .ok (.lload_n 1, 1) := by decide +kernel
theorem dX11_count_27 : decode cX11_count 27 = .ok (.iload 6, 2) := by decide +kernel
theorem dX11_count_29 : decode cX11_count 29 = .ok (.i2l, 1) := by decide +kernel
theorem dX11_count_30 : decode cX11_count 30 = .ok (.lload_n 3, 1) := by decide +kernel
theorem dX11_count_31 : decode cX11_count 31 = .ok (.lmul, 1) := by decide +kernel
theorem dX11_count_32 : decode cX11_count 32 = .ok (.ladd, 1) := by decide +kernel
theorem dX11_count_33 : decode cX11_count 33 = .ok (.lastore, 1) := by decide +kernel
theorem dX11_count_34 : decode cX11_count 34 = .ok (.iinc 6 1, 3) := by decide +kernel
theorem dX11_count_37 : decode cX11_count 37 = .ok (.goto (-23), 3) := by decide +kernel
theorem dX11_count_40 : decode cX11_count 40 = .ok (.sipush 400, 3) := by decide +kernel
theorem dX11_count_43 : decode cX11_count 43 = .ok (.newarray .byte, 2) := by decide +kernel
theorem dX11_count_45 : decode cX11_count 45 = .ok (.astore 6, 2) := by decide +kernel
theorem dX11_count_47 : decode cX11_count 47 = .ok (.aload 6, 2) := by decide +kernel
theorem dX11_count_49 : decode cX11_count 49 = .ok (.iconst 1, 1) := by decide +kernel
theorem dX11_count_50 : decode cX11_count 50 = .ok (.invokestatic 74, 3) := by decide +kernel
theorem dX11_count_53 : decode cX11_count 53 = .ok (.aload_n 0, 1) := by decide +kernel
theorem dX11_count_54 : decode cX11_count 54 = .ok (.new 65, 3) := by decide +kernel
theorem dX11_count_57 : decode cX11_count 57 = .ok (.dup, 1) := by decide +kernel
theorem dX11_count_58 : decode cX11_count 58 = .ok (.aload_n 0, 1) := by decide +kernel
theorem dX11_count_59 : decode cX11_count 59 = .ok (.getfield 12, 3) := by decide +kernel
theorem dX11_count_62 : decode cX11_count 62 = .ok (.aload 5, 2) := by decide +kernel
theorem dX11_count_64 : decode cX11_count 64 = .ok (.aload 6, 2) := by decide +kernel
theorem dX11_count_66 : decode cX11_count 66 = .ok (.iconst 3, 1) := by decide +kernel
theorem dX11_count_67 : decode cX11_count 67 = .ok (.invokespecial 67, 3) := by decide +kernel
theorem dX11_count_70 : decode cX11_count 70 = .ok (.invokevirtual 70, 3) := by decide +kernel
theorem dX11_count_73 : decode cX11_count 73 = .ok (.ireturn, 1) := by decide +kernel
theorem dX11_iterate_0 : decode cX11_iterate 0 = .ok (.iload_n 1, 1) := by decide +kernel
theorem dX11_iterate_1 : decode cX11_iterate 1 = .ok (.invokestatic 78, 3) := by decide +kernel
theorem dX11_iterate_4 : decode cX11_iterate 4 = .ok (.aload_n 0, 1) := by decide +kernel
theorem dX11_iterate_5 : decode cX11_iterate 5 = .ok (.invokevirtual 53, 3) := by decide +kernel
theorem dX11_iterate_8 : decode cX11_iterate 8 = .ok (.aload_n 0, 1) := by decide +kernel
theorem dX11_iterate_9 : decode cX11_iterate 9 = .ok (.new 82, 3) := by decide +kernel
theorem dX11_iterate_12 : decode cX11_iterate 12 = .ok (.dup, 1) := by decide +kernel
theorem dX11_iterate_13 : decode cX11_iterate 13 = .ok (.aload_n 0, 1) := by decide +kernel
theorem dX11_iterate_14 : decode cX11_iterate 14 = .ok (.getfield 12, 3) := by decide +kernel
theorem dX11_iterate_17 : decode cX11_iterate 17 = .ok (.aconst_null, 1) := by decide +kernel
theorem dX11_iterate_18 : decode cX11_iterate 18 = .ok (.iload_n 1, 1) := by decide +kernel
theorem dX11_iterate_19 : decode cX11_iterate 19 = .ok (.lload_n 2, 1) := by decide +kernel
theorem dX11_iterate_20 : decode cX11_iterate 20 = .ok (.lload 4, 2) := by decide +kernel
theorem dX11_iterate_22 : decode cX11_iterate 22 = .ok (.invokespecial 84, 3) := by decide +kernel
theorem dX11_iterate_25 : decode cX11_iterate 25 = .ok (.invokevirtual 70, 3) := by decide +kernel
theorem dX11_iterate_28 : decode cX11_iterate 28 = .ok (.ireturn, 1) := by decide +kernel
theorem dX11_outcome_0 : decode cX11_outcome 0 = .ok (.aload_n 0, 1) := by decide +kernel
theorem dX11_outcome_1 : decode cX11_outcome 1 = .ok (.getfield 182, 3) := by decide +kernel
theorem dX11_outcome_4 : decode cX11_outcome 4 = .ok (.ireturn, 1) := by decide +kernel
theorem dX11_error_0 : decode cX11_error 0 = .ok (.aload_n 0, 1) := by decide +kernel
theorem dX11_error_1 : decode cX11_error 1 = .ok (.getfield 185, 3) := by decide +kernel
theorem dX11_error_4 : decode cX11_error 4 = .ok (.ireturn, 1) := by decide +kernel
theorem dX11_spent_0 : decode cX11_spent 0 = .ok (.aload_n 0, 1) := by decide +kernel
theorem dX11_spent_1 : decode cX11_spent 1 = .ok (.getfield 12, 3) := by decide +kernel
theorem dX11_spent_4 : decode cX11_spent 4 = .ok (.getfield 188, 3) := by decide +kernel
theorem dX11_spent_7 : decode cX11_spent 7 = .ok (.ireturn, 1) := by decide +kernel
theorem dX11_lists_0 : decode cX11_lists 0 = .ok (.aload_n 0, 1) := by decide +kernel
theorem dX11_lists_1 : decode cX11_lists 1 = .ok (.getfield 136, 3) := by decide +kernel
theorem dX11_lists_4 : decode cX11_lists 4 = .ok (.ireturn, 1) := by decide +kernel
abbrev wmX11_outcome : List Cond := .code yX11_outcome cX11_outcome 1 (some .int) :: WC
theorem hd_X11_outcome : yX11_outcome.cls = RX11 ∧ yX11_outcome.cls ≠ "java/lang/invoke/MethodHandle" ∧ yX11_outcome.cls ≠ "java/lang/invoke/VarHandle" ∧ (parseMethodDescriptor yX11_outcome.desc).map (fun d => d.parameters.length) = some 0 := by decide +kernel
def P_X11_outcome (sh : Sh) (ci : Nat → Nat → Int32) (ai : Nat → Nat → Int32) (al : Nat → Nat → Int64) (q : Nat)  (Q : Int32 → Sh → (Nat → Nat → Int32) → (Nat → Nat → Int32) → (Nat → Nat → Int64) → Prop) : Prop := (q ∈ sL sh ∧ sK sh q = 10) ∧ Q (ci q 7) sh ci ai al
set_option maxHeartbeats 4000000 in
set_option maxRecDepth 100000 in
theorem p_X11_outcome (l : Launch) (dC : Nat → ClassId) (dI : Nat → Nat → Nat) (sh : Sh) (ci : Nat → Nat → Int32) (ai : Nat → Nat → Int32) (al : Nat → Nat → Int64) (q : Nat)  (Q : Int32 → Sh → (Nat → Nat → Int32) → (Nat → Nat → Int32) → (Nat → Nat → Int64) → Prop) (h : P_X11_outcome sh ci ai al q  Q) (sz : Nat) : Met l yX11_outcome wmX11_outcome ({ frames := 60, cells := 0, slots := 0, locals := 2000 }) (va_Pc [.ref q] (cPre dC dI sh ci ai al sz)) (va_Qi (S := XSt) (xI Q) (xB dC dI (va_A (cW sh ci ai al) sz)) (va_A (cW sh ci ai al) sz)) 0 0 (va_A (cW sh ci ai al) sz) := by
  refine Met.ofW (cc := cX11_outcome) (maxL := 1) (ret := (some .int)) (by decide) rfl ?_
  intro p e s m args below meth c s₁ B hml hv
  obtain ⟨rfl, hsz, hP, hK, hD0, hG⟩ := hv
  have hx := B.exec
  have hb := B.bytes
  have hr := B.returns
  have hts : ∀ w ∈ WC, w.before _ s = true := fun w h => atoms_spec (ws := wmX11_outcome) B.pre w (List.mem_cons_of_mem _ h)
  have hown : s.vm.findClass RX11 = some m.cls := findClass_of_methodNamed B.named
  have hlocks := B.notSynchronized
  subst hsz
  have hD := hD0.self (sz := s.heap.size)
  generalize hAe : va_A (cW sh ci ai al) s.heap.size = A at hD ⊢
  have hA : ∀ q : Nat, s.heap.size ≤ q → A q := fun q h => by rw [← hAe]; exact Or.inr h
  generalize hH : s.heap = H at hP ⊢
  have hS : va_S A s.heap H [] := by rw [← hH]; exact va_S.rf
  have hl := lv_entry [.ref q] (n := 1) (Nat.le_of_ble_eq_true rfl)
  rw [lg_entry_eq]
  generalize (lg_sl [.ref q] ++ List.replicate (1 - (lg_sl [.ref q]).length) Slot.unset).toArray = ls at hl ⊢
  have hl : lv_has ls 1 [(0, .ref q)] := hl
  unfold P_X11_outcome at h
  obtain ⟨⟨hq, hk⟩, h⟩ := h
  refine lv_aload_n hx hb dX11_outcome_0 rfl (lv_at hl 0 rfl) ?_
  refine c_get (C := RX11) (T := TX11) (N := 9) (K := 10) (v := .int (ci q 7)) hx hb hts hinX11 hown hK hP hq hk (by decide) rfl 7 (by decide) (hts _ mwC_403) (fun _ h9 => h9) rfl dX11_outcome_1 ?_
  refine W.widen (k := 0) (n := 0) (by decide) (by decide) ?_
  exact W.iret (v := (ci q 7)) hx hb hr (fun t ht hW => ⟨⟨_, (sh, ci, ai, al), rfl, h, by rw [ht]; exact hP, cK.moved hW.alike hK, hD⟩, hS.F ht⟩) hS.2.2 dX11_outcome_4
abbrev wmX11_error : List Cond := .code yX11_error cX11_error 1 (some .int) :: WC
theorem hd_X11_error : yX11_error.cls = RX11 ∧ yX11_error.cls ≠ "java/lang/invoke/MethodHandle" ∧ yX11_error.cls ≠ "java/lang/invoke/VarHandle" ∧ (parseMethodDescriptor yX11_error.desc).map (fun d => d.parameters.length) = some 0 := by decide +kernel
def P_X11_error (sh : Sh) (ci : Nat → Nat → Int32) (ai : Nat → Nat → Int32) (al : Nat → Nat → Int64) (q : Nat)  (Q : Int32 → Sh → (Nat → Nat → Int32) → (Nat → Nat → Int32) → (Nat → Nat → Int64) → Prop) : Prop := (q ∈ sL sh ∧ sK sh q = 10) ∧ Q (ci q 8) sh ci ai al
set_option maxHeartbeats 4000000 in
set_option maxRecDepth 100000 in
theorem p_X11_error (l : Launch) (dC : Nat → ClassId) (dI : Nat → Nat → Nat) (sh : Sh) (ci : Nat → Nat → Int32) (ai : Nat → Nat → Int32) (al : Nat → Nat → Int64) (q : Nat)  (Q : Int32 → Sh → (Nat → Nat → Int32) → (Nat → Nat → Int32) → (Nat → Nat → Int64) → Prop) (h : P_X11_error sh ci ai al q  Q) (sz : Nat) : Met l yX11_error wmX11_error ({ frames := 60, cells := 0, slots := 0, locals := 2000 }) (va_Pc [.ref q] (cPre dC dI sh ci ai al sz)) (va_Qi (S := XSt) (xI Q) (xB dC dI (va_A (cW sh ci ai al) sz)) (va_A (cW sh ci ai al) sz)) 0 0 (va_A (cW sh ci ai al) sz) := by
  refine Met.ofW (cc := cX11_error) (maxL := 1) (ret := (some .int)) (by decide) rfl ?_
  intro p e s m args below meth c s₁ B hml hv
  obtain ⟨rfl, hsz, hP, hK, hD0, hG⟩ := hv
  have hx := B.exec
  have hb := B.bytes
  have hr := B.returns
  have hts : ∀ w ∈ WC, w.before _ s = true := fun w h => atoms_spec (ws := wmX11_error) B.pre w (List.mem_cons_of_mem _ h)
  have hown : s.vm.findClass RX11 = some m.cls := findClass_of_methodNamed B.named
  have hlocks := B.notSynchronized
  subst hsz
  have hD := hD0.self (sz := s.heap.size)
  generalize hAe : va_A (cW sh ci ai al) s.heap.size = A at hD ⊢
  have hA : ∀ q : Nat, s.heap.size ≤ q → A q := fun q h => by rw [← hAe]; exact Or.inr h
  generalize hH : s.heap = H at hP ⊢
  have hS : va_S A s.heap H [] := by rw [← hH]; exact va_S.rf
  have hl := lv_entry [.ref q] (n := 1) (Nat.le_of_ble_eq_true rfl)
  rw [lg_entry_eq]
  generalize (lg_sl [.ref q] ++ List.replicate (1 - (lg_sl [.ref q]).length) Slot.unset).toArray = ls at hl ⊢
  have hl : lv_has ls 1 [(0, .ref q)] := hl
  unfold P_X11_error at h
  obtain ⟨⟨hq, hk⟩, h⟩ := h
  refine lv_aload_n hx hb dX11_error_0 rfl (lv_at hl 0 rfl) ?_
  refine c_get (C := RX11) (T := TX11) (N := 9) (K := 10) (v := .int (ci q 8)) hx hb hts hinX11 hown hK hP hq hk (by decide) rfl 8 (by decide) (hts _ mwC_402) (fun _ h9 => h9) rfl dX11_error_1 ?_
  refine W.widen (k := 0) (n := 0) (by decide) (by decide) ?_
  exact W.iret (v := (ci q 8)) hx hb hr (fun t ht hW => ⟨⟨_, (sh, ci, ai, al), rfl, h, by rw [ht]; exact hP, cK.moved hW.alike hK, hD⟩, hS.F ht⟩) hS.2.2 dX11_error_4
abbrev wmX11_spent : List Cond := .code yX11_spent cX11_spent 1 (some .int) :: WC
theorem hd_X11_spent : yX11_spent.cls = RX11 ∧ yX11_spent.cls ≠ "java/lang/invoke/MethodHandle" ∧ yX11_spent.cls ≠ "java/lang/invoke/VarHandle" ∧ (parseMethodDescriptor yX11_spent.desc).map (fun d => d.parameters.length) = some 0 := by decide +kernel
def P_X11_spent (sh : Sh) (ci : Nat → Nat → Int32) (ai : Nat → Nat → Int32) (al : Nat → Nat → Int64) (q : Nat)  (Q : Int32 → Sh → (Nat → Nat → Int32) → (Nat → Nat → Int32) → (Nat → Nat → Int64) → Prop) : Prop := (q ∈ sL sh ∧ sK sh q = 10) ∧ ∃ q1 : Nat, sR sh q 0 = some q1 ∧ (q1 ∈ sL sh ∧ sK sh q1 = 5) ∧ Q (ci q1 1) sh ci ai al
set_option maxHeartbeats 4000000 in
set_option maxRecDepth 100000 in
theorem p_X11_spent (l : Launch) (dC : Nat → ClassId) (dI : Nat → Nat → Nat) (sh : Sh) (ci : Nat → Nat → Int32) (ai : Nat → Nat → Int32) (al : Nat → Nat → Int64) (q : Nat)  (Q : Int32 → Sh → (Nat → Nat → Int32) → (Nat → Nat → Int32) → (Nat → Nat → Int64) → Prop) (h : P_X11_spent sh ci ai al q  Q) (sz : Nat) : Met l yX11_spent wmX11_spent ({ frames := 60, cells := 0, slots := 0, locals := 2000 }) (va_Pc [.ref q] (cPre dC dI sh ci ai al sz)) (va_Qi (S := XSt) (xI Q) (xB dC dI (va_A (cW sh ci ai al) sz)) (va_A (cW sh ci ai al) sz)) 0 0 (va_A (cW sh ci ai al) sz) := by
  refine Met.ofW (cc := cX11_spent) (maxL := 1) (ret := (some .int)) (by decide) rfl ?_
  intro p e s m args below meth c s₁ B hml hv
  obtain ⟨rfl, hsz, hP, hK, hD0, hG⟩ := hv
  have hx := B.exec
  have hb := B.bytes
  have hr := B.returns
  have hts : ∀ w ∈ WC, w.before _ s = true := fun w h => atoms_spec (ws := wmX11_spent) B.pre w (List.mem_cons_of_mem _ h)
  have hown : s.vm.findClass RX11 = some m.cls := findClass_of_methodNamed B.named
  have hlocks := B.notSynchronized
  subst hsz
  have hD := hD0.self (sz := s.heap.size)
  generalize hAe : va_A (cW sh ci ai al) s.heap.size = A at hD ⊢
  have hA : ∀ q : Nat, s.heap.size ≤ q → A q := fun q h => by rw [← hAe]; exact Or.inr h
  generalize hH : s.heap = H at hP ⊢
  have hS : va_S A s.heap H [] := by rw [← hH]; exact va_S.rf
  have hl := lv_entry [.ref q] (n := 1) (Nat.le_of_ble_eq_true rfl)
  rw [lg_entry_eq]
  generalize (lg_sl [.ref q] ++ List.replicate (1 - (lg_sl [.ref q]).length) Slot.unset).toArray = ls at hl ⊢
  have hl : lv_has ls 1 [(0, .ref q)] := hl
  unfold P_X11_spent at h
  obtain ⟨⟨hq, hk⟩, h⟩ := h
  refine lv_aload_n hx hb dX11_spent_0 rfl (lv_at hl 0 rfl) ?_
  obtain ⟨q1, e2, h⟩ := h
  refine c_get (C := RX11) (T := TX11) (N := 9) (K := 10) (v := .ref q1) hx hb hts hinX11 hown hK hP hq hk (by decide) rfl 0 (by decide) (hts _ mwC_383) (fun _ h9 => h9) (by show some (va_rf (sR sh q 0)) = _; rw [e2]; rfl) dX11_spent_1 ?_
  obtain ⟨⟨hm3, hk4⟩, h⟩ := h
  refine c_getN (C := RX6) (T := TX6) (N := 2) (K := 5) (host := "NeededLists") (v := .int (ci q1 1)) hx hb hts hinX6 hown hK hP hm3 hk4 (by decide) rfl 1 (by decide) (va_Nw.use rfl hG.used) (fun _ h9 => h9) rfl dX11_spent_4 ?_
  refine W.widen (k := 0) (n := 0) (by decide) (by decide) ?_
  exact W.iret (v := (ci q1 1)) hx hb hr (fun t ht hW => ⟨⟨_, (sh, ci, ai, al), rfl, h, by rw [ht]; exact hP, cK.moved hW.alike hK, hD⟩, hS.F ht⟩) hS.2.2 dX11_spent_7
abbrev wmX11_lists : List Cond := .code yX11_lists cX11_lists 1 (some .int) :: WC
theorem hd_X11_lists : yX11_lists.cls = RX11 ∧ yX11_lists.cls ≠ "java/lang/invoke/MethodHandle" ∧ yX11_lists.cls ≠ "java/lang/invoke/VarHandle" ∧ (parseMethodDescriptor yX11_lists.desc).map (fun d => d.parameters.length) = some 0 := by decide +kernel
def P_X11_lists (sh : Sh) (ci : Nat → Nat → Int32) (ai : Nat → Nat → Int32) (al : Nat → Nat → Int64) (q : Nat)  (Q : Int32 → Sh → (Nat → Nat → Int32) → (Nat → Nat → Int32) → (Nat → Nat → Int64) → Prop) : Prop := (q ∈ sL sh ∧ sK sh q = 10) ∧ Q (ci q 4) sh ci ai al
set_option maxHeartbeats 4000000 in
set_option maxRecDepth 100000 in
theorem p_X11_lists (l : Launch) (dC : Nat → ClassId) (dI : Nat → Nat → Nat) (sh : Sh) (ci : Nat → Nat → Int32) (ai : Nat → Nat → Int32) (al : Nat → Nat → Int64) (q : Nat)  (Q : Int32 → Sh → (Nat → Nat → Int32) → (Nat → Nat → Int32) → (Nat → Nat → Int64) → Prop) (h : P_X11_lists sh ci ai al q  Q) (sz : Nat) : Met l yX11_lists wmX11_lists ({ frames := 60, cells := 0, slots := 0, locals := 2000 }) (va_Pc [.ref q] (cPre dC dI sh ci ai al sz)) (va_Qi (S := XSt) (xI Q) (xB dC dI (va_A (cW sh ci ai al) sz)) (va_A (cW sh ci ai al) sz)) 0 0 (va_A (cW sh ci ai al) sz) := by
  refine Met.ofW (cc := cX11_lists) (maxL := 1) (ret := (some .int)) (by decide) rfl ?_
  intro p e s m args below meth c s₁ B hml hv
  obtain ⟨rfl, hsz, hP, hK, hD0, hG⟩ := hv
  have hx := B.exec
  have hb := B.bytes
  have hr := B.returns
  have hts : ∀ w ∈ WC, w.before _ s = true := fun w h => atoms_spec (ws := wmX11_lists) B.pre w (List.mem_cons_of_mem _ h)
  have hown : s.vm.findClass RX11 = some m.cls := findClass_of_methodNamed B.named
  have hlocks := B.notSynchronized
  subst hsz
  have hD := hD0.self (sz := s.heap.size)
  generalize hAe : va_A (cW sh ci ai al) s.heap.size = A at hD ⊢
  have hA : ∀ q : Nat, s.heap.size ≤ q → A q := fun q h => by rw [← hAe]; exact Or.inr h
  generalize hH : s.heap = H at hP ⊢
  have hS : va_S A s.heap H [] := by rw [← hH]; exact va_S.rf
  have hl := lv_entry [.ref q] (n := 1) (Nat.le_of_ble_eq_true rfl)
  rw [lg_entry_eq]
  generalize (lg_sl [.ref q] ++ List.replicate (1 - (lg_sl [.ref q]).length) Slot.unset).toArray = ls at hl ⊢
  have hl : lv_has ls 1 [(0, .ref q)] := hl
  unfold P_X11_lists at h
  obtain ⟨⟨hq, hk⟩, h⟩ := h
  refine lv_aload_n hx hb dX11_lists_0 rfl (lv_at hl 0 rfl) ?_
  refine c_get (C := RX11) (T := TX11) (N := 9) (K := 10) (v := .int (ci q 4)) hx hb hts hinX11 hown hK hP hq hk (by decide) rfl 4 (by decide) (hts _ mwC_365) (fun _ h9 => h9) rfl dX11_lists_1 ?_
  refine W.widen (k := 0) (n := 0) (by decide) (by decide) ?_
  exact W.iret (v := (ci q 4)) hx hb hr (fun t ht hW => ⟨⟨_, (sh, ci, ai, al), rfl, h, by rw [ht]; exact hP, cK.moved hW.alike hK, hD⟩, hS.F ht⟩) hS.2.2 dX11_lists_4
abbrev wmX11_given : List Cond := .code yX11_given cX11_given 4 (some .int) :: WC
theorem hd_X11_given : yX11_given.cls = RX11 ∧ yX11_given.cls ≠ "java/lang/invoke/MethodHandle" ∧ yX11_given.cls ≠ "java/lang/invoke/VarHandle" ∧ (parseMethodDescriptor yX11_given.desc).map (fun d => d.parameters.length) = some 1 := by decide +kernel
def P_X11_given (sh : Sh) (ci : Nat → Nat → Int32) (ai : Nat → Nat → Int32) (al : Nat → Nat → Int64) (q : Nat) (p0 : Int32) (Q : Int32 → Sh → (Nat → Nat → Int32) → (Nat → Nat → Int32) → (Nat → Nat → Int64) → Prop) (X : String → Prop) : Prop := (q ∈ sL sh ∧ sK sh q = 10) ∧ P_X11_checkRoom sh ci ai al q  (∃ q2 : Nat, sR sh q 2 = some q2 ∧ P_J7_copyOf_c38d5 sh ci ai al q2 (ci q 5) (fun q4 sh4 ci4 ai4 al4 => (q ∈ sL sh4 ∧ sK sh4 q = 10) ∧ ∃ q7 : Nat, sR sh4 q 3 = some q7 ∧ P_J7_copyOf_9075b sh4 ci4 ai4 al4 q7 (ci4 q 5) (fun q9 sh9 ci9 ai9 al9 => (q ∈ sL sh9 ∧ sK sh9 q = 10) ∧ ∀ (q12 : Nat) (sh13 : Sh), q12 ∉ sL sh9 → sh13 = shO sh9 q12 3 → (q ∈ sL sh13 ∧ sK sh13 q = 10) ∧ ∃ q18 : Nat, sR sh13 q 0 = some q18 ∧ ((p0 = 0) → ((q12 ∈ sL sh13 ∧ sK sh13 q12 = 3) ∧ P_X3_init sh13 (va_up (va_up ci9 q (va_up (ci9 q) 5 0)) q12 (fun _ => 0)) ai9 al9 q12 q18 q4 q9 2 (fun sh22 ci22 ai22 al22 => (q ∈ sL sh22 ∧ sK sh22 q = 10) ∧ P_X11_addList sh22 ci22 ai22 al22 q q12 (fun r25 sh25 ci25 ai25 al25 => Q r25 sh25 ci25 ai25 al25)))) ∧ ((¬ p0 = 0) → ((q12 ∈ sL sh13 ∧ sK sh13 q12 = 3) ∧ P_X3_init sh13 (va_up (va_up ci9 q (va_up (ci9 q) 5 0)) q12 (fun _ => 0)) ai9 al9 q12 q18 q4 q9 4 (fun sh28 ci28 ai28 al28 => (q ∈ sL sh28 ∧ sK sh28 q = 10) ∧ P_X11_addList sh28 ci28 ai28 al28 q q12 (fun r31 sh31 ci31 ai31 al31 => Q r31 sh31 ci31 ai31 al31))))))) X
set_option maxHeartbeats 4000000 in
set_option maxRecDepth 100000 in
theorem p_X11_given (l : Launch) (hl0 : l.stackTraces = false) (dC : Nat → ClassId) (dI : Nat → Nat → Nat) (sh : Sh) (ci : Nat → Nat → Int32) (ai : Nat → Nat → Int32) (al : Nat → Nat → Int64) (q : Nat) (p0 : Int32) (Q : Int32 → Sh → (Nat → Nat → Int32) → (Nat → Nat → Int32) → (Nat → Nat → Int64) → Prop) (X : String → Prop) (h : P_X11_given sh ci ai al q p0 Q X) (sz : Nat) : vx_Met l yX11_given wmX11_given ({ frames := 100, cells := 8, slots := 2000, locals := 3000 }) (va_Pc [.ref q, .int p0] (xPre dC dI sh ci ai al sz)) (va_Qi (S := XSt) (xI Q) (xB dC dI (va_A (cW sh ci ai al) sz)) (va_A (cW sh ci ai al) sz)) (XC X sz) 8 2000 (va_A (cW sh ci ai al) sz) := by
  refine vx_ofW (cc := cX11_given) (maxL := 4) (ret := (some .int)) (by decide) rfl ?_
  intro p e s m args below meth c s₁ B hml htab hv
  obtain ⟨rfl, ⟨hsz, hP, hK, hD0, hG⟩, hZ⟩ := hv
  have hx := B.exec
  have hb := B.bytes
  have hr := B.returns
  have hts : ∀ w ∈ WC, w.before _ s = true := fun w h => atoms_spec (ws := wmX11_given) B.pre w (List.mem_cons_of_mem _ h)
  have hown : s.vm.findClass RX11 = some m.cls := findClass_of_methodNamed B.named
  have hlocks := B.notSynchronized
  subst hsz
  have hD := hD0.self (sz := s.heap.size)
  generalize hAe : va_A (cW sh ci ai al) s.heap.size = A at hD hZ ⊢
  have hA : ∀ q : Nat, s.heap.size ≤ q → A q := fun q h => by rw [← hAe]; exact Or.inr h
  generalize hz9 : s.heap.size = z9
  generalize hH : s.heap = H at hP ⊢
  subst hz9
  have hS : va_S A s.heap H [] := by rw [← hH]; exact va_S.rf
  have hE : xE s.heap H := by rw [← hH]; exact xE.rf
  have hl := lv_entry [.ref q, .int p0] (n := 4) (Nat.le_of_ble_eq_true rfl)
  rw [lg_entry_eq]
  generalize (lg_sl [.ref q, .int p0] ++ List.replicate (4 - (lg_sl [.ref q, .int p0]).length) Slot.unset).toArray = ls at hl ⊢
  have hl : lv_has ls 4 [(0, .ref q), (1, .int p0)] := hl
  unfold P_X11_given at h
  obtain ⟨⟨hq, hk⟩, h⟩ := h
  refine lv_aload_n hx hb dX11_given_0 rfl (lv_at hl 0 rfl) ?_
  refine xr_endv (cells := 0) (slots := 0) (mc0 := 8) (ms0 := 2000) (vx_runV (rm := ({ frames := 20, cells := 1, slots := 6, locals := 300 })) (As := []) (rest := []) ⟨hx, hb, hml, hown, hts⟩ (p_X11_checkRoom l hl0 dC dI _ _ _ _ q  _ _ h H.size) (cwV 0 hts (g_V gdC mwC_405 mwC_406 mwC_407 mwC_119 mwC_404) rfl rfl rfl hd_X11_checkRoom ⟨Nat.le_of_ble_eq_true rfl, Nat.le_of_ble_eq_true rfl⟩) (x_preV hK hP hD hS hA hS hG hZ hq hk) rfl rfl hl.1 rfl (lv_room (Nat.le_of_ble_eq_true rfl)) dX11_given_1 ⟨Nat.le_of_ble_eq_true rfl, Nat.le_of_ble_eq_true rfl⟩) hE hS hP hA (fun x h => (htab x h).elim) hlocks (Nat.le_of_ble_eq_true rfl) (Nat.le_of_ble_eq_true rfl) (fun H locs h hE hP hS => ?_)
  refine lv_aload_n hx hb dX11_given_4 rfl (lv_at hl 0 rfl) ?_
  obtain ⟨q2, e3, h⟩ := h
  refine c_get (C := RX11) (T := TX11) (N := 9) (K := 10) (v := .ref q2) hx hb hts hinX11 hown hK hP hq hk (by decide) rfl 2 (by decide) (hts _ mwC_374) (fun _ h9 => h9) (by show some (va_rf (sR sh q 2)) = _; rw [e3]; rfl) dX11_given_5 ?_
  refine lv_aload_n hx hb dX11_given_8 rfl (lv_at hl 0 rfl) ?_
  refine c_get (C := RX11) (T := TX11) (N := 9) (K := 10) (v := .int (ci q 5)) hx hb hts hinX11 hown hK hP hq hk (by decide) rfl 5 (by decide) (hts _ mwC_373) (fun _ h9 => h9) rfl dX11_given_9 ?_
  refine xn_endr (va_runS (rm := ({ frames := 20, cells := 1, slots := 400, locals := 300 })) (As := [.ref q2, .int (ci q 5)]) (rest := []) ⟨hx, hb, hml, hown, hts⟩ (p_J7_copyOf_c38d5 l dC dI _ _ _ _ q2 (ci q 5) _ h H.size) (va_cwS 2 hts (g_S gdC mwC_409 mwC_410 mwC_411 mwC_408) rfl rfl rfl hd_J7_copyOf_c38d5 ⟨Nat.le_of_ble_eq_true rfl, Nat.le_of_ble_eq_true rfl⟩) (c_preS hK hP hD hG) rfl rfl hl.1 rfl (lv_room (Nat.le_of_ble_eq_true rfl)) dX11_given_12 ⟨Nat.le_of_ble_eq_true rfl, Nat.le_of_ble_eq_true rfl⟩) hD hS hA (fun q4 sh4 ci4 ai4 al4 H locs h hK hP hD hS => ?_)
  refine lv_astore_n (lv' := [(2, .ref q4), (0, .ref q), (1, .int p0)]) hx hb dX11_given_15 rfl hl (by decide) rfl (fun ls hl => ?_)
  refine lv_aload_n hx hb dX11_given_16 rfl (lv_at hl 1 rfl) ?_
  obtain ⟨⟨hm5, hk6⟩, h⟩ := h
  obtain ⟨q7, e8, h⟩ := h
  refine c_get (C := RX11) (T := TX11) (N := 9) (K := 10) (v := .ref q7) hx hb hts hinX11 hown hK hP hm5 hk6 (by decide) rfl 3 (by decide) (hts _ mwC_375) (fun _ h9 => h9) (by show some (va_rf (sR sh4 q 3)) = _; rw [e8]; rfl) dX11_given_17 ?_
  refine lv_aload_n hx hb dX11_given_20 rfl (lv_at hl 1 rfl) ?_
  refine c_get (C := RX11) (T := TX11) (N := 9) (K := 10) (v := .int (ci4 q 5)) hx hb hts hinX11 hown hK hP hm5 hk6 (by decide) rfl 5 (by decide) (hts _ mwC_373) (fun _ h9 => h9) rfl dX11_given_21 ?_
  refine xn_endr (va_runS (rm := ({ frames := 20, cells := 1, slots := 400, locals := 300 })) (As := [.ref q7, .int (ci4 q 5)]) (rest := []) ⟨hx, hb, hml, hown, hts⟩ (p_J7_copyOf_9075b l dC dI _ _ _ _ q7 (ci4 q 5) _ h H.size) (va_cwS 2 hts (g_S gdC mwC_413 mwC_414 mwC_411 mwC_412) rfl rfl rfl hd_J7_copyOf_9075b ⟨Nat.le_of_ble_eq_true rfl, Nat.le_of_ble_eq_true rfl⟩) (c_preS hK hP hD hG) rfl rfl hl.1 rfl (lv_room (Nat.le_of_ble_eq_true rfl)) dX11_given_24 ⟨Nat.le_of_ble_eq_true rfl, Nat.le_of_ble_eq_true rfl⟩) hD hS hA (fun q9 sh9 ci9 ai9 al9 H locs h hK hP hD hS => ?_)
  refine lv_astore_n (lv' := [(3, .ref q9), (2, .ref q4), (0, .ref q), (1, .int p0)]) hx hb dX11_given_27 rfl hl (by decide) rfl (fun ls hl => ?_)
  refine lv_aload_n hx hb dX11_given_28 rfl (lv_at hl 2 rfl) ?_
  refine lv_iconst (v := 0) hx hb dX11_given_29 (by decide) ?_
  obtain ⟨⟨hm10, hk11⟩, h⟩ := h
  refine c_put (C := RX11) (T := TX11) (N := 9) (K := 10) hx hb hts hinX11 tyX11 tyX11_ok nmX11 hown hK hP hD hS hm10 hk11 (by decide) rfl 5 (by decide) (hts _ mwC_373) (fun _ h9 => h9) rfl (by decide +kernel) (Nat.le_of_ble_eq_true rfl) rfl dX11_given_30 (fun H locs hP hD hS => ?_)
  refine lv_aload_n hx hb dX11_given_33 rfl (lv_at hl 2 rfl) ?_
  refine x_newX3 hx hb hts hown (hts _ mwC_415) (hts _ mwC_416) (hts _ mwC_283) hK hP hD hS hA (Nat.le_of_ble_eq_true rfl) (Nat.le_of_ble_eq_true rfl) dX11_given_34 (fun q12 sh13 H hn15 es14 hK hP hD hS => ?_)
  have h := h q12 sh13 hn15 es14
  refine lv_dup hx hb dX11_given_37 rfl ?_
  refine lv_aload_n hx hb dX11_given_38 rfl (lv_at hl 2 rfl) ?_
  obtain ⟨⟨hm16, hk17⟩, h⟩ := h
  obtain ⟨q18, e19, h⟩ := h
  refine c_get (C := RX11) (T := TX11) (N := 9) (K := 10) (v := .ref q18) hx hb hts hinX11 hown hK hP hm16 hk17 (by decide) rfl 0 (by decide) (hts _ mwC_383) (fun _ h9 => h9) (by show some (va_rf (sR sh13 q 0)) = _; rw [e19]; rfl) dX11_given_39 ?_
  refine lv_aload_n hx hb dX11_given_42 rfl (lv_at hl 1 rfl) ?_
  refine lv_aload_n hx hb dX11_given_43 rfl (lv_at hl 0 rfl) ?_
  refine lv_iload_n hx hb dX11_given_44 rfl (lv_at hl 3 rfl) ?_
  refine lv_if_eq (tgt := 52) hx hb dX11_given_45 (by decide) (fun c_45 => ?_) (fun c_45 => ?_)
  · have h := h.1 c_45
    refine lv_iconst (v := 2) hx hb dX11_given_52 (by decide) ?_
    obtain ⟨⟨hm20, hk21⟩, h⟩ := h
    refine xn_endv (va_runI (rm := ({ frames := 30, cells := 1, slots := 400, locals := 400 })) (As := [.ref q18, .ref q4, .ref q9, .int 2]) (rest := [.ref q12, .ref q]) ⟨hx, hb, hml, hown, hts⟩ (p_X3_init l dC dI _ _ _ _ q12 q18 q4 q9 2 _ h H.size) (cwI 4 hts (g_C gdC mwC_417) rfl rfl rfl (hts _ mwC_283) (hts _ mwC_418) (hts _ mwC_419) rfl hd_X3_init ⟨Nat.le_of_ble_eq_true rfl, Nat.le_of_ble_eq_true rfl⟩) (c_preS hK hP hD hG) rfl rfl hl.1 rfl (lv_room (Nat.le_of_ble_eq_true rfl)) dX11_given_53 ⟨Nat.le_of_ble_eq_true rfl, Nat.le_of_ble_eq_true rfl⟩) hD hS hA (fun sh22 ci22 ai22 al22 H locs h hK hP hD hS => ?_)
    obtain ⟨⟨hm23, hk24⟩, h⟩ := h
    refine xn_endi (va_runV (rm := ({ frames := 60, cells := 0, slots := 0, locals := 2000 })) (As := [.ref q12]) (rest := []) ⟨hx, hb, hml, hown, hts⟩ (p_X11_addList l dC dI _ _ _ _ q q12 _ h H.size) (cwV 1 hts (g_V gdC mwC_421 mwC_422 mwC_423 mwC_119 mwC_420) rfl rfl rfl hd_X11_addList ⟨Nat.le_of_ble_eq_true rfl, Nat.le_of_ble_eq_true rfl⟩) (c_preV (vc := (RX11, TX11, 9)) hK hP hD hG hm23 hk24 (by decide) rfl) rfl rfl hl.1 rfl (lv_room (Nat.le_of_ble_eq_true rfl)) dX11_given_56 ⟨Nat.le_of_ble_eq_true rfl, Nat.le_of_ble_eq_true rfl⟩) hD hS hA (fun r25 sh25 ci25 ai25 al25 H locs h hK hP hD hS => ?_)
    refine W.widen (k := 8) (n := 2000) (by decide) (by decide) ?_
    refine vx_ret ?_
    exact W.iret (v := r25) hx hb hr (fun t ht hW => ⟨⟨_, (sh25, ci25, ai25, al25), rfl, h, by rw [ht]; exact hP, cK.moved hW.alike hK, hD⟩, hS.F ht⟩) hS.2.2 dX11_given_59
  · have h := h.2 c_45
    refine lv_iconst (v := 4) hx hb dX11_given_48 (by decide) ?_
    refine lv_goto (tgt := 53) hx hb dX11_given_49 (by decide) ?_
    obtain ⟨⟨hm26, hk27⟩, h⟩ := h
    refine xn_endv (va_runI (rm := ({ frames := 30, cells := 1, slots := 400, locals := 400 })) (As := [.ref q18, .ref q4, .ref q9, .int 4]) (rest := [.ref q12, .ref q]) ⟨hx, hb, hml, hown, hts⟩ (p_X3_init l dC dI _ _ _ _ q12 q18 q4 q9 4 _ h H.size) (cwI 4 hts (g_C gdC mwC_417) rfl rfl rfl (hts _ mwC_283) (hts _ mwC_418) (hts _ mwC_419) rfl hd_X3_init ⟨Nat.le_of_ble_eq_true rfl, Nat.le_of_ble_eq_true rfl⟩) (c_preS hK hP hD hG) rfl rfl hl.1 rfl (lv_room (Nat.le_of_ble_eq_true rfl)) dX11_given_53 ⟨Nat.le_of_ble_eq_true rfl, Nat.le_of_ble_eq_true rfl⟩) hD hS hA (fun sh28 ci28 ai28 al28 H locs h hK hP hD hS => ?_)
    obtain ⟨⟨hm29, hk30⟩, h⟩ := h
    refine xn_endi (va_runV (rm := ({ frames := 60, cells := 0, slots := 0, locals := 2000 })) (As := [.ref q12]) (rest := []) ⟨hx, hb, hml, hown, hts⟩ (p_X11_addList l dC dI _ _ _ _ q q12 _ h H.size) (cwV 1 hts (g_V gdC mwC_421 mwC_422 mwC_423 mwC_119 mwC_420) rfl rfl rfl hd_X11_addList ⟨Nat.le_of_ble_eq_true rfl, Nat.le_of_ble_eq_true rfl⟩) (c_preV (vc := (RX11, TX11, 9)) hK hP hD hG hm29 hk30 (by decide) rfl) rfl rfl hl.1 rfl (lv_room (Nat.le_of_ble_eq_true rfl)) dX11_given_56 ⟨Nat.le_of_ble_eq_true rfl, Nat.le_of_ble_eq_true rfl⟩) hD hS hA (fun r31 sh31 ci31 ai31 al31 H locs h hK hP hD hS => ?_)
    refine W.widen (k := 8) (n := 2000) (by decide) (by decide) ?_
    refine vx_ret ?_
    exact W.iret (v := r31) hx hb hr (fun t ht hW => ⟨⟨_, (sh31, ci31, ai31, al31), rfl, h, by rw [ht]; exact hP, cK.moved hW.alike hK, hD⟩, hS.F ht⟩) hS.2.2 dX11_given_59
abbrev wmX11_count : List Cond := .code yX11_count cX11_count 7 (some .int) :: WC
theorem hd_X11_count : yX11_count.cls = RX11 ∧ yX11_count.cls ≠ "java/lang/invoke/MethodHandle" ∧ yX11_count.cls ≠ "java/lang/invoke/VarHandle" ∧ (parseMethodDescriptor yX11_count.desc).map (fun d => d.parameters.length) = some 2 := by decide +kernel
def B_X11_count_14 (K14 : Sh → (Nat → Nat → Int32) → (Nat → Nat → Int32) → (Nat → Nat → Int64) → Int64 → Int64 → Nat → Int32 → Prop) (Q : Int32 → Sh → (Nat → Nat → Int32) → (Nat → Nat → Int32) → (Nat → Nat → Int64) → Prop) (q : Nat) (sh : Sh) (ci : Nat → Nat → Int32) (ai : Nat → Nat → Int32) (al : Nat → Nat → Int64) (x1 : Int64) (x3 : Int64) (x5 : Nat) (x6 : Int32) : Prop := ((400 ≤ x6) → (∀ (q1 : Nat) (cA1 : ClassId) (sh2 : Sh), q1 ∉ sL sh → sh2 = shN sh q1 21 (400 : Int32).toNatClampNeg cA1 → P_J7_fill_031fb sh2 ci (va_up ai q1 (fun _ => 0)) al q1 1 (fun sh5 ci5 ai5 al5 => ∀ (q6 : Nat) (sh7 : Sh), q6 ∉ sL sh5 → sh7 = shO sh5 q6 3 → (q ∈ sL sh7 ∧ sK sh7 q = 10) ∧ ∃ q12 : Nat, sR sh7 q 0 = some q12 ∧ (q6 ∈ sL sh7 ∧ sK sh7 q6 = 3) ∧ P_X3_init sh7 (va_up ci5 q6 (fun _ => 0)) ai5 al5 q6 q12 x5 q1 3 (fun sh16 ci16 ai16 al16 => (q ∈ sL sh16 ∧ sK sh16 q = 10) ∧ P_X11_addList sh16 ci16 ai16 al16 q q6 (fun r19 sh19 ci19 ai19 al19 => Q r19 sh19 ci19 ai19 al19))))) ∧ ((¬ 400 ≤ x6) → ((x5 ∈ sL sh ∧ sK sh x5 = 22) ∧ vp_in x6 (sN sh x5) ∧ K14 sh ci ai (va_up al x5 (vp_updL (al x5) x6.toNatClampNeg (x1 + (x6.toInt64 * x3)))) x1 x3 x5 (x6 + 1)))
def P_X11_count_14 (Q : Int32 → Sh → (Nat → Nat → Int32) → (Nat → Nat → Int32) → (Nat → Nat → Int64) → Prop) (q : Nat) : Nat → Sh → (Nat → Nat → Int32) → (Nat → Nat → Int32) → (Nat → Nat → Int64) → Int64 → Int64 → Nat → Int32 → Prop
  | 0 => fun _ _ _ _ _ _ _ _ => False
  | n + 1 => B_X11_count_14 (P_X11_count_14 Q q n) Q q
set_option maxHeartbeats 4000000 in
set_option maxRecDepth 100000 in
theorem b_X11_count_14 {p : Program} {l : Launch} {e : Env} {s : State} {m : MethodId} {args : Array Value} {below : List Frame} {meth : Method} {c : Code} {A : Nat → Prop} {dC : Nat → ClassId} {dI : Nat → Nat → Nat} {q : Nat} {K14 : Sh → (Nat → Nat → Int32) → (Nat → Nat → Int32) → (Nat → Nat → Int64) → Int64 → Int64 → Nat → Int32 → Prop} {Q : Int32 → Sh → (Nat → Nat → Int32) → (Nat → Nat → Int32) → (Nat → Nat → Int64) → Prop} {X : String → Prop} (hx : p.tables.exec = Jvm.exec) (hb : c.code = cX11_count) (hr : meth.sig.returnType = (some .int)) (hts : ∀ w ∈ WC, w.before args s = true) (hown : s.vm.findClass RX11 = some m.cls) (hlocks : meth.locks = false) (hml : c.maxLocals = 7) (hA : ∀ q : Nat, s.heap.size ≤ q → A q) (hG : Gc s) (hK14 : ∀ (sh : Sh) (ci : Nat → Nat → Int32) (ai : Nat → Nat → Int32) (al : Nat → Nat → Int64) (x1 : Int64) (x3 : Int64) (x5 : Nat) (x6 : Int32) (H : Heap) (locs : List Loc) (ls : Array Slot), K14 sh ci ai al x1 x3 x5 x6 → cK dC dI sh s → va_P (dC, dI) vwCl (cW sh ci ai al) H → va_D A (cW sh ci ai al) → va_S A s.heap H locs → lv_has ls 7 [(0, .ref q), (1, .long x1), (3, .long x3), (5, .ref x5), (6, .int x6)] → W p l e (headSpec wmX11_count ({ frames := 100, cells := 8, slots := 2000, locals := 3000 })).room s m args below meth c H locs 2 406 (vx_MQ below (va_Qi (S := XSt) (xI Q) (xB dC dI A) A) (XC X s.heap.size) args s 8 2000 A) (F0 m 14 ls [])) : ∀ (sh : Sh) (ci : Nat → Nat → Int32) (ai : Nat → Nat → Int32) (al : Nat → Nat → Int64) (x1 : Int64) (x3 : Int64) (x5 : Nat) (x6 : Int32) (H : Heap) (locs : List Loc) (ls : Array Slot), B_X11_count_14 K14 Q q sh ci ai al x1 x3 x5 x6 → cK dC dI sh s → va_P (dC, dI) vwCl (cW sh ci ai al) H → va_D A (cW sh ci ai al) → va_S A s.heap H locs → lv_has ls 7 [(0, .ref q), (1, .long x1), (3, .long x3), (5, .ref x5), (6, .int x6)] → W p l e (headSpec wmX11_count ({ frames := 100, cells := 8, slots := 2000, locals := 3000 })).room s m args below meth c H locs 2 406 (vx_MQ below (va_Qi (S := XSt) (xI Q) (xB dC dI A) A) (XC X s.heap.size) args s 8 2000 A) (F0 m 14 ls []) := by
  intro sh ci ai al x1 x3 x5 x6 H locs ls h hK hP hD hS hl
  unfold B_X11_count_14 at h
  refine lv_iload hx hb dX11_count_14 (lv_at hl 4 rfl) ?_
  refine lv_sipush (v := 400) hx hb dX11_count_16 (by decide) ?_
  refine lv_icmp_ge (tgt := 40) hx hb dX11_count_19 (by decide) (fun c_19 => ?_) (fun c_19 => ?_)
  · have h := h.1 c_19
    refine lv_sipush (v := 400) hx hb dX11_count_40 (by decide) ?_
    refine x_newb (n := (400 : Int32)) hx hb (hts _ mwC_344) hK hP hD hS hA (by decide) (by decide) (Nat.le_of_ble_eq_true rfl) (Nat.le_of_ble_eq_true rfl) dX11_count_43 (fun q1 cA1 sh2 H hn4 es3 hK hP hD hS => ?_)
    have h := h q1 cA1 sh2 hn4 es3
    refine lv_astore (lv' := [(6, .ref q1), (0, .ref q), (1, .long x1), (3, .long x3), (5, .ref x5)]) hx hb dX11_count_45 hl (by decide) rfl (fun ls hl => ?_)
    refine lv_aload hx hb dX11_count_47 (lv_at hl 0 rfl) ?_
    refine lv_iconst (v := 1) hx hb dX11_count_49 (by decide) ?_
    refine xn_endv (va_runS (rm := ({ frames := 8, cells := 0, slots := 0, locals := 120 })) (As := [.ref q1, .int 1]) (rest := []) ⟨hx, hb, hml, hown, hts⟩ (p_J7_fill_031fb l dC dI _ _ _ _ q1 1 _ h H.size) (va_cwS 2 hts (g_S gdC mwC_425 mwC_426 mwC_411 mwC_424) rfl rfl rfl hd_J7_fill_031fb ⟨Nat.le_of_ble_eq_true rfl, Nat.le_of_ble_eq_true rfl⟩) (c_preS hK hP hD hG) rfl rfl hl.1 rfl (lv_room (Nat.le_of_ble_eq_true rfl)) dX11_count_50 ⟨Nat.le_of_ble_eq_true rfl, Nat.le_of_ble_eq_true rfl⟩) hD hS hA (fun sh5 ci5 ai5 al5 H locs h hK hP hD hS => ?_)
    refine lv_aload_n hx hb dX11_count_53 rfl (lv_at hl 1 rfl) ?_
    refine x_newX3 hx hb hts hown (hts _ mwC_415) (hts _ mwC_416) (hts _ mwC_283) hK hP hD hS hA (Nat.le_of_ble_eq_true rfl) (Nat.le_of_ble_eq_true rfl) dX11_count_54 (fun q6 sh7 H hn9 es8 hK hP hD hS => ?_)
    have h := h q6 sh7 hn9 es8
    refine lv_dup hx hb dX11_count_57 rfl ?_
    refine lv_aload_n hx hb dX11_count_58 rfl (lv_at hl 1 rfl) ?_
    obtain ⟨⟨hm10, hk11⟩, h⟩ := h
    obtain ⟨q12, e13, h⟩ := h
    refine c_get (C := RX11) (T := TX11) (N := 9) (K := 10) (v := .ref q12) hx hb hts hinX11 hown hK hP hm10 hk11 (by decide) rfl 0 (by decide) (hts _ mwC_383) (fun _ h9 => h9) (by show some (va_rf (sR sh7 q 0)) = _; rw [e13]; rfl) dX11_count_59 ?_
    refine lv_aload hx hb dX11_count_62 (lv_at hl 4 rfl) ?_
    refine lv_aload hx hb dX11_count_64 (lv_at hl 0 rfl) ?_
    refine lv_iconst (v := 3) hx hb dX11_count_66 (by decide) ?_
    obtain ⟨⟨hm14, hk15⟩, h⟩ := h
    refine xn_endv (va_runI (rm := ({ frames := 30, cells := 1, slots := 400, locals := 400 })) (As := [.ref q12, .ref x5, .ref q1, .int 3]) (rest := [.ref q6, .ref q]) ⟨hx, hb, hml, hown, hts⟩ (p_X3_init l dC dI _ _ _ _ q6 q12 x5 q1 3 _ h H.size) (cwI 4 hts (g_C gdC mwC_417) rfl rfl rfl (hts _ mwC_283) (hts _ mwC_418) (hts _ mwC_419) rfl hd_X3_init ⟨Nat.le_of_ble_eq_true rfl, Nat.le_of_ble_eq_true rfl⟩) (c_preS hK hP hD hG) rfl rfl hl.1 rfl (lv_room (Nat.le_of_ble_eq_true rfl)) dX11_count_67 ⟨Nat.le_of_ble_eq_true rfl, Nat.le_of_ble_eq_true rfl⟩) hD hS hA (fun sh16 ci16 ai16 al16 H locs h hK hP hD hS => ?_)
    obtain ⟨⟨hm17, hk18⟩, h⟩ := h
    refine xn_endi (va_runV (rm := ({ frames := 60, cells := 0, slots := 0, locals := 2000 })) (As := [.ref q6]) (rest := []) ⟨hx, hb, hml, hown, hts⟩ (p_X11_addList l dC dI _ _ _ _ q q6 _ h H.size) (cwV 1 hts (g_V gdC mwC_421 mwC_422 mwC_423 mwC_119 mwC_420) rfl rfl rfl hd_X11_addList ⟨Nat.le_of_ble_eq_true rfl, Nat.le_of_ble_eq_true rfl⟩) (c_preV (vc := (RX11, TX11, 9)) hK hP hD hG hm17 hk18 (by decide) rfl) rfl rfl hl.1 rfl (lv_room (Nat.le_of_ble_eq_true rfl)) dX11_count_70 ⟨Nat.le_of_ble_eq_true rfl, Nat.le_of_ble_eq_true rfl⟩) hD hS hA (fun r19 sh19 ci19 ai19 al19 H locs h hK hP hD hS => ?_)
    refine W.widen (k := 8) (n := 2000) (by decide) (by decide) ?_
    refine vx_ret ?_
    exact W.iret (v := r19) hx hb hr (fun t ht hW => ⟨⟨_, (sh19, ci19, ai19, al19), rfl, h, by rw [ht]; exact hP, cK.moved hW.alike hK, hD⟩, hS.F ht⟩) hS.2.2 dX11_count_73
  · have h := h.2 c_19
    refine lv_aload hx hb dX11_count_22 (lv_at hl 3 rfl) ?_
    refine lv_iload hx hb dX11_count_24 (lv_at hl 4 rfl) ?_
    refine lv_lload_n hx hb dX11_count_26 rfl (lv_at hl 1 rfl) ?_
    refine lv_iload hx hb dX11_count_27 (lv_at hl 4 rfl) ?_
    refine lv_i2l hx hb dX11_count_29 rfl ?_
    refine lv_lload_n hx hb dX11_count_30 rfl (lv_at hl 2 rfl) ?_
    refine lv_lmul hx hb dX11_count_31 ?_
    refine lv_ladd hx hb dX11_count_32 ?_
    obtain ⟨⟨hm20, hk21⟩, h⟩ := h
    obtain ⟨hi22, h⟩ := h
    refine c_last hx hb hK hP hD hS hm20 hk21 hi22 dX11_count_33 (fun H locs hP hD hS => ?_)
    refine lv_iinc (v := x6 + 1) (lv' := [(6, .int (x6 + 1)), (0, .ref q), (1, .long x1), (3, .long x3), (5, .ref x5)]) hx hb dX11_count_34 hl (k := 4) rfl (iinc_1 _) (by decide) rfl (fun ls hl => ?_)
    refine lv_goto (tgt := 14) hx hb dX11_count_37 (by decide) ?_
    exact hK14 _ _ _ _ _ _ _ _ H _ ls h hK hP hD hS (lv_sub hl [1, 2, 3, 4, 0] rfl)
set_option maxHeartbeats 4000000 in
set_option maxRecDepth 100000 in
theorem t_X11_count_14 {p : Program} {l : Launch} {e : Env} {s : State} {m : MethodId} {args : Array Value} {below : List Frame} {meth : Method} {c : Code} {A : Nat → Prop} {dC : Nat → ClassId} {dI : Nat → Nat → Nat} {q : Nat} {Q : Int32 → Sh → (Nat → Nat → Int32) → (Nat → Nat → Int32) → (Nat → Nat → Int64) → Prop} {X : String → Prop} (hx : p.tables.exec = Jvm.exec) (hb : c.code = cX11_count) (hr : meth.sig.returnType = (some .int)) (hts : ∀ w ∈ WC, w.before args s = true) (hown : s.vm.findClass RX11 = some m.cls) (hlocks : meth.locks = false) (hml : c.maxLocals = 7) (hA : ∀ q : Nat, s.heap.size ≤ q → A q) (hG : Gc s) : ∀ n : Nat, ∀ (sh : Sh) (ci : Nat → Nat → Int32) (ai : Nat → Nat → Int32) (al : Nat → Nat → Int64) (x1 : Int64) (x3 : Int64) (x5 : Nat) (x6 : Int32) (H : Heap) (locs : List Loc) (ls : Array Slot), P_X11_count_14 Q q n sh ci ai al x1 x3 x5 x6 → cK dC dI sh s → va_P (dC, dI) vwCl (cW sh ci ai al) H → va_D A (cW sh ci ai al) → va_S A s.heap H locs → lv_has ls 7 [(0, .ref q), (1, .long x1), (3, .long x3), (5, .ref x5), (6, .int x6)] → W p l e (headSpec wmX11_count ({ frames := 100, cells := 8, slots := 2000, locals := 3000 })).room s m args below meth c H locs 2 406 (vx_MQ below (va_Qi (S := XSt) (xI Q) (xB dC dI A) A) (XC X s.heap.size) args s 8 2000 A) (F0 m 14 ls []) := by
  intro n
  induction n with
  | zero => intro sh ci ai al x1 x3 x5 x6 H locs ls h; exact h.elim
  | succ n ih => exact b_X11_count_14 hx hb hr hts hown hlocks hml hA hG ih
def P_X11_count (sh : Sh) (ci : Nat → Nat → Int32) (ai : Nat → Nat → Int32) (al : Nat → Nat → Int64) (q : Nat) (p0 : Int64) (p1 : Int64) (Q : Int32 → Sh → (Nat → Nat → Int32) → (Nat → Nat → Int32) → (Nat → Nat → Int64) → Prop) (X : String → Prop) : Prop := (q ∈ sL sh ∧ sK sh q = 10) ∧ P_X11_checkRoom sh ci ai al q  (∀ (q2 : Nat) (cA2 : ClassId) (sh3 : Sh), q2 ∉ sL sh → sh3 = shN sh q2 22 (400 : Int32).toNatClampNeg cA2 → ∃ n9 : Nat, P_X11_count_14 Q q n9 sh3 ci ai (va_up al q2 (fun _ => 0)) p0 p1 q2 (0 : Int32)) X
set_option maxHeartbeats 4000000 in
set_option maxRecDepth 100000 in
theorem p_X11_count (l : Launch) (hl0 : l.stackTraces = false) (dC : Nat → ClassId) (dI : Nat → Nat → Nat) (sh : Sh) (ci : Nat → Nat → Int32) (ai : Nat → Nat → Int32) (al : Nat → Nat → Int64) (q : Nat) (p0 : Int64) (p1 : Int64) (Q : Int32 → Sh → (Nat → Nat → Int32) → (Nat → Nat → Int32) → (Nat → Nat → Int64) → Prop) (X : String → Prop) (h : P_X11_count sh ci ai al q p0 p1 Q X) (sz : Nat) : vx_Met l yX11_count wmX11_count ({ frames := 100, cells := 8, slots := 2000, locals := 3000 }) (va_Pc [.ref q, .long p0, .long p1] (xPre dC dI sh ci ai al sz)) (va_Qi (S := XSt) (xI Q) (xB dC dI (va_A (cW sh ci ai al) sz)) (va_A (cW sh ci ai al) sz)) (XC X sz) 8 2000 (va_A (cW sh ci ai al) sz) := by
  refine vx_ofW (cc := cX11_count) (maxL := 7) (ret := (some .int)) (by decide) rfl ?_
  intro p e s m args below meth c s₁ B hml htab hv
  obtain ⟨rfl, ⟨hsz, hP, hK, hD0, hG⟩, hZ⟩ := hv
  have hx := B.exec
  have hb := B.bytes
  have hr := B.returns
  have hts : ∀ w ∈ WC, w.before _ s = true := fun w h => atoms_spec (ws := wmX11_count) B.pre w (List.mem_cons_of_mem _ h)
  have hown : s.vm.findClass RX11 = some m.cls := findClass_of_methodNamed B.named
  have hlocks := B.notSynchronized
  subst hsz
  have hD := hD0.self (sz := s.heap.size)
  generalize hAe : va_A (cW sh ci ai al) s.heap.size = A at hD hZ ⊢
  have hA : ∀ q : Nat, s.heap.size ≤ q → A q := fun q h => by rw [← hAe]; exact Or.inr h
  generalize hz9 : s.heap.size = z9
  generalize hH : s.heap = H at hP ⊢
  subst hz9
  have hS : va_S A s.heap H [] := by rw [← hH]; exact va_S.rf
  have hE : xE s.heap H := by rw [← hH]; exact xE.rf
  have hl := lv_entry [.ref q, .long p0, .long p1] (n := 7) (Nat.le_of_ble_eq_true rfl)
  rw [lg_entry_eq]
  generalize (lg_sl [.ref q, .long p0, .long p1] ++ List.replicate (7 - (lg_sl [.ref q, .long p0, .long p1]).length) Slot.unset).toArray = ls at hl ⊢
  have hl : lv_has ls 7 [(0, .ref q), (1, .long p0), (3, .long p1)] := hl
  unfold P_X11_count at h
  obtain ⟨⟨hq, hk⟩, h⟩ := h
  refine lv_aload_n hx hb dX11_count_0 rfl (lv_at hl 0 rfl) ?_
  refine xr_endv (cells := 0) (slots := 0) (mc0 := 8) (ms0 := 2000) (vx_runV (rm := ({ frames := 20, cells := 1, slots := 6, locals := 300 })) (As := []) (rest := []) ⟨hx, hb, hml, hown, hts⟩ (p_X11_checkRoom l hl0 dC dI _ _ _ _ q  _ _ h H.size) (cwV 0 hts (g_V gdC mwC_405 mwC_406 mwC_407 mwC_119 mwC_404) rfl rfl rfl hd_X11_checkRoom ⟨Nat.le_of_ble_eq_true rfl, Nat.le_of_ble_eq_true rfl⟩) (x_preV hK hP hD hS hA hS hG hZ hq hk) rfl rfl hl.1 rfl (lv_room (Nat.le_of_ble_eq_true rfl)) dX11_count_1 ⟨Nat.le_of_ble_eq_true rfl, Nat.le_of_ble_eq_true rfl⟩) hE hS hP hA (fun x h => (htab x h).elim) hlocks (Nat.le_of_ble_eq_true rfl) (Nat.le_of_ble_eq_true rfl) (fun H locs h hE hP hS => ?_)
  refine lv_sipush (v := 400) hx hb dX11_count_4 (by decide) ?_
  refine x_newl (n := (400 : Int32)) hx hb (hts _ mwC_332) hK hP hD hS hA (by decide) (by decide) (Nat.le_of_ble_eq_true rfl) (Nat.le_of_ble_eq_true rfl) dX11_count_7 (fun q2 cA2 sh3 H hn5 es4 hK hP hD hS => ?_)
  have h := h q2 cA2 sh3 hn5 es4
  refine lv_astore (lv' := [(5, .ref q2), (0, .ref q), (1, .long p0), (3, .long p1)]) hx hb dX11_count_9 hl (by decide) rfl (fun ls hl => ?_)
  refine lv_iconst (v := 0) hx hb dX11_count_11 (by decide) ?_
  refine lv_istore (lv' := [(6, .int 0), (5, .ref q2), (0, .ref q), (1, .long p0), (3, .long p1)]) hx hb dX11_count_12 hl (by decide) rfl (fun ls hl => ?_)
  obtain ⟨n9, h⟩ := h
  exact t_X11_count_14 hx hb hr hts hown hlocks hml hA hG n9 _ _ _ _ _ _ _ _ H _ ls h hK hP hD hS (lv_sub hl [2, 3, 4, 1, 0] rfl)
abbrev wmX11_iterate : List Cond := .code yX11_iterate cX11_iterate 6 (some .int) :: WC
theorem hd_X11_iterate : yX11_iterate.cls = RX11 ∧ yX11_iterate.cls ≠ "java/lang/invoke/MethodHandle" ∧ yX11_iterate.cls ≠ "java/lang/invoke/VarHandle" ∧ (parseMethodDescriptor yX11_iterate.desc).map (fun d => d.parameters.length) = some 3 := by decide +kernel
def P_X11_iterate (sh : Sh) (ci : Nat → Nat → Int32) (ai : Nat → Nat → Int32) (al : Nat → Nat → Int64) (q : Nat) (p0 : Int32) (p1 : Int64) (p2 : Int64) (Q : Int32 → Sh → (Nat → Nat → Int32) → (Nat → Nat → Int32) → (Nat → Nat → Int64) → Prop) (X : String → Prop) : Prop := (q ∈ sL sh ∧ sK sh q = 10) ∧ P_X11_checkOp p0 (P_X11_checkRoom sh ci ai al q  (∀ (q3 : Nat) (sh4 : Sh), q3 ∉ sL sh → sh4 = shO sh q3 0 → (q ∈ sL sh4 ∧ sK sh4 q = 10) ∧ ∃ q9 : Nat, sR sh4 q 0 = some q9 ∧ (q3 ∈ sL sh4 ∧ sK sh4 q3 = 0) ∧ P_X0_initN sh4 (va_up ci q3 (fun _ => 0)) ai al q3 q9 p0 p1 p2 (fun sh13 ci13 ai13 al13 => (q ∈ sL sh13 ∧ sK sh13 q = 10) ∧ P_X11_addList sh13 ci13 ai13 al13 q q3 (fun r16 sh16 ci16 ai16 al16 => Q r16 sh16 ci16 ai16 al16))) X) X
set_option maxHeartbeats 4000000 in
set_option maxRecDepth 100000 in
theorem p_X11_iterate (l : Launch) (hl0 : l.stackTraces = false) (dC : Nat → ClassId) (dI : Nat → Nat → Nat) (sh : Sh) (ci : Nat → Nat → Int32) (ai : Nat → Nat → Int32) (al : Nat → Nat → Int64) (q : Nat) (p0 : Int32) (p1 : Int64) (p2 : Int64) (Q : Int32 → Sh → (Nat → Nat → Int32) → (Nat → Nat → Int32) → (Nat → Nat → Int64) → Prop) (X : String → Prop) (h : P_X11_iterate sh ci ai al q p0 p1 p2 Q X) (sz : Nat) : vx_Met l yX11_iterate wmX11_iterate ({ frames := 100, cells := 8, slots := 2000, locals := 3000 }) (va_Pc [.ref q, .int p0, .long p1, .long p2] (xPre dC dI sh ci ai al sz)) (va_Qi (S := XSt) (xI Q) (xB dC dI (va_A (cW sh ci ai al) sz)) (va_A (cW sh ci ai al) sz)) (XC X sz) 8 2000 (va_A (cW sh ci ai al) sz) := by
  refine vx_ofW (cc := cX11_iterate) (maxL := 6) (ret := (some .int)) (by decide) rfl ?_
  intro p e s m args below meth c s₁ B hml htab hv
  obtain ⟨rfl, ⟨hsz, hP, hK, hD0, hG⟩, hZ⟩ := hv
  have hx := B.exec
  have hb := B.bytes
  have hr := B.returns
  have hts : ∀ w ∈ WC, w.before _ s = true := fun w h => atoms_spec (ws := wmX11_iterate) B.pre w (List.mem_cons_of_mem _ h)
  have hown : s.vm.findClass RX11 = some m.cls := findClass_of_methodNamed B.named
  have hlocks := B.notSynchronized
  subst hsz
  have hD := hD0.self (sz := s.heap.size)
  generalize hAe : va_A (cW sh ci ai al) s.heap.size = A at hD hZ ⊢
  have hA : ∀ q : Nat, s.heap.size ≤ q → A q := fun q h => by rw [← hAe]; exact Or.inr h
  generalize hz9 : s.heap.size = z9
  generalize hH : s.heap = H at hP ⊢
  subst hz9
  have hS : va_S A s.heap H [] := by rw [← hH]; exact va_S.rf
  have hE : xE s.heap H := by rw [← hH]; exact xE.rf
  have hl := lv_entry [.ref q, .int p0, .long p1, .long p2] (n := 6) (Nat.le_of_ble_eq_true rfl)
  rw [lg_entry_eq]
  generalize (lg_sl [.ref q, .int p0, .long p1, .long p2] ++ List.replicate (6 - (lg_sl [.ref q, .int p0, .long p1, .long p2]).length) Slot.unset).toArray = ls at hl ⊢
  have hl : lv_has ls 6 [(0, .ref q), (1, .int p0), (2, .long p1), (4, .long p2)] := hl
  unfold P_X11_iterate at h
  obtain ⟨⟨hq, hk⟩, h⟩ := h
  refine lv_iload_n hx hb dX11_iterate_0 rfl (lv_at hl 1 rfl) ?_
  refine xr_endv (cells := 0) (slots := 0) (mc0 := 8) (ms0 := 2000) (vx_runS (rm := ({ frames := 20, cells := 1, slots := 6, locals := 300 })) (As := [.int p0]) (rest := []) ⟨hx, hb, hml, hown, hts⟩ (p_X11_checkOp l hl0 p0 _ _ h H.size) (va_cwS 1 hts (g_S gdC mwC_428 mwC_429 mwC_119 mwC_427) rfl rfl rfl hd_X11_checkOp ⟨Nat.le_of_ble_eq_true rfl, Nat.le_of_ble_eq_true rfl⟩) (x_preS hA hS hG hZ) rfl rfl hl.1 rfl (lv_room (Nat.le_of_ble_eq_true rfl)) dX11_iterate_1 ⟨Nat.le_of_ble_eq_true rfl, Nat.le_of_ble_eq_true rfl⟩) hE hS hP hA (fun x h => (htab x h).elim) hlocks (Nat.le_of_ble_eq_true rfl) (Nat.le_of_ble_eq_true rfl) (fun H locs h hE hP hS => ?_)
  refine lv_aload_n hx hb dX11_iterate_4 rfl (lv_at hl 0 rfl) ?_
  refine xr_endv (cells := 1) (slots := 6) (mc0 := 8) (ms0 := 2000) (vx_runV (rm := ({ frames := 20, cells := 1, slots := 6, locals := 300 })) (As := []) (rest := []) ⟨hx, hb, hml, hown, hts⟩ (p_X11_checkRoom l hl0 dC dI _ _ _ _ q  _ _ h H.size) (cwV 0 hts (g_V gdC mwC_405 mwC_406 mwC_407 mwC_119 mwC_404) rfl rfl rfl hd_X11_checkRoom ⟨Nat.le_of_ble_eq_true rfl, Nat.le_of_ble_eq_true rfl⟩) (x_preV hK hP hD hS hA hS hG hZ hq hk) rfl rfl hl.1 rfl (lv_room (Nat.le_of_ble_eq_true rfl)) dX11_iterate_5 ⟨Nat.le_of_ble_eq_true rfl, Nat.le_of_ble_eq_true rfl⟩) hE hS hP hA (fun x h => (htab x h).elim) hlocks (Nat.le_of_ble_eq_true rfl) (Nat.le_of_ble_eq_true rfl) (fun H locs h hE hP hS => ?_)
  refine lv_aload_n hx hb dX11_iterate_8 rfl (lv_at hl 0 rfl) ?_
  refine x_newX0 hx hb hts hown (hts _ mwC_430) (hts _ mwC_431) (hts _ mwC_250) hK hP hD hS hA (Nat.le_of_ble_eq_true rfl) (Nat.le_of_ble_eq_true rfl) dX11_iterate_9 (fun q3 sh4 H hn6 es5 hK hP hD hS => ?_)
  have h := h q3 sh4 hn6 es5
  refine lv_dup hx hb dX11_iterate_12 rfl ?_
  refine lv_aload_n hx hb dX11_iterate_13 rfl (lv_at hl 0 rfl) ?_
  obtain ⟨⟨hm7, hk8⟩, h⟩ := h
  obtain ⟨q9, e10, h⟩ := h
  refine c_get (C := RX11) (T := TX11) (N := 9) (K := 10) (v := .ref q9) hx hb hts hinX11 hown hK hP hm7 hk8 (by decide) rfl 0 (by decide) (hts _ mwC_383) (fun _ h9 => h9) (by show some (va_rf (sR sh4 q 0)) = _; rw [e10]; rfl) dX11_iterate_14 ?_
  refine lv_null hx hb dX11_iterate_17 ?_
  refine lv_iload_n hx hb dX11_iterate_18 rfl (lv_at hl 1 rfl) ?_
  refine lv_lload_n hx hb dX11_iterate_19 rfl (lv_at hl 2 rfl) ?_
  refine lv_lload hx hb dX11_iterate_20 (lv_at hl 3 rfl) ?_
  obtain ⟨⟨hm11, hk12⟩, h⟩ := h
  refine xn_endv (va_runI (rm := ({ frames := 30, cells := 2, slots := 800, locals := 400 })) (As := [.ref q9, .null, .int p0, .long p1, .long p2]) (rest := [.ref q3, .ref q]) ⟨hx, hb, hml, hown, hts⟩ (p_X0_initN l dC dI _ _ _ _ q3 q9 p0 p1 p2 _ h H.size) (cwI 5 hts (g_C gdC mwC_432) rfl rfl rfl (hts _ mwC_250) (hts _ mwC_433) (hts _ mwC_434) rfl hd_X0_initN ⟨Nat.le_of_ble_eq_true rfl, Nat.le_of_ble_eq_true rfl⟩) (c_preS hK hP hD hG) rfl rfl hl.1 rfl (lv_room (Nat.le_of_ble_eq_true rfl)) dX11_iterate_22 ⟨Nat.le_of_ble_eq_true rfl, Nat.le_of_ble_eq_true rfl⟩) hD hS hA (fun sh13 ci13 ai13 al13 H locs h hK hP hD hS => ?_)
  obtain ⟨⟨hm14, hk15⟩, h⟩ := h
  refine xn_endi (va_runV (rm := ({ frames := 60, cells := 0, slots := 0, locals := 2000 })) (As := [.ref q3]) (rest := []) ⟨hx, hb, hml, hown, hts⟩ (p_X11_addList l dC dI _ _ _ _ q q3 _ h H.size) (cwV 1 hts (g_V gdC mwC_421 mwC_422 mwC_423 mwC_119 mwC_420) rfl rfl rfl hd_X11_addList ⟨Nat.le_of_ble_eq_true rfl, Nat.le_of_ble_eq_true rfl⟩) (c_preV (vc := (RX11, TX11, 9)) hK hP hD hG hm14 hk15 (by decide) rfl) rfl rfl hl.1 rfl (lv_room (Nat.le_of_ble_eq_true rfl)) dX11_iterate_25 ⟨Nat.le_of_ble_eq_true rfl, Nat.le_of_ble_eq_true rfl⟩) hD hS hA (fun r16 sh16 ci16 ai16 al16 H locs h hK hP hD hS => ?_)
  refine W.widen (k := 8) (n := 2000) (by decide) (by decide) ?_
  refine vx_ret ?_
  exact W.iret (v := r16) hx hb hr (fun t ht hW => ⟨⟨_, (sh16, ci16, ai16, al16), rfl, h, by rw [ht]; exact hP, cK.moved hW.alike hK, hD⟩, hS.F ht⟩) hS.2.2 dX11_iterate_28
