theorem dX3_init_0 : decode cX3_init 0 = .ok (.aload_n 0, 1) := by decide +kernel
theorem dX3_init_1 : decode cX3_init 1 = .ok (.aload_n 1, 1) := by decide +kernel
theorem dX3_init_2 : decode cX3_init 2 = .ok (.aload_n 2, 1) := by decide +kernel
theorem dX3_init_3 : decode cX3_init 3 = .ok (.invokespecial 3, 3) := by decide +kernel
theorem dX3_init_6 : decode cX3_init 6 = .ok (.aload_n 0, 1) := by decide +kernel
theorem dX3_init_7 : decode cX3_init 7 = .ok (.aload_n 3, 1) := by decide +kernel
theorem dX3_init_8 : decode cX3_init 8 = .ok (.putfield 9, 3) := by decide +kernel
theorem dX3_init_11 : decode cX3_init 11 = .ok (.aload_n 0, 1) := by decide +kernel
theorem dX3_init_12 : decode cX3_init 12 = .ok (.iload 4, 2) := by decide +kernel
theorem dX3_init_14 : decode cX3_init 14 = .ok (.putfield 15, 3) := by decide +kernel
theorem dX3_init_17 : decode cX3_init 17 = .ok (.return_, 1) := by decide +kernel
theorem dX4_init_0 : decode cX4_init 0 = .ok (.aload_n 0, 1) := by decide +kernel
theorem dX4_init_1 : decode cX4_init 1 = .ok (.aload_n 1, 1) := by decide +kernel
theorem dX4_init_2 : decode cX4_init 2 = .ok (.iconst 0, 1) := by decide +kernel
theorem dX4_init_3 : decode cX4_init 3 = .ok (.newarray .long, 2) := by decide +kernel
theorem dX4_init_5 : decode cX4_init 5 = .ok (.invokespecial 3, 3) := by decide +kernel
theorem dX4_init_8 : decode cX4_init 8 = .ok (.aload_n 0, 1) := by decide +kernel
theorem dX4_init_9 : decode cX4_init 9 = .ok (.aload_n 2, 1) := by decide +kernel
theorem dX4_init_10 : decode cX4_init 10 = .ok (.putfield 9, 3) := by decide +kernel
theorem dX4_init_13 : decode cX4_init 13 = .ok (.aload_n 0, 1) := by decide +kernel
theorem dX4_init_14 : decode cX4_init 14 = .ok (.aload_n 3, 1) := by decide +kernel
theorem dX4_init_15 : decode cX4_init 15 = .ok (.putfield 15, 3) := by decide +kernel
theorem dX4_init_18 : decode cX4_init 18 = .ok (.return_, 1) := by decide +kernel
theorem dX7_init_0 : decode cX7_init 0 = .ok (.aload_n 0, 1) := by decide +kernel
theorem dX7_init_1 : decode cX7_init 1 = .ok (.aload_n 1, 1) := by decide +kernel
theorem dX7_init_2 : decode cX7_init 2 = .ok (.iconst 0, 1) := by decide +kernel
theorem dX7_init_3 : decode cX7_init 3 = .ok (.newarray .long, 2) := by decide +kernel
theorem dX7_init_5 : decode cX7_init 5 = .ok (.invokespecial 3, 3) := by decide +kernel
theorem dX7_init_8 : decode cX7_init 8 = .ok (.aload_n 0, 1) := by decide +kernel
theorem dX7_init_9 : decode cX7_init 9 = .ok (.aload_n 2, 1) := by decide +kernel
theorem dX7_init_10 : decode cX7_init 10 = .ok (.putfield 9, 3) := by decide +kernel
theorem dX7_init_13 : decode cX7_init 13 = .ok (.aload_n 0, 1) := by decide +kernel
theorem dX7_init_14 : decode cX7_init 14 = .ok (.iload_n 3, 1) := by decide +kernel
theorem dX7_init_15 : decode cX7_init 15 = .ok (.ifCond .eq 11, 3) := by decide +kernel
theorem dX7_init_18 : decode cX7_init 18 = .ok (.sipush 400, 3) := by decide +kernel
theorem dX7_init_21 : decode cX7_init 21 = .ok (.newarray .int, 2) := by decide +kernel
theorem dX7_init_23 : decode cX7_init 23 = .ok (.goto 4, 3) := by decide +kernel
theorem dX7_init_26 : decode cX7_init 26 = .ok (.aconst_null, 1) := by decide +kernel
theorem dX7_init_27 : decode cX7_init 27 = .ok (.putfield 15, 3) := by decide +kernel
theorem dX7_init_30 : decode cX7_init 30 = .ok (.return_, 1) := by decide +kernel
theorem dX8_init_0 : decode cX8_init 0 = .ok (.aload_n 0, 1) := by decide +kernel
theorem dX8_init_1 : decode cX8_init 1 = .ok (.aload_n 1, 1) := by decide +kernel
theorem dX8_init_2 : decode cX8_init 2 = .ok (.iconst 0, 1) := by decide +kernel
theorem dX8_init_3 : decode cX8_init 3 = .ok (.newarray .long, 2) := by decide +kernel
theorem dX8_init_5 : decode cX8_init 5 = .ok (.invokespecial 3, 3) := by decide +kernel
theorem dX8_init_8 : decode cX8_init 8 = .ok (.aload_n 0, 1) := by decide +kernel
theorem dX8_init_9 : decode cX8_init 9 = .ok (.aload_n 2, 1) := by decide +kernel
theorem dX8_init_10 : decode cX8_init 10 = .ok (.putfield 9, 3) := by decide +kernel
theorem dX8_init_13 : decode cX8_init 13 = .ok (.aload_n 0, 1) := by decide +kernel
theorem dX8_init_14 : decode cX8_init 14 = .ok (.iload_n 3, 1) := by decide +kernel
theorem dX8_init_15 : decode cX8_init 15 = .ok (.putfield 15, 3) := by decide +kernel
theorem dX8_init_18 : decode cX8_init 18 = .ok (.aload_n 0, 1) := by decide +kernel
theorem dX8_init_19 : decode cX8_init 19 = .ok (.iload 4, 2) := by decide +kernel
theorem dX8_init_21 : decode cX8_init 21 = .ok (.putfield 19, 3) := by decide +kernel
theorem dX8_init_24 : decode cX8_init 24 = .ok (.aload_n 0, 1) := by decide +kernel
theorem dX8_init_25 : decode cX8_init 25 = .ok (.lload 5, 2) := by decide +kernel
theorem dX8_init_27 : decode cX8_init 27 = .ok (.putfield 22, 3) := by decide +kernel
theorem dX8_init_30 : decode cX8_init 30 = .ok (.return_, 1) := by decide +kernel
theorem dX9_init_0 : decode cX9_init 0 = .ok (.aload_n 0, 1) := by decide +kernel
theorem dX9_init_1 : decode cX9_init 1 = .ok (.aload_n 1, 1) := by decide +kernel
theorem dX9_init_2 : decode cX9_init 2 = .ok (.sipush 400, 3) := by decide +kernel
theorem dX9_init_5 : decode cX9_init 5 = .ok (.newarray .long, 2) := by decide +kernel
theorem dX9_init_7 : decode cX9_init 7 = .ok (.invokespecial 3, 3) := by decide +kernel
theorem dX9_init_10 : decode cX9_init 10 = .ok (.aload_n 0, 1) := by decide +kernel
theorem dX9_init_11 : decode cX9_init 11 = .ok (.aload_n 2, 1) := by decide +kernel
theorem dX9_init_12 : decode cX9_init 12 = .ok (.putfield 9, 3) := by decide +kernel
theorem dX9_init_15 : decode cX9_init 15 = .ok (.aload_n 0, 1) := by decide +kernel
theorem dX9_init_16 : decode cX9_init 16 = .ok (.sipush 400, 3) := by decide +kernel
theorem dX9_init_19 : decode cX9_init 19 = .ok (.newarray .int, 2) := by decide +kernel
theorem dX9_init_21 : decode cX9_init 21 = .ok (.putfield 15, 3) := by decide +kernel
theorem dX9_init_24 : decode cX9_init 24 = .ok (.return_, 1) := by decide +kernel
theorem dX10_init_0 : decode cX10_init 0 = .ok (.aload_n 0, 1) := by decide +kernel
theorem dX10_init_1 : decode cX10_init 1 = .ok (.aload_n 1, 1) := by decide +kernel
theorem dX10_init_2 : decode cX10_init 2 = .ok (.iconst 0, 1) := by decide +kernel
theorem dX10_init_3 : decode cX10_init 3 = .ok (.newarray .long, 2) := by decide +kernel
theorem dX10_init_5 : decode cX10_init 5 = .ok (.invokespecial 3, 3) := by decide +kernel
theorem dX10_init_8 : decode cX10_init 8 = .ok (.aload_n 0, 1) := by decide +kernel
theorem dX10_init_9 : decode cX10_init 9 = .ok (.aload_n 2, 1) := by decide +kernel
theorem dX10_init_10 : decode cX10_init 10 = .ok (.putfield 9, 3) := by decide +kernel
theorem dX10_init_13 : decode cX10_init 13 = .ok (.aload_n 0, 1) := by decide +kernel
theorem dX10_init_14 : decode cX10_init 14 = .ok (.iload_n 3, 1) := by decide +kernel
theorem dX10_init_15 : decode cX10_init 15 = .ok (.putfield 15, 3) := by decide +kernel
theorem dX10_init_18 : decode cX10_init 18 = .ok (.aload_n 0, 1) := by decide +kernel
theorem dX10_init_19 : decode cX10_init 19 = .ok (.lload 4, 2) := by decide +kernel
theorem dX10_init_21 : decode cX10_init 21 = .ok (.putfield 19, 3) := by decide +kernel
theorem dX10_init_24 : decode cX10_init 24 = .ok (.aload_n 0, 1) := by decide +kernel
theorem dX10_init_25 : decode cX10_init 25 = .ok (.sipush 400, 3) := by decide +kernel
theorem dX10_init_28 : decode cX10_init 28 = .ok (.newarray .int, 2) := by decide +kernel
theorem dX10_init_30 : decode cX10_init 30 = .ok (.putfield 23, 3) := by decide +kernel
theorem dX10_init_33 : decode cX10_init 33 = .ok (.return_, 1) := by decide +kernel
abbrev wmX3_init : List Cond := .code yX3_init cX3_init 5 none :: WC
theorem hd_X3_init : yX3_init.cls ≠ "java/lang/invoke/MethodHandle" ∧ yX3_init.cls ≠ "java/lang/invoke/VarHandle" ∧ (parseMethodDescriptor yX3_init.desc).map (fun d => d.parameters.length) = some 4 := by decide +kernel
def P_X3_init (sh : Sh) (ci : Nat → Nat → Int32) (ai : Nat → Nat → Int32) (al : Nat → Nat → Int64) (q : Nat) (p0 : Nat) (p1 : Nat) (p2 : Nat) (p3 : Int32) (Q : Sh → (Nat → Nat → Int32) → (Nat → Nat → Int32) → (Nat → Nat → Int64) → Prop) : Prop := (q ∈ sL sh ∧ sK sh q = 3) ∧ P_X5_init sh ci ai al q p0 p1 (fun sh1 ci1 ai1 al1 => (q ∈ sL sh1 ∧ sK sh1 q = 3) ∧ ∀ sh4 : Sh, sh4 = shR sh1 q 5 (some p2) → (q ∈ sL sh4 ∧ sK sh4 q = 3) ∧ Q sh4 (va_up ci1 q (va_up (ci1 q) 6 p3)) ai1 al1)
set_option maxHeartbeats 4000000 in
set_option maxRecDepth 100000 in
theorem p_X3_init (l : Launch) (dC : Nat → ClassId) (dI : Nat → Nat → Nat) (sh : Sh) (ci : Nat → Nat → Int32) (ai : Nat → Nat → Int32) (al : Nat → Nat → Int64) (q : Nat) (p0 : Nat) (p1 : Nat) (p2 : Nat) (p3 : Int32) (Q : Sh → (Nat → Nat → Int32) → (Nat → Nat → Int32) → (Nat → Nat → Int64) → Prop) (h : P_X3_init sh ci ai al q p0 p1 p2 p3 Q) (sz : Nat) : Met l yX3_init wmX3_init ({ frames := 30, cells := 1, slots := 400, locals := 400 }) (va_Pc [.ref q, .ref p0, .ref p1, .ref p2, .int p3] (cPre dC dI sh ci ai al sz)) (va_Qv (S := XSt) (xV Q) (xB dC dI (va_A (cW sh ci ai al) sz)) (va_A (cW sh ci ai al) sz)) 1 400 (va_A (cW sh ci ai al) sz) := by
  refine Met.ofW (cc := cX3_init) (maxL := 5) (ret := none) (by decide) rfl ?_
  intro p e s m args below meth c s₁ B hml hv
  obtain ⟨rfl, hsz, hP, hK, hD0, hG⟩ := hv
  have hx := B.exec
  have hb := B.bytes
  have hr := B.returns
  have hts : ∀ w ∈ WC, w.before _ s = true := fun w h => atoms_spec (ws := wmX3_init) B.pre w (List.mem_cons_of_mem _ h)
  have hown : s.vm.findClass RX3 = some m.cls := findClass_of_methodNamed B.named
  have hlocks := B.notSynchronized
  have hin : meth.name = "<init>" := (name_of_methodNamed B.named B.method).1
  subst hsz
  have hD := hD0.self (sz := s.heap.size)
  generalize hAe : va_A (cW sh ci ai al) s.heap.size = A at hD ⊢
  have hA : ∀ q : Nat, s.heap.size ≤ q → A q := fun q h => by rw [← hAe]; exact Or.inr h
  generalize hH : s.heap = H at hP ⊢
  have hS : va_S A s.heap H [] := by rw [← hH]; exact va_S.rf
  have hl := lv_entry [.ref q, .ref p0, .ref p1, .ref p2, .int p3] (n := 5) (Nat.le_of_ble_eq_true rfl)
  rw [lg_entry_eq]
  generalize (lg_sl [.ref q, .ref p0, .ref p1, .ref p2, .int p3] ++ List.replicate (5 - (lg_sl [.ref q, .ref p0, .ref p1, .ref p2, .int p3]).length) Slot.unset).toArray = ls at hl ⊢
  have hl : lv_has ls 5 [(0, .ref q), (1, .ref p0), (2, .ref p1), (3, .ref p2), (4, .int p3)] := hl
  unfold P_X3_init at h
  obtain ⟨⟨hq, hk⟩, h⟩ := h
  refine lv_aload_n hx hb dX3_init_0 rfl (lv_at hl 0 rfl) ?_
  refine lv_aload_n hx hb dX3_init_1 rfl (lv_at hl 1 rfl) ?_
  refine lv_aload_n hx hb dX3_init_2 rfl (lv_at hl 2 rfl) ?_
  refine xn_endv (va_runI (rm := ({ frames := 12, cells := 1, slots := 400, locals := 200 })) (As := [.ref p0, .ref p1]) (rest := []) ⟨hx, hb, hml, hown, hts⟩ (p_X5_init l dC dI _ _ _ _ q p0 p1 _ h H.size) (cwI 2 hts (g_C gdC mwC_353) rfl rfl rfl (hts _ mwC_22) (hts _ mwC_358) (hts _ mwC_355) rfl hd_X5_init ⟨Nat.le_of_ble_eq_true rfl, Nat.le_of_ble_eq_true rfl⟩) (c_preS hK hP hD hG) rfl rfl hl.1 rfl (lv_room (Nat.le_of_ble_eq_true rfl)) dX3_init_3 ⟨Nat.le_of_ble_eq_true rfl, Nat.le_of_ble_eq_true rfl⟩) hD hS hA (fun sh1 ci1 ai1 al1 H locs h hK hP hD hS => ?_)
  refine lv_aload_n hx hb dX3_init_6 rfl (lv_at hl 0 rfl) ?_
  refine lv_aload_n hx hb dX3_init_7 rfl (lv_at hl 3 rfl) ?_
  obtain ⟨⟨hm2, hk3⟩, h⟩ := h
  refine x_putR (r := some p2) (C := RX3) (T := TX3) (N := 7) (K := 3) hx hb hts hinX3 tyX3 tyX3_ok nmX3 hown hK hP hD hS hm2 hk3 (by decide) rfl 5 (by decide) (hts _ mwC_201) (fun _ h9 => h9) rfl hin rfl (ty := (.array .byte)) (by decide +kernel) rfl rfl (Nat.le_of_ble_eq_true rfl) rfl dX3_init_8 (fun sh4 H locs es5 hK hP hD hS => ?_)
  have h := h sh4 es5
  refine lv_aload_n hx hb dX3_init_11 rfl (lv_at hl 0 rfl) ?_
  refine lv_iload hx hb dX3_init_12 (lv_at hl 4 rfl) ?_
  obtain ⟨⟨hm6, hk7⟩, h⟩ := h
  refine x_putI (z := p3) (C := RX3) (T := TX3) (N := 7) (K := 3) hx hb hts hinX3 tyX3 tyX3_ok nmX3 hown hK hP hD hS hm6 hk7 (by decide) rfl 6 (by decide) (hts _ mwC_202) (fun _ h9 => h9) rfl hin rfl (ty := .int) (by decide +kernel) rfl rfl (Nat.le_of_ble_eq_true rfl) rfl dX3_init_14 (fun H locs hP hD hS => ?_)
  refine W.widen (k := 1) (n := 400) (by decide) (by decide) ?_
  exact W.vret hx hb hr (fun t ht hW => ⟨⟨(sh4, va_up ci1 q (va_up (ci1 q) 6 p3), ai1, al1), rfl, h, by rw [ht]; exact hP, cK.moved hW.alike hK, hD⟩, hS.F ht⟩) hS.2.2 dX3_init_17
abbrev wmX4_init : List Cond := .code yX4_init cX4_init 4 none :: WC
theorem hd_X4_init : yX4_init.cls ≠ "java/lang/invoke/MethodHandle" ∧ yX4_init.cls ≠ "java/lang/invoke/VarHandle" ∧ (parseMethodDescriptor yX4_init.desc).map (fun d => d.parameters.length) = some 3 := by decide +kernel
def P_X4_init (sh : Sh) (ci : Nat → Nat → Int32) (ai : Nat → Nat → Int32) (al : Nat → Nat → Int64) (q : Nat) (p0 : Nat) (p1 : Nat) (p2 : Nat) (Q : Sh → (Nat → Nat → Int32) → (Nat → Nat → Int32) → (Nat → Nat → Int64) → Prop) : Prop := (q ∈ sL sh ∧ sK sh q = 4) ∧ ∀ (q1 : Nat) (cA1 : ClassId) (sh2 : Sh), q1 ∉ sL sh → sh2 = shN sh q1 22 (0 : Int32).toNatClampNeg cA1 → (q ∈ sL sh2 ∧ isZ (sK sh2 q)) ∧ P_X5_init sh2 ci ai (va_up al q1 (fun _ => 0)) q p0 q1 (fun sh7 ci7 ai7 al7 => (q ∈ sL sh7 ∧ sK sh7 q = 4) ∧ ∀ sh10 : Sh, sh10 = shR sh7 q 5 (some p1) → (q ∈ sL sh10 ∧ sK sh10 q = 4) ∧ ∀ sh14 : Sh, sh14 = shR sh10 q 6 (some p2) → Q sh14 ci7 ai7 al7)
set_option maxHeartbeats 4000000 in
set_option maxRecDepth 100000 in
theorem p_X4_init (l : Launch) (dC : Nat → ClassId) (dI : Nat → Nat → Nat) (sh : Sh) (ci : Nat → Nat → Int32) (ai : Nat → Nat → Int32) (al : Nat → Nat → Int64) (q : Nat) (p0 : Nat) (p1 : Nat) (p2 : Nat) (Q : Sh → (Nat → Nat → Int32) → (Nat → Nat → Int32) → (Nat → Nat → Int64) → Prop) (h : P_X4_init sh ci ai al q p0 p1 p2 Q) (sz : Nat) : Met l yX4_init wmX4_init ({ frames := 30, cells := 2, slots := 800, locals := 400 }) (va_Pc [.ref q, .ref p0, .ref p1, .ref p2] (cPre dC dI sh ci ai al sz)) (va_Qv (S := XSt) (xV Q) (xB dC dI (va_A (cW sh ci ai al) sz)) (va_A (cW sh ci ai al) sz)) 2 800 (va_A (cW sh ci ai al) sz) := by
  refine Met.ofW (cc := cX4_init) (maxL := 4) (ret := none) (by decide) rfl ?_
  intro p e s m args below meth c s₁ B hml hv
  obtain ⟨rfl, hsz, hP, hK, hD0, hG⟩ := hv
  have hx := B.exec
  have hb := B.bytes
  have hr := B.returns
  have hts : ∀ w ∈ WC, w.before _ s = true := fun w h => atoms_spec (ws := wmX4_init) B.pre w (List.mem_cons_of_mem _ h)
  have hown : s.vm.findClass RX4 = some m.cls := findClass_of_methodNamed B.named
  have hlocks := B.notSynchronized
  have hin : meth.name = "<init>" := (name_of_methodNamed B.named B.method).1
  subst hsz
  have hD := hD0.self (sz := s.heap.size)
  generalize hAe : va_A (cW sh ci ai al) s.heap.size = A at hD ⊢
  have hA : ∀ q : Nat, s.heap.size ≤ q → A q := fun q h => by rw [← hAe]; exact Or.inr h
  generalize hH : s.heap = H at hP ⊢
  have hS : va_S A s.heap H [] := by rw [← hH]; exact va_S.rf
  have hl := lv_entry [.ref q, .ref p0, .ref p1, .ref p2] (n := 4) (Nat.le_of_ble_eq_true rfl)
  rw [lg_entry_eq]
  generalize (lg_sl [.ref q, .ref p0, .ref p1, .ref p2] ++ List.replicate (4 - (lg_sl [.ref q, .ref p0, .ref p1, .ref p2]).length) Slot.unset).toArray = ls at hl ⊢
  have hl : lv_has ls 4 [(0, .ref q), (1, .ref p0), (2, .ref p1), (3, .ref p2)] := hl
  unfold P_X4_init at h
  obtain ⟨⟨hq, hk⟩, h⟩ := h
  refine lv_aload_n hx hb dX4_init_0 rfl (lv_at hl 0 rfl) ?_
  refine lv_aload_n hx hb dX4_init_1 rfl (lv_at hl 1 rfl) ?_
  refine lv_iconst (v := 0) hx hb dX4_init_2 (by decide) ?_
  refine x_newl (n := (0 : Int32)) hx hb (hts _ mwC_332) hK hP hD hS hA (by decide) (by decide) (Nat.le_of_ble_eq_true rfl) (Nat.le_of_ble_eq_true rfl) dX4_init_3 (fun q1 cA1 sh2 H hn4 es3 hK hP hD hS => ?_)
  have h := h q1 cA1 sh2 hn4 es3
  obtain ⟨⟨hm5, hk6⟩, h⟩ := h
  refine xn_endv (va_runI (rm := ({ frames := 12, cells := 1, slots := 400, locals := 200 })) (As := [.ref p0, .ref q1]) (rest := []) ⟨hx, hb, hml, hown, hts⟩ (p_X5_init l dC dI _ _ _ _ q p0 q1 _ h H.size) (cwI 2 hts (g_C gdC mwC_353) rfl rfl rfl (hts _ mwC_22) (hts _ mwC_359) (hts _ mwC_355) rfl hd_X5_init ⟨Nat.le_of_ble_eq_true rfl, Nat.le_of_ble_eq_true rfl⟩) (c_preS hK hP hD hG) rfl rfl hl.1 rfl (lv_room (Nat.le_of_ble_eq_true rfl)) dX4_init_5 ⟨Nat.le_of_ble_eq_true rfl, Nat.le_of_ble_eq_true rfl⟩) hD hS hA (fun sh7 ci7 ai7 al7 H locs h hK hP hD hS => ?_)
  refine lv_aload_n hx hb dX4_init_8 rfl (lv_at hl 0 rfl) ?_
  refine lv_aload_n hx hb dX4_init_9 rfl (lv_at hl 2 rfl) ?_
  obtain ⟨⟨hm8, hk9⟩, h⟩ := h
  refine x_putR (r := some p1) (C := RX4) (T := TX4) (N := 7) (K := 4) hx hb hts hinX4 tyX4 tyX4_ok nmX4 hown hK hP hD hS hm8 hk9 (by decide) rfl 5 (by decide) (hts _ mwC_18) (fun _ h9 => h9) rfl hin rfl (ty := (.object "NeededLists$LazyList")) (by decide +kernel) rfl rfl (Nat.le_of_ble_eq_true rfl) rfl dX4_init_10 (fun sh10 H locs es11 hK hP hD hS => ?_)
  have h := h sh10 es11
  refine lv_aload_n hx hb dX4_init_13 rfl (lv_at hl 0 rfl) ?_
  refine lv_aload_n hx hb dX4_init_14 rfl (lv_at hl 3 rfl) ?_
  obtain ⟨⟨hm12, hk13⟩, h⟩ := h
  refine x_putR (r := some p2) (C := RX4) (T := TX4) (N := 7) (K := 4) hx hb hts hinX4 tyX4 tyX4_ok nmX4 hown hK hP hD hS hm12 hk13 (by decide) rfl 6 (by decide) (hts _ mwC_33) (fun _ h9 => h9) rfl hin rfl (ty := (.object "NeededLists$LazyList")) (by decide +kernel) rfl rfl (Nat.le_of_ble_eq_true rfl) rfl dX4_init_15 (fun sh14 H locs es15 hK hP hD hS => ?_)
  have h := h sh14 es15
  refine W.widen (k := 2) (n := 800) (by decide) (by decide) ?_
  exact W.vret hx hb hr (fun t ht hW => ⟨⟨(sh14, ci7, ai7, al7), rfl, h, by rw [ht]; exact hP, cK.moved hW.alike hK, hD⟩, hS.F ht⟩) hS.2.2 dX4_init_18
abbrev wmX7_init : List Cond := .code yX7_init cX7_init 4 none :: WC
theorem hd_X7_init : yX7_init.cls ≠ "java/lang/invoke/MethodHandle" ∧ yX7_init.cls ≠ "java/lang/invoke/VarHandle" ∧ (parseMethodDescriptor yX7_init.desc).map (fun d => d.parameters.length) = some 3 := by decide +kernel
def P_X7_init (sh : Sh) (ci : Nat → Nat → Int32) (ai : Nat → Nat → Int32) (al : Nat → Nat → Int64) (q : Nat) (p0 : Nat) (p1 : Nat) (p2 : Int32) (Q : Sh → (Nat → Nat → Int32) → (Nat → Nat → Int32) → (Nat → Nat → Int64) → Prop) : Prop := (q ∈ sL sh ∧ sK sh q = 6) ∧ ∀ (q1 : Nat) (cA1 : ClassId) (sh2 : Sh), q1 ∉ sL sh → sh2 = shN sh q1 22 (0 : Int32).toNatClampNeg cA1 → (q ∈ sL sh2 ∧ isZ (sK sh2 q)) ∧ P_X5_init sh2 ci ai (va_up al q1 (fun _ => 0)) q p0 q1 (fun sh7 ci7 ai7 al7 => (q ∈ sL sh7 ∧ sK sh7 q = 6) ∧ ∀ sh10 : Sh, sh10 = shR sh7 q 5 (some p1) → ((p2 = 0) → ((q ∈ sL sh10 ∧ sK sh10 q = 6) ∧ ∀ sh14 : Sh, sh14 = shR sh10 q 6 (none) → Q sh14 ci7 ai7 al7)) ∧ ((¬ p2 = 0) → (∀ (q16 : Nat) (cA16 : ClassId) (sh17 : Sh), q16 ∉ sL sh10 → sh17 = shN sh10 q16 20 (400 : Int32).toNatClampNeg cA16 → (q ∈ sL sh17 ∧ sK sh17 q = 6) ∧ ∀ sh22 : Sh, sh22 = shR sh17 q 6 (some q16) → Q sh22 ci7 (va_up ai7 q16 (fun _ => 0)) al7)))
set_option maxHeartbeats 4000000 in
set_option maxRecDepth 100000 in
theorem p_X7_init (l : Launch) (dC : Nat → ClassId) (dI : Nat → Nat → Nat) (sh : Sh) (ci : Nat → Nat → Int32) (ai : Nat → Nat → Int32) (al : Nat → Nat → Int64) (q : Nat) (p0 : Nat) (p1 : Nat) (p2 : Int32) (Q : Sh → (Nat → Nat → Int32) → (Nat → Nat → Int32) → (Nat → Nat → Int64) → Prop) (h : P_X7_init sh ci ai al q p0 p1 p2 Q) (sz : Nat) : Met l yX7_init wmX7_init ({ frames := 30, cells := 3, slots := 1200, locals := 400 }) (va_Pc [.ref q, .ref p0, .ref p1, .int p2] (cPre dC dI sh ci ai al sz)) (va_Qv (S := XSt) (xV Q) (xB dC dI (va_A (cW sh ci ai al) sz)) (va_A (cW sh ci ai al) sz)) 3 1200 (va_A (cW sh ci ai al) sz) := by
  refine Met.ofW (cc := cX7_init) (maxL := 4) (ret := none) (by decide) rfl ?_
  intro p e s m args below meth c s₁ B hml hv
  obtain ⟨rfl, hsz, hP, hK, hD0, hG⟩ := hv
  have hx := B.exec
  have hb := B.bytes
  have hr := B.returns
  have hts : ∀ w ∈ WC, w.before _ s = true := fun w h => atoms_spec (ws := wmX7_init) B.pre w (List.mem_cons_of_mem _ h)
  have hown : s.vm.findClass RX7 = some m.cls := findClass_of_methodNamed B.named
  have hlocks := B.notSynchronized
  have hin : meth.name = "<init>" := (name_of_methodNamed B.named B.method).1
  subst hsz
  have hD := hD0.self (sz := s.heap.size)
  generalize hAe : va_A (cW sh ci ai al) s.heap.size = A at hD ⊢
  have hA : ∀ q : Nat, s.heap.size ≤ q → A q := fun q h => by rw [← hAe]; exact Or.inr h
  generalize hH : s.heap = H at hP ⊢
  have hS : va_S A s.heap H [] := by rw [← hH]; exact va_S.rf
  have hl := lv_entry [.ref q, .ref p0, .ref p1, .int p2] (n := 4) (Nat.le_of_ble_eq_true rfl)
  rw [lg_entry_eq]
  generalize (lg_sl [.ref q, .ref p0, .ref p1, .int p2] ++ List.replicate (4 - (lg_sl [.ref q, .ref p0, .ref p1, .int p2]).length) Slot.unset).toArray = ls at hl ⊢
  have hl : lv_has ls 4 [(0, .ref q), (1, .ref p0), (2, .ref p1), (3, .int p2)] := hl
  unfold P_X7_init at h
  obtain ⟨⟨hq, hk⟩, h⟩ := h
  refine lv_aload_n hx hb dX7_init_0 rfl (lv_at hl 0 rfl) ?_
  refine lv_aload_n hx hb dX7_init_1 rfl (lv_at hl 1 rfl) ?_
  refine lv_iconst (v := 0) hx hb dX7_init_2 (by decide) ?_
  refine x_newl (n := (0 : Int32)) hx hb (hts _ mwC_332) hK hP hD hS hA (by decide) (by decide) (Nat.le_of_ble_eq_true rfl) (Nat.le_of_ble_eq_true rfl) dX7_init_3 (fun q1 cA1 sh2 H hn4 es3 hK hP hD hS => ?_)
  have h := h q1 cA1 sh2 hn4 es3
  obtain ⟨⟨hm5, hk6⟩, h⟩ := h
  refine xn_endv (va_runI (rm := ({ frames := 12, cells := 1, slots := 400, locals := 200 })) (As := [.ref p0, .ref q1]) (rest := []) ⟨hx, hb, hml, hown, hts⟩ (p_X5_init l dC dI _ _ _ _ q p0 q1 _ h H.size) (cwI 2 hts (g_C gdC mwC_353) rfl rfl rfl (hts _ mwC_22) (hts _ mwC_360) (hts _ mwC_355) rfl hd_X5_init ⟨Nat.le_of_ble_eq_true rfl, Nat.le_of_ble_eq_true rfl⟩) (c_preS hK hP hD hG) rfl rfl hl.1 rfl (lv_room (Nat.le_of_ble_eq_true rfl)) dX7_init_5 ⟨Nat.le_of_ble_eq_true rfl, Nat.le_of_ble_eq_true rfl⟩) hD hS hA (fun sh7 ci7 ai7 al7 H locs h hK hP hD hS => ?_)
  refine lv_aload_n hx hb dX7_init_8 rfl (lv_at hl 0 rfl) ?_
  refine lv_aload_n hx hb dX7_init_9 rfl (lv_at hl 2 rfl) ?_
  obtain ⟨⟨hm8, hk9⟩, h⟩ := h
  refine x_putR (r := some p1) (C := RX7) (T := TX7) (N := 7) (K := 6) hx hb hts hinX7 tyX7 tyX7_ok nmX7 hown hK hP hD hS hm8 hk9 (by decide) rfl 5 (by decide) (hts _ mwC_34) (fun _ h9 => h9) rfl hin rfl (ty := (.object "NeededLists$LazyList")) (by decide +kernel) rfl rfl (Nat.le_of_ble_eq_true rfl) rfl dX7_init_10 (fun sh10 H locs es11 hK hP hD hS => ?_)
  have h := h sh10 es11
  refine lv_aload_n hx hb dX7_init_13 rfl (lv_at hl 0 rfl) ?_
  refine lv_iload_n hx hb dX7_init_14 rfl (lv_at hl 3 rfl) ?_
  refine lv_if_eq (tgt := 26) hx hb dX7_init_15 (by decide) (fun c_15 => ?_) (fun c_15 => ?_)
  · have h := h.1 c_15
    refine lv_null hx hb dX7_init_26 ?_
    obtain ⟨⟨hm12, hk13⟩, h⟩ := h
    refine x_putR (r := none) (C := RX7) (T := TX7) (N := 7) (K := 6) hx hb hts hinX7 tyX7 tyX7_ok nmX7 hown hK hP hD hS hm12 hk13 (by decide) rfl 6 (by decide) (hts _ mwC_37) (fun _ h9 => h9) rfl hin rfl (ty := (.array .int)) (by decide +kernel) rfl rfl (Nat.le_of_ble_eq_true rfl) rfl dX7_init_27 (fun sh14 H locs es15 hK hP hD hS => ?_)
    have h := h sh14 es15
    refine W.widen (k := 3) (n := 1200) (by decide) (by decide) ?_
    exact W.vret hx hb hr (fun t ht hW => ⟨⟨(sh14, ci7, ai7, al7), rfl, h, by rw [ht]; exact hP, cK.moved hW.alike hK, hD⟩, hS.F ht⟩) hS.2.2 dX7_init_30
  · have h := h.2 c_15
    refine lv_sipush (v := 400) hx hb dX7_init_18 (by decide) ?_
    refine x_newi (n := (400 : Int32)) hx hb (hts _ mwC_361) hK hP hD hS hA (by decide) (by decide) (Nat.le_of_ble_eq_true rfl) (Nat.le_of_ble_eq_true rfl) dX7_init_21 (fun q16 cA16 sh17 H hn19 es18 hK hP hD hS => ?_)
    have h := h q16 cA16 sh17 hn19 es18
    refine lv_goto (tgt := 27) hx hb dX7_init_23 (by decide) ?_
    obtain ⟨⟨hm20, hk21⟩, h⟩ := h
    refine x_putR (r := some q16) (C := RX7) (T := TX7) (N := 7) (K := 6) hx hb hts hinX7 tyX7 tyX7_ok nmX7 hown hK hP hD hS hm20 hk21 (by decide) rfl 6 (by decide) (hts _ mwC_37) (fun _ h9 => h9) rfl hin rfl (ty := (.array .int)) (by decide +kernel) rfl rfl (Nat.le_of_ble_eq_true rfl) rfl dX7_init_27 (fun sh22 H locs es23 hK hP hD hS => ?_)
    have h := h sh22 es23
    refine W.widen (k := 3) (n := 1200) (by decide) (by decide) ?_
    exact W.vret hx hb hr (fun t ht hW => ⟨⟨(sh22, ci7, va_up ai7 q16 (fun _ => 0), al7), rfl, h, by rw [ht]; exact hP, cK.moved hW.alike hK, hD⟩, hS.F ht⟩) hS.2.2 dX7_init_30
abbrev wmX8_init : List Cond := .code yX8_init cX8_init 7 none :: WC
theorem hd_X8_init : yX8_init.cls ≠ "java/lang/invoke/MethodHandle" ∧ yX8_init.cls ≠ "java/lang/invoke/VarHandle" ∧ (parseMethodDescriptor yX8_init.desc).map (fun d => d.parameters.length) = some 5 := by decide +kernel
def P_X8_init (sh : Sh) (ci : Nat → Nat → Int32) (ai : Nat → Nat → Int32) (al : Nat → Nat → Int64) (q : Nat) (p0 : Nat) (p1 : Nat) (p2 : Int32) (p3 : Int32) (p4 : Int64) (Q : Sh → (Nat → Nat → Int32) → (Nat → Nat → Int32) → (Nat → Nat → Int64) → Prop) : Prop := (q ∈ sL sh ∧ sK sh q = 7) ∧ ∀ (q1 : Nat) (cA1 : ClassId) (sh2 : Sh), q1 ∉ sL sh → sh2 = shN sh q1 22 (0 : Int32).toNatClampNeg cA1 → (q ∈ sL sh2 ∧ isZ (sK sh2 q)) ∧ P_X5_init sh2 ci ai (va_up al q1 (fun _ => 0)) q p0 q1 (fun sh7 ci7 ai7 al7 => (q ∈ sL sh7 ∧ sK sh7 q = 7) ∧ ∀ sh10 : Sh, sh10 = shR sh7 q 5 (some p1) → (q ∈ sL sh10 ∧ sK sh10 q = 7) ∧ ∀ sh16 : Sh, sh16 = shJ sh10 q 7 p4 → Q sh16 (va_up (va_up ci7 q (va_up (ci7 q) 8 p2)) q (va_up ((va_up ci7 q (va_up (ci7 q) 8 p2)) q) 6 p3)) ai7 al7)
set_option maxHeartbeats 4000000 in
set_option maxRecDepth 100000 in
theorem p_X8_init (l : Launch) (dC : Nat → ClassId) (dI : Nat → Nat → Nat) (sh : Sh) (ci : Nat → Nat → Int32) (ai : Nat → Nat → Int32) (al : Nat → Nat → Int64) (q : Nat) (p0 : Nat) (p1 : Nat) (p2 : Int32) (p3 : Int32) (p4 : Int64) (Q : Sh → (Nat → Nat → Int32) → (Nat → Nat → Int32) → (Nat → Nat → Int64) → Prop) (h : P_X8_init sh ci ai al q p0 p1 p2 p3 p4 Q) (sz : Nat) : Met l yX8_init wmX8_init ({ frames := 30, cells := 2, slots := 800, locals := 400 }) (va_Pc [.ref q, .ref p0, .ref p1, .int p2, .int p3, .long p4] (cPre dC dI sh ci ai al sz)) (va_Qv (S := XSt) (xV Q) (xB dC dI (va_A (cW sh ci ai al) sz)) (va_A (cW sh ci ai al) sz)) 2 800 (va_A (cW sh ci ai al) sz) := by
  refine Met.ofW (cc := cX8_init) (maxL := 7) (ret := none) (by decide) rfl ?_
  intro p e s m args below meth c s₁ B hml hv
  obtain ⟨rfl, hsz, hP, hK, hD0, hG⟩ := hv
  have hx := B.exec
  have hb := B.bytes
  have hr := B.returns
  have hts : ∀ w ∈ WC, w.before _ s = true := fun w h => atoms_spec (ws := wmX8_init) B.pre w (List.mem_cons_of_mem _ h)
  have hown : s.vm.findClass RX8 = some m.cls := findClass_of_methodNamed B.named
  have hlocks := B.notSynchronized
  have hin : meth.name = "<init>" := (name_of_methodNamed B.named B.method).1
  subst hsz
  have hD := hD0.self (sz := s.heap.size)
  generalize hAe : va_A (cW sh ci ai al) s.heap.size = A at hD ⊢
  have hA : ∀ q : Nat, s.heap.size ≤ q → A q := fun q h => by rw [← hAe]; exact Or.inr h
  generalize hH : s.heap = H at hP ⊢
  have hS : va_S A s.heap H [] := by rw [← hH]; exact va_S.rf
  have hl := lv_entry [.ref q, .ref p0, .ref p1, .int p2, .int p3, .long p4] (n := 7) (Nat.le_of_ble_eq_true rfl)
  rw [lg_entry_eq]
  generalize (lg_sl [.ref q, .ref p0, .ref p1, .int p2, .int p3, .long p4] ++ List.replicate (7 - (lg_sl [.ref q, .ref p0, .ref p1, .int p2, .int p3, .long p4]).length) Slot.unset).toArray = ls at hl ⊢
  have hl : lv_has ls 7 [(0, .ref q), (1, .ref p0), (2, .ref p1), (3, .int p2), (4, .int p3), (5, .long p4)] := hl
  unfold P_X8_init at h
  obtain ⟨⟨hq, hk⟩, h⟩ := h
  refine lv_aload_n hx hb dX8_init_0 rfl (lv_at hl 0 rfl) ?_
  refine lv_aload_n hx hb dX8_init_1 rfl (lv_at hl 1 rfl) ?_
  refine lv_iconst (v := 0) hx hb dX8_init_2 (by decide) ?_
  refine x_newl (n := (0 : Int32)) hx hb (hts _ mwC_332) hK hP hD hS hA (by decide) (by decide) (Nat.le_of_ble_eq_true rfl) (Nat.le_of_ble_eq_true rfl) dX8_init_3 (fun q1 cA1 sh2 H hn4 es3 hK hP hD hS => ?_)
  have h := h q1 cA1 sh2 hn4 es3
  obtain ⟨⟨hm5, hk6⟩, h⟩ := h
  refine xn_endv (va_runI (rm := ({ frames := 12, cells := 1, slots := 400, locals := 200 })) (As := [.ref p0, .ref q1]) (rest := []) ⟨hx, hb, hml, hown, hts⟩ (p_X5_init l dC dI _ _ _ _ q p0 q1 _ h H.size) (cwI 2 hts (g_C gdC mwC_353) rfl rfl rfl (hts _ mwC_22) (hts _ mwC_362) (hts _ mwC_355) rfl hd_X5_init ⟨Nat.le_of_ble_eq_true rfl, Nat.le_of_ble_eq_true rfl⟩) (c_preS hK hP hD hG) rfl rfl hl.1 rfl (lv_room (Nat.le_of_ble_eq_true rfl)) dX8_init_5 ⟨Nat.le_of_ble_eq_true rfl, Nat.le_of_ble_eq_true rfl⟩) hD hS hA (fun sh7 ci7 ai7 al7 H locs h hK hP hD hS => ?_)
  refine lv_aload_n hx hb dX8_init_8 rfl (lv_at hl 0 rfl) ?_
  refine lv_aload_n hx hb dX8_init_9 rfl (lv_at hl 2 rfl) ?_
  obtain ⟨⟨hm8, hk9⟩, h⟩ := h
  refine x_putR (r := some p1) (C := RX8) (T := TX8) (N := 9) (K := 7) hx hb hts hinX8 tyX8 tyX8_ok nmX8 hown hK hP hD hS hm8 hk9 (by decide) rfl 5 (by decide) (hts _ mwC_35) (fun _ h9 => h9) rfl hin rfl (ty := (.object "NeededLists$LazyList")) (by decide +kernel) rfl rfl (Nat.le_of_ble_eq_true rfl) rfl dX8_init_10 (fun sh10 H locs es11 hK hP hD hS => ?_)
  have h := h sh10 es11
  refine lv_aload_n hx hb dX8_init_13 rfl (lv_at hl 0 rfl) ?_
  refine lv_iload_n hx hb dX8_init_14 rfl (lv_at hl 3 rfl) ?_
  obtain ⟨⟨hm12, hk13⟩, h⟩ := h
  refine c_put (C := RX8) (T := TX8) (N := 9) (K := 7) hx hb hts hinX8 tyX8 tyX8_ok nmX8 hown hK hP hD hS hm12 hk13 (by decide) rfl 8 (by decide) (hts _ mwC_39) (fun _ h9 => h9) rfl (by decide +kernel) (Nat.le_of_ble_eq_true rfl) rfl dX8_init_15 (fun H locs hP hD hS => ?_)
  refine lv_aload_n hx hb dX8_init_18 rfl (lv_at hl 0 rfl) ?_
  refine lv_iload hx hb dX8_init_19 (lv_at hl 4 rfl) ?_
  refine x_putI (z := p3) (C := RX8) (T := TX8) (N := 9) (K := 7) hx hb hts hinX8 tyX8 tyX8_ok nmX8 hown hK hP hD hS hm12 hk13 (by decide) rfl 6 (by decide) (hts _ mwC_171) (fun _ h9 => h9) rfl hin rfl (ty := .int) (by decide +kernel) rfl rfl (Nat.le_of_ble_eq_true rfl) rfl dX8_init_21 (fun H locs hP hD hS => ?_)
  refine lv_aload_n hx hb dX8_init_24 rfl (lv_at hl 0 rfl) ?_
  refine lv_lload hx hb dX8_init_25 (lv_at hl 5 rfl) ?_
  refine x_putJ (z := p4) (C := RX8) (T := TX8) (N := 9) (K := 7) hx hb hts hinX8 tyX8 tyX8_ok nmX8 hown hK hP hD hS hm12 hk13 (by decide) rfl 7 (by decide) (hts _ mwC_173) (fun _ h9 => h9) rfl hin rfl (ty := .long) (by decide +kernel) rfl rfl (Nat.le_of_ble_eq_true rfl) rfl dX8_init_27 (fun sh16 H locs es17 hK hP hD hS => ?_)
  have h := h sh16 es17
  refine W.widen (k := 2) (n := 800) (by decide) (by decide) ?_
  exact W.vret hx hb hr (fun t ht hW => ⟨⟨(sh16, va_up (va_up ci7 q (va_up (ci7 q) 8 p2)) q (va_up ((va_up ci7 q (va_up (ci7 q) 8 p2)) q) 6 p3), ai7, al7), rfl, h, by rw [ht]; exact hP, cK.moved hW.alike hK, hD⟩, hS.F ht⟩) hS.2.2 dX8_init_30
abbrev wmX9_init : List Cond := .code yX9_init cX9_init 3 none :: WC
theorem hd_X9_init : yX9_init.cls ≠ "java/lang/invoke/MethodHandle" ∧ yX9_init.cls ≠ "java/lang/invoke/VarHandle" ∧ (parseMethodDescriptor yX9_init.desc).map (fun d => d.parameters.length) = some 2 := by decide +kernel
def P_X9_init (sh : Sh) (ci : Nat → Nat → Int32) (ai : Nat → Nat → Int32) (al : Nat → Nat → Int64) (q : Nat) (p0 : Nat) (p1 : Nat) (Q : Sh → (Nat → Nat → Int32) → (Nat → Nat → Int32) → (Nat → Nat → Int64) → Prop) : Prop := (q ∈ sL sh ∧ sK sh q = 8) ∧ ∀ (q1 : Nat) (cA1 : ClassId) (sh2 : Sh), q1 ∉ sL sh → sh2 = shN sh q1 22 (400 : Int32).toNatClampNeg cA1 → (q ∈ sL sh2 ∧ isZ (sK sh2 q)) ∧ P_X5_init sh2 ci ai (va_up al q1 (fun _ => 0)) q p0 q1 (fun sh7 ci7 ai7 al7 => (q ∈ sL sh7 ∧ sK sh7 q = 8) ∧ ∀ sh10 : Sh, sh10 = shR sh7 q 5 (some p1) → ∀ (q12 : Nat) (cA12 : ClassId) (sh13 : Sh), q12 ∉ sL sh10 → sh13 = shN sh10 q12 20 (400 : Int32).toNatClampNeg cA12 → (q ∈ sL sh13 ∧ sK sh13 q = 8) ∧ ∀ sh18 : Sh, sh18 = shR sh13 q 6 (some q12) → Q sh18 ci7 (va_up ai7 q12 (fun _ => 0)) al7)
set_option maxHeartbeats 4000000 in
set_option maxRecDepth 100000 in
theorem p_X9_init (l : Launch) (dC : Nat → ClassId) (dI : Nat → Nat → Nat) (sh : Sh) (ci : Nat → Nat → Int32) (ai : Nat → Nat → Int32) (al : Nat → Nat → Int64) (q : Nat) (p0 : Nat) (p1 : Nat) (Q : Sh → (Nat → Nat → Int32) → (Nat → Nat → Int32) → (Nat → Nat → Int64) → Prop) (h : P_X9_init sh ci ai al q p0 p1 Q) (sz : Nat) : Met l yX9_init wmX9_init ({ frames := 30, cells := 3, slots := 1200, locals := 400 }) (va_Pc [.ref q, .ref p0, .ref p1] (cPre dC dI sh ci ai al sz)) (va_Qv (S := XSt) (xV Q) (xB dC dI (va_A (cW sh ci ai al) sz)) (va_A (cW sh ci ai al) sz)) 3 1200 (va_A (cW sh ci ai al) sz) := by
  refine Met.ofW (cc := cX9_init) (maxL := 3) (ret := none) (by decide) rfl ?_
  intro p e s m args below meth c s₁ B hml hv
  obtain ⟨rfl, hsz, hP, hK, hD0, hG⟩ := hv
  have hx := B.exec
  have hb := B.bytes
  have hr := B.returns
  have hts : ∀ w ∈ WC, w.before _ s = true := fun w h => atoms_spec (ws := wmX9_init) B.pre w (List.mem_cons_of_mem _ h)
  have hown : s.vm.findClass RX9 = some m.cls := findClass_of_methodNamed B.named
  have hlocks := B.notSynchronized
  have hin : meth.name = "<init>" := (name_of_methodNamed B.named B.method).1
  subst hsz
  have hD := hD0.self (sz := s.heap.size)
  generalize hAe : va_A (cW sh ci ai al) s.heap.size = A at hD ⊢
  have hA : ∀ q : Nat, s.heap.size ≤ q → A q := fun q h => by rw [← hAe]; exact Or.inr h
  generalize hH : s.heap = H at hP ⊢
  have hS : va_S A s.heap H [] := by rw [← hH]; exact va_S.rf
  have hl := lv_entry [.ref q, .ref p0, .ref p1] (n := 3) (Nat.le_of_ble_eq_true rfl)
  rw [lg_entry_eq]
  generalize (lg_sl [.ref q, .ref p0, .ref p1] ++ List.replicate (3 - (lg_sl [.ref q, .ref p0, .ref p1]).length) Slot.unset).toArray = ls at hl ⊢
  have hl : lv_has ls 3 [(0, .ref q), (1, .ref p0), (2, .ref p1)] := hl
  unfold P_X9_init at h
  obtain ⟨⟨hq, hk⟩, h⟩ := h
  refine lv_aload_n hx hb dX9_init_0 rfl (lv_at hl 0 rfl) ?_
  refine lv_aload_n hx hb dX9_init_1 rfl (lv_at hl 1 rfl) ?_
  refine lv_sipush (v := 400) hx hb dX9_init_2 (by decide) ?_
  refine x_newl (n := (400 : Int32)) hx hb (hts _ mwC_332) hK hP hD hS hA (by decide) (by decide) (Nat.le_of_ble_eq_true rfl) (Nat.le_of_ble_eq_true rfl) dX9_init_5 (fun q1 cA1 sh2 H hn4 es3 hK hP hD hS => ?_)
  have h := h q1 cA1 sh2 hn4 es3
  obtain ⟨⟨hm5, hk6⟩, h⟩ := h
  refine xn_endv (va_runI (rm := ({ frames := 12, cells := 1, slots := 400, locals := 200 })) (As := [.ref p0, .ref q1]) (rest := []) ⟨hx, hb, hml, hown, hts⟩ (p_X5_init l dC dI _ _ _ _ q p0 q1 _ h H.size) (cwI 2 hts (g_C gdC mwC_353) rfl rfl rfl (hts _ mwC_22) (hts _ mwC_363) (hts _ mwC_355) rfl hd_X5_init ⟨Nat.le_of_ble_eq_true rfl, Nat.le_of_ble_eq_true rfl⟩) (c_preS hK hP hD hG) rfl rfl hl.1 rfl (lv_room (Nat.le_of_ble_eq_true rfl)) dX9_init_7 ⟨Nat.le_of_ble_eq_true rfl, Nat.le_of_ble_eq_true rfl⟩) hD hS hA (fun sh7 ci7 ai7 al7 H locs h hK hP hD hS => ?_)
  refine lv_aload_n hx hb dX9_init_10 rfl (lv_at hl 0 rfl) ?_
  refine lv_aload_n hx hb dX9_init_11 rfl (lv_at hl 2 rfl) ?_
  obtain ⟨⟨hm8, hk9⟩, h⟩ := h
  refine x_putR (r := some p1) (C := RX9) (T := TX9) (N := 8) (K := 8) hx hb hts hinX9 tyX9 tyX9_ok nmX9 hown hK hP hD hS hm8 hk9 (by decide) rfl 5 (by decide) (hts _ mwC_174) (fun _ h9 => h9) rfl hin rfl (ty := (.object "NeededLists$LazyList")) (by decide +kernel) rfl rfl (Nat.le_of_ble_eq_true rfl) rfl dX9_init_12 (fun sh10 H locs es11 hK hP hD hS => ?_)
  have h := h sh10 es11
  refine lv_aload_n hx hb dX9_init_15 rfl (lv_at hl 0 rfl) ?_
  refine lv_sipush (v := 400) hx hb dX9_init_16 (by decide) ?_
  refine x_newi (n := (400 : Int32)) hx hb (hts _ mwC_361) hK hP hD hS hA (by decide) (by decide) (Nat.le_of_ble_eq_true rfl) (Nat.le_of_ble_eq_true rfl) dX9_init_19 (fun q12 cA12 sh13 H hn15 es14 hK hP hD hS => ?_)
  have h := h q12 cA12 sh13 hn15 es14
  obtain ⟨⟨hm16, hk17⟩, h⟩ := h
  refine x_putR (r := some q12) (C := RX9) (T := TX9) (N := 8) (K := 8) hx hb hts hinX9 tyX9 tyX9_ok nmX9 hown hK hP hD hS hm16 hk17 (by decide) rfl 6 (by decide) (hts _ mwC_225) (fun _ h9 => h9) rfl hin rfl (ty := (.array .int)) (by decide +kernel) rfl rfl (Nat.le_of_ble_eq_true rfl) rfl dX9_init_21 (fun sh18 H locs es19 hK hP hD hS => ?_)
  have h := h sh18 es19
  refine W.widen (k := 3) (n := 1200) (by decide) (by decide) ?_
  exact W.vret hx hb hr (fun t ht hW => ⟨⟨(sh18, ci7, va_up ai7 q12 (fun _ => 0), al7), rfl, h, by rw [ht]; exact hP, cK.moved hW.alike hK, hD⟩, hS.F ht⟩) hS.2.2 dX9_init_24
abbrev wmX10_init : List Cond := .code yX10_init cX10_init 6 none :: WC
theorem hd_X10_init : yX10_init.cls ≠ "java/lang/invoke/MethodHandle" ∧ yX10_init.cls ≠ "java/lang/invoke/VarHandle" ∧ (parseMethodDescriptor yX10_init.desc).map (fun d => d.parameters.length) = some 4 := by decide +kernel
def P_X10_init (sh : Sh) (ci : Nat → Nat → Int32) (ai : Nat → Nat → Int32) (al : Nat → Nat → Int64) (q : Nat) (p0 : Nat) (p1 : Nat) (p2 : Int32) (p3 : Int64) (Q : Sh → (Nat → Nat → Int32) → (Nat → Nat → Int32) → (Nat → Nat → Int64) → Prop) : Prop := (q ∈ sL sh ∧ sK sh q = 9) ∧ ∀ (q1 : Nat) (cA1 : ClassId) (sh2 : Sh), q1 ∉ sL sh → sh2 = shN sh q1 22 (0 : Int32).toNatClampNeg cA1 → (q ∈ sL sh2 ∧ isZ (sK sh2 q)) ∧ P_X5_init sh2 ci ai (va_up al q1 (fun _ => 0)) q p0 q1 (fun sh7 ci7 ai7 al7 => (q ∈ sL sh7 ∧ sK sh7 q = 9) ∧ ∀ sh10 : Sh, sh10 = shR sh7 q 5 (some p1) → (q ∈ sL sh10 ∧ sK sh10 q = 9) ∧ ∀ sh16 : Sh, sh16 = shJ sh10 q 7 p3 → ∀ (q18 : Nat) (cA18 : ClassId) (sh19 : Sh), q18 ∉ sL sh16 → sh19 = shN sh16 q18 20 (400 : Int32).toNatClampNeg cA18 → (q ∈ sL sh19 ∧ sK sh19 q = 9) ∧ ∀ sh24 : Sh, sh24 = shR sh19 q 8 (some q18) → Q sh24 (va_up ci7 q (va_up (ci7 q) 6 p2)) (va_up ai7 q18 (fun _ => 0)) al7)
set_option maxHeartbeats 4000000 in
set_option maxRecDepth 100000 in
theorem p_X10_init (l : Launch) (dC : Nat → ClassId) (dI : Nat → Nat → Nat) (sh : Sh) (ci : Nat → Nat → Int32) (ai : Nat → Nat → Int32) (al : Nat → Nat → Int64) (q : Nat) (p0 : Nat) (p1 : Nat) (p2 : Int32) (p3 : Int64) (Q : Sh → (Nat → Nat → Int32) → (Nat → Nat → Int32) → (Nat → Nat → Int64) → Prop) (h : P_X10_init sh ci ai al q p0 p1 p2 p3 Q) (sz : Nat) : Met l yX10_init wmX10_init ({ frames := 30, cells := 3, slots := 1200, locals := 400 }) (va_Pc [.ref q, .ref p0, .ref p1, .int p2, .long p3] (cPre dC dI sh ci ai al sz)) (va_Qv (S := XSt) (xV Q) (xB dC dI (va_A (cW sh ci ai al) sz)) (va_A (cW sh ci ai al) sz)) 3 1200 (va_A (cW sh ci ai al) sz) := by
  refine Met.ofW (cc := cX10_init) (maxL := 6) (ret := none) (by decide) rfl ?_
  intro p e s m args below meth c s₁ B hml hv
  obtain ⟨rfl, hsz, hP, hK, hD0, hG⟩ := hv
  have hx := B.exec
  have hb := B.bytes
  have hr := B.returns
  have hts : ∀ w ∈ WC, w.before _ s = true := fun w h => atoms_spec (ws := wmX10_init) B.pre w (List.mem_cons_of_mem _ h)
  have hown : s.vm.findClass RX10 = some m.cls := findClass_of_methodNamed B.named
  have hlocks := B.notSynchronized
  have hin : meth.name = "<init>" := (name_of_methodNamed B.named B.method).1
  subst hsz
  have hD := hD0.self (sz := s.heap.size)
  generalize hAe : va_A (cW sh ci ai al) s.heap.size = A at hD ⊢
  have hA : ∀ q : Nat, s.heap.size ≤ q → A q := fun q h => by rw [← hAe]; exact Or.inr h
  generalize hH : s.heap = H at hP ⊢
  have hS : va_S A s.heap H [] := by rw [← hH]; exact va_S.rf
  have hl := lv_entry [.ref q, .ref p0, .ref p1, .int p2, .long p3] (n := 6) (Nat.le_of_ble_eq_true rfl)
  rw [lg_entry_eq]
  generalize (lg_sl [.ref q, .ref p0, .ref p1, .int p2, .long p3] ++ List.replicate (6 - (lg_sl [.ref q, .ref p0, .ref p1, .int p2, .long p3]).length) Slot.unset).toArray = ls at hl ⊢
  have hl : lv_has ls 6 [(0, .ref q), (1, .ref p0), (2, .ref p1), (3, .int p2), (4, .long p3)] := hl
  unfold P_X10_init at h
  obtain ⟨⟨hq, hk⟩, h⟩ := h
  refine lv_aload_n hx hb dX10_init_0 rfl (lv_at hl 0 rfl) ?_
  refine lv_aload_n hx hb dX10_init_1 rfl (lv_at hl 1 rfl) ?_
  refine lv_iconst (v := 0) hx hb dX10_init_2 (by decide) ?_
  refine x_newl (n := (0 : Int32)) hx hb (hts _ mwC_332) hK hP hD hS hA (by decide) (by decide) (Nat.le_of_ble_eq_true rfl) (Nat.le_of_ble_eq_true rfl) dX10_init_3 (fun q1 cA1 sh2 H hn4 es3 hK hP hD hS => ?_)
  have h := h q1 cA1 sh2 hn4 es3
  obtain ⟨⟨hm5, hk6⟩, h⟩ := h
  refine xn_endv (va_runI (rm := ({ frames := 12, cells := 1, slots := 400, locals := 200 })) (As := [.ref p0, .ref q1]) (rest := []) ⟨hx, hb, hml, hown, hts⟩ (p_X5_init l dC dI _ _ _ _ q p0 q1 _ h H.size) (cwI 2 hts (g_C gdC mwC_353) rfl rfl rfl (hts _ mwC_22) (hts _ mwC_364) (hts _ mwC_355) rfl hd_X5_init ⟨Nat.le_of_ble_eq_true rfl, Nat.le_of_ble_eq_true rfl⟩) (c_preS hK hP hD hG) rfl rfl hl.1 rfl (lv_room (Nat.le_of_ble_eq_true rfl)) dX10_init_5 ⟨Nat.le_of_ble_eq_true rfl, Nat.le_of_ble_eq_true rfl⟩) hD hS hA (fun sh7 ci7 ai7 al7 H locs h hK hP hD hS => ?_)
  refine lv_aload_n hx hb dX10_init_8 rfl (lv_at hl 0 rfl) ?_
  refine lv_aload_n hx hb dX10_init_9 rfl (lv_at hl 2 rfl) ?_
  obtain ⟨⟨hm8, hk9⟩, h⟩ := h
  refine x_putR (r := some p1) (C := RX10) (T := TX10) (N := 9) (K := 9) hx hb hts hinX10 tyX10 tyX10_ok nmX10 hown hK hP hD hS hm8 hk9 (by decide) rfl 5 (by decide) (hts _ mwC_36) (fun _ h9 => h9) rfl hin rfl (ty := (.object "NeededLists$LazyList")) (by decide +kernel) rfl rfl (Nat.le_of_ble_eq_true rfl) rfl dX10_init_10 (fun sh10 H locs es11 hK hP hD hS => ?_)
  have h := h sh10 es11
  refine lv_aload_n hx hb dX10_init_13 rfl (lv_at hl 0 rfl) ?_
  refine lv_iload_n hx hb dX10_init_14 rfl (lv_at hl 3 rfl) ?_
  obtain ⟨⟨hm12, hk13⟩, h⟩ := h
  refine x_putI (z := p2) (C := RX10) (T := TX10) (N := 9) (K := 9) hx hb hts hinX10 tyX10 tyX10_ok nmX10 hown hK hP hD hS hm12 hk13 (by decide) rfl 6 (by decide) (hts _ mwC_136) (fun _ h9 => h9) rfl hin rfl (ty := .int) (by decide +kernel) rfl rfl (Nat.le_of_ble_eq_true rfl) rfl dX10_init_15 (fun H locs hP hD hS => ?_)
  refine lv_aload_n hx hb dX10_init_18 rfl (lv_at hl 0 rfl) ?_
  refine lv_lload hx hb dX10_init_19 (lv_at hl 4 rfl) ?_
  refine x_putJ (z := p3) (C := RX10) (T := TX10) (N := 9) (K := 9) hx hb hts hinX10 tyX10 tyX10_ok nmX10 hown hK hP hD hS hm12 hk13 (by decide) rfl 7 (by decide) (hts _ mwC_137) (fun _ h9 => h9) rfl hin rfl (ty := .long) (by decide +kernel) rfl rfl (Nat.le_of_ble_eq_true rfl) rfl dX10_init_21 (fun sh16 H locs es17 hK hP hD hS => ?_)
  have h := h sh16 es17
  refine lv_aload_n hx hb dX10_init_24 rfl (lv_at hl 0 rfl) ?_
  refine lv_sipush (v := 400) hx hb dX10_init_25 (by decide) ?_
  refine x_newi (n := (400 : Int32)) hx hb (hts _ mwC_361) hK hP hD hS hA (by decide) (by decide) (Nat.le_of_ble_eq_true rfl) (Nat.le_of_ble_eq_true rfl) dX10_init_28 (fun q18 cA18 sh19 H hn21 es20 hK hP hD hS => ?_)
  have h := h q18 cA18 sh19 hn21 es20
  obtain ⟨⟨hm22, hk23⟩, h⟩ := h
  refine x_putR (r := some q18) (C := RX10) (T := TX10) (N := 9) (K := 9) hx hb hts hinX10 tyX10 tyX10_ok nmX10 hown hK hP hD hS hm22 hk23 (by decide) rfl 8 (by decide) (hts _ mwC_40) (fun _ h9 => h9) rfl hin rfl (ty := (.array .int)) (by decide +kernel) rfl rfl (Nat.le_of_ble_eq_true rfl) rfl dX10_init_30 (fun sh24 H locs es25 hK hP hD hS => ?_)
  have h := h sh24 es25
  refine W.widen (k := 3) (n := 1200) (by decide) (by decide) ?_
  exact W.vret hx hb hr (fun t ht hW => ⟨⟨(sh24, va_up ci7 q (va_up (ci7 q) 6 p2), va_up ai7 q18 (fun _ => 0), al7), rfl, h, by rw [ht]; exact hP, cK.moved hW.alike hK, hD⟩, hS.F ht⟩) hS.2.2 dX10_init_33
theorem hd_X0_initN : yX0_init.cls ≠ "java/lang/invoke/MethodHandle" ∧ yX0_init.cls ≠ "java/lang/invoke/VarHandle" ∧ (parseMethodDescriptor yX0_init.desc).map (fun d => d.parameters.length) = some 5 := by decide +kernel
def P_X0_initN (sh : Sh) (ci : Nat → Nat → Int32) (ai : Nat → Nat → Int32) (al : Nat → Nat → Int64) (q : Nat) (p0 : Nat) (p2 : Int32) (p3 : Int64) (p4 : Int64) (Q : Sh → (Nat → Nat → Int32) → (Nat → Nat → Int32) → (Nat → Nat → Int64) → Prop) : Prop := (q ∈ sL sh ∧ sK sh q = 0) ∧ ∀ (q1 : Nat) (cA1 : ClassId) (sh2 : Sh), q1 ∉ sL sh → sh2 = shN sh q1 22 (400 : Int32).toNatClampNeg cA1 → (q ∈ sL sh2 ∧ isZ (sK sh2 q)) ∧ P_X5_init sh2 ci ai (va_up al q1 (fun _ => 0)) q p0 q1 (fun sh7 ci7 ai7 al7 => (q ∈ sL sh7 ∧ sK sh7 q = 0) ∧ ∀ sh10 : Sh, sh10 = shR sh7 q 5 (none) → (q ∈ sL sh10 ∧ sK sh10 q = 0) ∧ ∀ sh16 : Sh, sh16 = shJ sh10 q 7 p3 → (q ∈ sL sh16 ∧ sK sh16 q = 0) ∧ ∀ sh20 : Sh, sh20 = shJ sh16 q 8 p4 → Q sh20 (va_up ci7 q (va_up (ci7 q) 6 p2)) ai7 al7)
set_option maxHeartbeats 4000000 in
set_option maxRecDepth 100000 in
theorem p_X0_initN (l : Launch) (dC : Nat → ClassId) (dI : Nat → Nat → Nat) (sh : Sh) (ci : Nat → Nat → Int32) (ai : Nat → Nat → Int32) (al : Nat → Nat → Int64) (q : Nat) (p0 : Nat) (p2 : Int32) (p3 : Int64) (p4 : Int64) (Q : Sh → (Nat → Nat → Int32) → (Nat → Nat → Int32) → (Nat → Nat → Int64) → Prop) (h : P_X0_initN sh ci ai al q p0 p2 p3 p4 Q) (sz : Nat) : Met l yX0_init wmX0_init ({ frames := 30, cells := 2, slots := 800, locals := 400 }) (va_Pc [.ref q, .ref p0, .null, .int p2, .long p3, .long p4] (cPre dC dI sh ci ai al sz)) (va_Qv (S := XSt) (xV Q) (xB dC dI (va_A (cW sh ci ai al) sz)) (va_A (cW sh ci ai al) sz)) 2 800 (va_A (cW sh ci ai al) sz) := by
  refine Met.ofW (cc := cX0_init) (maxL := 8) (ret := none) (by decide) rfl ?_
  intro p e s m args below meth c s₁ B hml hv
  obtain ⟨rfl, hsz, hP, hK, hD0, hG⟩ := hv
  have hx := B.exec
  have hb := B.bytes
  have hr := B.returns
  have hts : ∀ w ∈ WC, w.before _ s = true := fun w h => atoms_spec (ws := wmX0_init) B.pre w (List.mem_cons_of_mem _ h)
  have hown : s.vm.findClass RX0 = some m.cls := findClass_of_methodNamed B.named
  have hlocks := B.notSynchronized
  have hin : meth.name = "<init>" := (name_of_methodNamed B.named B.method).1
  subst hsz
  have hD := hD0.self (sz := s.heap.size)
  generalize hAe : va_A (cW sh ci ai al) s.heap.size = A at hD ⊢
  have hA : ∀ q : Nat, s.heap.size ≤ q → A q := fun q h => by rw [← hAe]; exact Or.inr h
  generalize hH : s.heap = H at hP ⊢
  have hS : va_S A s.heap H [] := by rw [← hH]; exact va_S.rf
  have hl := lv_entry [.ref q, .ref p0, .null, .int p2, .long p3, .long p4] (n := 8) (Nat.le_of_ble_eq_true rfl)
  rw [lg_entry_eq]
  generalize (lg_sl [.ref q, .ref p0, .null, .int p2, .long p3, .long p4] ++ List.replicate (8 - (lg_sl [.ref q, .ref p0, .null, .int p2, .long p3, .long p4]).length) Slot.unset).toArray = ls at hl ⊢
  have hl : lv_has ls 8 [(0, .ref q), (1, .ref p0), (2, .null), (3, .int p2), (4, .long p3), (6, .long p4)] := hl
  unfold P_X0_initN at h
  obtain ⟨⟨hq, hk⟩, h⟩ := h
  refine lv_aload_n hx hb dX0_init_0 rfl (lv_at hl 0 rfl) ?_
  refine lv_aload_n hx hb dX0_init_1 rfl (lv_at hl 1 rfl) ?_
  refine lv_sipush (v := 400) hx hb dX0_init_2 (by decide) ?_
  refine x_newl (n := (400 : Int32)) hx hb (hts _ mwC_332) hK hP hD hS hA (by decide) (by decide) (Nat.le_of_ble_eq_true rfl) (Nat.le_of_ble_eq_true rfl) dX0_init_5 (fun q1 cA1 sh2 H hn4 es3 hK hP hD hS => ?_)
  have h := h q1 cA1 sh2 hn4 es3
  obtain ⟨⟨hm5, hk6⟩, h⟩ := h
  refine xn_endv (va_runI (rm := ({ frames := 12, cells := 1, slots := 400, locals := 200 })) (As := [.ref p0, .ref q1]) (rest := []) ⟨hx, hb, hml, hown, hts⟩ (p_X5_init l dC dI _ _ _ _ q p0 q1 _ h H.size) (cwI 2 hts (g_C gdC mwC_353) rfl rfl rfl (hts _ mwC_22) (hts _ mwC_354) (hts _ mwC_355) rfl hd_X5_init ⟨Nat.le_of_ble_eq_true rfl, Nat.le_of_ble_eq_true rfl⟩) (c_preS hK hP hD hG) rfl rfl hl.1 rfl (lv_room (Nat.le_of_ble_eq_true rfl)) dX0_init_7 ⟨Nat.le_of_ble_eq_true rfl, Nat.le_of_ble_eq_true rfl⟩) hD hS hA (fun sh7 ci7 ai7 al7 H locs h hK hP hD hS => ?_)
  refine lv_aload_n hx hb dX0_init_10 rfl (lv_at hl 0 rfl) ?_
  refine lv_aload_nN hx hb dX0_init_11 rfl (lv_at hl 2 rfl) ?_
  obtain ⟨⟨hm8, hk9⟩, h⟩ := h
  refine x_putR (r := none) (C := RX0) (T := TX0) (N := 9) (K := 0) hx hb hts hinX0 tyX0 tyX0_ok nmX0 hown hK hP hD hS hm8 hk9 (by decide) rfl 5 (by decide) (hts _ mwC_190) (fun _ h9 => h9) rfl hin rfl (ty := (.object "NeededLists$LazyList")) (by decide +kernel) rfl rfl (Nat.le_of_ble_eq_true rfl) rfl dX0_init_12 (fun sh10 H locs es11 hK hP hD hS => ?_)
  have h := h sh10 es11
  refine lv_aload_n hx hb dX0_init_15 rfl (lv_at hl 0 rfl) ?_
  refine lv_iload_n hx hb dX0_init_16 rfl (lv_at hl 3 rfl) ?_
  obtain ⟨⟨hm12, hk13⟩, h⟩ := h
  refine x_putI (z := p2) (C := RX0) (T := TX0) (N := 9) (K := 0) hx hb hts hinX0 tyX0 tyX0_ok nmX0 hown hK hP hD hS hm12 hk13 (by decide) rfl 6 (by decide) (hts _ mwC_238) (fun _ h9 => h9) rfl hin rfl (ty := .int) (by decide +kernel) rfl rfl (Nat.le_of_ble_eq_true rfl) rfl dX0_init_17 (fun H locs hP hD hS => ?_)
  refine lv_aload_n hx hb dX0_init_20 rfl (lv_at hl 0 rfl) ?_
  refine lv_lload hx hb dX0_init_21 (lv_at hl 4 rfl) ?_
  refine x_putJ (z := p3) (C := RX0) (T := TX0) (N := 9) (K := 0) hx hb hts hinX0 tyX0 tyX0_ok nmX0 hown hK hP hD hS hm12 hk13 (by decide) rfl 7 (by decide) (hts _ mwC_239) (fun _ h9 => h9) rfl hin rfl (ty := .long) (by decide +kernel) rfl rfl (Nat.le_of_ble_eq_true rfl) rfl dX0_init_23 (fun sh16 H locs es17 hK hP hD hS => ?_)
  have h := h sh16 es17
  refine lv_aload_n hx hb dX0_init_26 rfl (lv_at hl 0 rfl) ?_
  refine lv_lload hx hb dX0_init_27 (lv_at hl 5 rfl) ?_
  obtain ⟨⟨hm18, hk19⟩, h⟩ := h
  refine x_putJ (z := p4) (C := RX0) (T := TX0) (N := 9) (K := 0) hx hb hts hinX0 tyX0 tyX0_ok nmX0 hown hK hP hD hS hm18 hk19 (by decide) rfl 8 (by decide) (hts _ mwC_255) (fun _ h9 => h9) rfl hin rfl (ty := .long) (by decide +kernel) rfl rfl (Nat.le_of_ble_eq_true rfl) rfl dX0_init_29 (fun sh20 H locs es21 hK hP hD hS => ?_)
  have h := h sh20 es21
  refine W.widen (k := 2) (n := 800) (by decide) (by decide) ?_
  exact W.vret hx hb hr (fun t ht hW => ⟨⟨(sh20, va_up ci7 q (va_up (ci7 q) 6 p2), ai7, al7), rfl, h, by rw [ht]; exact hP, cK.moved hW.alike hK, hD⟩, hS.F ht⟩) hS.2.2 dX0_init_32
theorem hd_X1_initN : yX1_init.cls ≠ "java/lang/invoke/MethodHandle" ∧ yX1_init.cls ≠ "java/lang/invoke/VarHandle" ∧ (parseMethodDescriptor yX1_init.desc).map (fun d => d.parameters.length) = some 5 := by decide +kernel
def P_X1_initN (sh : Sh) (ci : Nat → Nat → Int32) (ai : Nat → Nat → Int32) (al : Nat → Nat → Int64) (q : Nat) (p0 : Nat) (p1 : Nat) (p3 : Int32) (p4 : Int64) (Q : Sh → (Nat → Nat → Int32) → (Nat → Nat → Int32) → (Nat → Nat → Int64) → Prop) : Prop := (q ∈ sL sh ∧ sK sh q = 1) ∧ ∀ (q1 : Nat) (cA1 : ClassId) (sh2 : Sh), q1 ∉ sL sh → sh2 = shN sh q1 22 (400 : Int32).toNatClampNeg cA1 → (q ∈ sL sh2 ∧ isZ (sK sh2 q)) ∧ P_X5_init sh2 ci ai (va_up al q1 (fun _ => 0)) q p0 q1 (fun sh7 ci7 ai7 al7 => (q ∈ sL sh7 ∧ sK sh7 q = 1) ∧ ∀ sh10 : Sh, sh10 = shR sh7 q 5 (some p1) → (q ∈ sL sh10 ∧ sK sh10 q = 1) ∧ ∀ sh14 : Sh, sh14 = shR sh10 q 6 (none) → (q ∈ sL sh14 ∧ sK sh14 q = 1) ∧ ∀ sh20 : Sh, sh20 = shJ sh14 q 8 p4 → Q sh20 (va_up ci7 q (va_up (ci7 q) 7 p3)) ai7 al7)
set_option maxHeartbeats 4000000 in
set_option maxRecDepth 100000 in
theorem p_X1_initN (l : Launch) (dC : Nat → ClassId) (dI : Nat → Nat → Nat) (sh : Sh) (ci : Nat → Nat → Int32) (ai : Nat → Nat → Int32) (al : Nat → Nat → Int64) (q : Nat) (p0 : Nat) (p1 : Nat) (p3 : Int32) (p4 : Int64) (Q : Sh → (Nat → Nat → Int32) → (Nat → Nat → Int32) → (Nat → Nat → Int64) → Prop) (h : P_X1_initN sh ci ai al q p0 p1 p3 p4 Q) (sz : Nat) : Met l yX1_init wmX1_init ({ frames := 30, cells := 2, slots := 800, locals := 400 }) (va_Pc [.ref q, .ref p0, .ref p1, .null, .int p3, .long p4] (cPre dC dI sh ci ai al sz)) (va_Qv (S := XSt) (xV Q) (xB dC dI (va_A (cW sh ci ai al) sz)) (va_A (cW sh ci ai al) sz)) 2 800 (va_A (cW sh ci ai al) sz) := by
  refine Met.ofW (cc := cX1_init) (maxL := 7) (ret := none) (by decide) rfl ?_
  intro p e s m args below meth c s₁ B hml hv
  obtain ⟨rfl, hsz, hP, hK, hD0, hG⟩ := hv
  have hx := B.exec
  have hb := B.bytes
  have hr := B.returns
  have hts : ∀ w ∈ WC, w.before _ s = true := fun w h => atoms_spec (ws := wmX1_init) B.pre w (List.mem_cons_of_mem _ h)
  have hown : s.vm.findClass RX1 = some m.cls := findClass_of_methodNamed B.named
  have hlocks := B.notSynchronized
  have hin : meth.name = "<init>" := (name_of_methodNamed B.named B.method).1
  subst hsz
  have hD := hD0.self (sz := s.heap.size)
  generalize hAe : va_A (cW sh ci ai al) s.heap.size = A at hD ⊢
  have hA : ∀ q : Nat, s.heap.size ≤ q → A q := fun q h => by rw [← hAe]; exact Or.inr h
  generalize hH : s.heap = H at hP ⊢
  have hS : va_S A s.heap H [] := by rw [← hH]; exact va_S.rf
  have hl := lv_entry [.ref q, .ref p0, .ref p1, .null, .int p3, .long p4] (n := 7) (Nat.le_of_ble_eq_true rfl)
  rw [lg_entry_eq]
  generalize (lg_sl [.ref q, .ref p0, .ref p1, .null, .int p3, .long p4] ++ List.replicate (7 - (lg_sl [.ref q, .ref p0, .ref p1, .null, .int p3, .long p4]).length) Slot.unset).toArray = ls at hl ⊢
  have hl : lv_has ls 7 [(0, .ref q), (1, .ref p0), (2, .ref p1), (3, .null), (4, .int p3), (5, .long p4)] := hl
  unfold P_X1_initN at h
  obtain ⟨⟨hq, hk⟩, h⟩ := h
  refine lv_aload_n hx hb dX1_init_0 rfl (lv_at hl 0 rfl) ?_
  refine lv_aload_n hx hb dX1_init_1 rfl (lv_at hl 1 rfl) ?_
  refine lv_sipush (v := 400) hx hb dX1_init_2 (by decide) ?_
  refine x_newl (n := (400 : Int32)) hx hb (hts _ mwC_332) hK hP hD hS hA (by decide) (by decide) (Nat.le_of_ble_eq_true rfl) (Nat.le_of_ble_eq_true rfl) dX1_init_5 (fun q1 cA1 sh2 H hn4 es3 hK hP hD hS => ?_)
  have h := h q1 cA1 sh2 hn4 es3
  obtain ⟨⟨hm5, hk6⟩, h⟩ := h
  refine xn_endv (va_runI (rm := ({ frames := 12, cells := 1, slots := 400, locals := 200 })) (As := [.ref p0, .ref q1]) (rest := []) ⟨hx, hb, hml, hown, hts⟩ (p_X5_init l dC dI _ _ _ _ q p0 q1 _ h H.size) (cwI 2 hts (g_C gdC mwC_353) rfl rfl rfl (hts _ mwC_22) (hts _ mwC_356) (hts _ mwC_355) rfl hd_X5_init ⟨Nat.le_of_ble_eq_true rfl, Nat.le_of_ble_eq_true rfl⟩) (c_preS hK hP hD hG) rfl rfl hl.1 rfl (lv_room (Nat.le_of_ble_eq_true rfl)) dX1_init_7 ⟨Nat.le_of_ble_eq_true rfl, Nat.le_of_ble_eq_true rfl⟩) hD hS hA (fun sh7 ci7 ai7 al7 H locs h hK hP hD hS => ?_)
  refine lv_aload_n hx hb dX1_init_10 rfl (lv_at hl 0 rfl) ?_
  refine lv_aload_n hx hb dX1_init_11 rfl (lv_at hl 2 rfl) ?_
  obtain ⟨⟨hm8, hk9⟩, h⟩ := h
  refine x_putR (r := some p1) (C := RX1) (T := TX1) (N := 9) (K := 1) hx hb hts hinX1 tyX1 tyX1_ok nmX1 hown hK hP hD hS hm8 hk9 (by decide) rfl 5 (by decide) (hts _ mwC_192) (fun _ h9 => h9) rfl hin rfl (ty := (.object "NeededLists$LazyList")) (by decide +kernel) rfl rfl (Nat.le_of_ble_eq_true rfl) rfl dX1_init_12 (fun sh10 H locs es11 hK hP hD hS => ?_)
  have h := h sh10 es11
  refine lv_aload_n hx hb dX1_init_15 rfl (lv_at hl 0 rfl) ?_
  refine lv_aload_nN hx hb dX1_init_16 rfl (lv_at hl 3 rfl) ?_
  obtain ⟨⟨hm12, hk13⟩, h⟩ := h
  refine x_putR (r := none) (C := RX1) (T := TX1) (N := 9) (K := 1) hx hb hts hinX1 tyX1 tyX1_ok nmX1 hown hK hP hD hS hm12 hk13 (by decide) rfl 6 (by decide) (hts _ mwC_194) (fun _ h9 => h9) rfl hin rfl (ty := (.object "NeededLists$LazyList")) (by decide +kernel) rfl rfl (Nat.le_of_ble_eq_true rfl) rfl dX1_init_17 (fun sh14 H locs es15 hK hP hD hS => ?_)
  have h := h sh14 es15
  refine lv_aload_n hx hb dX1_init_20 rfl (lv_at hl 0 rfl) ?_
  refine lv_iload hx hb dX1_init_21 (lv_at hl 4 rfl) ?_
  obtain ⟨⟨hm16, hk17⟩, h⟩ := h
  refine x_putI (z := p3) (C := RX1) (T := TX1) (N := 9) (K := 1) hx hb hts hinX1 tyX1 tyX1_ok nmX1 hown hK hP hD hS hm16 hk17 (by decide) rfl 7 (by decide) (hts _ mwC_259) (fun _ h9 => h9) rfl hin rfl (ty := .int) (by decide +kernel) rfl rfl (Nat.le_of_ble_eq_true rfl) rfl dX1_init_23 (fun H locs hP hD hS => ?_)
  refine lv_aload_n hx hb dX1_init_26 rfl (lv_at hl 0 rfl) ?_
  refine lv_lload hx hb dX1_init_27 (lv_at hl 5 rfl) ?_
  refine x_putJ (z := p4) (C := RX1) (T := TX1) (N := 9) (K := 1) hx hb hts hinX1 tyX1 tyX1_ok nmX1 hown hK hP hD hS hm16 hk17 (by decide) rfl 8 (by decide) (hts _ mwC_260) (fun _ h9 => h9) rfl hin rfl (ty := .long) (by decide +kernel) rfl rfl (Nat.le_of_ble_eq_true rfl) rfl dX1_init_29 (fun sh20 H locs es21 hK hP hD hS => ?_)
  have h := h sh20 es21
  refine W.widen (k := 2) (n := 800) (by decide) (by decide) ?_
  exact W.vret hx hb hr (fun t ht hW => ⟨⟨(sh20, va_up ci7 q (va_up (ci7 q) 7 p3), ai7, al7), rfl, h, by rw [ht]; exact hP, cK.moved hW.alike hK, hD⟩, hS.F ht⟩) hS.2.2 dX1_init_32
