
theorem hd_X0_initN : yX0_init.cls ≠ "java/lang/invoke/MethodHandle" ∧ yX0_init.cls ≠ "java/lang/invoke/VarHandle" ∧ (parseMethodDescriptor yX0_init.desc).map (fun d => d.parameters.length) = some 5 := by decide +kernel
def P_X0_initN (sh : Sh) (ci : Nat → Nat → Int32) (ai : Nat → Nat → Int32) (al : Nat → Nat → Int64) (q : Nat) (p0 : Nat) (p2 : Int32) (p3 : Int64) (p4 : Int64) (Q : Sh → (Nat → Nat → Int32) → (Nat → Nat → Int32) → (Nat → Nat → Int64) → Prop) : Prop := (q ∈ sL sh ∧ sK sh q = 0) ∧ ∀ (q1 : Nat) (cA1 : ClassId) (sh2 : Sh), q1 ∉ sL sh → sh2 = shN sh q1 22 (400 : Int32).toNatClampNeg cA1 → (q ∈ sL sh2 ∧ isZ (sK sh2 q)) ∧ P_X5_init sh2 ci ai (va_up al q1 (fun _ => 0)) q p0 q1 (fun sh7 ci7 ai7 al7 => (q ∈ sL sh7 ∧ sK sh7 q = 0) ∧ ∀ sh10 : Sh, sh10 = shR sh7 q 5 (none) → (q ∈ sL sh10 ∧ sK sh10 q = 0) ∧ ∀ sh16 : Sh, sh16 = shJ sh10 q 7 p3 → (q ∈ sL sh16 ∧ sK sh16 q = 0) ∧ ∀ sh20 : Sh, sh20 = shJ sh16 q 8 p4 → Q sh20 (va_up ci7 q (va_up (ci7 q) 6 p2)) ai7 al7)
set_option maxHeartbeats 4000000 in
set_option maxRecDepth 100000 in
theorem p_X0_initN (l : Launch) (dC : Nat → ClassId) (dI : Nat → Nat → Nat) (sh : Sh) (ci : Nat → Nat → Int32) (ai : Nat → Nat → Int32) (al : Nat → Nat → Int64) (q : Nat) (p0 : Nat) (p2 : Int32) (p3 : Int64) (p4 : Int64) (Q : Sh → (Nat → Nat → Int32) → (Nat → Nat → Int32) → (Nat → Nat → Int64) → Prop) (h : P_X0_initN sh ci ai al q p0 p2 p3 p4 Q) (sz : Nat) : Met l yX0_init wmX0_init ({ frames := 30, cells := 2, slots := 800, locals := 400 }) (va_Pc [.ref q, .ref p0, .null, .int p2, .long p3, .long p4] (cPre dC dI sh ci ai al sz)) (va_Qv (S := XSt) (xV Q) (xB dC dI (va_A (cW sh ci ai al) sz)) (va_A (cW sh ci ai al) sz)) 2 800 (va_A (cW sh ci ai al) sz) := by
  refine Met.ofW (cc := cX0_init) (maxL := 8) (ret := none) (by decide) rfl ?_
  intro p e s m args below meth c s₁ B hml hv
  obtain ⟨rfl, hsz, hP, hK, hD0, hG⟩ := hv
  have hx := B.exec
  have hb := B.bytes
  have hr := B.returns
  have hts : ∀ w ∈ WC, w.before _ s = true := fun w h => atoms_spec (ws := wmX0_init) B.pre w (List.mem_cons_of_mem _ h)
  have hown : s.vm.findClass RX0 = some m.cls := findClass_of_methodNamed B.named
  have hlocks := B.notSynchronized
  have hin : meth.name = "<init>" := (name_of_methodNamed B.named B.method).1
  subst hsz
  have hD := hD0.self (sz := s.heap.size)
  generalize hAe : va_A (cW sh ci ai al) s.heap.size = A at hD ⊢
  have hA : ∀ q : Nat, s.heap.size ≤ q → A q := fun q h => by rw [← hAe]; exact Or.inr h
  generalize hH : s.heap = H at hP ⊢
  have hS : va_S A s.heap H [] := by rw [← hH]; exact va_S.rf
  have hl := lv_entry [.ref q, .ref p0, .null, .int p2, .long p3, .long p4] (n := 8) (Nat.le_of_ble_eq_true rfl)
  rw [lg_entry_eq]
  generalize (lg_sl [.ref q, .ref p0, .null, .int p2, .long p3, .long p4] ++ List.replicate (8 - (lg_sl [.ref q, .ref p0, .null, .int p2, .long p3, .long p4]).length) Slot.unset).toArray = ls at hl ⊢
  have hl : lv_has ls 8 [(0, .ref q), (1, .ref p0), (2, .null), (3, .int p2), (4, .long p3), (6, .long p4)] := hl
  unfold P_X0_initN at h
  obtain ⟨⟨hq, hk⟩, h⟩ := h
  refine lv_aload_n hx hb dX0_init_0 rfl (lv_at hl 0 rfl) ?_
  refine lv_aload_n hx hb dX0_init_1 rfl (lv_at hl 1 rfl) ?_
  refine lv_sipush (v := 400) hx hb dX0_init_2 (by decide) ?_
  refine x_newl (n := (400 : Int32)) hx hb (hts _ mwC_332) hK hP hD hS hA (by decide) (by decide) (Nat.le_of_ble_eq_true rfl) (Nat.le_of_ble_eq_true rfl) dX0_init_5 (fun q1 cA1 sh2 H hn4 es3 hK hP hD hS => ?_)
  have h := h q1 cA1 sh2 hn4 es3
  obtain ⟨⟨hm5, hk6⟩, h⟩ := h
  refine xn_endv (va_runI (rm := ({ frames := 12, cells := 1, slots := 400, locals := 200 })) (As := [.ref p0, .ref q1]) (rest := []) ⟨hx, hb, hml, hown, hts⟩ (p_X5_init l dC dI _ _ _ _ q p0 q1 _ h H.size) (cwI 2 hts (g_C gdC mwC_353) rfl rfl rfl (hts _ mwC_22) (hts _ mwC_354) (hts _ mwC_355) rfl hd_X5_init ⟨Nat.le_of_ble_eq_true rfl, Nat.le_of_ble_eq_true rfl⟩) (c_preS hK hP hD hG) rfl rfl hl.1 rfl (lv_room (Nat.le_of_ble_eq_true rfl)) dX0_init_7 ⟨Nat.le_of_ble_eq_true rfl, Nat.le_of_ble_eq_true rfl⟩) hD hS hA (fun sh7 ci7 ai7 al7 H locs h hK hP hD hS => ?_)
  refine lv_aload_n hx hb dX0_init_10 rfl (lv_at hl 0 rfl) ?_
  refine lv_aload_nN hx hb dX0_init_11 rfl (lv_at hl 2 rfl) ?_
  obtain ⟨⟨hm8, hk9⟩, h⟩ := h
  refine x_putR (r := none) (C := RX0) (T := TX0) (N := 9) (K := 0) hx hb hts hinX0 tyX0 tyX0_ok nmX0 hown hK hP hD hS hm8 hk9 (by decide) rfl 5 (by decide) (hts _ mwC_190) (fun _ h9 => h9) rfl hin rfl (ty := (.object "NeededLists$LazyList")) (by decide +kernel) rfl rfl (Nat.le_of_ble_eq_true rfl) rfl dX0_init_12 (fun sh10 H locs es11 hK hP hD hS => ?_)
  have h := h sh10 es11
  refine lv_aload_n hx hb dX0_init_15 rfl (lv_at hl 0 rfl) ?_
  refine lv_iload_n hx hb dX0_init_16 rfl (lv_at hl 3 rfl) ?_
  obtain ⟨⟨hm12, hk13⟩, h⟩ := h
  refine x_putI (z := p2) (C := RX0) (T := TX0) (N := 9) (K := 0) hx hb hts hinX0 tyX0 tyX0_ok nmX0 hown hK hP hD hS hm12 hk13 (by decide) rfl 6 (by decide) (hts _ mwC_238) (fun _ h9 => h9) rfl hin rfl (ty := .int) (by decide +kernel) rfl rfl (Nat.le_of_ble_eq_true rfl) rfl dX0_init_17 (fun H locs hP hD hS => ?_)
  refine lv_aload_n hx hb dX0_init_20 rfl (lv_at hl 0 rfl) ?_
  refine lv_lload hx hb dX0_init_21 (lv_at hl 4 rfl) ?_
  refine x_putJ (z := p3) (C := RX0) (T := TX0) (N := 9) (K := 0) hx hb hts hinX0 tyX0 tyX0_ok nmX0 hown hK hP hD hS hm12 hk13 (by decide) rfl 7 (by decide) (hts _ mwC_239) (fun _ h9 => h9) rfl hin rfl (ty := .long) (by decide +kernel) rfl rfl (Nat.le_of_ble_eq_true rfl) rfl dX0_init_23 (fun sh16 H locs es17 hK hP hD hS => ?_)
  have h := h sh16 es17
  refine lv_aload_n hx hb dX0_init_26 rfl (lv_at hl 0 rfl) ?_
  refine lv_lload hx hb dX0_init_27 (lv_at hl 5 rfl) ?_
  obtain ⟨⟨hm18, hk19⟩, h⟩ := h
  refine x_putJ (z := p4) (C := RX0) (T := TX0) (N := 9) (K := 0) hx hb hts hinX0 tyX0 tyX0_ok nmX0 hown hK hP hD hS hm18 hk19 (by decide) rfl 8 (by decide) (hts _ mwC_255) (fun _ h9 => h9) rfl hin rfl (ty := .long) (by decide +kernel) rfl rfl (Nat.le_of_ble_eq_true rfl) rfl dX0_init_29 (fun sh20 H locs es21 hK hP hD hS => ?_)
  have h := h sh20 es21
  refine W.widen (k := 2) (n := 800) (by decide) (by decide) ?_
  exact W.vret hx hb hr (fun t ht hW => ⟨⟨(sh20, va_up ci7 q (va_up (ci7 q) 6 p2), ai7, al7), rfl, h, by rw [ht]; exact hP, cK.moved hW.alike hK, hD⟩, hS.F ht⟩) hS.2.2 dX0_init_32
theorem hd_X1_initN : yX1_init.cls ≠ "java/lang/invoke/MethodHandle" ∧ yX1_init.cls ≠ "java/lang/invoke/VarHandle" ∧ (parseMethodDescriptor yX1_init.desc).map (fun d => d.parameters.length) = some 5 := by decide +kernel
def P_X1_initN (sh : Sh) (ci : Nat → Nat → Int32) (ai : Nat → Nat → Int32) (al : Nat → Nat → Int64) (q : Nat) (p0 : Nat) (p1 : Nat) (p3 : Int32) (p4 : Int64) (Q : Sh → (Nat → Nat → Int32) → (Nat → Nat → Int32) → (Nat → Nat → Int64) → Prop) : Prop := (q ∈ sL sh ∧ sK sh q = 1) ∧ ∀ (q1 : Nat) (cA1 : ClassId) (sh2 : Sh), q1 ∉ sL sh → sh2 = shN sh q1 22 (400 : Int32).toNatClampNeg cA1 → (q ∈ sL sh2 ∧ isZ (sK sh2 q)) ∧ P_X5_init sh2 ci ai (va_up al q1 (fun _ => 0)) q p0 q1 (fun sh7 ci7 ai7 al7 => (q ∈ sL sh7 ∧ sK sh7 q = 1) ∧ ∀ sh10 : Sh, sh10 = shR sh7 q 5 (some p1) → (q ∈ sL sh10 ∧ sK sh10 q = 1) ∧ ∀ sh14 : Sh, sh14 = shR sh10 q 6 (none) → (q ∈ sL sh14 ∧ sK sh14 q = 1) ∧ ∀ sh20 : Sh, sh20 = shJ sh14 q 8 p4 → Q sh20 (va_up ci7 q (va_up (ci7 q) 7 p3)) ai7 al7)
set_option maxHeartbeats 4000000 in
set_option maxRecDepth 100000 in
theorem p_X1_initN (l : Launch) (dC : Nat → ClassId) (dI : Nat → Nat → Nat) (sh : Sh) (ci : Nat → Nat → Int32) (ai : Nat → Nat → Int32) (al : Nat → Nat → Int64) (q : Nat) (p0 : Nat) (p1 : Nat) (p3 : Int32) (p4 : Int64) (Q : Sh → (Nat → Nat → Int32) → (Nat → Nat → Int32) → (Nat → Nat → Int64) → Prop) (h : P_X1_initN sh ci ai al q p0 p1 p3 p4 Q) (sz : Nat) : Met l yX1_init wmX1_init ({ frames := 30, cells := 2, slots := 800, locals := 400 }) (va_Pc [.ref q, .ref p0, .ref p1, .null, .int p3, .long p4] (cPre dC dI sh ci ai al sz)) (va_Qv (S := XSt) (xV Q) (xB dC dI (va_A (cW sh ci ai al) sz)) (va_A (cW sh ci ai al) sz)) 2 800 (va_A (cW sh ci ai al) sz) := by
  refine Met.ofW (cc := cX1_init) (maxL := 7) (ret := none) (by decide) rfl ?_
  intro p e s m args below meth c s₁ B hml hv
  obtain ⟨rfl, hsz, hP, hK, hD0, hG⟩ := hv
  have hx := B.exec
  have hb := B.bytes
  have hr := B.returns
  have hts : ∀ w ∈ WC, w.before _ s = true := fun w h => atoms_spec (ws := wmX1_init) B.pre w (List.mem_cons_of_mem _ h)
  have hown : s.vm.findClass RX1 = some m.cls := findClass_of_methodNamed B.named
  have hlocks := B.notSynchronized
  have hin : meth.name = "<init>" := (name_of_methodNamed B.named B.method).1
  subst hsz
  have hD := hD0.self (sz := s.heap.size)
  generalize hAe : va_A (cW sh ci ai al) s.heap.size = A at hD ⊢
  have hA : ∀ q : Nat, s.heap.size ≤ q → A q := fun q h => by rw [← hAe]; exact Or.inr h
  generalize hH : s.heap = H at hP ⊢
  have hS : va_S A s.heap H [] := by rw [← hH]; exact va_S.rf
  have hl := lv_entry [.ref q, .ref p0, .ref p1, .null, .int p3, .long p4] (n := 7) (Nat.le_of_ble_eq_true rfl)
  rw [lg_entry_eq]
  generalize (lg_sl [.ref q, .ref p0, .ref p1, .null, .int p3, .long p4] ++ List.replicate (7 - (lg_sl [.ref q, .ref p0, .ref p1, .null, .int p3, .long p4]).length) Slot.unset).toArray = ls at hl ⊢
  have hl : lv_has ls 7 [(0, .ref q), (1, .ref p0), (2, .ref p1), (3, .null), (4, .int p3), (5, .long p4)] := hl
  unfold P_X1_initN at h
  obtain ⟨⟨hq, hk⟩, h⟩ := h
  refine lv_aload_n hx hb dX1_init_0 rfl (lv_at hl 0 rfl) ?_
  refine lv_aload_n hx hb dX1_init_1 rfl (lv_at hl 1 rfl) ?_
  refine lv_sipush (v := 400) hx hb dX1_init_2 (by decide) ?_
  refine x_newl (n := (400 : Int32)) hx hb (hts _ mwC_332) hK hP hD hS hA (by decide) (by decide) (Nat.le_of_ble_eq_true rfl) (Nat.le_of_ble_eq_true rfl) dX1_init_5 (fun q1 cA1 sh2 H hn4 es3 hK hP hD hS => ?_)
  have h := h q1 cA1 sh2 hn4 es3
  obtain ⟨⟨hm5, hk6⟩, h⟩ := h
  refine xn_endv (va_runI (rm := ({ frames := 12, cells := 1, slots := 400, locals := 200 })) (As := [.ref p0, .ref q1]) (rest := []) ⟨hx, hb, hml, hown, hts⟩ (p_X5_init l dC dI _ _ _ _ q p0 q1 _ h H.size) (cwI 2 hts (g_C gdC mwC_353) rfl rfl rfl (hts _ mwC_22) (hts _ mwC_356) (hts _ mwC_355) rfl hd_X5_init ⟨Nat.le_of_ble_eq_true rfl, Nat.le_of_ble_eq_true rfl⟩) (c_preS hK hP hD hG) rfl rfl hl.1 rfl (lv_room (Nat.le_of_ble_eq_true rfl)) dX1_init_7 ⟨Nat.le_of_ble_eq_true rfl, Nat.le_of_ble_eq_true rfl⟩) hD hS hA (fun sh7 ci7 ai7 al7 H locs h hK hP hD hS => ?_)
  refine lv_aload_n hx hb dX1_init_10 rfl (lv_at hl 0 rfl) ?_
  refine lv_aload_n hx hb dX1_init_11 rfl (lv_at hl 2 rfl) ?_
  obtain ⟨⟨hm8, hk9⟩, h⟩ := h
  refine x_putR (r := some p1) (C := RX1) (T := TX1) (N := 9) (K := 1) hx hb hts hinX1 tyX1 tyX1_ok nmX1 hown hK hP hD hS hm8 hk9 (by decide) rfl 5 (by decide) (hts _ mwC_192) (fun _ h9 => h9) rfl hin rfl (ty := (.object "NeededLists$LazyList")) (by decide +kernel) rfl rfl (Nat.le_of_ble_eq_true rfl) rfl dX1_init_12 (fun sh10 H locs es11 hK hP hD hS => ?_)
  have h := h sh10 es11
  refine lv_aload_n hx hb dX1_init_15 rfl (lv_at hl 0 rfl) ?_
  refine lv_aload_nN hx hb dX1_init_16 rfl (lv_at hl 3 rfl) ?_
  obtain ⟨⟨hm12, hk13⟩, h⟩ := h
  refine x_putR (r := none) (C := RX1) (T := TX1) (N := 9) (K := 1) hx hb hts hinX1 tyX1 tyX1_ok nmX1 hown hK hP hD hS hm12 hk13 (by decide) rfl 6 (by decide) (hts _ mwC_194) (fun _ h9 => h9) rfl hin rfl (ty := (.object "NeededLists$LazyList")) (by decide +kernel) rfl rfl (Nat.le_of_ble_eq_true rfl) rfl dX1_init_17 (fun sh14 H locs es15 hK hP hD hS => ?_)
  have h := h sh14 es15
  refine lv_aload_n hx hb dX1_init_20 rfl (lv_at hl 0 rfl) ?_
  refine lv_iload hx hb dX1_init_21 (lv_at hl 4 rfl) ?_
  obtain ⟨⟨hm16, hk17⟩, h⟩ := h
  refine x_putI (z := p3) (C := RX1) (T := TX1) (N := 9) (K := 1) hx hb hts hinX1 tyX1 tyX1_ok nmX1 hown hK hP hD hS hm16 hk17 (by decide) rfl 7 (by decide) (hts _ mwC_259) (fun _ h9 => h9) rfl hin rfl (ty := .int) (by decide +kernel) rfl rfl (Nat.le_of_ble_eq_true rfl) rfl dX1_init_23 (fun H locs hP hD hS => ?_)
  refine lv_aload_n hx hb dX1_init_26 rfl (lv_at hl 0 rfl) ?_
  refine lv_lload hx hb dX1_init_27 (lv_at hl 5 rfl) ?_
  refine x_putJ (z := p4) (C := RX1) (T := TX1) (N := 9) (K := 1) hx hb hts hinX1 tyX1 tyX1_ok nmX1 hown hK hP hD hS hm16 hk17 (by decide) rfl 8 (by decide) (hts _ mwC_260) (fun _ h9 => h9) rfl hin rfl (ty := .long) (by decide +kernel) rfl rfl (Nat.le_of_ble_eq_true rfl) rfl dX1_init_29 (fun sh20 H locs es21 hK hP hD hS => ?_)
  have h := h sh20 es21
  refine W.widen (k := 2) (n := 800) (by decide) (by decide) ?_
  exact W.vret hx hb hr (fun t ht hW => ⟨⟨(sh20, va_up ci7 q (va_up (ci7 q) 7 p3), ai7, al7), rfl, h, by rw [ht]; exact hP, cK.moved hW.alike hK, hD⟩, hS.F ht⟩) hS.2.2 dX1_init_32
theorem hd_X4_initN : yX4_init.cls ≠ "java/lang/invoke/MethodHandle" ∧ yX4_init.cls ≠ "java/lang/invoke/VarHandle" ∧ (parseMethodDescriptor yX4_init.desc).map (fun d => d.parameters.length) = some 3 := by decide +kernel
def P_X4_initN (sh : Sh) (ci : Nat → Nat → Int32) (ai : Nat → Nat → Int32) (al : Nat → Nat → Int64) (q : Nat) (p0 : Nat) (p1 : Nat) (Q : Sh → (Nat → Nat → Int32) → (Nat → Nat → Int32) → (Nat → Nat → Int64) → Prop) : Prop := (q ∈ sL sh ∧ sK sh q = 4) ∧ ∀ (q1 : Nat) (cA1 : ClassId) (sh2 : Sh), q1 ∉ sL sh → sh2 = shN sh q1 22 (0 : Int32).toNatClampNeg cA1 → (q ∈ sL sh2 ∧ isZ (sK sh2 q)) ∧ P_X5_init sh2 ci ai (va_up al q1 (fun _ => 0)) q p0 q1 (fun sh7 ci7 ai7 al7 => (q ∈ sL sh7 ∧ sK sh7 q = 4) ∧ ∀ sh10 : Sh, sh10 = shR sh7 q 5 (some p1) → (q ∈ sL sh10 ∧ sK sh10 q = 4) ∧ ∀ sh14 : Sh, sh14 = shR sh10 q 6 (none) → Q sh14 ci7 ai7 al7)
set_option maxHeartbeats 4000000 in
set_option maxRecDepth 100000 in
theorem p_X4_initN (l : Launch) (dC : Nat → ClassId) (dI : Nat → Nat → Nat) (sh : Sh) (ci : Nat → Nat → Int32) (ai : Nat → Nat → Int32) (al : Nat → Nat → Int64) (q : Nat) (p0 : Nat) (p1 : Nat) (Q : Sh → (Nat → Nat → Int32) → (Nat → Nat → Int32) → (Nat → Nat → Int64) → Prop) (h : P_X4_initN sh ci ai al q p0 p1 Q) (sz : Nat) : Met l yX4_init wmX4_init ({ frames := 30, cells := 2, slots := 800, locals := 400 }) (va_Pc [.ref q, .ref p0, .ref p1, .null] (cPre dC dI sh ci ai al sz)) (va_Qv (S := XSt) (xV Q) (xB dC dI (va_A (cW sh ci ai al) sz)) (va_A (cW sh ci ai al) sz)) 2 800 (va_A (cW sh ci ai al) sz) := by
  refine Met.ofW (cc := cX4_init) (maxL := 4) (ret := none) (by decide) rfl ?_
  intro p e s m args below meth c s₁ B hml hv
  obtain ⟨rfl, hsz, hP, hK, hD0, hG⟩ := hv
  have hx := B.exec
  have hb := B.bytes
  have hr := B.returns
  have hts : ∀ w ∈ WC, w.before _ s = true := fun w h => atoms_spec (ws := wmX4_init) B.pre w (List.mem_cons_of_mem _ h)
  have hown : s.vm.findClass RX4 = some m.cls := findClass_of_methodNamed B.named
  have hlocks := B.notSynchronized
  have hin : meth.name = "<init>" := (name_of_methodNamed B.named B.method).1
  subst hsz
  have hD := hD0.self (sz := s.heap.size)
  generalize hAe : va_A (cW sh ci ai al) s.heap.size = A at hD ⊢
  have hA : ∀ q : Nat, s.heap.size ≤ q → A q := fun q h => by rw [← hAe]; exact Or.inr h
  generalize hH : s.heap = H at hP ⊢
  have hS : va_S A s.heap H [] := by rw [← hH]; exact va_S.rf
  have hl := lv_entry [.ref q, .ref p0, .ref p1, .null] (n := 4) (Nat.le_of_ble_eq_true rfl)
  rw [lg_entry_eq]
  generalize (lg_sl [.ref q, .ref p0, .ref p1, .null] ++ List.replicate (4 - (lg_sl [.ref q, .ref p0, .ref p1, .null]).length) Slot.unset).toArray = ls at hl ⊢
  have hl : lv_has ls 4 [(0, .ref q), (1, .ref p0), (2, .ref p1), (3, .null)] := hl
  unfold P_X4_initN at h
  obtain ⟨⟨hq, hk⟩, h⟩ := h
  refine lv_aload_n hx hb dX4_init_0 rfl (lv_at hl 0 rfl) ?_
  refine lv_aload_n hx hb dX4_init_1 rfl (lv_at hl 1 rfl) ?_
  refine lv_iconst (v := 0) hx hb dX4_init_2 (by decide) ?_
  refine x_newl (n := (0 : Int32)) hx hb (hts _ mwC_332) hK hP hD hS hA (by decide) (by decide) (Nat.le_of_ble_eq_true rfl) (Nat.le_of_ble_eq_true rfl) dX4_init_3 (fun q1 cA1 sh2 H hn4 es3 hK hP hD hS => ?_)
  have h := h q1 cA1 sh2 hn4 es3
  obtain ⟨⟨hm5, hk6⟩, h⟩ := h
  refine xn_endv (va_runI (rm := ({ frames := 12, cells := 1, slots := 400, locals := 200 })) (As := [.ref p0, .ref q1]) (rest := []) ⟨hx, hb, hml, hown, hts⟩ (p_X5_init l dC dI _ _ _ _ q p0 q1 _ h H.size) (cwI 2 hts (g_C gdC mwC_353) rfl rfl rfl (hts _ mwC_22) (hts _ mwC_359) (hts _ mwC_355) rfl hd_X5_init ⟨Nat.le_of_ble_eq_true rfl, Nat.le_of_ble_eq_true rfl⟩) (c_preS hK hP hD hG) rfl rfl hl.1 rfl (lv_room (Nat.le_of_ble_eq_true rfl)) dX4_init_5 ⟨Nat.le_of_ble_eq_true rfl, Nat.le_of_ble_eq_true rfl⟩) hD hS hA (fun sh7 ci7 ai7 al7 H locs h hK hP hD hS => ?_)
  refine lv_aload_n hx hb dX4_init_8 rfl (lv_at hl 0 rfl) ?_
  refine lv_aload_n hx hb dX4_init_9 rfl (lv_at hl 2 rfl) ?_
  obtain ⟨⟨hm8, hk9⟩, h⟩ := h
  refine x_putR (r := some p1) (C := RX4) (T := TX4) (N := 7) (K := 4) hx hb hts hinX4 tyX4 tyX4_ok nmX4 hown hK hP hD hS hm8 hk9 (by decide) rfl 5 (by decide) (hts _ mwC_18) (fun _ h9 => h9) rfl hin rfl (ty := (.object "NeededLists$LazyList")) (by decide +kernel) rfl rfl (Nat.le_of_ble_eq_true rfl) rfl dX4_init_10 (fun sh10 H locs es11 hK hP hD hS => ?_)
  have h := h sh10 es11
  refine lv_aload_n hx hb dX4_init_13 rfl (lv_at hl 0 rfl) ?_
  refine lv_aload_nN hx hb dX4_init_14 rfl (lv_at hl 3 rfl) ?_
  obtain ⟨⟨hm12, hk13⟩, h⟩ := h
  refine x_putR (r := none) (C := RX4) (T := TX4) (N := 7) (K := 4) hx hb hts hinX4 tyX4 tyX4_ok nmX4 hown hK hP hD hS hm12 hk13 (by decide) rfl 6 (by decide) (hts _ mwC_33) (fun _ h9 => h9) rfl hin rfl (ty := (.object "NeededLists$LazyList")) (by decide +kernel) rfl rfl (Nat.le_of_ble_eq_true rfl) rfl dX4_init_15 (fun sh14 H locs es15 hK hP hD hS => ?_)
  have h := h sh14 es15
  refine W.widen (k := 2) (n := 800) (by decide) (by decide) ?_
  exact W.vret hx hb hr (fun t ht hW => ⟨⟨(sh14, ci7, ai7, al7), rfl, h, by rw [ht]; exact hP, cK.moved hW.alike hK, hD⟩, hS.F ht⟩) hS.2.2 dX4_init_18
