abbrev cX6_init : ByteArray := prog_8_method_1_code
theorem dX5_init_0 : decode cX5_init 0 = .ok (.aload_n 0, 1) := by decide +kernel
theorem dX5_init_1 : decode cX5_init 1 = .ok (.invokespecial 3, 3) := by decide +kernel
theorem dX5_init_4 : decode cX5_init 4 = .ok (.aload_n 0, 1) := by decide +kernel
theorem dX5_init_5 : decode cX5_init 5 = .ok (.aload_n 1, 1) := by decide +kernel
theorem dX5_init_6 : decode cX5_init 6 = .ok (.putfield 9, 3) := by decide +kernel
theorem dX5_init_9 : decode cX5_init 9 = .ok (.aload_n 0, 1) := by decide +kernel
theorem dX5_init_10 : decode cX5_init 10 = .ok (.aload_n 2, 1) := by decide +kernel
theorem dX5_init_11 : decode cX5_init 11 = .ok (.putfield 15, 3) := by decide +kernel
theorem dX5_init_14 : decode cX5_init 14 = .ok (.aload_n 0, 1) := by decide +kernel
theorem dX5_init_15 : decode cX5_init 15 = .ok (.aload_n 2, 1) := by decide +kernel
theorem dX5_init_16 : decode cX5_init 16 = .ok (.arraylength, 1) := by decide +kernel
theorem dX5_init_17 : decode cX5_init 17 = .ok (.newarray .byte, 2) := by decide +kernel
theorem dX5_init_19 : decode cX5_init 19 = .ok (.putfield 19, 3) := by decide +kernel
theorem dX5_init_22 : decode cX5_init 22 = .ok (.return_, 1) := by decide +kernel
theorem dX6_init_0 : decode cX6_init 0 = .ok (.aload_n 0, 1) := by decide +kernel
theorem dX6_init_1 : decode cX6_init 1 = .ok (.invokespecial 1, 3) := by decide +kernel
theorem dX6_init_4 : decode cX6_init 4 = .ok (.return_, 1) := by decide +kernel
theorem dJ7_copyOf_9075b_0 : decode cJ7_copyOf_9075b 0 = .ok (.iload_n 1, 1) := by decide +kernel
theorem dJ7_copyOf_9075b_1 : decode cJ7_copyOf_9075b 1 = .ok (.aload_n 0, 1) := by decide +kernel
theorem dJ7_copyOf_9075b_2 : decode cJ7_copyOf_9075b 2 = .ok (.arraylength, 1) := by decide +kernel
theorem dJ7_copyOf_9075b_3 : decode cJ7_copyOf_9075b 3 = .ok (.if_icmp .ne 11, 3) := by decide +kernel
theorem dJ7_copyOf_9075b_6 : decode cJ7_copyOf_9075b 6 = .ok (.aload_n 0, 1) := by decide +kernel
theorem dJ7_copyOf_9075b_7 : decode cJ7_copyOf_9075b 7 = .ok (.invokevirtual 310, 3) := by decide +kernel
theorem dJ7_copyOf_9075b_10 : decode cJ7_copyOf_9075b 10 = .ok (.checkcast 311, 3) := by decide +kernel
theorem dJ7_copyOf_9075b_13 : decode cJ7_copyOf_9075b 13 = .ok (.areturn, 1) := by decide +kernel
theorem dJ7_copyOf_9075b_14 : decode cJ7_copyOf_9075b 14 = .ok (.iload_n 1, 1) := by decide +kernel
theorem dJ7_copyOf_9075b_15 : decode cJ7_copyOf_9075b 15 = .ok (.newarray .byte, 2) := by decide +kernel
theorem dJ7_copyOf_9075b_17 : decode cJ7_copyOf_9075b 17 = .ok (.astore_n 2, 1) := by decide +kernel
theorem dJ7_copyOf_9075b_18 : decode cJ7_copyOf_9075b 18 = .ok (.aload_n 0, 1) := by decide +kernel
theorem dJ7_copyOf_9075b_19 : decode cJ7_copyOf_9075b 19 = .ok (.iconst 0, 1) := by decide +kernel
theorem dJ7_copyOf_9075b_20 : decode cJ7_copyOf_9075b 20 = .ok (.aload_n 2, 1) := by decide +kernel
theorem dJ7_copyOf_9075b_21 : decode cJ7_copyOf_9075b 21 = .ok (.iconst 0, 1) := by decide +kernel
theorem dJ7_copyOf_9075b_22 : decode cJ7_copyOf_9075b 22 = .ok (.aload_n 0, 1) := by decide +kernel
theorem dJ7_copyOf_9075b_23 : decode cJ7_copyOf_9075b 23 = .ok (.arraylength, 1) := by decide +kernel
theorem dJ7_copyOf_9075b_24 : decode cJ7_copyOf_9075b 24 = .ok (.iload_n 1, 1) := by decide +kernel
theorem dJ7_copyOf_9075b_25 : decode cJ7_copyOf_9075b 25 = .ok (.invokestatic 304, 3) := by decide +kernel
theorem dJ7_copyOf_9075b_28 : decode cJ7_copyOf_9075b 28 = .ok (.invokestatic 150, 3) := by decide +kernel
theorem dJ7_copyOf_9075b_31 : decode cJ7_copyOf_9075b 31 = .ok (.aload_n 2, 1) := by decide +kernel
theorem dJ7_copyOf_9075b_32 : decode cJ7_copyOf_9075b 32 = .ok (.areturn, 1) := by decide +kernel
abbrev wmJ7_copyOf_9075b : List Cond := .code yJ7_copyOf_9075b cJ7_copyOf_9075b 3 (some (.array .byte)) :: WC
theorem hd_J7_copyOf_9075b : yJ7_copyOf_9075b.cls ≠ "java/lang/invoke/MethodHandle" ∧ yJ7_copyOf_9075b.cls ≠ "java/lang/invoke/VarHandle" ∧ (parseMethodDescriptor yJ7_copyOf_9075b.desc).map (fun d => d.parameters.length) = some 2 := by decide +kernel
def P_J7_copyOf_9075b (sh : Sh) (ci : Nat → Nat → Int32) (ai : Nat → Nat → Int32) (al : Nat → Nat → Int64) (p0 : Nat) (p1 : Int32) (Q : Nat → Sh → (Nat → Nat → Int32) → (Nat → Nat → Int32) → (Nat → Nat → Int64) → Prop) : Prop := (p0 ∈ sL sh ∧ sK sh p0 = 21) ∧ ((¬ p1 = (nI (sN sh p0))) → (¬ p1 < 0 ∧ p1.toNatClampNeg ≤ 400 ∧ ∀ (q3 : Nat) (cA3 : ClassId) (sh4 : Sh), q3 ∉ sL sh → sh4 = shN sh q3 21 p1.toNatClampNeg cA3 → (p0 ∈ sL sh4 ∧ sK sh4 p0 = 21) ∧ P_J9_min_7cf53 (nI (sN sh4 p0)) p1 (fun r11 => (q3 ∈ sL sh4 ∧ sK sh4 q3 = 21) ∧ ¬ r11 < 0 ∧ (0 : Int32).toNatClampNeg + r11.toNatClampNeg ≤ sN sh4 p0 ∧ (0 : Int32).toNatClampNeg + r11.toNatClampNeg ≤ sN sh4 q3 ∧ (∀ i : Nat, i < sN sh4 p0 → fits .byte (.int ((va_up ai q3 (fun _ => 0)) p0 i)) = true) ∧ Q q3 sh4 ci (va_up (va_up ai q3 (fun _ => 0)) q3 (va_cpy ((va_up ai q3 (fun _ => 0)) p0) ((va_up ai q3 (fun _ => 0)) q3) (0 : Int32).toNatClampNeg (0 : Int32).toNatClampNeg r11.toNatClampNeg)) al))) ∧ ((p1 = (nI (sN sh p0))) → (sN sh p0 ≤ 400 ∧ (∀ i : Nat, i < sN sh p0 → fits .byte (.int (ai p0 i)) = true) ∧ ∀ (q20 : Nat) (sh21 : Sh), q20 ∉ sL sh → sh21 = shN sh q20 21 (sN sh p0) (sA sh p0) → (q20 ∈ sL sh21 ∧ sK sh21 q20 = 21) ∧ Q q20 sh21 ci (va_up ai q20 (ai p0)) al))
set_option maxHeartbeats 4000000 in
set_option maxRecDepth 100000 in
theorem p_J7_copyOf_9075b (l : Launch) (dC : Nat → ClassId) (dI : Nat → Nat → Nat) (sh : Sh) (ci : Nat → Nat → Int32) (ai : Nat → Nat → Int32) (al : Nat → Nat → Int64) (p0 : Nat) (p1 : Int32) (Q : Nat → Sh → (Nat → Nat → Int32) → (Nat → Nat → Int32) → (Nat → Nat → Int64) → Prop) (h : P_J7_copyOf_9075b sh ci ai al p0 p1 Q) (sz : Nat) : Met l yJ7_copyOf_9075b wmJ7_copyOf_9075b ({ frames := 20, cells := 1, slots := 400, locals := 300 }) (va_Pc [.ref p0, .int p1] (cPre dC dI sh ci ai al sz)) (va_Qr (S := XSt) (fun _ => True) (fun u a t => xA Q u a ∧ xB dC dI (va_A (cW sh ci ai al) sz) u t) (va_A (cW sh ci ai al) sz)) 1 400 (va_A (cW sh ci ai al) sz) := by
  refine Met.ofW (cc := cJ7_copyOf_9075b) (maxL := 3) (ret := (some (.array .byte))) (by decide) rfl ?_
  intro p e s m args below meth c s₁ B hml hv
  obtain ⟨rfl, hsz, hP, hK, hD0, hG⟩ := hv
  have hx := B.exec
  have hb := B.bytes
  have hr := B.returns
  have hts : ∀ w ∈ WC, w.before _ s = true := fun w h => atoms_spec (ws := wmJ7_copyOf_9075b) B.pre w (List.mem_cons_of_mem _ h)
  have hown : s.vm.findClass RJ7 = some m.cls := findClass_of_methodNamed B.named
  have hlocks := B.notSynchronized
  subst hsz
  have hD := hD0.self (sz := s.heap.size)
  generalize hAe : va_A (cW sh ci ai al) s.heap.size = A at hD ⊢
  have hA : ∀ q : Nat, s.heap.size ≤ q → A q := fun q h => by rw [← hAe]; exact Or.inr h
  generalize hH : s.heap = H at hP ⊢
  have hS : va_S A s.heap H [] := by rw [← hH]; exact va_S.rf
  have hl := lv_entry [.ref p0, .int p1] (n := 3) (Nat.le_of_ble_eq_true rfl)
  rw [lg_entry_eq]
  generalize (lg_sl [.ref p0, .int p1] ++ List.replicate (3 - (lg_sl [.ref p0, .int p1]).length) Slot.unset).toArray = ls at hl ⊢
  have hl : lv_has ls 3 [(0, .ref p0), (1, .int p1)] := hl
  unfold P_J7_copyOf_9075b at h
  refine lv_iload_n hx hb dJ7_copyOf_9075b_0 rfl (lv_at hl 1 rfl) ?_
  refine lv_aload_n hx hb dJ7_copyOf_9075b_1 rfl (lv_at hl 0 rfl) ?_
  obtain ⟨⟨hm1, hk2⟩, h⟩ := h
  refine c_alen hx hb hK hP hm1 (Or.inr (Or.inl hk2)) dJ7_copyOf_9075b_2 ?_
  refine lv_icmp_ne (tgt := 14) hx hb dJ7_copyOf_9075b_3 (by decide) (fun c_3 => ?_) (fun c_3 => ?_)
  · have h := h.1 c_3
    refine lv_iload_n hx hb dJ7_copyOf_9075b_14 rfl (lv_at hl 1 rfl) ?_
    obtain ⟨h07, h48, h⟩ := h
    refine x_newb (n := p1) hx hb (hts _ mwC_344) hK hP hD hS hA h07 h48 (Nat.le_of_ble_eq_true rfl) (Nat.le_of_ble_eq_true rfl) dJ7_copyOf_9075b_15 (fun q3 cA3 sh4 H hn6 es5 hK hP hD hS => ?_)
    have h := h q3 cA3 sh4 hn6 es5
    refine lv_astore_n (lv' := [(2, .ref q3), (0, .ref p0), (1, .int p1)]) hx hb dJ7_copyOf_9075b_17 rfl hl (by decide) rfl (fun ls hl => ?_)
    refine lv_aload_n hx hb dJ7_copyOf_9075b_18 rfl (lv_at hl 1 rfl) ?_
    refine lv_iconst (v := 0) hx hb dJ7_copyOf_9075b_19 (by decide) ?_
    refine lv_aload_n hx hb dJ7_copyOf_9075b_20 rfl (lv_at hl 0 rfl) ?_
    refine lv_iconst (v := 0) hx hb dJ7_copyOf_9075b_21 (by decide) ?_
    refine lv_aload_n hx hb dJ7_copyOf_9075b_22 rfl (lv_at hl 1 rfl) ?_
    obtain ⟨⟨hm9, hk10⟩, h⟩ := h
    refine c_alen hx hb hK hP hm9 (Or.inr (Or.inl hk10)) dJ7_copyOf_9075b_23 ?_
    refine lv_iload_n hx hb dJ7_copyOf_9075b_24 rfl (lv_at hl 2 rfl) ?_
    refine r_endi (va_runS (rm := ({ frames := 4, cells := 0, slots := 0, locals := 60 })) (As := [.int (nI (sN sh4 p0)), .int p1]) (rest := [.int 0, .ref q3, .int 0, .ref p0]) ⟨hx, hb, hml, hown, hts⟩ (p_J9_min_7cf53 l dC dI (nI (sN sh4 p0)) p1 _ h H.size) (va_cwS 2 hts (g_S gdC mwC_333 mwC_323 mwC_3 mwC_321) rfl rfl rfl hd_J9_min_7cf53 ⟨Nat.le_of_ble_eq_true rfl, Nat.le_of_ble_eq_true rfl⟩) ⟨s_blind, fun U hU hW => ⟨rfl, congrArg Array.size hU⟩⟩ rfl rfl hl.1 rfl (lv_room (Nat.le_of_ble_eq_true rfl)) dJ7_copyOf_9075b_25 ⟨Nat.le_of_ble_eq_true rfl, Nat.le_of_ble_eq_true rfl⟩) hP hS hA (fun r11 H locs h hP hS => ?_)
    obtain ⟨⟨hm12, hk13⟩, h⟩ := h
    obtain ⟨h314, h415, h516, h817, h⟩ := h
    refine x_copyb (q := p0) (q1 := q3) hx hb (hml.trans hl.1.symm) hown (hts _ mwC_334) (hts _ mwC_335) (hts _ mwC_336) (hts _ mwC_337) hK hP hD hS hm9 hk10 hm12 hk13 (by decide) (by decide) h314 h415 h516 h817 (Nat.le_of_ble_eq_true rfl) (Nat.le_of_ble_eq_true rfl) dJ7_copyOf_9075b_28 (fun H locs hP hD hS => ?_)
    refine lv_aload_n hx hb dJ7_copyOf_9075b_31 rfl (lv_at hl 0 rfl) ?_
    refine W.widen (k := 1) (n := 400) (by decide) (by decide) ?_
    exact W.aret hx hb hr (Or.inr ⟨_, rfl⟩) (Or.inr ⟨_, rfl⟩) (fun t ht hW => ⟨⟨(sh4, ci, va_up (va_up ai q3 (fun _ => 0)) q3 (va_cpy ((va_up ai q3 (fun _ => 0)) p0) ((va_up ai q3 (fun _ => 0)) q3) (0 : Int32).toNatClampNeg (0 : Int32).toNatClampNeg r11.toNatClampNeg), al), q3, rfl, trivial, h, by rw [ht]; exact hP, cK.moved hW.alike hK, hD⟩, hS.F ht⟩) hS.2.2 dJ7_copyOf_9075b_32
  · have h := h.2 c_3
    refine lv_aload_n hx hb dJ7_copyOf_9075b_6 rfl (lv_at hl 0 rfl) ?_
    obtain ⟨h418, h819, h⟩ := h
    refine x_cloneb hx hb (hml.trans hl.1.symm) hown (hts _ mwC_345) (hts _ mwC_346) (hts _ mwC_340) (hts _ mwC_341) (hts _ mwC_347) hG hK hP hD hS hA hm1 hk2 h418 h819 (Nat.le_of_ble_eq_true rfl) (Nat.le_of_ble_eq_true rfl) (Nat.le_of_ble_eq_true rfl) (Nat.le_of_ble_eq_true rfl) dJ7_copyOf_9075b_7 (fun q20 sh21 H hn23 es22 hK hP hD hS => ?_)
    have h := h q20 sh21 hn23 es22
    obtain ⟨⟨hm24, hk25⟩, h⟩ := h
    obtain ⟨q0, e0⟩ := c_at (ci := ci) (ai := va_up ai q20 (ai p0)) (al := al) hm24 (cE_i (Or.inr hk25))
    refine va_castA (nm := "[B") hx hb hown (hts _ mwC_348) hP q0 e0 ((hK.2 _ hm24).2.1 hk25).2 dJ7_copyOf_9075b_10 ?_
    refine W.widen (k := 1) (n := 400) (by decide) (by decide) ?_
    exact W.aret hx hb hr (Or.inr ⟨_, rfl⟩) (Or.inr ⟨_, rfl⟩) (fun t ht hW => ⟨⟨(sh21, ci, va_up ai q20 (ai p0), al), q20, rfl, trivial, h, by rw [ht]; exact hP, cK.moved hW.alike hK, hD⟩, hS.F ht⟩) hS.2.2 dJ7_copyOf_9075b_13
abbrev wmX6_init : List Cond := .code yX6_init cX6_init 1 none :: WC
theorem hd_X6_init : yX6_init.cls ≠ "java/lang/invoke/MethodHandle" ∧ yX6_init.cls ≠ "java/lang/invoke/VarHandle" ∧ (parseMethodDescriptor yX6_init.desc).map (fun d => d.parameters.length) = some 0 := by decide +kernel
def P_X6_init (sh : Sh) (ci : Nat → Nat → Int32) (ai : Nat → Nat → Int32) (al : Nat → Nat → Int64) (q : Nat)  (Q : Sh → (Nat → Nat → Int32) → (Nat → Nat → Int32) → (Nat → Nat → Int64) → Prop) : Prop := (q ∈ sL sh ∧ sK sh q = 5) ∧ Q sh ci ai al
set_option maxHeartbeats 4000000 in
set_option maxRecDepth 100000 in
theorem p_X6_init (l : Launch) (dC : Nat → ClassId) (dI : Nat → Nat → Nat) (sh : Sh) (ci : Nat → Nat → Int32) (ai : Nat → Nat → Int32) (al : Nat → Nat → Int64) (q : Nat)  (Q : Sh → (Nat → Nat → Int32) → (Nat → Nat → Int32) → (Nat → Nat → Int64) → Prop) (h : P_X6_init sh ci ai al q  Q) (sz : Nat) : Met l yX6_init wmX6_init ({ frames := 8, cells := 0, slots := 0, locals := 120 }) (va_Pc [.ref q] (cPre dC dI sh ci ai al sz)) (va_Qv (S := XSt) (xV Q) (xB dC dI (va_A (cW sh ci ai al) sz)) (va_A (cW sh ci ai al) sz)) 0 0 (va_A (cW sh ci ai al) sz) := by
  refine Met.ofW (cc := cX6_init) (maxL := 1) (ret := none) (by decide) rfl ?_
  intro p e s m args below meth c s₁ B hml hv
  obtain ⟨rfl, hsz, hP, hK, hD0, hG⟩ := hv
  have hx := B.exec
  have hb := B.bytes
  have hr := B.returns
  have hts : ∀ w ∈ WC, w.before _ s = true := fun w h => atoms_spec (ws := wmX6_init) B.pre w (List.mem_cons_of_mem _ h)
  have hown : s.vm.findClass RX6 = some m.cls := findClass_of_methodNamed B.named
  have hlocks := B.notSynchronized
  have hin : meth.name = "<init>" := (name_of_methodNamed B.named B.method).1
  subst hsz
  have hD := hD0.self (sz := s.heap.size)
  generalize hAe : va_A (cW sh ci ai al) s.heap.size = A at hD ⊢
  have hA : ∀ q : Nat, s.heap.size ≤ q → A q := fun q h => by rw [← hAe]; exact Or.inr h
  generalize hH : s.heap = H at hP ⊢
  have hS : va_S A s.heap H [] := by rw [← hH]; exact va_S.rf
  have hl := lv_entry [.ref q] (n := 1) (Nat.le_of_ble_eq_true rfl)
  rw [lg_entry_eq]
  generalize (lg_sl [.ref q] ++ List.replicate (1 - (lg_sl [.ref q]).length) Slot.unset).toArray = ls at hl ⊢
  have hl : lv_has ls 1 [(0, .ref q)] := hl
  unfold P_X6_init at h
  obtain ⟨⟨hq, hk⟩, h⟩ := h
  refine lv_aload_n hx hb dX6_init_0 rfl (lv_at hl 0 rfl) ?_
  refine W.objInit hx hb hown (hts _ mwC_349) (hts _ mwC_350) (hts _ mwC_351) rfl (by rw [hml]; exact hl.1) rfl dX6_init_1 (Nat.le_of_ble_eq_true rfl) (Nat.le_of_ble_eq_true rfl) ?_
  refine W.eq (g2 := F0 m 4 ls []) rfl ?_
  refine W.widen (k := 0) (n := 0) (by decide) (by decide) ?_
  exact W.vret hx hb hr (fun t ht hW => ⟨⟨(sh, ci, ai, al), rfl, h, by rw [ht]; exact hP, cK.moved hW.alike hK, hD⟩, hS.F ht⟩) hS.2.2 dX6_init_4
abbrev wmX5_init : List Cond := .code yX5_init cX5_init 3 none :: WC
theorem hd_X5_init : yX5_init.cls ≠ "java/lang/invoke/MethodHandle" ∧ yX5_init.cls ≠ "java/lang/invoke/VarHandle" ∧ (parseMethodDescriptor yX5_init.desc).map (fun d => d.parameters.length) = some 2 := by decide +kernel
def P_X5_init (sh : Sh) (ci : Nat → Nat → Int32) (ai : Nat → Nat → Int32) (al : Nat → Nat → Int64) (q : Nat) (p0 : Nat) (p1 : Nat) (Q : Sh → (Nat → Nat → Int32) → (Nat → Nat → Int32) → (Nat → Nat → Int64) → Prop) : Prop := (q ∈ sL sh ∧ isZ (sK sh q)) ∧ ∀ sh1 : Sh, sh1 = shR sh q 0 (some p0) → (q ∈ sL sh1 ∧ isZ (sK sh1 q)) ∧ ∀ sh5 : Sh, sh5 = shR sh1 q 1 (some p1) → (p1 ∈ sL sh5 ∧ sK sh5 p1 = 22) ∧ ¬ (nI (sN sh5 p1)) < 0 ∧ (nI (sN sh5 p1)).toNatClampNeg ≤ 400 ∧ ∀ (q9 : Nat) (cA9 : ClassId) (sh10 : Sh), q9 ∉ sL sh5 → sh10 = shN sh5 q9 21 (nI (sN sh5 p1)).toNatClampNeg cA9 → (q ∈ sL sh10 ∧ isZ (sK sh10 q)) ∧ ∀ sh17 : Sh, sh17 = shR sh10 q 2 (some q9) → Q sh17 ci (va_up ai q9 (fun _ => 0)) al
set_option maxHeartbeats 4000000 in
set_option maxRecDepth 100000 in
theorem p_X5_init (l : Launch) (dC : Nat → ClassId) (dI : Nat → Nat → Nat) (sh : Sh) (ci : Nat → Nat → Int32) (ai : Nat → Nat → Int32) (al : Nat → Nat → Int64) (q : Nat) (p0 : Nat) (p1 : Nat) (Q : Sh → (Nat → Nat → Int32) → (Nat → Nat → Int32) → (Nat → Nat → Int64) → Prop) (h : P_X5_init sh ci ai al q p0 p1 Q) (sz : Nat) : Met l yX5_init wmX5_init ({ frames := 12, cells := 1, slots := 400, locals := 200 }) (va_Pc [.ref q, .ref p0, .ref p1] (cPre dC dI sh ci ai al sz)) (va_Qv (S := XSt) (xV Q) (xB dC dI (va_A (cW sh ci ai al) sz)) (va_A (cW sh ci ai al) sz)) 1 400 (va_A (cW sh ci ai al) sz) := by
  refine Met.ofW (cc := cX5_init) (maxL := 3) (ret := none) (by decide) rfl ?_
  intro p e s m args below meth c s₁ B hml hv
  obtain ⟨rfl, hsz, hP, hK, hD0, hG⟩ := hv
  have hx := B.exec
  have hb := B.bytes
  have hr := B.returns
  have hts : ∀ w ∈ WC, w.before _ s = true := fun w h => atoms_spec (ws := wmX5_init) B.pre w (List.mem_cons_of_mem _ h)
  have hown : s.vm.findClass RX5 = some m.cls := findClass_of_methodNamed B.named
  have hlocks := B.notSynchronized
  have hin : meth.name = "<init>" := (name_of_methodNamed B.named B.method).1
  subst hsz
  have hD := hD0.self (sz := s.heap.size)
  generalize hAe : va_A (cW sh ci ai al) s.heap.size = A at hD ⊢
  have hA : ∀ q : Nat, s.heap.size ≤ q → A q := fun q h => by rw [← hAe]; exact Or.inr h
  generalize hH : s.heap = H at hP ⊢
  have hS : va_S A s.heap H [] := by rw [← hH]; exact va_S.rf
  have hl := lv_entry [.ref q, .ref p0, .ref p1] (n := 3) (Nat.le_of_ble_eq_true rfl)
  rw [lg_entry_eq]
  generalize (lg_sl [.ref q, .ref p0, .ref p1] ++ List.replicate (3 - (lg_sl [.ref q, .ref p0, .ref p1]).length) Slot.unset).toArray = ls at hl ⊢
  have hl : lv_has ls 3 [(0, .ref q), (1, .ref p0), (2, .ref p1)] := hl
  unfold P_X5_init at h
  obtain ⟨⟨hq, hk⟩, h⟩ := h
  refine lv_aload_n hx hb dX5_init_0 rfl (lv_at hl 0 rfl) ?_
  refine W.objInit hx hb hown (hts _ mwC_352) (hts _ mwC_350) (hts _ mwC_351) rfl (by rw [hml]; exact hl.1) rfl dX5_init_1 (Nat.le_of_ble_eq_true rfl) (Nat.le_of_ble_eq_true rfl) ?_
  refine W.eq (g2 := F0 m 4 ls []) rfl ?_
  refine lv_aload_n hx hb dX5_init_4 rfl (lv_at hl 0 rfl) ?_
  refine lv_aload_n hx hb dX5_init_5 rfl (lv_at hl 1 rfl) ?_
  refine x_putZ0 hx hb hts hown hK hP hD hS hq hk hin (hts _ mwC_325) dX5_init_6 (fun sh1 H locs es2 hK hP hD hS => ?_)
  have h := h sh1 es2
  refine lv_aload_n hx hb dX5_init_9 rfl (lv_at hl 0 rfl) ?_
  refine lv_aload_n hx hb dX5_init_10 rfl (lv_at hl 2 rfl) ?_
  obtain ⟨⟨hm3, hk4⟩, h⟩ := h
  refine x_putZ1 hx hb hts hown hK hP hD hS hm3 hk4 hin (hts _ mwC_90) dX5_init_11 (fun sh5 H locs es6 hK hP hD hS => ?_)
  have h := h sh5 es6
  refine lv_aload_n hx hb dX5_init_14 rfl (lv_at hl 0 rfl) ?_
  refine lv_aload_n hx hb dX5_init_15 rfl (lv_at hl 2 rfl) ?_
  obtain ⟨⟨hm7, hk8⟩, h⟩ := h
  refine c_alen hx hb hK hP hm7 (Or.inr (Or.inr (Or.inl hk8))) dX5_init_16 ?_
  obtain ⟨h013, h414, h⟩ := h
  refine x_newb (n := (nI (sN sh5 p1))) hx hb (hts _ mwC_344) hK hP hD hS hA h013 h414 (Nat.le_of_ble_eq_true rfl) (Nat.le_of_ble_eq_true rfl) dX5_init_17 (fun q9 cA9 sh10 H hn12 es11 hK hP hD hS => ?_)
  have h := h q9 cA9 sh10 hn12 es11
  obtain ⟨⟨hm15, hk16⟩, h⟩ := h
  refine x_putZ2 hx hb hts hown hK hP hD hS hm15 hk16 hin (hts _ mwC_104) dX5_init_19 (fun sh17 H locs es18 hK hP hD hS => ?_)
  have h := h sh17 es18
  refine W.widen (k := 1) (n := 400) (by decide) (by decide) ?_
  exact W.vret hx hb hr (fun t ht hW => ⟨⟨(sh17, ci, va_up ai q9 (fun _ => 0), al), rfl, h, by rw [ht]; exact hP, cK.moved hW.alike hK, hD⟩, hS.F ht⟩) hS.2.2 dX5_init_22
