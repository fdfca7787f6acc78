theorem nmX11 : ∀ a, a < 9 → ∀ b, b < 9 → a ≠ b → (TX11 a).2.1 ≠ (TX11 b).2.1 := by decide +kernel
theorem dX11_addToRow_0 : decode cX11_addToRow 0 = .ok (.aload_n 0, 1) := by decide +kernel
theorem dX11_addToRow_1 : decode cX11_addToRow 1 = .ok (.getfield 45, 3) := by decide +kernel
theorem dX11_addToRow_4 : decode cX11_addToRow 4 = .ok (.bipush 100, 2) := by decide +kernel
theorem dX11_addToRow_6 : decode cX11_addToRow 6 = .ok (.if_icmp .lt 13, 3) := by decide +kernel
theorem dX11_addToRow_9 : decode cX11_addToRow 9 = .ok (.new 48, 3) := by decide +kernel
theorem dX11_addToRow_12 : decode cX11_addToRow 12 = .ok (.dup, 1) := by decide +kernel
theorem dX11_addToRow_13 : decode cX11_addToRow 13 = .ok (.ldc 50, 2) := by decide +kernel
theorem dX11_addToRow_15 : decode cX11_addToRow 15 = .ok (.invokespecial 52, 3) := by decide +kernel
theorem dX11_addToRow_18 : decode cX11_addToRow 18 = .ok (.athrow, 1) := by decide +kernel
theorem dX11_addToRow_19 : decode cX11_addToRow 19 = .ok (.aload_n 0, 1) := by decide +kernel
theorem dX11_addToRow_20 : decode cX11_addToRow 20 = .ok (.getfield 22, 3) := by decide +kernel
theorem dX11_addToRow_23 : decode cX11_addToRow 23 = .ok (.aload_n 0, 1) := by decide +kernel
theorem dX11_addToRow_24 : decode cX11_addToRow 24 = .ok (.getfield 45, 3) := by decide +kernel
theorem dX11_addToRow_27 : decode cX11_addToRow 27 = .ok (.lload_n 1, 1) := by decide +kernel
theorem dX11_addToRow_28 : decode cX11_addToRow 28 = .ok (.lastore, 1) := by decide +kernel
theorem dX11_addToRow_29 : decode cX11_addToRow 29 = .ok (.aload_n 0, 1) := by decide +kernel
theorem dX11_addToRow_30 : decode cX11_addToRow 30 = .ok (.getfield 26, 3) := by decide +kernel
theorem dX11_addToRow_33 : decode cX11_addToRow 33 = .ok (.aload_n 0, 1) := by decide +kernel
theorem dX11_addToRow_34 : decode cX11_addToRow 34 = .ok (.getfield 45, 3) := by decide +kernel
theorem dX11_addToRow_37 : decode cX11_addToRow 37 = .ok (.iload_n 3, 1) := by decide +kernel
theorem dX11_addToRow_38 : decode cX11_addToRow 38 = .ok (.i2b, 1) := by decide +kernel
theorem dX11_addToRow_39 : decode cX11_addToRow 39 = .ok (.bastore, 1) := by decide +kernel
theorem dX11_addToRow_40 : decode cX11_addToRow 40 = .ok (.aload_n 0, 1) := by decide +kernel
theorem dX11_addToRow_41 : decode cX11_addToRow 41 = .ok (.dup, 1) := by decide +kernel
theorem dX11_addToRow_42 : decode cX11_addToRow 42 = .ok (.getfield 45, 3) := by decide +kernel
theorem dX11_addToRow_45 : decode cX11_addToRow 45 = .ok (.iconst 1, 1) := by decide +kernel
theorem dX11_addToRow_46 : decode cX11_addToRow 46 = .ok (.iadd, 1) := by decide +kernel
theorem dX11_addToRow_47 : decode cX11_addToRow 47 = .ok (.putfield 45, 3) := by decide +kernel
theorem dX11_addToRow_50 : decode cX11_addToRow 50 = .ok (.aload_n 0, 1) := by decide +kernel
theorem dX11_addToRow_51 : decode cX11_addToRow 51 = .ok (.getfield 45, 3) := by decide +kernel
theorem dX11_addToRow_54 : decode cX11_addToRow 54 = .ok (.ireturn, 1) := by decide +kernel
theorem dX11_listOf_0 : decode cX11_listOf 0 = .ok (.iload_n 1, 1) := by decide +kernel
theorem dX11_listOf_1 : decode cX11_listOf 1 = .ok (.ifCond .lt 29, 3) := by decide +kernel
theorem dX11_listOf_4 : decode cX11_listOf 4 = .ok (.iload_n 1, 1) := by decide +kernel
theorem dX11_listOf_5 : decode cX11_listOf 5 = .ok (.aload_n 0, 1) := by decide +kernel
theorem dX11_listOf_6 : decode cX11_listOf 6 = .ok (.getfield 136, 3) := by decide +kernel
theorem dX11_listOf_9 : decode cX11_listOf 9 = .ok (.if_icmp .ge 21, 3) := by decide +kernel
theorem dX11_listOf_12 : decode cX11_listOf 12 = .ok (.iload_n 1, 1) := by decide +kernel
theorem dX11_listOf_13 : decode cX11_listOf 13 = .ok (.aload_n 0, 1) := by decide +kernel
theorem dX11_listOf_14 : decode cX11_listOf 14 = .ok (.getfield 18, 3) := by decide +kernel
theorem dX11_listOf_17 : decode cX11_listOf 17 = .ok (.arraylength, 1) := by decide +kernel
theorem dX11_listOf_18 : decode cX11_listOf 18 = .ok (.if_icmp .ge 12, 3) := by decide +kernel
theorem dX11_listOf_21 : decode cX11_listOf 21 = .ok (.aload_n 0, 1) := by decide +kernel
theorem dX11_listOf_22 : decode cX11_listOf 22 = .ok (.getfield 18, 3) := by decide +kernel
theorem dX11_listOf_25 : decode cX11_listOf 25 = .ok (.iload_n 1, 1) := by decide +kernel
theorem dX11_listOf_26 : decode cX11_listOf 26 = .ok (.aaload, 1) := by decide +kernel
theorem dX11_listOf_27 : decode cX11_listOf 27 = .ok (.goto 4, 3) := by decide +kernel
theorem dX11_listOf_30 : decode cX11_listOf 30 = .ok (.aconst_null, 1) := by decide +kernel
theorem dX11_listOf_31 : decode cX11_listOf 31 = .ok (.astore_n 2, 1) := by decide +kernel
theorem dX11_listOf_32 : decode cX11_listOf 32 = .ok (.aload_n 2, 1) := by decide +kernel
theorem dX11_listOf_33 : decode cX11_listOf 33 = .ok (.ifnonnull 13, 3) := by decide +kernel
theorem dX11_listOf_36 : decode cX11_listOf 36 = .ok (.new 198, 3) := by decide +kernel
theorem dX11_listOf_39 : decode cX11_listOf 39 = .ok (.dup, 1) := by decide +kernel
theorem dX11_listOf_40 : decode cX11_listOf 40 = .ok (.ldc 200, 2) := by decide +kernel
theorem dX11_listOf_42 : decode cX11_listOf 42 = .ok (.invokespecial 202, 3) := by decide +kernel
theorem dX11_listOf_45 : decode cX11_listOf 45 = .ok (.athrow, 1) := by decide +kernel
theorem dX11_listOf_46 : decode cX11_listOf 46 = .ok (.aload_n 2, 1) := by decide +kernel
theorem dX11_listOf_47 : decode cX11_listOf 47 = .ok (.areturn, 1) := by decide +kernel
theorem dX11_checkRoom_0 : decode cX11_checkRoom 0 = .ok (.aload_n 0, 1) := by decide +kernel
theorem dX11_checkRoom_1 : decode cX11_checkRoom 1 = .ok (.getfield 136, 3) := by decide +kernel
theorem dX11_checkRoom_4 : decode cX11_checkRoom 4 = .ok (.bipush 24, 2) := by decide +kernel
theorem dX11_checkRoom_6 : decode cX11_checkRoom 6 = .ok (.if_icmp .lt 13, 3) := by decide +kernel
theorem dX11_checkRoom_9 : decode cX11_checkRoom 9 = .ok (.new 48, 3) := by decide +kernel
theorem dX11_checkRoom_12 : decode cX11_checkRoom 12 = .ok (.dup, 1) := by decide +kernel
theorem dX11_checkRoom_13 : decode cX11_checkRoom 13 = .ok (.ldc 203, 2) := by decide +kernel
theorem dX11_checkRoom_15 : decode cX11_checkRoom 15 = .ok (.invokespecial 52, 3) := by decide +kernel
theorem dX11_checkRoom_18 : decode cX11_checkRoom 18 = .ok (.athrow, 1) := by decide +kernel
theorem dX11_checkRoom_19 : decode cX11_checkRoom 19 = .ok (.return_, 1) := by decide +kernel
theorem dX11_checkOp_0 : decode cX11_checkOp 0 = .ok (.iload_n 0, 1) := by decide +kernel
theorem dX11_checkOp_1 : decode cX11_checkOp 1 = .ok (.ifCond .lt 9, 3) := by decide +kernel
theorem dX11_checkOp_4 : decode cX11_checkOp 4 = .ok (.iload_n 0, 1) := by decide +kernel
theorem dX11_checkOp_5 : decode cX11_checkOp 5 = .ok (.bipush 8, 2) := by decide +kernel
theorem dX11_checkOp_7 : decode cX11_checkOp 7 = .ok (.if_icmp .le 13, 3) := by decide +kernel
theorem dX11_checkOp_10 : decode cX11_checkOp 10 = .ok (.new 38, 3) := by decide +kernel
theorem dX11_checkOp_13 : decode cX11_checkOp 13 = .ok (.dup, 1) := by decide +kernel
theorem dX11_checkOp_14 : decode cX11_checkOp 14 = .ok (.ldc 205, 2) := by decide +kernel
theorem dX11_checkOp_16 : decode cX11_checkOp 16 = .ok (.invokespecial 42, 3) := by decide +kernel
theorem dX11_checkOp_19 : decode cX11_checkOp 19 = .ok (.athrow, 1) := by decide +kernel
theorem dX11_checkOp_20 : decode cX11_checkOp 20 = .ok (.return_, 1) := by decide +kernel
theorem dX11_checkCond_0 : decode cX11_checkCond 0 = .ok (.iload_n 0, 1) := by decide +kernel
theorem dX11_checkCond_1 : decode cX11_checkCond 1 = .ok (.ifCond .lt 8, 3) := by decide +kernel
theorem dX11_checkCond_4 : decode cX11_checkCond 4 = .ok (.iload_n 0, 1) := by decide +kernel
theorem dX11_checkCond_5 : decode cX11_checkCond 5 = .ok (.iconst 3, 1) := by decide +kernel
theorem dX11_checkCond_6 : decode cX11_checkCond 6 = .ok (.if_icmp .le 13, 3) := by decide +kernel
theorem dX11_checkCond_9 : decode cX11_checkCond 9 = .ok (.new 38, 3) := by decide +kernel
theorem dX11_checkCond_12 : decode cX11_checkCond 12 = .ok (.dup, 1) := by decide +kernel
theorem dX11_checkCond_13 : decode cX11_checkCond 13 = .ok (.ldc 207, 2) := by decide +kernel
theorem dX11_checkCond_15 : decode cX11_checkCond 15 = .ok (.invokespecial 42, 3) := by decide +kernel
theorem dX11_checkCond_18 : decode cX11_checkCond 18 = .ok (.athrow, 1) := by decide +kernel
theorem dX11_checkCond_19 : decode cX11_checkCond 19 = .ok (.return_, 1) := by decide +kernel
theorem dX11_checkLength_0 : decode cX11_checkLength 0 = .ok (.iload_n 0, 1) := by decide +kernel
theorem dX11_checkLength_1 : decode cX11_checkLength 1 = .ok (.ifCond .lt 10, 3) := by decide +kernel
theorem dX11_checkLength_4 : decode cX11_checkLength 4 = .ok (.iload_n 0, 1) := by decide +kernel
theorem dX11_checkLength_5 : decode cX11_checkLength 5 = .ok (.sipush 400, 3) := by decide +kernel
theorem dX11_checkLength_8 : decode cX11_checkLength 8 = .ok (.if_icmp .le 13, 3) := by decide +kernel
theorem dX11_checkLength_11 : decode cX11_checkLength 11 = .ok (.new 38, 3) := by decide +kernel
theorem dX11_checkLength_14 : decode cX11_checkLength 14 = .ok (.dup, 1) := by decide +kernel
theorem dX11_checkLength_15 : decode cX11_checkLength 15 = .ok (.ldc 209, 2) := by decide +kernel
theorem dX11_checkLength_17 : decode cX11_checkLength 17 = .ok (.invokespecial 42, 3) := by decide +kernel
theorem dX11_checkLength_20 : decode cX11_checkLength 20 = .ok (.athrow, 1) := by decide +kernel
theorem dX11_checkLength_21 : decode cX11_checkLength 21 = .ok (.return_, 1) := by decide +kernel
theorem hd_X4_initN : yX4_init.cls ≠ "java/lang/invoke/MethodHandle" ∧ yX4_init.cls ≠ "java/lang/invoke/VarHandle" ∧ (parseMethodDescriptor yX4_init.desc).map (fun d => d.parameters.length) = some 3 := by decide +kernel
def P_X4_initN (sh : Sh) (ci : Nat → Nat → Int32) (ai : Nat → Nat → Int32) (al : Nat → Nat → Int64) (q : Nat) (p0 : Nat) (p1 : Nat) (Q : Sh → (Nat → Nat → Int32) → (Nat → Nat → Int32) → (Nat → Nat → Int64) → Prop) : Prop := (q ∈ sL sh ∧ sK sh q = 4) ∧ ∀ (q1 : Nat) (cA1 : ClassId) (sh2 : Sh), q1 ∉ sL sh → sh2 = shN sh q1 22 (0 : Int32).toNatClampNeg cA1 → (q ∈ sL sh2 ∧ isZ (sK sh2 q)) ∧ P_X5_init sh2 ci ai (va_up al q1 (fun _ => 0)) q p0 q1 (fun sh7 ci7 ai7 al7 => (q ∈ sL sh7 ∧ sK sh7 q = 4) ∧ ∀ sh10 : Sh, sh10 = shR sh7 q 5 (some p1) → (q ∈ sL sh10 ∧ sK sh10 q = 4) ∧ ∀ sh14 : Sh, sh14 = shR sh10 q 6 (none) → Q sh14 ci7 ai7 al7)
set_option maxHeartbeats 4000000 in
set_option maxRecDepth 100000 in
theorem p_X4_initN (l : Launch) (dC : Nat → ClassId) (dI : Nat → Nat → Nat) (sh : Sh) (ci : Nat → Nat → Int32) (ai : Nat → Nat → Int32) (al : Nat → Nat → Int64) (q : Nat) (p0 : Nat) (p1 : Nat) (Q : Sh → (Nat → Nat → Int32) → (Nat → Nat → Int32) → (Nat → Nat → Int64) → Prop) (h : P_X4_initN sh ci ai al q p0 p1 Q) (sz : Nat) : Met l yX4_init wmX4_init ({ frames := 30, cells := 2, slots := 800, locals := 400 }) (va_Pc [.ref q, .ref p0, .ref p1, .null] (cPre dC dI sh ci ai al sz)) (va_Qv (S := XSt) (xV Q) (xB dC dI (va_A (cW sh ci ai al) sz)) (va_A (cW sh ci ai al) sz)) 2 800 (va_A (cW sh ci ai al) sz) := by
  refine Met.ofW (cc := cX4_init) (maxL := 4) (ret := none) (by decide) rfl ?_
  intro p e s m args below meth c s₁ B hml hv
  obtain ⟨rfl, hsz, hP, hK, hD0, hG⟩ := hv
  have hx := B.exec
  have hb := B.bytes
  have hr := B.returns
  have hts : ∀ w ∈ WC, w.before _ s = true := fun w h => atoms_spec (ws := wmX4_init) B.pre w (List.mem_cons_of_mem _ h)
  have hown : s.vm.findClass RX4 = some m.cls := findClass_of_methodNamed B.named
  have hlocks := B.notSynchronized
  have hin : meth.name = "<init>" := (name_of_methodNamed B.named B.method).1
  subst hsz
  have hD := hD0.self (sz := s.heap.size)
  generalize hAe : va_A (cW sh ci ai al) s.heap.size = A at hD ⊢
  have hA : ∀ q : Nat, s.heap.size ≤ q → A q := fun q h => by rw [← hAe]; exact Or.inr h
  generalize hH : s.heap = H at hP ⊢
  have hS : va_S A s.heap H [] := by rw [← hH]; exact va_S.rf
  have hl := lv_entry [.ref q, .ref p0, .ref p1, .null] (n := 4) (Nat.le_of_ble_eq_true rfl)
  rw [lg_entry_eq]
  generalize (lg_sl [.ref q, .ref p0, .ref p1, .null] ++ List.replicate (4 - (lg_sl [.ref q, .ref p0, .ref p1, .null]).length) Slot.unset).toArray = ls at hl ⊢
  have hl : lv_has ls 4 [(0, .ref q), (1, .ref p0), (2, .ref p1), (3, .null)] := hl
  unfold P_X4_initN at h
  obtain ⟨⟨hq, hk⟩, h⟩ := h
  refine lv_aload_n hx hb dX4_init_0 rfl (lv_at hl 0 rfl) ?_
  refine lv_aload_n hx hb dX4_init_1 rfl (lv_at hl 1 rfl) ?_
  refine lv_iconst (v := 0) hx hb dX4_init_2 (by decide) ?_
  refine x_newl (n := (0 : Int32)) hx hb (hts _ mwC_332) hK hP hD hS hA (by decide) (by decide) (Nat.le_of_ble_eq_true rfl) (Nat.le_of_ble_eq_true rfl) dX4_init_3 (fun q1 cA1 sh2 H hn4 es3 hK hP hD hS => ?_)
  have h := h q1 cA1 sh2 hn4 es3
  obtain ⟨⟨hm5, hk6⟩, h⟩ := h
  refine xn_endv (va_runI (rm := ({ frames := 12, cells := 1, slots := 400, locals := 200 })) (As := [.ref p0, .ref q1]) (rest := []) ⟨hx, hb, hml, hown, hts⟩ (p_X5_init l dC dI _ _ _ _ q p0 q1 _ h H.size) (cwI 2 hts (g_C gdC mwC_353) rfl rfl rfl (hts _ mwC_22) (hts _ mwC_359) (hts _ mwC_355) rfl hd_X5_init ⟨Nat.le_of_ble_eq_true rfl, Nat.le_of_ble_eq_true rfl⟩) (c_preS hK hP hD hG) rfl rfl hl.1 rfl (lv_room (Nat.le_of_ble_eq_true rfl)) dX4_init_5 ⟨Nat.le_of_ble_eq_true rfl, Nat.le_of_ble_eq_true rfl⟩) hD hS hA (fun sh7 ci7 ai7 al7 H locs h hK hP hD hS => ?_)
  refine lv_aload_n hx hb dX4_init_8 rfl (lv_at hl 0 rfl) ?_
  refine lv_aload_n hx hb dX4_init_9 rfl (lv_at hl 2 rfl) ?_
  obtain ⟨⟨hm8, hk9⟩, h⟩ := h
  refine x_putR (r := some p1) (C := RX4) (T := TX4) (N := 7) (K := 4) hx hb hts hinX4 tyX4 tyX4_ok nmX4 hown hK hP hD hS hm8 hk9 (by decide) rfl 5 (by decide) (hts _ mwC_18) (fun _ h9 => h9) rfl hin rfl (ty := (.object "NeededLists$LazyList")) (by decide +kernel) rfl rfl (Nat.le_of_ble_eq_true rfl) rfl dX4_init_10 (fun sh10 H locs es11 hK hP hD hS => ?_)
  have h := h sh10 es11
  refine lv_aload_n hx hb dX4_init_13 rfl (lv_at hl 0 rfl) ?_
  refine lv_aload_nN hx hb dX4_init_14 rfl (lv_at hl 3 rfl) ?_
  obtain ⟨⟨hm12, hk13⟩, h⟩ := h
  refine x_putR (r := none) (C := RX4) (T := TX4) (N := 7) (K := 4) hx hb hts hinX4 tyX4 tyX4_ok nmX4 hown hK hP hD hS hm12 hk13 (by decide) rfl 6 (by decide) (hts _ mwC_33) (fun _ h9 => h9) rfl hin rfl (ty := (.object "NeededLists$LazyList")) (by decide +kernel) rfl rfl (Nat.le_of_ble_eq_true rfl) rfl dX4_init_15 (fun sh14 H locs es15 hK hP hD hS => ?_)
  have h := h sh14 es15
  refine W.widen (k := 2) (n := 800) (by decide) (by decide) ?_
  exact W.vret hx hb hr (fun t ht hW => ⟨⟨(sh14, ci7, ai7, al7), rfl, h, by rw [ht]; exact hP, cK.moved hW.alike hK, hD⟩, hS.F ht⟩) hS.2.2 dX4_init_18
abbrev wmX11_checkRoom : List Cond := .code yX11_checkRoom cX11_checkRoom 1 none :: WC
theorem hd_X11_checkRoom : yX11_checkRoom.cls = RX11 ∧ yX11_checkRoom.cls ≠ "java/lang/invoke/MethodHandle" ∧ yX11_checkRoom.cls ≠ "java/lang/invoke/VarHandle" ∧ (parseMethodDescriptor yX11_checkRoom.desc).map (fun d => d.parameters.length) = some 0 := by decide +kernel
def P_X11_checkRoom (sh : Sh) (ci : Nat → Nat → Int32) (ai : Nat → Nat → Int32) (al : Nat → Nat → Int64) (q : Nat)  (Q : Prop) (X : String → Prop) : Prop := (q ∈ sL sh ∧ sK sh q = 10) ∧ (((ci q 4) < 24) → Q) ∧ ((¬ (ci q 4) < 24) → (X "java/lang/UnsupportedOperationException"))
set_option maxHeartbeats 4000000 in
set_option maxRecDepth 100000 in
theorem p_X11_checkRoom (l : Launch) (hl0 : l.stackTraces = false) (dC : Nat → ClassId) (dI : Nat → Nat → Nat) (sh : Sh) (ci : Nat → Nat → Int32) (ai : Nat → Nat → Int32) (al : Nat → Nat → Int64) (q : Nat)  (Q : Prop) (X : String → Prop) (h : P_X11_checkRoom sh ci ai al q  Q X) (sz : Nat) : vx_Met l yX11_checkRoom wmX11_checkRoom ({ frames := 20, cells := 1, slots := 6, locals := 300 }) (va_Pc [.ref q] (xPre dC dI sh ci ai al sz)) (va_Qv (S := Unit) (fun _ => Q) (fun _ _ => True) (va_A [] sz)) (XC X sz) 1 6 (va_A [] sz) := by
  refine vx_ofW (cc := cX11_checkRoom) (maxL := 1) (ret := none) (by decide) rfl ?_
  intro p e s m args below meth c s₁ B hml htab hv
  obtain ⟨rfl, ⟨hsz, hP, hK, hD0, hG⟩, hZ⟩ := hv
  have hx := B.exec
  have hb := B.bytes
  have hr := B.returns
  have hts : ∀ w ∈ WC, w.before _ s = true := fun w h => atoms_spec (ws := wmX11_checkRoom) B.pre w (List.mem_cons_of_mem _ h)
  have hown : s.vm.findClass RX11 = some m.cls := findClass_of_methodNamed B.named
  have hlocks := B.notSynchronized
  subst hsz
  have hD := hD0
  have hZ : Gz (va_A [] s.heap.size) s s.heap := ⟨hZ.1.narrow (fun q h => Or.inr (h.elim (fun ⟨k2, e, h2⟩ => by simp at h2) id)), hZ.2.narrow (fun q h => Or.inr (h.elim (fun ⟨k2, e, h2⟩ => by simp at h2) id))⟩
  generalize hAe : va_A [] s.heap.size = A at hZ ⊢
  have hA : ∀ q : Nat, s.heap.size ≤ q → A q := fun q h => by rw [← hAe]; exact Or.inr h
  generalize hz9 : s.heap.size = z9
  generalize hH : s.heap = H at hP ⊢
  subst hz9
  have hS : va_S A s.heap H [] := by rw [← hH]; exact va_S.rf
  have hE : xE s.heap H := by rw [← hH]; exact xE.rf
  have hl := lv_entry [.ref q] (n := 1) (Nat.le_of_ble_eq_true rfl)
  rw [lg_entry_eq]
  generalize (lg_sl [.ref q] ++ List.replicate (1 - (lg_sl [.ref q]).length) Slot.unset).toArray = ls at hl ⊢
  have hl : lv_has ls 1 [(0, .ref q)] := hl
  unfold P_X11_checkRoom at h
  obtain ⟨⟨hq, hk⟩, h⟩ := h
  refine lv_aload_n hx hb dX11_checkRoom_0 rfl (lv_at hl 0 rfl) ?_
  refine c_get (C := RX11) (T := TX11) (N := 9) (K := 10) (v := .int (ci q 4)) hx hb hts hinX11 hown hK hP hq hk (by decide) rfl 4 (by decide) (hts _ mwC_365) (fun _ h9 => h9) rfl dX11_checkRoom_1 ?_
  refine lv_bipush (v := 24) hx hb dX11_checkRoom_4 (by decide) ?_
  refine lv_icmp_lt (tgt := 19) hx hb dX11_checkRoom_6 (by decide) (fun c_6 => ?_) (fun c_6 => ?_)
  · have h := h.1 c_6
    refine W.widen (k := 1) (n := 6) (by decide) (by decide) ?_
    refine vx_ret ?_
    exact W.vret hx hb hr (fun t ht hW => ⟨⟨(), rfl, h, trivial⟩, hS.F ht⟩) hS.2.2 dX11_checkRoom_19
  · have h := h.2 c_6
    obtain ⟨sa, hsa⟩ := hG.t203
    exact vx_throwS (A := A) (own := RX11) (cls := "java/lang/UnsupportedOperationException") (text := "there are 24 lists") (names := ["java/lang/RuntimeException", "java/lang/Exception"]) (sa := sa) (rest := []) hx hb hl0 hown (by decide) (by decide) (hts _ mwC_366) (hts _ mwC_367) hsa (vx_hat (B := [.castable "java/lang/UnsupportedOperationException" "java/lang/UnsupportedOperationException", .declares ⟨"java/lang/RuntimeException", "<init>", "(Ljava/lang/String;)V"⟩, .declares ⟨"java/lang/Exception", "<init>", "(Ljava/lang/String;)V"⟩, .declares ⟨"java/lang/Throwable", "<init>", "(Ljava/lang/String;)V"⟩]) (fun w h => hts w (xat_UOE w h)) (by decide +kernel) (vx_c (va_Nw.use rfl hG.xUOE) (vx_c (va_Nw.use rfl hG.dR) (vx_c (va_Nw.use rfl hG.dE) (vx_c (va_Nw.use rfl hG.dT) vx_n))))) (by decide +kernel) hZ.1 hZ.2 hS (hl.1.trans hml.symm) dX11_checkRoom_9 dX11_checkRoom_12 dX11_checkRoom_13 dX11_checkRoom_15 dX11_checkRoom_18 (fun x h => (htab x h).elim) (Nat.le_of_ble_eq_true rfl) (Nat.le_of_ble_eq_true rfl) (Nat.le_of_ble_eq_true rfl) (Nat.le_of_ble_eq_true rfl) hlocks (fun t hvm hz hq => ⟨(), trivial, h, Nat.le_trans hE.1 hz, fun q h1 h2 => (hq q (Nat.lt_of_lt_of_le h1 hE.1)).trans (hE.2 q h1)⟩) hS.2.2 (Nat.le_of_ble_eq_true rfl) (Nat.le_of_ble_eq_true rfl)
abbrev wmX11_listOf : List Cond := .code yX11_listOf cX11_listOf 3 (some (.object "NeededLists$LazyList")) :: WC
theorem hd_X11_listOf : yX11_listOf.cls = RX11 ∧ yX11_listOf.cls ≠ "java/lang/invoke/MethodHandle" ∧ yX11_listOf.cls ≠ "java/lang/invoke/VarHandle" ∧ (parseMethodDescriptor yX11_listOf.desc).map (fun d => d.parameters.length) = some 1 := by decide +kernel
def P_X11_listOf (sh : Sh) (ci : Nat → Nat → Int32) (ai : Nat → Nat → Int32) (al : Nat → Nat → Int64) (q : Nat) (p0 : Int32) (Q : Nat → Prop) (X : String → Prop) : Prop := (q ∈ sL sh ∧ sK sh q = 10) ∧ ((p0 < 0) → (X "java/lang/IndexOutOfBoundsException")) ∧ ((¬ p0 < 0) → ((((ci q 4) ≤ p0) → (X "java/lang/IndexOutOfBoundsException")) ∧ ((¬ (ci q 4) ≤ p0) → (∃ q1 : Nat, sR sh q 1 = some q1 ∧ (q1 ∈ sL sh ∧ sK sh q1 = 23) ∧ (((nI (sN sh q1)) ≤ p0) → (X "java/lang/IndexOutOfBoundsException")) ∧ ((¬ (nI (sN sh q1)) ≤ p0) → (vp_in p0 (sN sh q1) ∧ ((sQ sh q1 p0.toNatClampNeg = none → (X "java/lang/IndexOutOfBoundsException")) ∧ (∀ q6 : Nat, sQ sh q1 p0.toNatClampNeg = some q6 → (Q q6)))))))))
set_option maxHeartbeats 4000000 in
set_option maxRecDepth 100000 in
theorem p_X11_listOf (l : Launch) (hl0 : l.stackTraces = false) (dC : Nat → ClassId) (dI : Nat → Nat → Nat) (sh : Sh) (ci : Nat → Nat → Int32) (ai : Nat → Nat → Int32) (al : Nat → Nat → Int64) (q : Nat) (p0 : Int32) (Q : Nat → Prop) (X : String → Prop) (h : P_X11_listOf sh ci ai al q p0 Q X) (sz : Nat) : vx_Met l yX11_listOf wmX11_listOf ({ frames := 20, cells := 1, slots := 6, locals := 300 }) (va_Pc [.ref q, .int p0] (xPre dC dI sh ci ai al sz)) (va_Qr (S := Unit) (fun _ => True) (fun _ a _ => Q a) (va_A [] sz)) (XC X sz) 1 6 (va_A [] sz) := by
  refine vx_ofW (cc := cX11_listOf) (maxL := 3) (ret := (some (.object "NeededLists$LazyList"))) (by decide) rfl ?_
  intro p e s m args below meth c s₁ B hml htab hv
  obtain ⟨rfl, ⟨hsz, hP, hK, hD0, hG⟩, hZ⟩ := hv
  have hx := B.exec
  have hb := B.bytes
  have hr := B.returns
  have hts : ∀ w ∈ WC, w.before _ s = true := fun w h => atoms_spec (ws := wmX11_listOf) B.pre w (List.mem_cons_of_mem _ h)
  have hown : s.vm.findClass RX11 = some m.cls := findClass_of_methodNamed B.named
  have hlocks := B.notSynchronized
  subst hsz
  have hD := hD0
  have hZ : Gz (va_A [] s.heap.size) s s.heap := ⟨hZ.1.narrow (fun q h => Or.inr (h.elim (fun ⟨k2, e, h2⟩ => by simp at h2) id)), hZ.2.narrow (fun q h => Or.inr (h.elim (fun ⟨k2, e, h2⟩ => by simp at h2) id))⟩
  generalize hAe : va_A [] s.heap.size = A at hZ ⊢
  have hA : ∀ q : Nat, s.heap.size ≤ q → A q := fun q h => by rw [← hAe]; exact Or.inr h
  generalize hz9 : s.heap.size = z9
  generalize hH : s.heap = H at hP ⊢
  subst hz9
  have hS : va_S A s.heap H [] := by rw [← hH]; exact va_S.rf
  have hE : xE s.heap H := by rw [← hH]; exact xE.rf
  have hl := lv_entry [.ref q, .int p0] (n := 3) (Nat.le_of_ble_eq_true rfl)
  rw [lg_entry_eq]
  generalize (lg_sl [.ref q, .int p0] ++ List.replicate (3 - (lg_sl [.ref q, .int p0]).length) Slot.unset).toArray = ls at hl ⊢
  have hl : lv_has ls 3 [(0, .ref q), (1, .int p0)] := hl
  unfold P_X11_listOf at h
  obtain ⟨⟨hq, hk⟩, h⟩ := h
  refine lv_iload_n hx hb dX11_listOf_0 rfl (lv_at hl 1 rfl) ?_
  refine lv_if_lt (tgt := 30) hx hb dX11_listOf_1 (by decide) (fun c_1 => ?_) (fun c_1 => ?_)
  · have h := h.1 c_1
    refine lv_null hx hb dX11_listOf_30 ?_
    refine lv_astore_nN (lv' := [(2, .null), (0, .ref q), (1, .int p0)]) hx hb dX11_listOf_31 rfl hl (by decide) rfl (fun ls hl => ?_)
    refine lv_aload_nN hx hb dX11_listOf_32 rfl (lv_at hl 0 rfl) ?_
    refine lv_ifnonnullN hx hb dX11_listOf_33 ?_
    obtain ⟨sa, hsa⟩ := hG.t200
    exact vx_throwS (A := A) (own := RX11) (cls := "java/lang/IndexOutOfBoundsException") (text := "there is no such list") (names := ["java/lang/RuntimeException", "java/lang/Exception"]) (sa := sa) (rest := []) hx hb hl0 hown (by decide) (by decide) (hts _ mwC_368) (hts _ mwC_369) hsa (vx_hat (B := [.castable "java/lang/IndexOutOfBoundsException" "java/lang/IndexOutOfBoundsException", .declares ⟨"java/lang/RuntimeException", "<init>", "(Ljava/lang/String;)V"⟩, .declares ⟨"java/lang/Exception", "<init>", "(Ljava/lang/String;)V"⟩, .declares ⟨"java/lang/Throwable", "<init>", "(Ljava/lang/String;)V"⟩]) (fun w h => hts w (xat_IOO w h)) (by decide +kernel) (vx_c (va_Nw.use rfl hG.xIOO) (vx_c (va_Nw.use rfl hG.dR) (vx_c (va_Nw.use rfl hG.dE) (vx_c (va_Nw.use rfl hG.dT) vx_n))))) (by decide +kernel) hZ.1 hZ.2 hS (hl.1.trans hml.symm) dX11_listOf_36 dX11_listOf_39 dX11_listOf_40 dX11_listOf_42 dX11_listOf_45 (fun x h => (htab x h).elim) (Nat.le_of_ble_eq_true rfl) (Nat.le_of_ble_eq_true rfl) (Nat.le_of_ble_eq_true rfl) (Nat.le_of_ble_eq_true rfl) hlocks (fun t hvm hz hq => ⟨(), trivial, h, Nat.le_trans hE.1 hz, fun q h1 h2 => (hq q (Nat.lt_of_lt_of_le h1 hE.1)).trans (hE.2 q h1)⟩) hS.2.2 (Nat.le_of_ble_eq_true rfl) (Nat.le_of_ble_eq_true rfl)
  · have h := h.2 c_1
    refine lv_iload_n hx hb dX11_listOf_4 rfl (lv_at hl 1 rfl) ?_
    refine lv_aload_n hx hb dX11_listOf_5 rfl (lv_at hl 0 rfl) ?_
    refine c_get (C := RX11) (T := TX11) (N := 9) (K := 10) (v := .int (ci q 4)) hx hb hts hinX11 hown hK hP hq hk (by decide) rfl 4 (by decide) (hts _ mwC_365) (fun _ h9 => h9) rfl dX11_listOf_6 ?_
    refine lv_icmp_ge (tgt := 30) hx hb dX11_listOf_9 (by decide) (fun c_9 => ?_) (fun c_9 => ?_)
    · have h := h.1 c_9
      refine lv_null hx hb dX11_listOf_30 ?_
      refine lv_astore_nN (lv' := [(2, .null), (0, .ref q), (1, .int p0)]) hx hb dX11_listOf_31 rfl hl (by decide) rfl (fun ls hl => ?_)
      refine lv_aload_nN hx hb dX11_listOf_32 rfl (lv_at hl 0 rfl) ?_
      refine lv_ifnonnullN hx hb dX11_listOf_33 ?_
      obtain ⟨sa, hsa⟩ := hG.t200
      exact vx_throwS (A := A) (own := RX11) (cls := "java/lang/IndexOutOfBoundsException") (text := "there is no such list") (names := ["java/lang/RuntimeException", "java/lang/Exception"]) (sa := sa) (rest := []) hx hb hl0 hown (by decide) (by decide) (hts _ mwC_368) (hts _ mwC_369) hsa (vx_hat (B := [.castable "java/lang/IndexOutOfBoundsException" "java/lang/IndexOutOfBoundsException", .declares ⟨"java/lang/RuntimeException", "<init>", "(Ljava/lang/String;)V"⟩, .declares ⟨"java/lang/Exception", "<init>", "(Ljava/lang/String;)V"⟩, .declares ⟨"java/lang/Throwable", "<init>", "(Ljava/lang/String;)V"⟩]) (fun w h => hts w (xat_IOO w h)) (by decide +kernel) (vx_c (va_Nw.use rfl hG.xIOO) (vx_c (va_Nw.use rfl hG.dR) (vx_c (va_Nw.use rfl hG.dE) (vx_c (va_Nw.use rfl hG.dT) vx_n))))) (by decide +kernel) hZ.1 hZ.2 hS (hl.1.trans hml.symm) dX11_listOf_36 dX11_listOf_39 dX11_listOf_40 dX11_listOf_42 dX11_listOf_45 (fun x h => (htab x h).elim) (Nat.le_of_ble_eq_true rfl) (Nat.le_of_ble_eq_true rfl) (Nat.le_of_ble_eq_true rfl) (Nat.le_of_ble_eq_true rfl) hlocks (fun t hvm hz hq => ⟨(), trivial, h, Nat.le_trans hE.1 hz, fun q h1 h2 => (hq q (Nat.lt_of_lt_of_le h1 hE.1)).trans (hE.2 q h1)⟩) hS.2.2 (Nat.le_of_ble_eq_true rfl) (Nat.le_of_ble_eq_true rfl)
    · have h := h.2 c_9
      refine lv_iload_n hx hb dX11_listOf_12 rfl (lv_at hl 1 rfl) ?_
      refine lv_aload_n hx hb dX11_listOf_13 rfl (lv_at hl 0 rfl) ?_
      obtain ⟨q1, e2, h⟩ := h
      refine c_get (C := RX11) (T := TX11) (N := 9) (K := 10) (v := .ref q1) hx hb hts hinX11 hown hK hP hq hk (by decide) rfl 1 (by decide) (hts _ mwC_370) (fun _ h9 => h9) (by show some (va_rf (sR sh q 1)) = _; rw [e2]; rfl) dX11_listOf_14 ?_
      obtain ⟨⟨hm3, hk4⟩, h⟩ := h
      refine c_alen hx hb hK hP hm3 (Or.inr (Or.inr (Or.inr hk4))) dX11_listOf_17 ?_
      refine lv_icmp_ge (tgt := 30) hx hb dX11_listOf_18 (by decide) (fun c_18 => ?_) (fun c_18 => ?_)
      · have h := h.1 c_18
        refine lv_null hx hb dX11_listOf_30 ?_
        refine lv_astore_nN (lv' := [(2, .null), (0, .ref q), (1, .int p0)]) hx hb dX11_listOf_31 rfl hl (by decide) rfl (fun ls hl => ?_)
        refine lv_aload_nN hx hb dX11_listOf_32 rfl (lv_at hl 0 rfl) ?_
        refine lv_ifnonnullN hx hb dX11_listOf_33 ?_
        obtain ⟨sa, hsa⟩ := hG.t200
        exact vx_throwS (A := A) (own := RX11) (cls := "java/lang/IndexOutOfBoundsException") (text := "there is no such list") (names := ["java/lang/RuntimeException", "java/lang/Exception"]) (sa := sa) (rest := []) hx hb hl0 hown (by decide) (by decide) (hts _ mwC_368) (hts _ mwC_369) hsa (vx_hat (B := [.castable "java/lang/IndexOutOfBoundsException" "java/lang/IndexOutOfBoundsException", .declares ⟨"java/lang/RuntimeException", "<init>", "(Ljava/lang/String;)V"⟩, .declares ⟨"java/lang/Exception", "<init>", "(Ljava/lang/String;)V"⟩, .declares ⟨"java/lang/Throwable", "<init>", "(Ljava/lang/String;)V"⟩]) (fun w h => hts w (xat_IOO w h)) (by decide +kernel) (vx_c (va_Nw.use rfl hG.xIOO) (vx_c (va_Nw.use rfl hG.dR) (vx_c (va_Nw.use rfl hG.dE) (vx_c (va_Nw.use rfl hG.dT) vx_n))))) (by decide +kernel) hZ.1 hZ.2 hS (hl.1.trans hml.symm) dX11_listOf_36 dX11_listOf_39 dX11_listOf_40 dX11_listOf_42 dX11_listOf_45 (fun x h => (htab x h).elim) (Nat.le_of_ble_eq_true rfl) (Nat.le_of_ble_eq_true rfl) (Nat.le_of_ble_eq_true rfl) (Nat.le_of_ble_eq_true rfl) hlocks (fun t hvm hz hq => ⟨(), trivial, h, Nat.le_trans hE.1 hz, fun q h1 h2 => (hq q (Nat.lt_of_lt_of_le h1 hE.1)).trans (hE.2 q h1)⟩) hS.2.2 (Nat.le_of_ble_eq_true rfl) (Nat.le_of_ble_eq_true rfl)
      · have h := h.2 c_18
        refine lv_aload_n hx hb dX11_listOf_21 rfl (lv_at hl 0 rfl) ?_
        refine c_get (C := RX11) (T := TX11) (N := 9) (K := 10) (v := .ref q1) hx hb hts hinX11 hown hK hP hq hk (by decide) rfl 1 (by decide) (hts _ mwC_370) (fun _ h9 => h9) (by show some (va_rf (sR sh q 1)) = _; rw [e2]; rfl) dX11_listOf_22 ?_
        refine lv_iload_n hx hb dX11_listOf_25 rfl (lv_at hl 1 rfl) ?_
        obtain ⟨hi5, h⟩ := h
        refine c_aald hx hb hK hP hm3 hk4 hi5 dX11_listOf_26 ?_
        rcases e7 : sQ sh q1 p0.toNatClampNeg with _ | q6
        · have h := h.1 e7
          refine lv_goto (tgt := 31) hx hb dX11_listOf_27 (by decide) ?_
          refine lv_astore_nN (lv' := [(2, .null), (0, .ref q), (1, .int p0)]) hx hb dX11_listOf_31 rfl hl (by decide) rfl (fun ls hl => ?_)
          refine lv_aload_nN hx hb dX11_listOf_32 rfl (lv_at hl 0 rfl) ?_
          refine lv_ifnonnullN hx hb dX11_listOf_33 ?_
          obtain ⟨sa, hsa⟩ := hG.t200
          exact vx_throwS (A := A) (own := RX11) (cls := "java/lang/IndexOutOfBoundsException") (text := "there is no such list") (names := ["java/lang/RuntimeException", "java/lang/Exception"]) (sa := sa) (rest := []) hx hb hl0 hown (by decide) (by decide) (hts _ mwC_368) (hts _ mwC_369) hsa (vx_hat (B := [.castable "java/lang/IndexOutOfBoundsException" "java/lang/IndexOutOfBoundsException", .declares ⟨"java/lang/RuntimeException", "<init>", "(Ljava/lang/String;)V"⟩, .declares ⟨"java/lang/Exception", "<init>", "(Ljava/lang/String;)V"⟩, .declares ⟨"java/lang/Throwable", "<init>", "(Ljava/lang/String;)V"⟩]) (fun w h => hts w (xat_IOO w h)) (by decide +kernel) (vx_c (va_Nw.use rfl hG.xIOO) (vx_c (va_Nw.use rfl hG.dR) (vx_c (va_Nw.use rfl hG.dE) (vx_c (va_Nw.use rfl hG.dT) vx_n))))) (by decide +kernel) hZ.1 hZ.2 hS (hl.1.trans hml.symm) dX11_listOf_36 dX11_listOf_39 dX11_listOf_40 dX11_listOf_42 dX11_listOf_45 (fun x h => (htab x h).elim) (Nat.le_of_ble_eq_true rfl) (Nat.le_of_ble_eq_true rfl) (Nat.le_of_ble_eq_true rfl) (Nat.le_of_ble_eq_true rfl) hlocks (fun t hvm hz hq => ⟨(), trivial, h, Nat.le_trans hE.1 hz, fun q h1 h2 => (hq q (Nat.lt_of_lt_of_le h1 hE.1)).trans (hE.2 q h1)⟩) hS.2.2 (Nat.le_of_ble_eq_true rfl) (Nat.le_of_ble_eq_true rfl)
        · have h := h.2 q6 e7
          refine lv_goto (tgt := 31) hx hb dX11_listOf_27 (by decide) ?_
          refine lv_astore_n (lv' := [(2, .ref q6), (0, .ref q), (1, .int p0)]) hx hb dX11_listOf_31 rfl hl (by decide) rfl (fun ls hl => ?_)
          refine lv_aload_n hx hb dX11_listOf_32 rfl (lv_at hl 0 rfl) ?_
          refine lv_ifnonnull (tgt := 46) hx hb dX11_listOf_33 (by decide) ?_
          refine lv_aload_n hx hb dX11_listOf_46 rfl (lv_at hl 0 rfl) ?_
          refine W.widen (k := 1) (n := 6) (by decide) (by decide) ?_
          refine vx_ret ?_
          exact W.aret hx hb hr (Or.inl ⟨_, rfl⟩) (Or.inr ⟨_, rfl⟩) (fun t ht hW => ⟨⟨(), q6, rfl, trivial, h⟩, hS.F ht⟩) hS.2.2 dX11_listOf_47
abbrev wmX11_checkOp : List Cond := .code yX11_checkOp cX11_checkOp 1 none :: WC
theorem hd_X11_checkOp : yX11_checkOp.cls ≠ "java/lang/invoke/MethodHandle" ∧ yX11_checkOp.cls ≠ "java/lang/invoke/VarHandle" ∧ (parseMethodDescriptor yX11_checkOp.desc).map (fun d => d.parameters.length) = some 1 := by decide +kernel
def P_X11_checkOp (p0 : Int32) (Q : Prop) (X : String → Prop) : Prop := ((p0 < 0) → (X "java/lang/IllegalArgumentException")) ∧ ((¬ p0 < 0) → (((p0 ≤ 8) → Q) ∧ ((¬ p0 ≤ 8) → (X "java/lang/IllegalArgumentException"))))
set_option maxHeartbeats 4000000 in
set_option maxRecDepth 100000 in
theorem p_X11_checkOp (l : Launch) (hl0 : l.stackTraces = false)  (p0 : Int32) (Q : Prop) (X : String → Prop) (h : P_X11_checkOp p0 Q X) (sz : Nat) : vx_Met l yX11_checkOp wmX11_checkOp ({ frames := 20, cells := 1, slots := 6, locals := 300 }) (va_Pc [.int p0] (xPreS sz)) (va_Qv (S := Unit) (fun _ => Q) (fun _ _ => True) (va_A [] sz)) (XC X sz) 1 6 (va_A [] sz) := by
  refine vx_ofW (cc := cX11_checkOp) (maxL := 1) (ret := none) (by decide) rfl ?_
  intro p e s m args below meth c s₁ B hml htab hv
  obtain ⟨rfl, hsz, hG, hZ⟩ := hv
  have hx := B.exec
  have hb := B.bytes
  have hr := B.returns
  have hts : ∀ w ∈ WC, w.before _ s = true := fun w h => atoms_spec (ws := wmX11_checkOp) B.pre w (List.mem_cons_of_mem _ h)
  have hown : s.vm.findClass RX11 = some m.cls := findClass_of_methodNamed B.named
  have hlocks := B.notSynchronized
  subst hsz
  generalize hAe : va_A [] s.heap.size = A at hZ ⊢
  have hA : ∀ q : Nat, s.heap.size ≤ q → A q := fun q h => by rw [← hAe]; exact Or.inr h
  generalize hz9 : s.heap.size = z9
  generalize hH : s.heap = H
  subst hz9
  have hS : va_S A s.heap H [] := by rw [← hH]; exact va_S.rf
  have hE : xE s.heap H := by rw [← hH]; exact xE.rf
  have hl := lv_entry [.int p0] (n := 1) (Nat.le_of_ble_eq_true rfl)
  rw [lg_entry_eq]
  generalize (lg_sl [.int p0] ++ List.replicate (1 - (lg_sl [.int p0]).length) Slot.unset).toArray = ls at hl ⊢
  have hl : lv_has ls 1 [(0, .int p0)] := hl
  unfold P_X11_checkOp at h
  refine lv_iload_n hx hb dX11_checkOp_0 rfl (lv_at hl 0 rfl) ?_
  refine lv_if_lt (tgt := 10) hx hb dX11_checkOp_1 (by decide) (fun c_1 => ?_) (fun c_1 => ?_)
  · have h := h.1 c_1
    obtain ⟨sa, hsa⟩ := hG.t205
    exact vx_throwS (A := A) (own := RX11) (cls := "java/lang/IllegalArgumentException") (text := "op is not 0 .. 8") (names := ["java/lang/RuntimeException", "java/lang/Exception"]) (sa := sa) (rest := []) hx hb hl0 hown (by decide) (by decide) (hts _ mwC_371) (hts _ mwC_372) hsa (vx_hat (B := [.castable "java/lang/IllegalArgumentException" "java/lang/IllegalArgumentException", .declares ⟨"java/lang/RuntimeException", "<init>", "(Ljava/lang/String;)V"⟩, .declares ⟨"java/lang/Exception", "<init>", "(Ljava/lang/String;)V"⟩, .declares ⟨"java/lang/Throwable", "<init>", "(Ljava/lang/String;)V"⟩]) (fun w h => hts w (xat_IAE w h)) (by decide +kernel) (vx_c (va_Nw.use rfl hG.xIAE) (vx_c (va_Nw.use rfl hG.dR) (vx_c (va_Nw.use rfl hG.dE) (vx_c (va_Nw.use rfl hG.dT) vx_n))))) (by decide +kernel) hZ.1 hZ.2 hS (hl.1.trans hml.symm) dX11_checkOp_10 dX11_checkOp_13 dX11_checkOp_14 dX11_checkOp_16 dX11_checkOp_19 (fun x h => (htab x h).elim) (Nat.le_of_ble_eq_true rfl) (Nat.le_of_ble_eq_true rfl) (Nat.le_of_ble_eq_true rfl) (Nat.le_of_ble_eq_true rfl) hlocks (fun t hvm hz hq => ⟨(), trivial, h, Nat.le_trans hE.1 hz, fun q h1 h2 => (hq q (Nat.lt_of_lt_of_le h1 hE.1)).trans (hE.2 q h1)⟩) hS.2.2 (Nat.le_of_ble_eq_true rfl) (Nat.le_of_ble_eq_true rfl)
  · have h := h.2 c_1
    refine lv_iload_n hx hb dX11_checkOp_4 rfl (lv_at hl 0 rfl) ?_
    refine lv_bipush (v := 8) hx hb dX11_checkOp_5 (by decide) ?_
    refine lv_icmp_le (tgt := 20) hx hb dX11_checkOp_7 (by decide) (fun c_7 => ?_) (fun c_7 => ?_)
    · have h := h.1 c_7
      refine W.widen (k := 1) (n := 6) (by decide) (by decide) ?_
      refine vx_ret ?_
      exact W.vret hx hb hr (fun t ht hW => ⟨⟨(), rfl, h, trivial⟩, hS.F ht⟩) hS.2.2 dX11_checkOp_20
    · have h := h.2 c_7
      obtain ⟨sa, hsa⟩ := hG.t205
      exact vx_throwS (A := A) (own := RX11) (cls := "java/lang/IllegalArgumentException") (text := "op is not 0 .. 8") (names := ["java/lang/RuntimeException", "java/lang/Exception"]) (sa := sa) (rest := []) hx hb hl0 hown (by decide) (by decide) (hts _ mwC_371) (hts _ mwC_372) hsa (vx_hat (B := [.castable "java/lang/IllegalArgumentException" "java/lang/IllegalArgumentException", .declares ⟨"java/lang/RuntimeException", "<init>", "(Ljava/lang/String;)V"⟩, .declares ⟨"java/lang/Exception", "<init>", "(Ljava/lang/String;)V"⟩, .declares ⟨"java/lang/Throwable", "<init>", "(Ljava/lang/String;)V"⟩]) (fun w h => hts w (xat_IAE w h)) (by decide +kernel) (vx_c (va_Nw.use rfl hG.xIAE) (vx_c (va_Nw.use rfl hG.dR) (vx_c (va_Nw.use rfl hG.dE) (vx_c (va_Nw.use rfl hG.dT) vx_n))))) (by decide +kernel) hZ.1 hZ.2 hS (hl.1.trans hml.symm) dX11_checkOp_10 dX11_checkOp_13 dX11_checkOp_14 dX11_checkOp_16 dX11_checkOp_19 (fun x h => (htab x h).elim) (Nat.le_of_ble_eq_true rfl) (Nat.le_of_ble_eq_true rfl) (Nat.le_of_ble_eq_true rfl) (Nat.le_of_ble_eq_true rfl) hlocks (fun t hvm hz hq => ⟨(), trivial, h, Nat.le_trans hE.1 hz, fun q h1 h2 => (hq q (Nat.lt_of_lt_of_le h1 hE.1)).trans (hE.2 q h1)⟩) hS.2.2 (Nat.le_of_ble_eq_true rfl) (Nat.le_of_ble_eq_true rfl)
abbrev wmX11_checkCond : List Cond := .code yX11_checkCond cX11_checkCond 1 none :: WC
theorem hd_X11_checkCond : yX11_checkCond.cls ≠ "java/lang/invoke/MethodHandle" ∧ yX11_checkCond.cls ≠ "java/lang/invoke/VarHandle" ∧ (parseMethodDescriptor yX11_checkCond.desc).map (fun d => d.parameters.length) = some 1 := by decide +kernel
def P_X11_checkCond (p0 : Int32) (Q : Prop) (X : String → Prop) : Prop := ((p0 < 0) → (X "java/lang/IllegalArgumentException")) ∧ ((¬ p0 < 0) → (((p0 ≤ 3) → Q) ∧ ((¬ p0 ≤ 3) → (X "java/lang/IllegalArgumentException"))))
set_option maxHeartbeats 4000000 in
set_option maxRecDepth 100000 in
theorem p_X11_checkCond (l : Launch) (hl0 : l.stackTraces = false)  (p0 : Int32) (Q : Prop) (X : String → Prop) (h : P_X11_checkCond p0 Q X) (sz : Nat) : vx_Met l yX11_checkCond wmX11_checkCond ({ frames := 20, cells := 1, slots := 6, locals := 300 }) (va_Pc [.int p0] (xPreS sz)) (va_Qv (S := Unit) (fun _ => Q) (fun _ _ => True) (va_A [] sz)) (XC X sz) 1 6 (va_A [] sz) := by
  refine vx_ofW (cc := cX11_checkCond) (maxL := 1) (ret := none) (by decide) rfl ?_
  intro p e s m args below meth c s₁ B hml htab hv
  obtain ⟨rfl, hsz, hG, hZ⟩ := hv
  have hx := B.exec
  have hb := B.bytes
  have hr := B.returns
  have hts : ∀ w ∈ WC, w.before _ s = true := fun w h => atoms_spec (ws := wmX11_checkCond) B.pre w (List.mem_cons_of_mem _ h)
  have hown : s.vm.findClass RX11 = some m.cls := findClass_of_methodNamed B.named
  have hlocks := B.notSynchronized
  subst hsz
  generalize hAe : va_A [] s.heap.size = A at hZ ⊢
  have hA : ∀ q : Nat, s.heap.size ≤ q → A q := fun q h => by rw [← hAe]; exact Or.inr h
  generalize hz9 : s.heap.size = z9
  generalize hH : s.heap = H
  subst hz9
  have hS : va_S A s.heap H [] := by rw [← hH]; exact va_S.rf
  have hE : xE s.heap H := by rw [← hH]; exact xE.rf
  have hl := lv_entry [.int p0] (n := 1) (Nat.le_of_ble_eq_true rfl)
  rw [lg_entry_eq]
  generalize (lg_sl [.int p0] ++ List.replicate (1 - (lg_sl [.int p0]).length) Slot.unset).toArray = ls at hl ⊢
  have hl : lv_has ls 1 [(0, .int p0)] := hl
  unfold P_X11_checkCond at h
  refine lv_iload_n hx hb dX11_checkCond_0 rfl (lv_at hl 0 rfl) ?_
  refine lv_if_lt (tgt := 9) hx hb dX11_checkCond_1 (by decide) (fun c_1 => ?_) (fun c_1 => ?_)
  · have h := h.1 c_1
    obtain ⟨sa, hsa⟩ := hG.t207
    exact vx_throwS (A := A) (own := RX11) (cls := "java/lang/IllegalArgumentException") (text := "cond is not 0 .. 3") (names := ["java/lang/RuntimeException", "java/lang/Exception"]) (sa := sa) (rest := []) hx hb hl0 hown (by decide) (by decide) (hts _ mwC_371) (hts _ mwC_372) hsa (vx_hat (B := [.castable "java/lang/IllegalArgumentException" "java/lang/IllegalArgumentException", .declares ⟨"java/lang/RuntimeException", "<init>", "(Ljava/lang/String;)V"⟩, .declares ⟨"java/lang/Exception", "<init>", "(Ljava/lang/String;)V"⟩, .declares ⟨"java/lang/Throwable", "<init>", "(Ljava/lang/String;)V"⟩]) (fun w h => hts w (xat_IAE w h)) (by decide +kernel) (vx_c (va_Nw.use rfl hG.xIAE) (vx_c (va_Nw.use rfl hG.dR) (vx_c (va_Nw.use rfl hG.dE) (vx_c (va_Nw.use rfl hG.dT) vx_n))))) (by decide +kernel) hZ.1 hZ.2 hS (hl.1.trans hml.symm) dX11_checkCond_9 dX11_checkCond_12 dX11_checkCond_13 dX11_checkCond_15 dX11_checkCond_18 (fun x h => (htab x h).elim) (Nat.le_of_ble_eq_true rfl) (Nat.le_of_ble_eq_true rfl) (Nat.le_of_ble_eq_true rfl) (Nat.le_of_ble_eq_true rfl) hlocks (fun t hvm hz hq => ⟨(), trivial, h, Nat.le_trans hE.1 hz, fun q h1 h2 => (hq q (Nat.lt_of_lt_of_le h1 hE.1)).trans (hE.2 q h1)⟩) hS.2.2 (Nat.le_of_ble_eq_true rfl) (Nat.le_of_ble_eq_true rfl)
  · have h := h.2 c_1
    refine lv_iload_n hx hb dX11_checkCond_4 rfl (lv_at hl 0 rfl) ?_
    refine lv_iconst (v := 3) hx hb dX11_checkCond_5 (by decide) ?_
    refine lv_icmp_le (tgt := 19) hx hb dX11_checkCond_6 (by decide) (fun c_6 => ?_) (fun c_6 => ?_)
    · have h := h.1 c_6
      refine W.widen (k := 1) (n := 6) (by decide) (by decide) ?_
      refine vx_ret ?_
      exact W.vret hx hb hr (fun t ht hW => ⟨⟨(), rfl, h, trivial⟩, hS.F ht⟩) hS.2.2 dX11_checkCond_19
    · have h := h.2 c_6
      obtain ⟨sa, hsa⟩ := hG.t207
      exact vx_throwS (A := A) (own := RX11) (cls := "java/lang/IllegalArgumentException") (text := "cond is not 0 .. 3") (names := ["java/lang/RuntimeException", "java/lang/Exception"]) (sa := sa) (rest := []) hx hb hl0 hown (by decide) (by decide) (hts _ mwC_371) (hts _ mwC_372) hsa (vx_hat (B := [.castable "java/lang/IllegalArgumentException" "java/lang/IllegalArgumentException", .declares ⟨"java/lang/RuntimeException", "<init>", "(Ljava/lang/String;)V"⟩, .declares ⟨"java/lang/Exception", "<init>", "(Ljava/lang/String;)V"⟩, .declares ⟨"java/lang/Throwable", "<init>", "(Ljava/lang/String;)V"⟩]) (fun w h => hts w (xat_IAE w h)) (by decide +kernel) (vx_c (va_Nw.use rfl hG.xIAE) (vx_c (va_Nw.use rfl hG.dR) (vx_c (va_Nw.use rfl hG.dE) (vx_c (va_Nw.use rfl hG.dT) vx_n))))) (by decide +kernel) hZ.1 hZ.2 hS (hl.1.trans hml.symm) dX11_checkCond_9 dX11_checkCond_12 dX11_checkCond_13 dX11_checkCond_15 dX11_checkCond_18 (fun x h => (htab x h).elim) (Nat.le_of_ble_eq_true rfl) (Nat.le_of_ble_eq_true rfl) (Nat.le_of_ble_eq_true rfl) (Nat.le_of_ble_eq_true rfl) hlocks (fun t hvm hz hq => ⟨(), trivial, h, Nat.le_trans hE.1 hz, fun q h1 h2 => (hq q (Nat.lt_of_lt_of_le h1 hE.1)).trans (hE.2 q h1)⟩) hS.2.2 (Nat.le_of_ble_eq_true rfl) (Nat.le_of_ble_eq_true rfl)
abbrev wmX11_checkLength : List Cond := .code yX11_checkLength cX11_checkLength 1 none :: WC
theorem hd_X11_checkLength : yX11_checkLength.cls ≠ "java/lang/invoke/MethodHandle" ∧ yX11_checkLength.cls ≠ "java/lang/invoke/VarHandle" ∧ (parseMethodDescriptor yX11_checkLength.desc).map (fun d => d.parameters.length) = some 1 := by decide +kernel
def P_X11_checkLength (p0 : Int32) (Q : Prop) (X : String → Prop) : Prop := ((p0 < 0) → (X "java/lang/IllegalArgumentException")) ∧ ((¬ p0 < 0) → (((p0 ≤ 400) → Q) ∧ ((¬ p0 ≤ 400) → (X "java/lang/IllegalArgumentException"))))
set_option maxHeartbeats 4000000 in
set_option maxRecDepth 100000 in
theorem p_X11_checkLength (l : Launch) (hl0 : l.stackTraces = false)  (p0 : Int32) (Q : Prop) (X : String → Prop) (h : P_X11_checkLength p0 Q X) (sz : Nat) : vx_Met l yX11_checkLength wmX11_checkLength ({ frames := 20, cells := 1, slots := 6, locals := 300 }) (va_Pc [.int p0] (xPreS sz)) (va_Qv (S := Unit) (fun _ => Q) (fun _ _ => True) (va_A [] sz)) (XC X sz) 1 6 (va_A [] sz) := by
  refine vx_ofW (cc := cX11_checkLength) (maxL := 1) (ret := none) (by decide) rfl ?_
  intro p e s m args below meth c s₁ B hml htab hv
  obtain ⟨rfl, hsz, hG, hZ⟩ := hv
  have hx := B.exec
  have hb := B.bytes
  have hr := B.returns
  have hts : ∀ w ∈ WC, w.before _ s = true := fun w h => atoms_spec (ws := wmX11_checkLength) B.pre w (List.mem_cons_of_mem _ h)
  have hown : s.vm.findClass RX11 = some m.cls := findClass_of_methodNamed B.named
  have hlocks := B.notSynchronized
  subst hsz
  generalize hAe : va_A [] s.heap.size = A at hZ ⊢
  have hA : ∀ q : Nat, s.heap.size ≤ q → A q := fun q h => by rw [← hAe]; exact Or.inr h
  generalize hz9 : s.heap.size = z9
  generalize hH : s.heap = H
  subst hz9
  have hS : va_S A s.heap H [] := by rw [← hH]; exact va_S.rf
  have hE : xE s.heap H := by rw [← hH]; exact xE.rf
  have hl := lv_entry [.int p0] (n := 1) (Nat.le_of_ble_eq_true rfl)
  rw [lg_entry_eq]
  generalize (lg_sl [.int p0] ++ List.replicate (1 - (lg_sl [.int p0]).length) Slot.unset).toArray = ls at hl ⊢
  have hl : lv_has ls 1 [(0, .int p0)] := hl
  unfold P_X11_checkLength at h
  refine lv_iload_n hx hb dX11_checkLength_0 rfl (lv_at hl 0 rfl) ?_
  refine lv_if_lt (tgt := 11) hx hb dX11_checkLength_1 (by decide) (fun c_1 => ?_) (fun c_1 => ?_)
  · have h := h.1 c_1
    obtain ⟨sa, hsa⟩ := hG.t209
    exact vx_throwS (A := A) (own := RX11) (cls := "java/lang/IllegalArgumentException") (text := "n is not 0 .. 400") (names := ["java/lang/RuntimeException", "java/lang/Exception"]) (sa := sa) (rest := []) hx hb hl0 hown (by decide) (by decide) (hts _ mwC_371) (hts _ mwC_372) hsa (vx_hat (B := [.castable "java/lang/IllegalArgumentException" "java/lang/IllegalArgumentException", .declares ⟨"java/lang/RuntimeException", "<init>", "(Ljava/lang/String;)V"⟩, .declares ⟨"java/lang/Exception", "<init>", "(Ljava/lang/String;)V"⟩, .declares ⟨"java/lang/Throwable", "<init>", "(Ljava/lang/String;)V"⟩]) (fun w h => hts w (xat_IAE w h)) (by decide +kernel) (vx_c (va_Nw.use rfl hG.xIAE) (vx_c (va_Nw.use rfl hG.dR) (vx_c (va_Nw.use rfl hG.dE) (vx_c (va_Nw.use rfl hG.dT) vx_n))))) (by decide +kernel) hZ.1 hZ.2 hS (hl.1.trans hml.symm) dX11_checkLength_11 dX11_checkLength_14 dX11_checkLength_15 dX11_checkLength_17 dX11_checkLength_20 (fun x h => (htab x h).elim) (Nat.le_of_ble_eq_true rfl) (Nat.le_of_ble_eq_true rfl) (Nat.le_of_ble_eq_true rfl) (Nat.le_of_ble_eq_true rfl) hlocks (fun t hvm hz hq => ⟨(), trivial, h, Nat.le_trans hE.1 hz, fun q h1 h2 => (hq q (Nat.lt_of_lt_of_le h1 hE.1)).trans (hE.2 q h1)⟩) hS.2.2 (Nat.le_of_ble_eq_true rfl) (Nat.le_of_ble_eq_true rfl)
  · have h := h.2 c_1
    refine lv_iload_n hx hb dX11_checkLength_4 rfl (lv_at hl 0 rfl) ?_
    refine lv_sipush (v := 400) hx hb dX11_checkLength_5 (by decide) ?_
    refine lv_icmp_le (tgt := 21) hx hb dX11_checkLength_8 (by decide) (fun c_8 => ?_) (fun c_8 => ?_)
    · have h := h.1 c_8
      refine W.widen (k := 1) (n := 6) (by decide) (by decide) ?_
      refine vx_ret ?_
      exact W.vret hx hb hr (fun t ht hW => ⟨⟨(), rfl, h, trivial⟩, hS.F ht⟩) hS.2.2 dX11_checkLength_21
    · have h := h.2 c_8
      obtain ⟨sa, hsa⟩ := hG.t209
      exact vx_throwS (A := A) (own := RX11) (cls := "java/lang/IllegalArgumentException") (text := "n is not 0 .. 400") (names := ["java/lang/RuntimeException", "java/lang/Exception"]) (sa := sa) (rest := []) hx hb hl0 hown (by decide) (by decide) (hts _ mwC_371) (hts _ mwC_372) hsa (vx_hat (B := [.castable "java/lang/IllegalArgumentException" "java/lang/IllegalArgumentException", .declares ⟨"java/lang/RuntimeException", "<init>", "(Ljava/lang/String;)V"⟩, .declares ⟨"java/lang/Exception", "<init>", "(Ljava/lang/String;)V"⟩, .declares ⟨"java/lang/Throwable", "<init>", "(Ljava/lang/String;)V"⟩]) (fun w h => hts w (xat_IAE w h)) (by decide +kernel) (vx_c (va_Nw.use rfl hG.xIAE) (vx_c (va_Nw.use rfl hG.dR) (vx_c (va_Nw.use rfl hG.dE) (vx_c (va_Nw.use rfl hG.dT) vx_n))))) (by decide +kernel) hZ.1 hZ.2 hS (hl.1.trans hml.symm) dX11_checkLength_11 dX11_checkLength_14 dX11_checkLength_15 dX11_checkLength_17 dX11_checkLength_20 (fun x h => (htab x h).elim) (Nat.le_of_ble_eq_true rfl) (Nat.le_of_ble_eq_true rfl) (Nat.le_of_ble_eq_true rfl) (Nat.le_of_ble_eq_true rfl) hlocks (fun t hvm hz hq => ⟨(), trivial, h, Nat.le_trans hE.1 hz, fun q h1 h2 => (hq q (Nat.lt_of_lt_of_le h1 hE.1)).trans (hE.2 q h1)⟩) hS.2.2 (Nat.le_of_ble_eq_true rfl) (Nat.le_of_ble_eq_true rfl)
abbrev wmX11_addToRow : List Cond := .code yX11_addToRow cX11_addToRow 4 (some .int) :: WC
theorem hd_X11_addToRow : yX11_addToRow.cls = RX11 ∧ yX11_addToRow.cls ≠ "java/lang/invoke/MethodHandle" ∧ yX11_addToRow.cls ≠ "java/lang/invoke/VarHandle" ∧ (parseMethodDescriptor yX11_addToRow.desc).map (fun d => d.parameters.length) = some 2 := by decide +kernel
def P_X11_addToRow (sh : Sh) (ci : Nat → Nat → Int32) (ai : Nat → Nat → Int32) (al : Nat → Nat → Int64) (q : Nat) (p0 : Int64) (p1 : Int32) (Q : Int32 → Sh → (Nat → Nat → Int32) → (Nat → Nat → Int32) → (Nat → Nat → Int64) → Prop) (X : String → Prop) : Prop := (q ∈ sL sh ∧ sK sh q = 10) ∧ (((ci q 5) < 100) → (∃ q1 : Nat, sR sh q 2 = some q1 ∧ (q1 ∈ sL sh ∧ sK sh q1 = 22) ∧ vp_in (ci q 5) (sN sh q1) ∧ ∃ q6 : Nat, sR sh q 3 = some q6 ∧ (q6 ∈ sL sh ∧ sK sh q6 = 21) ∧ vp_in (ci q 5) (sN sh q6) ∧ Q ((va_up ci q (va_up (ci q) 5 ((ci q 5) + 1))) q 5) sh (va_up ci q (va_up (ci q) 5 ((ci q 5) + 1))) (va_up ai q6 (upd (ai q6) (ci q 5).toNatClampNeg (vp_nar .byte p1.toInt8.toInt32))) (va_up al q1 (vp_updL (al q1) (ci q 5).toNatClampNeg p0)))) ∧ ((¬ (ci q 5) < 100) → (X "java/lang/UnsupportedOperationException"))
set_option maxHeartbeats 4000000 in
set_option maxRecDepth 100000 in
theorem p_X11_addToRow (l : Launch) (hl0 : l.stackTraces = false) (dC : Nat → ClassId) (dI : Nat → Nat → Nat) (sh : Sh) (ci : Nat → Nat → Int32) (ai : Nat → Nat → Int32) (al : Nat → Nat → Int64) (q : Nat) (p0 : Int64) (p1 : Int32) (Q : Int32 → Sh → (Nat → Nat → Int32) → (Nat → Nat → Int32) → (Nat → Nat → Int64) → Prop) (X : String → Prop) (h : P_X11_addToRow sh ci ai al q p0 p1 Q X) (sz : Nat) : vx_Met l yX11_addToRow wmX11_addToRow ({ frames := 20, cells := 1, slots := 6, locals := 300 }) (va_Pc [.ref q, .long p0, .int p1] (xPre dC dI sh ci ai al sz)) (va_Qi (S := XSt) (xI Q) (xB dC dI (va_A (cW sh ci ai al) sz)) (va_A (cW sh ci ai al) sz)) (XC X sz) 1 6 (va_A (cW sh ci ai al) sz) := by
  refine vx_ofW (cc := cX11_addToRow) (maxL := 4) (ret := (some .int)) (by decide) rfl ?_
  intro p e s m args below meth c s₁ B hml htab hv
  obtain ⟨rfl, ⟨hsz, hP, hK, hD0, hG⟩, hZ⟩ := hv
  have hx := B.exec
  have hb := B.bytes
  have hr := B.returns
  have hts : ∀ w ∈ WC, w.before _ s = true := fun w h => atoms_spec (ws := wmX11_addToRow) B.pre w (List.mem_cons_of_mem _ h)
  have hown : s.vm.findClass RX11 = some m.cls := findClass_of_methodNamed B.named
  have hlocks := B.notSynchronized
  subst hsz
  have hD := hD0.self (sz := s.heap.size)
  generalize hAe : va_A (cW sh ci ai al) s.heap.size = A at hD hZ ⊢
  have hA : ∀ q : Nat, s.heap.size ≤ q → A q := fun q h => by rw [← hAe]; exact Or.inr h
  generalize hz9 : s.heap.size = z9
  generalize hH : s.heap = H at hP ⊢
  subst hz9
  have hS : va_S A s.heap H [] := by rw [← hH]; exact va_S.rf
  have hE : xE s.heap H := by rw [← hH]; exact xE.rf
  have hl := lv_entry [.ref q, .long p0, .int p1] (n := 4) (Nat.le_of_ble_eq_true rfl)
  rw [lg_entry_eq]
  generalize (lg_sl [.ref q, .long p0, .int p1] ++ List.replicate (4 - (lg_sl [.ref q, .long p0, .int p1]).length) Slot.unset).toArray = ls at hl ⊢
  have hl : lv_has ls 4 [(0, .ref q), (1, .long p0), (3, .int p1)] := hl
  unfold P_X11_addToRow at h
  obtain ⟨⟨hq, hk⟩, h⟩ := h
  refine lv_aload_n hx hb dX11_addToRow_0 rfl (lv_at hl 0 rfl) ?_
  refine c_get (C := RX11) (T := TX11) (N := 9) (K := 10) (v := .int (ci q 5)) hx hb hts hinX11 hown hK hP hq hk (by decide) rfl 5 (by decide) (hts _ mwC_373) (fun _ h9 => h9) rfl dX11_addToRow_1 ?_
  refine lv_bipush (v := 100) hx hb dX11_addToRow_4 (by decide) ?_
  refine lv_icmp_lt (tgt := 19) hx hb dX11_addToRow_6 (by decide) (fun c_6 => ?_) (fun c_6 => ?_)
  · have h := h.1 c_6
    refine lv_aload_n hx hb dX11_addToRow_19 rfl (lv_at hl 0 rfl) ?_
    obtain ⟨q1, e2, h⟩ := h
    refine c_get (C := RX11) (T := TX11) (N := 9) (K := 10) (v := .ref q1) hx hb hts hinX11 hown hK hP hq hk (by decide) rfl 2 (by decide) (hts _ mwC_374) (fun _ h9 => h9) (by show some (va_rf (sR sh q 2)) = _; rw [e2]; rfl) dX11_addToRow_20 ?_
    refine lv_aload_n hx hb dX11_addToRow_23 rfl (lv_at hl 0 rfl) ?_
    refine c_get (C := RX11) (T := TX11) (N := 9) (K := 10) (v := .int (ci q 5)) hx hb hts hinX11 hown hK hP hq hk (by decide) rfl 5 (by decide) (hts _ mwC_373) (fun _ h9 => h9) rfl dX11_addToRow_24 ?_
    refine lv_lload_n hx hb dX11_addToRow_27 rfl (lv_at hl 1 rfl) ?_
    obtain ⟨⟨hm3, hk4⟩, h⟩ := h
    obtain ⟨hi5, h⟩ := h
    refine c_last hx hb hK hP hD hS hm3 hk4 hi5 dX11_addToRow_28 (fun H locs hP hD hS => ?_)
    refine lv_aload_n hx hb dX11_addToRow_29 rfl (lv_at hl 0 rfl) ?_
    obtain ⟨q6, e7, h⟩ := h
    refine c_get (C := RX11) (T := TX11) (N := 9) (K := 10) (v := .ref q6) hx hb hts hinX11 hown hK hP hq hk (by decide) rfl 3 (by decide) (hts _ mwC_375) (fun _ h9 => h9) (by show some (va_rf (sR sh q 3)) = _; rw [e7]; rfl) dX11_addToRow_30 ?_
    refine lv_aload_n hx hb dX11_addToRow_33 rfl (lv_at hl 0 rfl) ?_
    refine c_get (C := RX11) (T := TX11) (N := 9) (K := 10) (v := .int (ci q 5)) hx hb hts hinX11 hown hK hP hq hk (by decide) rfl 5 (by decide) (hts _ mwC_373) (fun _ h9 => h9) rfl dX11_addToRow_34 ?_
    refine lv_iload_n hx hb dX11_addToRow_37 rfl (lv_at hl 2 rfl) ?_
    refine lv_i2b hx hb dX11_addToRow_38 rfl ?_
    obtain ⟨⟨hm8, hk9⟩, h⟩ := h
    obtain ⟨hi10, h⟩ := h
    refine c_bast hx hb hK hP hD hS hm8 hk9 hi10 dX11_addToRow_39 (fun H locs hP hD hS => ?_)
    refine lv_aload_n hx hb dX11_addToRow_40 rfl (lv_at hl 0 rfl) ?_
    refine lv_dup hx hb dX11_addToRow_41 rfl ?_
    refine c_get (C := RX11) (T := TX11) (N := 9) (K := 10) (v := .int (ci q 5)) hx hb hts hinX11 hown hK hP hq hk (by decide) rfl 5 (by decide) (hts _ mwC_373) (fun _ h9 => h9) rfl dX11_addToRow_42 ?_
    refine lv_iconst (v := 1) hx hb dX11_addToRow_45 (by decide) ?_
    refine lv_iadd hx hb dX11_addToRow_46 ?_
    refine c_put (C := RX11) (T := TX11) (N := 9) (K := 10) hx hb hts hinX11 tyX11 tyX11_ok nmX11 hown hK hP hD hS hq hk (by decide) rfl 5 (by decide) (hts _ mwC_373) (fun _ h9 => h9) rfl (by decide +kernel) (Nat.le_of_ble_eq_true rfl) rfl dX11_addToRow_47 (fun H locs hP hD hS => ?_)
    refine lv_aload_n hx hb dX11_addToRow_50 rfl (lv_at hl 0 rfl) ?_
    refine c_get (C := RX11) (T := TX11) (N := 9) (K := 10) (v := .int ((va_up ci q (va_up (ci q) 5 ((ci q 5) + 1))) q 5)) hx hb hts hinX11 hown hK hP hq hk (by decide) rfl 5 (by decide) (hts _ mwC_373) (fun _ h9 => h9) rfl dX11_addToRow_51 ?_
    refine W.widen (k := 1) (n := 6) (by decide) (by decide) ?_
    refine vx_ret ?_
    exact W.iret (v := ((va_up ci q (va_up (ci q) 5 ((ci q 5) + 1))) q 5)) hx hb hr (fun t ht hW => ⟨⟨_, (sh, va_up ci q (va_up (ci q) 5 ((ci q 5) + 1)), va_up ai q6 (upd (ai q6) (ci q 5).toNatClampNeg (vp_nar .byte p1.toInt8.toInt32)), va_up al q1 (vp_updL (al q1) (ci q 5).toNatClampNeg p0)), rfl, h, by rw [ht]; exact hP, cK.moved hW.alike hK, hD⟩, hS.F ht⟩) hS.2.2 dX11_addToRow_54
  · have h := h.2 c_6
    obtain ⟨sa, hsa⟩ := hG.t50
    exact vx_throwS (A := A) (own := RX11) (cls := "java/lang/UnsupportedOperationException") (text := "THE ROW is full") (names := ["java/lang/RuntimeException", "java/lang/Exception"]) (sa := sa) (rest := []) hx hb hl0 hown (by decide) (by decide) (hts _ mwC_366) (hts _ mwC_367) hsa (vx_hat (B := [.castable "java/lang/UnsupportedOperationException" "java/lang/UnsupportedOperationException", .declares ⟨"java/lang/RuntimeException", "<init>", "(Ljava/lang/String;)V"⟩, .declares ⟨"java/lang/Exception", "<init>", "(Ljava/lang/String;)V"⟩, .declares ⟨"java/lang/Throwable", "<init>", "(Ljava/lang/String;)V"⟩]) (fun w h => hts w (xat_UOE w h)) (by decide +kernel) (vx_c (va_Nw.use rfl hG.xUOE) (vx_c (va_Nw.use rfl hG.dR) (vx_c (va_Nw.use rfl hG.dE) (vx_c (va_Nw.use rfl hG.dT) vx_n))))) (by decide +kernel) hZ.1 hZ.2 hS (hl.1.trans hml.symm) dX11_addToRow_9 dX11_addToRow_12 dX11_addToRow_13 dX11_addToRow_15 dX11_addToRow_18 (fun x h => (htab x h).elim) (Nat.le_of_ble_eq_true rfl) (Nat.le_of_ble_eq_true rfl) (Nat.le_of_ble_eq_true rfl) (Nat.le_of_ble_eq_true rfl) hlocks (fun t hvm hz hq => ⟨(), trivial, h, Nat.le_trans hE.1 hz, fun q h1 h2 => (hq q (Nat.lt_of_lt_of_le h1 hE.1)).trans (hE.2 q h1)⟩) hS.2.2 (Nat.le_of_ble_eq_true rfl) (Nat.le_of_ble_eq_true rfl)
