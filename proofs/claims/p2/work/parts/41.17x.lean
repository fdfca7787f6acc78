abbrev cX11_after : ByteArray := prog_1_method_15_code
def yX11_after : MethodName := ⟨RX11, "after", "(IIJ)I"⟩
abbrev cX11_join : ByteArray := prog_1_method_16_code
def yX11_join : MethodName := ⟨RX11, "join", "(II)I"⟩
theorem dX11_after_0 : decode cX11_after 0 = .ok (.aload_n 0, 1) := by decide +kernel
theorem dX11_after_1 : decode cX11_after 1 = .ok (.iload_n 1, 1) := by decide +kernel
theorem dX11_after_2 : decode cX11_after 2 = .ok (.invokevirtual 87, 3) := by decide +kernel
theorem dX11_after_5 : decode cX11_after 5 = .ok (.astore 5, 2) := by decide +kernel
theorem dX11_after_7 : decode cX11_after 7 = .ok (.iload_n 2, 1) := by decide +kernel
theorem dX11_after_8 : decode cX11_after 8 = .ok (.invokestatic 107, 3) := by decide +kernel
theorem dX11_after_11 : decode cX11_after 11 = .ok (.aload_n 0, 1) := by decide +kernel
theorem dX11_after_12 : decode cX11_after 12 = .ok (.invokevirtual 53, 3) := by decide +kernel
theorem dX11_after_15 : decode cX11_after 15 = .ok (.aload_n 0, 1) := by decide +kernel
theorem dX11_after_16 : decode cX11_after 16 = .ok (.new 104, 3) := by decide +kernel
theorem dX11_after_19 : decode cX11_after 19 = .ok (.dup, 1) := by decide +kernel
theorem dX11_after_20 : decode cX11_after 20 = .ok (.aload_n 0, 1) := by decide +kernel
theorem dX11_after_21 : decode cX11_after 21 = .ok (.getfield 12, 3) := by decide +kernel
theorem dX11_after_24 : decode cX11_after 24 = .ok (.aload 5, 2) := by decide +kernel
theorem dX11_after_26 : decode cX11_after 26 = .ok (.iconst 0, 1) := by decide +kernel
theorem dX11_after_27 : decode cX11_after 27 = .ok (.iload_n 2, 1) := by decide +kernel
theorem dX11_after_28 : decode cX11_after 28 = .ok (.lload_n 3, 1) := by decide +kernel
theorem dX11_after_29 : decode cX11_after 29 = .ok (.invokespecial 106, 3) := by decide +kernel
theorem dX11_after_32 : decode cX11_after 32 = .ok (.invokevirtual 70, 3) := by decide +kernel
theorem dX11_after_35 : decode cX11_after 35 = .ok (.ireturn, 1) := by decide +kernel
theorem dX11_join_0 : decode cX11_join 0 = .ok (.aload_n 0, 1) := by decide +kernel
theorem dX11_join_1 : decode cX11_join 1 = .ok (.iload_n 1, 1) := by decide +kernel
theorem dX11_join_2 : decode cX11_join 2 = .ok (.invokevirtual 87, 3) := by decide +kernel
theorem dX11_join_5 : decode cX11_join 5 = .ok (.astore_n 3, 1) := by decide +kernel
theorem dX11_join_6 : decode cX11_join 6 = .ok (.aload_n 0, 1) := by decide +kernel
theorem dX11_join_7 : decode cX11_join 7 = .ok (.iload_n 2, 1) := by decide +kernel
theorem dX11_join_8 : decode cX11_join 8 = .ok (.invokevirtual 87, 3) := by decide +kernel
theorem dX11_join_11 : decode cX11_join 11 = .ok (.astore 4, 2) := by decide +kernel
theorem dX11_join_13 : decode cX11_join 13 = .ok (.aload_n 0, 1) := by decide +kernel
theorem dX11_join_14 : decode cX11_join 14 = .ok (.invokevirtual 53, 3) := by decide +kernel
theorem dX11_join_17 : decode cX11_join 17 = .ok (.aload_n 0, 1) := by decide +kernel
theorem dX11_join_18 : decode cX11_join 18 = .ok (.new 115, 3) := by decide +kernel
theorem dX11_join_21 : decode cX11_join 21 = .ok (.dup, 1) := by decide +kernel
theorem dX11_join_22 : decode cX11_join 22 = .ok (.aload_n 0, 1) := by decide +kernel
theorem dX11_join_23 : decode cX11_join 23 = .ok (.getfield 12, 3) := by decide +kernel
theorem dX11_join_26 : decode cX11_join 26 = .ok (.aload_n 3, 1) := by decide +kernel
theorem dX11_join_27 : decode cX11_join 27 = .ok (.aload 4, 2) := by decide +kernel
theorem dX11_join_29 : decode cX11_join 29 = .ok (.invokespecial 117, 3) := by decide +kernel
theorem dX11_join_32 : decode cX11_join 32 = .ok (.invokevirtual 70, 3) := by decide +kernel
theorem dX11_join_35 : decode cX11_join 35 = .ok (.ireturn, 1) := by decide +kernel
abbrev wmX11_after : List Cond := .code yX11_after cX11_after 6 (some .int) :: WC
theorem hd_X11_after : yX11_after.cls = RX11 ∧ yX11_after.cls ≠ "java/lang/invoke/MethodHandle" ∧ yX11_after.cls ≠ "java/lang/invoke/VarHandle" ∧ (parseMethodDescriptor yX11_after.desc).map (fun d => d.parameters.length) = some 3 := by decide +kernel
def P_X11_after (sh : Sh) (ci : Nat → Nat → Int32) (ai : Nat → Nat → Int32) (al : Nat → Nat → Int64) (q : Nat) (p0 : Int32) (p1 : Int32) (p2 : Int64) (Q : Int32 → Sh → (Nat → Nat → Int32) → (Nat → Nat → Int32) → (Nat → Nat → Int64) → Prop) (X : String → Prop) : Prop := (q ∈ sL sh ∧ sK sh q = 10) ∧ P_X11_listOf sh ci ai al q p0 (fun r1 => P_X11_checkCond p1 (P_X11_checkRoom sh ci ai al q  (∀ (q4 : Nat) (sh5 : Sh), q4 ∉ sL sh → sh5 = shO sh q4 7 → (q ∈ sL sh5 ∧ sK sh5 q = 10) ∧ ∃ q10 : Nat, sR sh5 q 0 = some q10 ∧ (q4 ∈ sL sh5 ∧ sK sh5 q4 = 7) ∧ P_X8_init sh5 (va_up ci q4 (fun _ => 0)) ai al q4 q10 r1 0 p1 p2 (fun sh14 ci14 ai14 al14 => (q ∈ sL sh14 ∧ sK sh14 q = 10) ∧ P_X11_addList sh14 ci14 ai14 al14 q q4 (fun r17 sh17 ci17 ai17 al17 => Q r17 sh17 ci17 ai17 al17))) X) X) X
set_option maxHeartbeats 4000000 in
set_option maxRecDepth 100000 in
theorem p_X11_after (l : Launch) (hl0 : l.stackTraces = false) (dC : Nat → ClassId) (dI : Nat → Nat → Nat) (sh : Sh) (ci : Nat → Nat → Int32) (ai : Nat → Nat → Int32) (al : Nat → Nat → Int64) (q : Nat) (p0 : Int32) (p1 : Int32) (p2 : Int64) (Q : Int32 → Sh → (Nat → Nat → Int32) → (Nat → Nat → Int32) → (Nat → Nat → Int64) → Prop) (X : String → Prop) (h : P_X11_after sh ci ai al q p0 p1 p2 Q X) (sz : Nat) : vx_Met l yX11_after wmX11_after ({ frames := 100, cells := 8, slots := 2000, locals := 3000 }) (va_Pc [.ref q, .int p0, .int p1, .long p2] (xPre dC dI sh ci ai al sz)) (va_Qi (S := XSt) (xI Q) (xB dC dI (va_A (cW sh ci ai al) sz)) (va_A (cW sh ci ai al) sz)) (XC X sz) 8 2000 (va_A (cW sh ci ai al) sz) := by
  refine vx_ofW (cc := cX11_after) (maxL := 6) (ret := (some .int)) (by decide) rfl ?_
  intro p e s m args below meth c s₁ B hml htab hv
  obtain ⟨rfl, ⟨hsz, hP, hK, hD0, hG⟩, hZ⟩ := hv
  have hx := B.exec
  have hb := B.bytes
  have hr := B.returns
  have hts : ∀ w ∈ WC, w.before _ s = true := fun w h => atoms_spec (ws := wmX11_after) B.pre w (List.mem_cons_of_mem _ h)
  have hown : s.vm.findClass RX11 = some m.cls := findClass_of_methodNamed B.named
  have hlocks := B.notSynchronized
  subst hsz
  have hD := hD0.self (sz := s.heap.size)
  generalize hAe : va_A (cW sh ci ai al) s.heap.size = A at hD hZ ⊢
  have hA : ∀ q : Nat, s.heap.size ≤ q → A q := fun q h => by rw [← hAe]; exact Or.inr h
  generalize hz9 : s.heap.size = z9
  generalize hH : s.heap = H at hP ⊢
  subst hz9
  have hS : va_S A s.heap H [] := by rw [← hH]; exact va_S.rf
  have hE : xE s.heap H := by rw [← hH]; exact xE.rf
  have hl := lv_entry [.ref q, .int p0, .int p1, .long p2] (n := 6) (Nat.le_of_ble_eq_true rfl)
  rw [lg_entry_eq]
  generalize (lg_sl [.ref q, .int p0, .int p1, .long p2] ++ List.replicate (6 - (lg_sl [.ref q, .int p0, .int p1, .long p2]).length) Slot.unset).toArray = ls at hl ⊢
  have hl : lv_has ls 6 [(0, .ref q), (1, .int p0), (2, .int p1), (3, .long p2)] := hl
  unfold P_X11_after at h
  obtain ⟨⟨hq, hk⟩, h⟩ := h
  refine lv_aload_n hx hb dX11_after_0 rfl (lv_at hl 0 rfl) ?_
  refine lv_iload_n hx hb dX11_after_1 rfl (lv_at hl 1 rfl) ?_
  refine xr_endr (cells := 0) (slots := 0) (mc0 := 8) (ms0 := 2000) (vx_runV (rm := ({ frames := 20, cells := 1, slots := 6, locals := 300 })) (As := [.int p0]) (rest := []) ⟨hx, hb, hml, hown, hts⟩ (p_X11_listOf l hl0 dC dI _ _ _ _ q p0 _ _ h H.size) (cwV 1 hts (g_V gdC mwC_436 mwC_437 mwC_438 mwC_119 mwC_435) rfl rfl rfl hd_X11_listOf ⟨Nat.le_of_ble_eq_true rfl, Nat.le_of_ble_eq_true rfl⟩) (x_preV hK hP hD hS hA hS hG hZ hq hk) rfl rfl hl.1 rfl (lv_room (Nat.le_of_ble_eq_true rfl)) dX11_after_2 ⟨Nat.le_of_ble_eq_true rfl, Nat.le_of_ble_eq_true rfl⟩) hE hS hP hA (fun x h => (htab x h).elim) hlocks (Nat.le_of_ble_eq_true rfl) (Nat.le_of_ble_eq_true rfl) (fun r1 H locs h hE hP hS => ?_)
  refine lv_astore (lv' := [(5, .ref r1), (0, .ref q), (1, .int p0), (2, .int p1), (3, .long p2)]) hx hb dX11_after_5 hl (by decide) rfl (fun ls hl => ?_)
  refine lv_iload_n hx hb dX11_after_7 rfl (lv_at hl 3 rfl) ?_
  refine xr_endv (cells := 1) (slots := 6) (mc0 := 8) (ms0 := 2000) (vx_runS (rm := ({ frames := 20, cells := 1, slots := 6, locals := 300 })) (As := [.int p1]) (rest := []) ⟨hx, hb, hml, hown, hts⟩ (p_X11_checkCond l hl0 p1 _ _ h H.size) (va_cwS 1 hts (g_S gdC mwC_458 mwC_459 mwC_119 mwC_457) rfl rfl rfl hd_X11_checkCond ⟨Nat.le_of_ble_eq_true rfl, Nat.le_of_ble_eq_true rfl⟩) (x_preS hA hS hG hZ) rfl rfl hl.1 rfl (lv_room (Nat.le_of_ble_eq_true rfl)) dX11_after_8 ⟨Nat.le_of_ble_eq_true rfl, Nat.le_of_ble_eq_true rfl⟩) hE hS hP hA (fun x h => (htab x h).elim) hlocks (Nat.le_of_ble_eq_true rfl) (Nat.le_of_ble_eq_true rfl) (fun H locs h hE hP hS => ?_)
  refine lv_aload_n hx hb dX11_after_11 rfl (lv_at hl 1 rfl) ?_
  refine xr_endv (cells := 2) (slots := 12) (mc0 := 8) (ms0 := 2000) (vx_runV (rm := ({ frames := 20, cells := 1, slots := 6, locals := 300 })) (As := []) (rest := []) ⟨hx, hb, hml, hown, hts⟩ (p_X11_checkRoom l hl0 dC dI _ _ _ _ q  _ _ h H.size) (cwV 0 hts (g_V gdC mwC_405 mwC_406 mwC_407 mwC_119 mwC_404) rfl rfl rfl hd_X11_checkRoom ⟨Nat.le_of_ble_eq_true rfl, Nat.le_of_ble_eq_true rfl⟩) (x_preV hK hP hD hS hA hS hG hZ hq hk) rfl rfl hl.1 rfl (lv_room (Nat.le_of_ble_eq_true rfl)) dX11_after_12 ⟨Nat.le_of_ble_eq_true rfl, Nat.le_of_ble_eq_true rfl⟩) hE hS hP hA (fun x h => (htab x h).elim) hlocks (Nat.le_of_ble_eq_true rfl) (Nat.le_of_ble_eq_true rfl) (fun H locs h hE hP hS => ?_)
  refine lv_aload_n hx hb dX11_after_15 rfl (lv_at hl 1 rfl) ?_
  refine x_newX8 hx hb hts hown (hts _ mwC_452) (hts _ mwC_453) (hts _ mwC_62) hK hP hD hS hA (Nat.le_of_ble_eq_true rfl) (Nat.le_of_ble_eq_true rfl) dX11_after_16 (fun q4 sh5 H hn7 es6 hK hP hD hS => ?_)
  have h := h q4 sh5 hn7 es6
  refine lv_dup hx hb dX11_after_19 rfl ?_
  refine lv_aload_n hx hb dX11_after_20 rfl (lv_at hl 1 rfl) ?_
  obtain ⟨⟨hm8, hk9⟩, h⟩ := h
  obtain ⟨q10, e11, h⟩ := h
  refine c_get (C := RX11) (T := TX11) (N := 9) (K := 10) (v := .ref q10) hx hb hts hinX11 hown hK hP hm8 hk9 (by decide) rfl 0 (by decide) (hts _ mwC_383) (fun _ h9 => h9) (by show some (va_rf (sR sh5 q 0)) = _; rw [e11]; rfl) dX11_after_21 ?_
  refine lv_aload hx hb dX11_after_24 (lv_at hl 0 rfl) ?_
  refine lv_iconst (v := 0) hx hb dX11_after_26 (by decide) ?_
  refine lv_iload_n hx hb dX11_after_27 rfl (lv_at hl 3 rfl) ?_
  refine lv_lload_n hx hb dX11_after_28 rfl (lv_at hl 4 rfl) ?_
  obtain ⟨⟨hm12, hk13⟩, h⟩ := h
  refine xn_endv (va_runI (rm := ({ frames := 30, cells := 2, slots := 800, locals := 400 })) (As := [.ref q10, .ref r1, .int 0, .int p1, .long p2]) (rest := [.ref q4, .ref q]) ⟨hx, hb, hml, hown, hts⟩ (p_X8_init l dC dI _ _ _ _ q4 q10 r1 0 p1 p2 _ h H.size) (cwI 5 hts (g_C gdC mwC_454) rfl rfl rfl (hts _ mwC_62) (hts _ mwC_455) (hts _ mwC_456) rfl hd_X8_init ⟨Nat.le_of_ble_eq_true rfl, Nat.le_of_ble_eq_true rfl⟩) (c_preS hK hP hD hG) rfl rfl hl.1 rfl (lv_room (Nat.le_of_ble_eq_true rfl)) dX11_after_29 ⟨Nat.le_of_ble_eq_true rfl, Nat.le_of_ble_eq_true rfl⟩) hD hS hA (fun sh14 ci14 ai14 al14 H locs h hK hP hD hS => ?_)
  obtain ⟨⟨hm15, hk16⟩, h⟩ := h
  refine xn_endi (va_runV (rm := ({ frames := 60, cells := 0, slots := 0, locals := 2000 })) (As := [.ref q4]) (rest := []) ⟨hx, hb, hml, hown, hts⟩ (p_X11_addList l dC dI _ _ _ _ q q4 _ h H.size) (cwV 1 hts (g_V gdC mwC_421 mwC_422 mwC_423 mwC_119 mwC_420) rfl rfl rfl hd_X11_addList ⟨Nat.le_of_ble_eq_true rfl, Nat.le_of_ble_eq_true rfl⟩) (c_preV (vc := (RX11, TX11, 9)) hK hP hD hG hm15 hk16 (by decide) rfl) rfl rfl hl.1 rfl (lv_room (Nat.le_of_ble_eq_true rfl)) dX11_after_32 ⟨Nat.le_of_ble_eq_true rfl, Nat.le_of_ble_eq_true rfl⟩) hD hS hA (fun r17 sh17 ci17 ai17 al17 H locs h hK hP hD hS => ?_)
  refine W.widen (k := 8) (n := 2000) (by decide) (by decide) ?_
  refine vx_ret ?_
  exact W.iret (v := r17) hx hb hr (fun t ht hW => ⟨⟨_, (sh17, ci17, ai17, al17), rfl, h, by rw [ht]; exact hP, cK.moved hW.alike hK, hD⟩, hS.F ht⟩) hS.2.2 dX11_after_35
abbrev wmX11_join : List Cond := .code yX11_join cX11_join 5 (some .int) :: WC
theorem hd_X11_join : yX11_join.cls = RX11 ∧ yX11_join.cls ≠ "java/lang/invoke/MethodHandle" ∧ yX11_join.cls ≠ "java/lang/invoke/VarHandle" ∧ (parseMethodDescriptor yX11_join.desc).map (fun d => d.parameters.length) = some 2 := by decide +kernel
def P_X11_join (sh : Sh) (ci : Nat → Nat → Int32) (ai : Nat → Nat → Int32) (al : Nat → Nat → Int64) (q : Nat) (p0 : Int32) (p1 : Int32) (Q : Int32 → Sh → (Nat → Nat → Int32) → (Nat → Nat → Int32) → (Nat → Nat → Int64) → Prop) (X : String → Prop) : Prop := (q ∈ sL sh ∧ sK sh q = 10) ∧ P_X11_listOf sh ci ai al q p0 (fun r1 => P_X11_listOf sh ci ai al q p1 (fun r2 => P_X11_checkRoom sh ci ai al q  (∀ (q4 : Nat) (sh5 : Sh), q4 ∉ sL sh → sh5 = shO sh q4 4 → (q ∈ sL sh5 ∧ sK sh5 q = 10) ∧ ∃ q10 : Nat, sR sh5 q 0 = some q10 ∧ (q4 ∈ sL sh5 ∧ sK sh5 q4 = 4) ∧ P_X4_init sh5 (va_up ci q4 (fun _ => 0)) ai al q4 q10 r1 r2 (fun sh14 ci14 ai14 al14 => (q ∈ sL sh14 ∧ sK sh14 q = 10) ∧ P_X11_addList sh14 ci14 ai14 al14 q q4 (fun r17 sh17 ci17 ai17 al17 => Q r17 sh17 ci17 ai17 al17))) X) X) X
set_option maxHeartbeats 4000000 in
set_option maxRecDepth 100000 in
theorem p_X11_join (l : Launch) (hl0 : l.stackTraces = false) (dC : Nat → ClassId) (dI : Nat → Nat → Nat) (sh : Sh) (ci : Nat → Nat → Int32) (ai : Nat → Nat → Int32) (al : Nat → Nat → Int64) (q : Nat) (p0 : Int32) (p1 : Int32) (Q : Int32 → Sh → (Nat → Nat → Int32) → (Nat → Nat → Int32) → (Nat → Nat → Int64) → Prop) (X : String → Prop) (h : P_X11_join sh ci ai al q p0 p1 Q X) (sz : Nat) : vx_Met l yX11_join wmX11_join ({ frames := 100, cells := 8, slots := 2000, locals := 3000 }) (va_Pc [.ref q, .int p0, .int p1] (xPre dC dI sh ci ai al sz)) (va_Qi (S := XSt) (xI Q) (xB dC dI (va_A (cW sh ci ai al) sz)) (va_A (cW sh ci ai al) sz)) (XC X sz) 8 2000 (va_A (cW sh ci ai al) sz) := by
  refine vx_ofW (cc := cX11_join) (maxL := 5) (ret := (some .int)) (by decide) rfl ?_
  intro p e s m args below meth c s₁ B hml htab hv
  obtain ⟨rfl, ⟨hsz, hP, hK, hD0, hG⟩, hZ⟩ := hv
  have hx := B.exec
  have hb := B.bytes
  have hr := B.returns
  have hts : ∀ w ∈ WC, w.before _ s = true := fun w h => atoms_spec (ws := wmX11_join) B.pre w (List.mem_cons_of_mem _ h)
  have hown : s.vm.findClass RX11 = some m.cls := findClass_of_methodNamed B.named
  have hlocks := B.notSynchronized
  subst hsz
  have hD := hD0.self (sz := s.heap.size)
  generalize hAe : va_A (cW sh ci ai al) s.heap.size = A at hD hZ ⊢
  have hA : ∀ q : Nat, s.heap.size ≤ q → A q := fun q h => by rw [← hAe]; exact Or.inr h
  generalize hz9 : s.heap.size = z9
  generalize hH : s.heap = H at hP ⊢
  subst hz9
  have hS : va_S A s.heap H [] := by rw [← hH]; exact va_S.rf
  have hE : xE s.heap H := by rw [← hH]; exact xE.rf
  have hl := lv_entry [.ref q, .int p0, .int p1] (n := 5) (Nat.le_of_ble_eq_true rfl)
  rw [lg_entry_eq]
  generalize (lg_sl [.ref q, .int p0, .int p1] ++ List.replicate (5 - (lg_sl [.ref q, .int p0, .int p1]).length) Slot.unset).toArray = ls at hl ⊢
  have hl : lv_has ls 5 [(0, .ref q), (1, .int p0), (2, .int p1)] := hl
  unfold P_X11_join at h
  obtain ⟨⟨hq, hk⟩, h⟩ := h
  refine lv_aload_n hx hb dX11_join_0 rfl (lv_at hl 0 rfl) ?_
  refine lv_iload_n hx hb dX11_join_1 rfl (lv_at hl 1 rfl) ?_
  refine xr_endr (cells := 0) (slots := 0) (mc0 := 8) (ms0 := 2000) (vx_runV (rm := ({ frames := 20, cells := 1, slots := 6, locals := 300 })) (As := [.int p0]) (rest := []) ⟨hx, hb, hml, hown, hts⟩ (p_X11_listOf l hl0 dC dI _ _ _ _ q p0 _ _ h H.size) (cwV 1 hts (g_V gdC mwC_436 mwC_437 mwC_438 mwC_119 mwC_435) rfl rfl rfl hd_X11_listOf ⟨Nat.le_of_ble_eq_true rfl, Nat.le_of_ble_eq_true rfl⟩) (x_preV hK hP hD hS hA hS hG hZ hq hk) rfl rfl hl.1 rfl (lv_room (Nat.le_of_ble_eq_true rfl)) dX11_join_2 ⟨Nat.le_of_ble_eq_true rfl, Nat.le_of_ble_eq_true rfl⟩) hE hS hP hA (fun x h => (htab x h).elim) hlocks (Nat.le_of_ble_eq_true rfl) (Nat.le_of_ble_eq_true rfl) (fun r1 H locs h hE hP hS => ?_)
  refine lv_astore_n (lv' := [(3, .ref r1), (0, .ref q), (1, .int p0), (2, .int p1)]) hx hb dX11_join_5 rfl hl (by decide) rfl (fun ls hl => ?_)
  refine lv_aload_n hx hb dX11_join_6 rfl (lv_at hl 1 rfl) ?_
  refine lv_iload_n hx hb dX11_join_7 rfl (lv_at hl 3 rfl) ?_
  refine xr_endr (cells := 1) (slots := 6) (mc0 := 8) (ms0 := 2000) (vx_runV (rm := ({ frames := 20, cells := 1, slots := 6, locals := 300 })) (As := [.int p1]) (rest := []) ⟨hx, hb, hml, hown, hts⟩ (p_X11_listOf l hl0 dC dI _ _ _ _ q p1 _ _ h H.size) (cwV 1 hts (g_V gdC mwC_436 mwC_437 mwC_438 mwC_119 mwC_435) rfl rfl rfl hd_X11_listOf ⟨Nat.le_of_ble_eq_true rfl, Nat.le_of_ble_eq_true rfl⟩) (x_preV hK hP hD hS hA hS hG hZ hq hk) rfl rfl hl.1 rfl (lv_room (Nat.le_of_ble_eq_true rfl)) dX11_join_8 ⟨Nat.le_of_ble_eq_true rfl, Nat.le_of_ble_eq_true rfl⟩) hE hS hP hA (fun x h => (htab x h).elim) hlocks (Nat.le_of_ble_eq_true rfl) (Nat.le_of_ble_eq_true rfl) (fun r2 H locs h hE hP hS => ?_)
  refine lv_astore (lv' := [(4, .ref r2), (3, .ref r1), (0, .ref q), (1, .int p0), (2, .int p1)]) hx hb dX11_join_11 hl (by decide) rfl (fun ls hl => ?_)
  refine lv_aload_n hx hb dX11_join_13 rfl (lv_at hl 2 rfl) ?_
  refine xr_endv (cells := 2) (slots := 12) (mc0 := 8) (ms0 := 2000) (vx_runV (rm := ({ frames := 20, cells := 1, slots := 6, locals := 300 })) (As := []) (rest := []) ⟨hx, hb, hml, hown, hts⟩ (p_X11_checkRoom l hl0 dC dI _ _ _ _ q  _ _ h H.size) (cwV 0 hts (g_V gdC mwC_405 mwC_406 mwC_407 mwC_119 mwC_404) rfl rfl rfl hd_X11_checkRoom ⟨Nat.le_of_ble_eq_true rfl, Nat.le_of_ble_eq_true rfl⟩) (x_preV hK hP hD hS hA hS hG hZ hq hk) rfl rfl hl.1 rfl (lv_room (Nat.le_of_ble_eq_true rfl)) dX11_join_14 ⟨Nat.le_of_ble_eq_true rfl, Nat.le_of_ble_eq_true rfl⟩) hE hS hP hA (fun x h => (htab x h).elim) hlocks (Nat.le_of_ble_eq_true rfl) (Nat.le_of_ble_eq_true rfl) (fun H locs h hE hP hS => ?_)
  refine lv_aload_n hx hb dX11_join_17 rfl (lv_at hl 2 rfl) ?_
  refine x_newX4 hx hb hts hown (hts _ mwC_381) (hts _ mwC_382) (hts _ mwC_54) hK hP hD hS hA (Nat.le_of_ble_eq_true rfl) (Nat.le_of_ble_eq_true rfl) dX11_join_18 (fun q4 sh5 H hn7 es6 hK hP hD hS => ?_)
  have h := h q4 sh5 hn7 es6
  refine lv_dup hx hb dX11_join_21 rfl ?_
  refine lv_aload_n hx hb dX11_join_22 rfl (lv_at hl 2 rfl) ?_
  obtain ⟨⟨hm8, hk9⟩, h⟩ := h
  obtain ⟨q10, e11, h⟩ := h
  refine c_get (C := RX11) (T := TX11) (N := 9) (K := 10) (v := .ref q10) hx hb hts hinX11 hown hK hP hm8 hk9 (by decide) rfl 0 (by decide) (hts _ mwC_383) (fun _ h9 => h9) (by show some (va_rf (sR sh5 q 0)) = _; rw [e11]; rfl) dX11_join_23 ?_
  refine lv_aload_n hx hb dX11_join_26 rfl (lv_at hl 1 rfl) ?_
  refine lv_aload hx hb dX11_join_27 (lv_at hl 0 rfl) ?_
  obtain ⟨⟨hm12, hk13⟩, h⟩ := h
  refine xn_endv (va_runI (rm := ({ frames := 30, cells := 2, slots := 800, locals := 400 })) (As := [.ref q10, .ref r1, .ref r2]) (rest := [.ref q4, .ref q]) ⟨hx, hb, hml, hown, hts⟩ (p_X4_init l dC dI _ _ _ _ q4 q10 r1 r2 _ h H.size) (cwI 3 hts (g_C gdC mwC_384) rfl rfl rfl (hts _ mwC_54) (hts _ mwC_385) (hts _ mwC_386) rfl hd_X4_init ⟨Nat.le_of_ble_eq_true rfl, Nat.le_of_ble_eq_true rfl⟩) (c_preS hK hP hD hG) rfl rfl hl.1 rfl (lv_room (Nat.le_of_ble_eq_true rfl)) dX11_join_29 ⟨Nat.le_of_ble_eq_true rfl, Nat.le_of_ble_eq_true rfl⟩) hD hS hA (fun sh14 ci14 ai14 al14 H locs h hK hP hD hS => ?_)
  obtain ⟨⟨hm15, hk16⟩, h⟩ := h
  refine xn_endi (va_runV (rm := ({ frames := 60, cells := 0, slots := 0, locals := 2000 })) (As := [.ref q4]) (rest := []) ⟨hx, hb, hml, hown, hts⟩ (p_X11_addList l dC dI _ _ _ _ q q4 _ h H.size) (cwV 1 hts (g_V gdC mwC_421 mwC_422 mwC_423 mwC_119 mwC_420) rfl rfl rfl hd_X11_addList ⟨Nat.le_of_ble_eq_true rfl, Nat.le_of_ble_eq_true rfl⟩) (c_preV (vc := (RX11, TX11, 9)) hK hP hD hG hm15 hk16 (by decide) rfl) rfl rfl hl.1 rfl (lv_room (Nat.le_of_ble_eq_true rfl)) dX11_join_32 ⟨Nat.le_of_ble_eq_true rfl, Nat.le_of_ble_eq_true rfl⟩) hD hS hA (fun r17 sh17 ci17 ai17 al17 H locs h hK hP hD hS => ?_)
  refine W.widen (k := 8) (n := 2000) (by decide) (by decide) ?_
  refine vx_ret ?_
  exact W.iret (v := r17) hx hb hr (fun t ht hW => ⟨⟨_, (sh17, ci17, ai17, al17), rfl, h, by rw [ht]; exact hP, cK.moved hW.alike hK, hD⟩, hS.F ht⟩) hS.2.2 dX11_join_35
