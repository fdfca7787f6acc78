abbrev cX11_keep : ByteArray := prog_1_method_13_code
def yX11_keep : MethodName := ⟨RX11, "keep", "(IIJ)I"⟩
abbrev cX11_during : ByteArray := prog_1_method_14_code
def yX11_during : MethodName := ⟨RX11, "during", "(IIJ)I"⟩
theorem dX11_keep_0 : decode cX11_keep 0 = .ok (.aload_n 0, 1) := by decide +kernel
theorem dX11_keep_1 : decode cX11_keep 1 = .ok (.iload_n 1, 1) := by decide +kernel
theorem dX11_keep_2 : decode cX11_keep 2 = .ok (.invokevirtual 87, 3) := by decide +kernel
theorem dX11_keep_5 : decode cX11_keep 5 = .ok (.astore 5, 2) := by decide +kernel
theorem dX11_keep_7 : decode cX11_keep 7 = .ok (.iload_n 2, 1) := by decide +kernel
theorem dX11_keep_8 : decode cX11_keep 8 = .ok (.invokestatic 107, 3) := by decide +kernel
theorem dX11_keep_11 : decode cX11_keep 11 = .ok (.aload_n 0, 1) := by decide +kernel
theorem dX11_keep_12 : decode cX11_keep 12 = .ok (.invokevirtual 53, 3) := by decide +kernel
theorem dX11_keep_15 : decode cX11_keep 15 = .ok (.aload_n 0, 1) := by decide +kernel
theorem dX11_keep_16 : decode cX11_keep 16 = .ok (.new 110, 3) := by decide +kernel
theorem dX11_keep_19 : decode cX11_keep 19 = .ok (.dup, 1) := by decide +kernel
theorem dX11_keep_20 : decode cX11_keep 20 = .ok (.aload_n 0, 1) := by decide +kernel
theorem dX11_keep_21 : decode cX11_keep 21 = .ok (.getfield 12, 3) := by decide +kernel
theorem dX11_keep_24 : decode cX11_keep 24 = .ok (.aload 5, 2) := by decide +kernel
theorem dX11_keep_26 : decode cX11_keep 26 = .ok (.iload_n 2, 1) := by decide +kernel
theorem dX11_keep_27 : decode cX11_keep 27 = .ok (.lload_n 3, 1) := by decide +kernel
theorem dX11_keep_28 : decode cX11_keep 28 = .ok (.invokespecial 112, 3) := by decide +kernel
theorem dX11_keep_31 : decode cX11_keep 31 = .ok (.invokevirtual 70, 3) := by decide +kernel
theorem dX11_keep_34 : decode cX11_keep 34 = .ok (.ireturn, 1) := by decide +kernel
theorem dX11_during_0 : decode cX11_during 0 = .ok (.aload_n 0, 1) := by decide +kernel
theorem dX11_during_1 : decode cX11_during 1 = .ok (.iload_n 1, 1) := by decide +kernel
theorem dX11_during_2 : decode cX11_during 2 = .ok (.invokevirtual 87, 3) := by decide +kernel
theorem dX11_during_5 : decode cX11_during 5 = .ok (.astore 5, 2) := by decide +kernel
theorem dX11_during_7 : decode cX11_during 7 = .ok (.iload_n 2, 1) := by decide +kernel
theorem dX11_during_8 : decode cX11_during 8 = .ok (.invokestatic 107, 3) := by decide +kernel
theorem dX11_during_11 : decode cX11_during 11 = .ok (.aload_n 0, 1) := by decide +kernel
theorem dX11_during_12 : decode cX11_during 12 = .ok (.invokevirtual 53, 3) := by decide +kernel
theorem dX11_during_15 : decode cX11_during 15 = .ok (.aload_n 0, 1) := by decide +kernel
theorem dX11_during_16 : decode cX11_during 16 = .ok (.new 99, 3) := by decide +kernel
theorem dX11_during_19 : decode cX11_during 19 = .ok (.dup, 1) := by decide +kernel
theorem dX11_during_20 : decode cX11_during 20 = .ok (.aload_n 0, 1) := by decide +kernel
theorem dX11_during_21 : decode cX11_during 21 = .ok (.getfield 12, 3) := by decide +kernel
theorem dX11_during_24 : decode cX11_during 24 = .ok (.aload 5, 2) := by decide +kernel
theorem dX11_during_26 : decode cX11_during 26 = .ok (.sipush 400, 3) := by decide +kernel
theorem dX11_during_29 : decode cX11_during 29 = .ok (.iload_n 2, 1) := by decide +kernel
theorem dX11_during_30 : decode cX11_during 30 = .ok (.lload_n 3, 1) := by decide +kernel
theorem dX11_during_31 : decode cX11_during 31 = .ok (.invokespecial 101, 3) := by decide +kernel
theorem dX11_during_34 : decode cX11_during 34 = .ok (.invokevirtual 70, 3) := by decide +kernel
theorem dX11_during_37 : decode cX11_during 37 = .ok (.ireturn, 1) := by decide +kernel
abbrev wmX11_keep : List Cond := .code yX11_keep cX11_keep 6 (some .int) :: WC
theorem hd_X11_keep : yX11_keep.cls = RX11 ∧ yX11_keep.cls ≠ "java/lang/invoke/MethodHandle" ∧ yX11_keep.cls ≠ "java/lang/invoke/VarHandle" ∧ (parseMethodDescriptor yX11_keep.desc).map (fun d => d.parameters.length) = some 3 := by decide +kernel
def P_X11_keep (sh : Sh) (ci : Nat → Nat → Int32) (ai : Nat → Nat → Int32) (al : Nat → Nat → Int64) (q : Nat) (p0 : Int32) (p1 : Int32) (p2 : Int64) (Q : Int32 → Sh → (Nat → Nat → Int32) → (Nat → Nat → Int32) → (Nat → Nat → Int64) → Prop) (X : String → Prop) : Prop := (q ∈ sL sh ∧ sK sh q = 10) ∧ P_X11_listOf sh ci ai al q p0 (fun r1 => P_X11_checkCond p1 (P_X11_checkRoom sh ci ai al q  (∀ (q4 : Nat) (sh5 : Sh), q4 ∉ sL sh → sh5 = shO sh q4 9 → (q ∈ sL sh5 ∧ sK sh5 q = 10) ∧ ∃ q10 : Nat, sR sh5 q 0 = some q10 ∧ (q4 ∈ sL sh5 ∧ sK sh5 q4 = 9) ∧ P_X10_init sh5 (va_up ci q4 (fun _ => 0)) ai al q4 q10 r1 p1 p2 (fun sh14 ci14 ai14 al14 => (q ∈ sL sh14 ∧ sK sh14 q = 10) ∧ P_X11_addList sh14 ci14 ai14 al14 q q4 (fun r17 sh17 ci17 ai17 al17 => Q r17 sh17 ci17 ai17 al17))) X) X) X
set_option maxHeartbeats 4000000 in
set_option maxRecDepth 100000 in
theorem p_X11_keep (l : Launch) (hl0 : l.stackTraces = false) (dC : Nat → ClassId) (dI : Nat → Nat → Nat) (sh : Sh) (ci : Nat → Nat → Int32) (ai : Nat → Nat → Int32) (al : Nat → Nat → Int64) (q : Nat) (p0 : Int32) (p1 : Int32) (p2 : Int64) (Q : Int32 → Sh → (Nat → Nat → Int32) → (Nat → Nat → Int32) → (Nat → Nat → Int64) → Prop) (X : String → Prop) (h : P_X11_keep sh ci ai al q p0 p1 p2 Q X) (sz : Nat) : vx_Met l yX11_keep wmX11_keep ({ frames := 100, cells := 8, slots := 2000, locals := 3000 }) (va_Pc [.ref q, .int p0, .int p1, .long p2] (xPre dC dI sh ci ai al sz)) (va_Qi (S := XSt) (xI Q) (xB dC dI (va_A (cW sh ci ai al) sz)) (va_A (cW sh ci ai al) sz)) (XC X sz) 8 2000 (va_A (cW sh ci ai al) sz) := by
  refine vx_ofW (cc := cX11_keep) (maxL := 6) (ret := (some .int)) (by decide) rfl ?_
  intro p e s m args below meth c s₁ B hml htab hv
  obtain ⟨rfl, ⟨hsz, hP, hK, hD0, hG⟩, hZ⟩ := hv
  have hx := B.exec
  have hb := B.bytes
  have hr := B.returns
  have hts : ∀ w ∈ WC, w.before _ s = true := fun w h => atoms_spec (ws := wmX11_keep) B.pre w (List.mem_cons_of_mem _ h)
  have hown : s.vm.findClass RX11 = some m.cls := findClass_of_methodNamed B.named
  have hlocks := B.notSynchronized
  subst hsz
  have hD := hD0.self (sz := s.heap.size)
  generalize hAe : va_A (cW sh ci ai al) s.heap.size = A at hD hZ ⊢
  have hA : ∀ q : Nat, s.heap.size ≤ q → A q := fun q h => by rw [← hAe]; exact Or.inr h
  generalize hz9 : s.heap.size = z9
  generalize hH : s.heap = H at hP ⊢
  subst hz9
  have hS : va_S A s.heap H [] := by rw [← hH]; exact va_S.rf
  have hE : xE s.heap H := by rw [← hH]; exact xE.rf
  have hl := lv_entry [.ref q, .int p0, .int p1, .long p2] (n := 6) (Nat.le_of_ble_eq_true rfl)
  rw [lg_entry_eq]
  generalize (lg_sl [.ref q, .int p0, .int p1, .long p2] ++ List.replicate (6 - (lg_sl [.ref q, .int p0, .int p1, .long p2]).length) Slot.unset).toArray = ls at hl ⊢
  have hl : lv_has ls 6 [(0, .ref q), (1, .int p0), (2, .int p1), (3, .long p2)] := hl
  unfold P_X11_keep at h
  obtain ⟨⟨hq, hk⟩, h⟩ := h
  refine lv_aload_n hx hb dX11_keep_0 rfl (lv_at hl 0 rfl) ?_
  refine lv_iload_n hx hb dX11_keep_1 rfl (lv_at hl 1 rfl) ?_
  refine xr_endr (cells := 0) (slots := 0) (mc0 := 8) (ms0 := 2000) (vx_runV (rm := ({ frames := 20, cells := 1, slots := 6, locals := 300 })) (As := [.int p0]) (rest := []) ⟨hx, hb, hml, hown, hts⟩ (p_X11_listOf l hl0 dC dI _ _ _ _ q p0 _ _ h H.size) (cwV 1 hts (g_V gdC mwC_436 mwC_437 mwC_438 mwC_119 mwC_435) rfl rfl rfl hd_X11_listOf ⟨Nat.le_of_ble_eq_true rfl, Nat.le_of_ble_eq_true rfl⟩) (x_preV hK hP hD hS hA hS hG hZ hq hk) rfl rfl hl.1 rfl (lv_room (Nat.le_of_ble_eq_true rfl)) dX11_keep_2 ⟨Nat.le_of_ble_eq_true rfl, Nat.le_of_ble_eq_true rfl⟩) hE hS hP hA (fun x h => (htab x h).elim) hlocks (Nat.le_of_ble_eq_true rfl) (Nat.le_of_ble_eq_true rfl) (fun r1 H locs h hE hP hS => ?_)
  refine lv_astore (lv' := [(5, .ref r1), (0, .ref q), (1, .int p0), (2, .int p1), (3, .long p2)]) hx hb dX11_keep_5 hl (by decide) rfl (fun ls hl => ?_)
  refine lv_iload_n hx hb dX11_keep_7 rfl (lv_at hl 3 rfl) ?_
  refine xr_endv (cells := 1) (slots := 6) (mc0 := 8) (ms0 := 2000) (vx_runS (rm := ({ frames := 20, cells := 1, slots := 6, locals := 300 })) (As := [.int p1]) (rest := []) ⟨hx, hb, hml, hown, hts⟩ (p_X11_checkCond l hl0 p1 _ _ h H.size) (va_cwS 1 hts (g_S gdC mwC_458 mwC_459 mwC_119 mwC_457) rfl rfl rfl hd_X11_checkCond ⟨Nat.le_of_ble_eq_true rfl, Nat.le_of_ble_eq_true rfl⟩) (x_preS hA hS hG hZ) rfl rfl hl.1 rfl (lv_room (Nat.le_of_ble_eq_true rfl)) dX11_keep_8 ⟨Nat.le_of_ble_eq_true rfl, Nat.le_of_ble_eq_true rfl⟩) hE hS hP hA (fun x h => (htab x h).elim) hlocks (Nat.le_of_ble_eq_true rfl) (Nat.le_of_ble_eq_true rfl) (fun H locs h hE hP hS => ?_)
  refine lv_aload_n hx hb dX11_keep_11 rfl (lv_at hl 1 rfl) ?_
  refine xr_endv (cells := 2) (slots := 12) (mc0 := 8) (ms0 := 2000) (vx_runV (rm := ({ frames := 20, cells := 1, slots := 6, locals := 300 })) (As := []) (rest := []) ⟨hx, hb, hml, hown, hts⟩ (p_X11_checkRoom l hl0 dC dI _ _ _ _ q  _ _ h H.size) (cwV 0 hts (g_V gdC mwC_405 mwC_406 mwC_407 mwC_119 mwC_404) rfl rfl rfl hd_X11_checkRoom ⟨Nat.le_of_ble_eq_true rfl, Nat.le_of_ble_eq_true rfl⟩) (x_preV hK hP hD hS hA hS hG hZ hq hk) rfl rfl hl.1 rfl (lv_room (Nat.le_of_ble_eq_true rfl)) dX11_keep_12 ⟨Nat.le_of_ble_eq_true rfl, Nat.le_of_ble_eq_true rfl⟩) hE hS hP hA (fun x h => (htab x h).elim) hlocks (Nat.le_of_ble_eq_true rfl) (Nat.le_of_ble_eq_true rfl) (fun H locs h hE hP hS => ?_)
  refine lv_aload_n hx hb dX11_keep_15 rfl (lv_at hl 1 rfl) ?_
  refine x_newX10 hx hb hts hown (hts _ mwC_392) (hts _ mwC_393) (hts _ mwC_67) hK hP hD hS hA (Nat.le_of_ble_eq_true rfl) (Nat.le_of_ble_eq_true rfl) dX11_keep_16 (fun q4 sh5 H hn7 es6 hK hP hD hS => ?_)
  have h := h q4 sh5 hn7 es6
  refine lv_dup hx hb dX11_keep_19 rfl ?_
  refine lv_aload_n hx hb dX11_keep_20 rfl (lv_at hl 1 rfl) ?_
  obtain ⟨⟨hm8, hk9⟩, h⟩ := h
  obtain ⟨q10, e11, h⟩ := h
  refine c_get (C := RX11) (T := TX11) (N := 9) (K := 10) (v := .ref q10) hx hb hts hinX11 hown hK hP hm8 hk9 (by decide) rfl 0 (by decide) (hts _ mwC_383) (fun _ h9 => h9) (by show some (va_rf (sR sh5 q 0)) = _; rw [e11]; rfl) dX11_keep_21 ?_
  refine lv_aload hx hb dX11_keep_24 (lv_at hl 0 rfl) ?_
  refine lv_iload_n hx hb dX11_keep_26 rfl (lv_at hl 3 rfl) ?_
  refine lv_lload_n hx hb dX11_keep_27 rfl (lv_at hl 4 rfl) ?_
  obtain ⟨⟨hm12, hk13⟩, h⟩ := h
  refine xn_endv (va_runI (rm := ({ frames := 30, cells := 3, slots := 1200, locals := 400 })) (As := [.ref q10, .ref r1, .int p1, .long p2]) (rest := [.ref q4, .ref q]) ⟨hx, hb, hml, hown, hts⟩ (p_X10_init l dC dI _ _ _ _ q4 q10 r1 p1 p2 _ h H.size) (cwI 4 hts (g_C gdC mwC_394) rfl rfl rfl (hts _ mwC_67) (hts _ mwC_395) (hts _ mwC_396) rfl hd_X10_init ⟨Nat.le_of_ble_eq_true rfl, Nat.le_of_ble_eq_true rfl⟩) (c_preS hK hP hD hG) rfl rfl hl.1 rfl (lv_room (Nat.le_of_ble_eq_true rfl)) dX11_keep_28 ⟨Nat.le_of_ble_eq_true rfl, Nat.le_of_ble_eq_true rfl⟩) hD hS hA (fun sh14 ci14 ai14 al14 H locs h hK hP hD hS => ?_)
  obtain ⟨⟨hm15, hk16⟩, h⟩ := h
  refine xn_endi (va_runV (rm := ({ frames := 60, cells := 0, slots := 0, locals := 2000 })) (As := [.ref q4]) (rest := []) ⟨hx, hb, hml, hown, hts⟩ (p_X11_addList l dC dI _ _ _ _ q q4 _ h H.size) (cwV 1 hts (g_V gdC mwC_421 mwC_422 mwC_423 mwC_119 mwC_420) rfl rfl rfl hd_X11_addList ⟨Nat.le_of_ble_eq_true rfl, Nat.le_of_ble_eq_true rfl⟩) (c_preV (vc := (RX11, TX11, 9)) hK hP hD hG hm15 hk16 (by decide) rfl) rfl rfl hl.1 rfl (lv_room (Nat.le_of_ble_eq_true rfl)) dX11_keep_31 ⟨Nat.le_of_ble_eq_true rfl, Nat.le_of_ble_eq_true rfl⟩) hD hS hA (fun r17 sh17 ci17 ai17 al17 H locs h hK hP hD hS => ?_)
  refine W.widen (k := 8) (n := 2000) (by decide) (by decide) ?_
  refine vx_ret ?_
  exact W.iret (v := r17) hx hb hr (fun t ht hW => ⟨⟨_, (sh17, ci17, ai17, al17), rfl, h, by rw [ht]; exact hP, cK.moved hW.alike hK, hD⟩, hS.F ht⟩) hS.2.2 dX11_keep_34
abbrev wmX11_during : List Cond := .code yX11_during cX11_during 6 (some .int) :: WC
theorem hd_X11_during : yX11_during.cls = RX11 ∧ yX11_during.cls ≠ "java/lang/invoke/MethodHandle" ∧ yX11_during.cls ≠ "java/lang/invoke/VarHandle" ∧ (parseMethodDescriptor yX11_during.desc).map (fun d => d.parameters.length) = some 3 := by decide +kernel
def P_X11_during (sh : Sh) (ci : Nat → Nat → Int32) (ai : Nat → Nat → Int32) (al : Nat → Nat → Int64) (q : Nat) (p0 : Int32) (p1 : Int32) (p2 : Int64) (Q : Int32 → Sh → (Nat → Nat → Int32) → (Nat → Nat → Int32) → (Nat → Nat → Int64) → Prop) (X : String → Prop) : Prop := (q ∈ sL sh ∧ sK sh q = 10) ∧ P_X11_listOf sh ci ai al q p0 (fun r1 => P_X11_checkCond p1 (P_X11_checkRoom sh ci ai al q  (∀ (q4 : Nat) (sh5 : Sh), q4 ∉ sL sh → sh5 = shO sh q4 2 → (q ∈ sL sh5 ∧ sK sh5 q = 10) ∧ ∃ q10 : Nat, sR sh5 q 0 = some q10 ∧ (q4 ∈ sL sh5 ∧ sK sh5 q4 = 2) ∧ P_X2_init sh5 (va_up ci q4 (fun _ => 0)) ai al q4 q10 r1 400 p1 p2 (fun sh14 ci14 ai14 al14 => (q ∈ sL sh14 ∧ sK sh14 q = 10) ∧ P_X11_addList sh14 ci14 ai14 al14 q q4 (fun r17 sh17 ci17 ai17 al17 => Q r17 sh17 ci17 ai17 al17))) X) X) X
set_option maxHeartbeats 4000000 in
set_option maxRecDepth 100000 in
theorem p_X11_during (l : Launch) (hl0 : l.stackTraces = false) (dC : Nat → ClassId) (dI : Nat → Nat → Nat) (sh : Sh) (ci : Nat → Nat → Int32) (ai : Nat → Nat → Int32) (al : Nat → Nat → Int64) (q : Nat) (p0 : Int32) (p1 : Int32) (p2 : Int64) (Q : Int32 → Sh → (Nat → Nat → Int32) → (Nat → Nat → Int32) → (Nat → Nat → Int64) → Prop) (X : String → Prop) (h : P_X11_during sh ci ai al q p0 p1 p2 Q X) (sz : Nat) : vx_Met l yX11_during wmX11_during ({ frames := 100, cells := 8, slots := 2000, locals := 3000 }) (va_Pc [.ref q, .int p0, .int p1, .long p2] (xPre dC dI sh ci ai al sz)) (va_Qi (S := XSt) (xI Q) (xB dC dI (va_A (cW sh ci ai al) sz)) (va_A (cW sh ci ai al) sz)) (XC X sz) 8 2000 (va_A (cW sh ci ai al) sz) := by
  refine vx_ofW (cc := cX11_during) (maxL := 6) (ret := (some .int)) (by decide) rfl ?_
  intro p e s m args below meth c s₁ B hml htab hv
  obtain ⟨rfl, ⟨hsz, hP, hK, hD0, hG⟩, hZ⟩ := hv
  have hx := B.exec
  have hb := B.bytes
  have hr := B.returns
  have hts : ∀ w ∈ WC, w.before _ s = true := fun w h => atoms_spec (ws := wmX11_during) B.pre w (List.mem_cons_of_mem _ h)
  have hown : s.vm.findClass RX11 = some m.cls := findClass_of_methodNamed B.named
  have hlocks := B.notSynchronized
  subst hsz
  have hD := hD0.self (sz := s.heap.size)
  generalize hAe : va_A (cW sh ci ai al) s.heap.size = A at hD hZ ⊢
  have hA : ∀ q : Nat, s.heap.size ≤ q → A q := fun q h => by rw [← hAe]; exact Or.inr h
  generalize hz9 : s.heap.size = z9
  generalize hH : s.heap = H at hP ⊢
  subst hz9
  have hS : va_S A s.heap H [] := by rw [← hH]; exact va_S.rf
  have hE : xE s.heap H := by rw [← hH]; exact xE.rf
  have hl := lv_entry [.ref q, .int p0, .int p1, .long p2] (n := 6) (Nat.le_of_ble_eq_true rfl)
  rw [lg_entry_eq]
  generalize (lg_sl [.ref q, .int p0, .int p1, .long p2] ++ List.replicate (6 - (lg_sl [.ref q, .int p0, .int p1, .long p2]).length) Slot.unset).toArray = ls at hl ⊢
  have hl : lv_has ls 6 [(0, .ref q), (1, .int p0), (2, .int p1), (3, .long p2)] := hl
  unfold P_X11_during at h
  obtain ⟨⟨hq, hk⟩, h⟩ := h
  refine lv_aload_n hx hb dX11_during_0 rfl (lv_at hl 0 rfl) ?_
  refine lv_iload_n hx hb dX11_during_1 rfl (lv_at hl 1 rfl) ?_
  refine xr_endr (cells := 0) (slots := 0) (mc0 := 8) (ms0 := 2000) (vx_runV (rm := ({ frames := 20, cells := 1, slots := 6, locals := 300 })) (As := [.int p0]) (rest := []) ⟨hx, hb, hml, hown, hts⟩ (p_X11_listOf l hl0 dC dI _ _ _ _ q p0 _ _ h H.size) (cwV 1 hts (g_V gdC mwC_436 mwC_437 mwC_438 mwC_119 mwC_435) rfl rfl rfl hd_X11_listOf ⟨Nat.le_of_ble_eq_true rfl, Nat.le_of_ble_eq_true rfl⟩) (x_preV hK hP hD hS hA hS hG hZ hq hk) rfl rfl hl.1 rfl (lv_room (Nat.le_of_ble_eq_true rfl)) dX11_during_2 ⟨Nat.le_of_ble_eq_true rfl, Nat.le_of_ble_eq_true rfl⟩) hE hS hP hA (fun x h => (htab x h).elim) hlocks (Nat.le_of_ble_eq_true rfl) (Nat.le_of_ble_eq_true rfl) (fun r1 H locs h hE hP hS => ?_)
  refine lv_astore (lv' := [(5, .ref r1), (0, .ref q), (1, .int p0), (2, .int p1), (3, .long p2)]) hx hb dX11_during_5 hl (by decide) rfl (fun ls hl => ?_)
  refine lv_iload_n hx hb dX11_during_7 rfl (lv_at hl 3 rfl) ?_
  refine xr_endv (cells := 1) (slots := 6) (mc0 := 8) (ms0 := 2000) (vx_runS (rm := ({ frames := 20, cells := 1, slots := 6, locals := 300 })) (As := [.int p1]) (rest := []) ⟨hx, hb, hml, hown, hts⟩ (p_X11_checkCond l hl0 p1 _ _ h H.size) (va_cwS 1 hts (g_S gdC mwC_458 mwC_459 mwC_119 mwC_457) rfl rfl rfl hd_X11_checkCond ⟨Nat.le_of_ble_eq_true rfl, Nat.le_of_ble_eq_true rfl⟩) (x_preS hA hS hG hZ) rfl rfl hl.1 rfl (lv_room (Nat.le_of_ble_eq_true rfl)) dX11_during_8 ⟨Nat.le_of_ble_eq_true rfl, Nat.le_of_ble_eq_true rfl⟩) hE hS hP hA (fun x h => (htab x h).elim) hlocks (Nat.le_of_ble_eq_true rfl) (Nat.le_of_ble_eq_true rfl) (fun H locs h hE hP hS => ?_)
  refine lv_aload_n hx hb dX11_during_11 rfl (lv_at hl 1 rfl) ?_
  refine xr_endv (cells := 2) (slots := 12) (mc0 := 8) (ms0 := 2000) (vx_runV (rm := ({ frames := 20, cells := 1, slots := 6, locals := 300 })) (As := []) (rest := []) ⟨hx, hb, hml, hown, hts⟩ (p_X11_checkRoom l hl0 dC dI _ _ _ _ q  _ _ h H.size) (cwV 0 hts (g_V gdC mwC_405 mwC_406 mwC_407 mwC_119 mwC_404) rfl rfl rfl hd_X11_checkRoom ⟨Nat.le_of_ble_eq_true rfl, Nat.le_of_ble_eq_true rfl⟩) (x_preV hK hP hD hS hA hS hG hZ hq hk) rfl rfl hl.1 rfl (lv_room (Nat.le_of_ble_eq_true rfl)) dX11_during_12 ⟨Nat.le_of_ble_eq_true rfl, Nat.le_of_ble_eq_true rfl⟩) hE hS hP hA (fun x h => (htab x h).elim) hlocks (Nat.le_of_ble_eq_true rfl) (Nat.le_of_ble_eq_true rfl) (fun H locs h hE hP hS => ?_)
  refine lv_aload_n hx hb dX11_during_15 rfl (lv_at hl 1 rfl) ?_
  refine x_newX2 hx hb hts hown (hts _ mwC_447) (hts _ mwC_448) (hts _ mwC_49) hK hP hD hS hA (Nat.le_of_ble_eq_true rfl) (Nat.le_of_ble_eq_true rfl) dX11_during_16 (fun q4 sh5 H hn7 es6 hK hP hD hS => ?_)
  have h := h q4 sh5 hn7 es6
  refine lv_dup hx hb dX11_during_19 rfl ?_
  refine lv_aload_n hx hb dX11_during_20 rfl (lv_at hl 1 rfl) ?_
  obtain ⟨⟨hm8, hk9⟩, h⟩ := h
  obtain ⟨q10, e11, h⟩ := h
  refine c_get (C := RX11) (T := TX11) (N := 9) (K := 10) (v := .ref q10) hx hb hts hinX11 hown hK hP hm8 hk9 (by decide) rfl 0 (by decide) (hts _ mwC_383) (fun _ h9 => h9) (by show some (va_rf (sR sh5 q 0)) = _; rw [e11]; rfl) dX11_during_21 ?_
  refine lv_aload hx hb dX11_during_24 (lv_at hl 0 rfl) ?_
  refine lv_sipush (v := 400) hx hb dX11_during_26 (by decide) ?_
  refine lv_iload_n hx hb dX11_during_29 rfl (lv_at hl 3 rfl) ?_
  refine lv_lload_n hx hb dX11_during_30 rfl (lv_at hl 4 rfl) ?_
  obtain ⟨⟨hm12, hk13⟩, h⟩ := h
  refine xn_endv (va_runI (rm := ({ frames := 30, cells := 2, slots := 800, locals := 400 })) (As := [.ref q10, .ref r1, .int 400, .int p1, .long p2]) (rest := [.ref q4, .ref q]) ⟨hx, hb, hml, hown, hts⟩ (p_X2_init l dC dI _ _ _ _ q4 q10 r1 400 p1 p2 _ h H.size) (cwI 5 hts (g_C gdC mwC_449) rfl rfl rfl (hts _ mwC_49) (hts _ mwC_450) (hts _ mwC_451) rfl hd_X2_init ⟨Nat.le_of_ble_eq_true rfl, Nat.le_of_ble_eq_true rfl⟩) (c_preS hK hP hD hG) rfl rfl hl.1 rfl (lv_room (Nat.le_of_ble_eq_true rfl)) dX11_during_31 ⟨Nat.le_of_ble_eq_true rfl, Nat.le_of_ble_eq_true rfl⟩) hD hS hA (fun sh14 ci14 ai14 al14 H locs h hK hP hD hS => ?_)
  obtain ⟨⟨hm15, hk16⟩, h⟩ := h
  refine xn_endi (va_runV (rm := ({ frames := 60, cells := 0, slots := 0, locals := 2000 })) (As := [.ref q4]) (rest := []) ⟨hx, hb, hml, hown, hts⟩ (p_X11_addList l dC dI _ _ _ _ q q4 _ h H.size) (cwV 1 hts (g_V gdC mwC_421 mwC_422 mwC_423 mwC_119 mwC_420) rfl rfl rfl hd_X11_addList ⟨Nat.le_of_ble_eq_true rfl, Nat.le_of_ble_eq_true rfl⟩) (c_preV (vc := (RX11, TX11, 9)) hK hP hD hG hm15 hk16 (by decide) rfl) rfl rfl hl.1 rfl (lv_room (Nat.le_of_ble_eq_true rfl)) dX11_during_34 ⟨Nat.le_of_ble_eq_true rfl, Nat.le_of_ble_eq_true rfl⟩) hD hS hA (fun r17 sh17 ci17 ai17 al17 H locs h hK hP hD hS => ?_)
  refine W.widen (k := 8) (n := 2000) (by decide) (by decide) ?_
  refine vx_ret ?_
  exact W.iret (v := r17) hx hb hr (fun t ht hW => ⟨⟨_, (sh17, ci17, ai17, al17), rfl, h, by rw [ht]; exact hP, cK.moved hW.alike hK, hD⟩, hS.F ht⟩) hS.2.2 dX11_during_37
