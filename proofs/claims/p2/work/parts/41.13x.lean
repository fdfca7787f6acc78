abbrev cX11_iterate : ByteArray := prog_1_method_7_code
def yX11_iterate : MethodName := ⟨RX11, "iterate", "(IJJ)I"⟩
abbrev cX11_map : ByteArray := prog_1_method_8_code
def yX11_map : MethodName := ⟨RX11, "map", "(IIJ)I"⟩
theorem dX11_iterate_0 : decode cX11_iterate 0 = .ok (.iload_n 1, 1) := by decide +kernel
theorem dX11_iterate_1 : decode cX11_iterate 1 = .ok (.invokestatic 78, 3) := by decide +kernel
theorem dX11_iterate_4 : decode cX11_iterate 4 = .ok (.aload_n 0, 1) := by decide +kernel
theorem dX11_iterate_5 : decode cX11_iterate 5 = .ok (.invokevirtual 53, 3) := by decide +kernel
theorem dX11_iterate_8 : decode cX11_iterate 8 = .ok (.aload_n 0, 1) := by decide +kernel
theorem dX11_iterate_9 : decode cX11_iterate 9 = .ok (.new 82, 3) := by decide +kernel
theorem dX11_iterate_12 : decode cX11_iterate 12 = .ok (.dup, 1) := by decide +kernel
theorem dX11_iterate_13 : decode cX11_iterate 13 = .ok (.aload_n 0, 1) := by decide +kernel
theorem dX11_iterate_14 : decode cX11_iterate 14 = .ok (.getfield 12, 3) := by decide +kernel
theorem dX11_iterate_17 : decode cX11_iterate 17 = .ok (.aconst_null, 1) := by decide +kernel
theorem dX11_iterate_18 : decode cX11_iterate 18 = .ok (.iload_n 1, 1) := by decide +kernel
theorem dX11_iterate_19 : decode cX11_iterate 19 = .ok (.lload_n 2, 1) := by decide +kernel
theorem dX11_iterate_20 : decode cX11_iterate 20 = .ok (.lload 4, 2) := by decide +kernel
theorem dX11_iterate_22 : decode cX11_iterate 22 = .ok (.invokespecial 84, 3) := by decide +kernel
theorem dX11_iterate_25 : decode cX11_iterate 25 = .ok (.invokevirtual 70, 3) := by decide +kernel
theorem dX11_iterate_28 : decode cX11_iterate 28 = .ok (.ireturn, 1) := by decide +kernel
theorem dX11_map_0 : decode cX11_map 0 = .ok (.aload_n 0, 1) := by decide +kernel
theorem dX11_map_1 : decode cX11_map 1 = .ok (.iload_n 1, 1) := by decide +kernel
theorem dX11_map_2 : decode cX11_map 2 = .ok (.invokevirtual 87, 3) := by decide +kernel
theorem dX11_map_5 : decode cX11_map 5 = .ok (.astore 5, 2) := by decide +kernel
theorem dX11_map_7 : decode cX11_map 7 = .ok (.iload_n 2, 1) := by decide +kernel
theorem dX11_map_8 : decode cX11_map 8 = .ok (.invokestatic 78, 3) := by decide +kernel
theorem dX11_map_11 : decode cX11_map 11 = .ok (.aload_n 0, 1) := by decide +kernel
theorem dX11_map_12 : decode cX11_map 12 = .ok (.invokevirtual 53, 3) := by decide +kernel
theorem dX11_map_15 : decode cX11_map 15 = .ok (.aload_n 0, 1) := by decide +kernel
theorem dX11_map_16 : decode cX11_map 16 = .ok (.new 91, 3) := by decide +kernel
theorem dX11_map_19 : decode cX11_map 19 = .ok (.dup, 1) := by decide +kernel
theorem dX11_map_20 : decode cX11_map 20 = .ok (.aload_n 0, 1) := by decide +kernel
theorem dX11_map_21 : decode cX11_map 21 = .ok (.getfield 12, 3) := by decide +kernel
theorem dX11_map_24 : decode cX11_map 24 = .ok (.aload 5, 2) := by decide +kernel
theorem dX11_map_26 : decode cX11_map 26 = .ok (.aconst_null, 1) := by decide +kernel
theorem dX11_map_27 : decode cX11_map 27 = .ok (.iload_n 2, 1) := by decide +kernel
theorem dX11_map_28 : decode cX11_map 28 = .ok (.lload_n 3, 1) := by decide +kernel
theorem dX11_map_29 : decode cX11_map 29 = .ok (.invokespecial 93, 3) := by decide +kernel
theorem dX11_map_32 : decode cX11_map 32 = .ok (.invokevirtual 70, 3) := by decide +kernel
theorem dX11_map_35 : decode cX11_map 35 = .ok (.ireturn, 1) := by decide +kernel
abbrev wmX11_iterate : List Cond := .code yX11_iterate cX11_iterate 6 (some .int) :: WC
theorem hd_X11_iterate : yX11_iterate.cls = RX11 ∧ yX11_iterate.cls ≠ "java/lang/invoke/MethodHandle" ∧ yX11_iterate.cls ≠ "java/lang/invoke/VarHandle" ∧ (parseMethodDescriptor yX11_iterate.desc).map (fun d => d.parameters.length) = some 3 := by decide +kernel
def P_X11_iterate (sh : Sh) (ci : Nat → Nat → Int32) (ai : Nat → Nat → Int32) (al : Nat → Nat → Int64) (q : Nat) (p0 : Int32) (p1 : Int64) (p2 : Int64) (Q : Int32 → Sh → (Nat → Nat → Int32) → (Nat → Nat → Int32) → (Nat → Nat → Int64) → Prop) (X : String → Prop) : Prop := (q ∈ sL sh ∧ sK sh q = 10) ∧ P_X11_checkOp p0 (P_X11_checkRoom sh ci ai al q  (∀ (q3 : Nat) (sh4 : Sh), q3 ∉ sL sh → sh4 = shO sh q3 0 → (q ∈ sL sh4 ∧ sK sh4 q = 10) ∧ ∃ q9 : Nat, sR sh4 q 0 = some q9 ∧ (q3 ∈ sL sh4 ∧ sK sh4 q3 = 0) ∧ P_X0_initN sh4 (va_up ci q3 (fun _ => 0)) ai al q3 q9 p0 p1 p2 (fun sh13 ci13 ai13 al13 => (q ∈ sL sh13 ∧ sK sh13 q = 10) ∧ P_X11_addList sh13 ci13 ai13 al13 q q3 (fun r16 sh16 ci16 ai16 al16 => Q r16 sh16 ci16 ai16 al16))) X) X
set_option maxHeartbeats 4000000 in
set_option maxRecDepth 100000 in
theorem p_X11_iterate (l : Launch) (hl0 : l.stackTraces = false) (dC : Nat → ClassId) (dI : Nat → Nat → Nat) (sh : Sh) (ci : Nat → Nat → Int32) (ai : Nat → Nat → Int32) (al : Nat → Nat → Int64) (q : Nat) (p0 : Int32) (p1 : Int64) (p2 : Int64) (Q : Int32 → Sh → (Nat → Nat → Int32) → (Nat → Nat → Int32) → (Nat → Nat → Int64) → Prop) (X : String → Prop) (h : P_X11_iterate sh ci ai al q p0 p1 p2 Q X) (sz : Nat) : vx_Met l yX11_iterate wmX11_iterate ({ frames := 100, cells := 8, slots := 2000, locals := 3000 }) (va_Pc [.ref q, .int p0, .long p1, .long p2] (xPre dC dI sh ci ai al sz)) (va_Qi (S := XSt) (xI Q) (xB dC dI (va_A (cW sh ci ai al) sz)) (va_A (cW sh ci ai al) sz)) (XC X sz) 8 2000 (va_A (cW sh ci ai al) sz) := by
  refine vx_ofW (cc := cX11_iterate) (maxL := 6) (ret := (some .int)) (by decide) rfl ?_
  intro p e s m args below meth c s₁ B hml htab hv
  obtain ⟨rfl, ⟨hsz, hP, hK, hD0, hG⟩, hZ⟩ := hv
  have hx := B.exec
  have hb := B.bytes
  have hr := B.returns
  have hts : ∀ w ∈ WC, w.before _ s = true := fun w h => atoms_spec (ws := wmX11_iterate) B.pre w (List.mem_cons_of_mem _ h)
  have hown : s.vm.findClass RX11 = some m.cls := findClass_of_methodNamed B.named
  have hlocks := B.notSynchronized
  subst hsz
  have hD := hD0.self (sz := s.heap.size)
  generalize hAe : va_A (cW sh ci ai al) s.heap.size = A at hD hZ ⊢
  have hA : ∀ q : Nat, s.heap.size ≤ q → A q := fun q h => by rw [← hAe]; exact Or.inr h
  generalize hz9 : s.heap.size = z9
  generalize hH : s.heap = H at hP ⊢
  subst hz9
  have hS : va_S A s.heap H [] := by rw [← hH]; exact va_S.rf
  have hE : xE s.heap H := by rw [← hH]; exact xE.rf
  have hl := lv_entry [.ref q, .int p0, .long p1, .long p2] (n := 6) (Nat.le_of_ble_eq_true rfl)
  rw [lg_entry_eq]
  generalize (lg_sl [.ref q, .int p0, .long p1, .long p2] ++ List.replicate (6 - (lg_sl [.ref q, .int p0, .long p1, .long p2]).length) Slot.unset).toArray = ls at hl ⊢
  have hl : lv_has ls 6 [(0, .ref q), (1, .int p0), (2, .long p1), (4, .long p2)] := hl
  unfold P_X11_iterate at h
  obtain ⟨⟨hq, hk⟩, h⟩ := h
  refine lv_iload_n hx hb dX11_iterate_0 rfl (lv_at hl 1 rfl) ?_
  refine xr_endv (cells := 0) (slots := 0) (mc0 := 8) (ms0 := 2000) (vx_runS (rm := ({ frames := 20, cells := 1, slots := 6, locals := 300 })) (As := [.int p0]) (rest := []) ⟨hx, hb, hml, hown, hts⟩ (p_X11_checkOp l hl0 p0 _ _ h H.size) (va_cwS 1 hts (g_S gdC mwC_428 mwC_429 mwC_119 mwC_427) rfl rfl rfl hd_X11_checkOp ⟨Nat.le_of_ble_eq_true rfl, Nat.le_of_ble_eq_true rfl⟩) (x_preS hA hS hG hZ) rfl rfl hl.1 rfl (lv_room (Nat.le_of_ble_eq_true rfl)) dX11_iterate_1 ⟨Nat.le_of_ble_eq_true rfl, Nat.le_of_ble_eq_true rfl⟩) hE hS hP hA (fun x h => (htab x h).elim) hlocks (Nat.le_of_ble_eq_true rfl) (Nat.le_of_ble_eq_true rfl) (fun H locs h hE hP hS => ?_)
  refine lv_aload_n hx hb dX11_iterate_4 rfl (lv_at hl 0 rfl) ?_
  refine xr_endv (cells := 1) (slots := 6) (mc0 := 8) (ms0 := 2000) (vx_runV (rm := ({ frames := 20, cells := 1, slots := 6, locals := 300 })) (As := []) (rest := []) ⟨hx, hb, hml, hown, hts⟩ (p_X11_checkRoom l hl0 dC dI _ _ _ _ q  _ _ h H.size) (cwV 0 hts (g_V gdC mwC_405 mwC_406 mwC_407 mwC_119 mwC_404) rfl rfl rfl hd_X11_checkRoom ⟨Nat.le_of_ble_eq_true rfl, Nat.le_of_ble_eq_true rfl⟩) (x_preV hK hP hD hS hA hS hG hZ hq hk) rfl rfl hl.1 rfl (lv_room (Nat.le_of_ble_eq_true rfl)) dX11_iterate_5 ⟨Nat.le_of_ble_eq_true rfl, Nat.le_of_ble_eq_true rfl⟩) hE hS hP hA (fun x h => (htab x h).elim) hlocks (Nat.le_of_ble_eq_true rfl) (Nat.le_of_ble_eq_true rfl) (fun H locs h hE hP hS => ?_)
  refine lv_aload_n hx hb dX11_iterate_8 rfl (lv_at hl 0 rfl) ?_
  refine x_newX0 hx hb hts hown (hts _ mwC_430) (hts _ mwC_431) (hts _ mwC_250) hK hP hD hS hA (Nat.le_of_ble_eq_true rfl) (Nat.le_of_ble_eq_true rfl) dX11_iterate_9 (fun q3 sh4 H hn6 es5 hK hP hD hS => ?_)
  have h := h q3 sh4 hn6 es5
  refine lv_dup hx hb dX11_iterate_12 rfl ?_
  refine lv_aload_n hx hb dX11_iterate_13 rfl (lv_at hl 0 rfl) ?_
  obtain ⟨⟨hm7, hk8⟩, h⟩ := h
  obtain ⟨q9, e10, h⟩ := h
  refine c_get (C := RX11) (T := TX11) (N := 9) (K := 10) (v := .ref q9) hx hb hts hinX11 hown hK hP hm7 hk8 (by decide) rfl 0 (by decide) (hts _ mwC_383) (fun _ h9 => h9) (by show some (va_rf (sR sh4 q 0)) = _; rw [e10]; rfl) dX11_iterate_14 ?_
  refine lv_null hx hb dX11_iterate_17 ?_
  refine lv_iload_n hx hb dX11_iterate_18 rfl (lv_at hl 1 rfl) ?_
  refine lv_lload_n hx hb dX11_iterate_19 rfl (lv_at hl 2 rfl) ?_
  refine lv_lload hx hb dX11_iterate_20 (lv_at hl 3 rfl) ?_
  obtain ⟨⟨hm11, hk12⟩, h⟩ := h
  refine xn_endv (va_runI (rm := ({ frames := 30, cells := 2, slots := 800, locals := 400 })) (As := [.ref q9, .null, .int p0, .long p1, .long p2]) (rest := [.ref q3, .ref q]) ⟨hx, hb, hml, hown, hts⟩ (p_X0_initN l dC dI _ _ _ _ q3 q9 p0 p1 p2 _ h H.size) (cwI 5 hts (g_C gdC mwC_432) rfl rfl rfl (hts _ mwC_250) (hts _ mwC_433) (hts _ mwC_434) rfl hd_X0_initN ⟨Nat.le_of_ble_eq_true rfl, Nat.le_of_ble_eq_true rfl⟩) (c_preS hK hP hD hG) rfl rfl hl.1 rfl (lv_room (Nat.le_of_ble_eq_true rfl)) dX11_iterate_22 ⟨Nat.le_of_ble_eq_true rfl, Nat.le_of_ble_eq_true rfl⟩) hD hS hA (fun sh13 ci13 ai13 al13 H locs h hK hP hD hS => ?_)
  obtain ⟨⟨hm14, hk15⟩, h⟩ := h
  refine xn_endi (va_runV (rm := ({ frames := 60, cells := 0, slots := 0, locals := 2000 })) (As := [.ref q3]) (rest := []) ⟨hx, hb, hml, hown, hts⟩ (p_X11_addList l dC dI _ _ _ _ q q3 _ h H.size) (cwV 1 hts (g_V gdC mwC_421 mwC_422 mwC_423 mwC_119 mwC_420) rfl rfl rfl hd_X11_addList ⟨Nat.le_of_ble_eq_true rfl, Nat.le_of_ble_eq_true rfl⟩) (c_preV (vc := (RX11, TX11, 9)) hK hP hD hG hm14 hk15 (by decide) rfl) rfl rfl hl.1 rfl (lv_room (Nat.le_of_ble_eq_true rfl)) dX11_iterate_25 ⟨Nat.le_of_ble_eq_true rfl, Nat.le_of_ble_eq_true rfl⟩) hD hS hA (fun r16 sh16 ci16 ai16 al16 H locs h hK hP hD hS => ?_)
  refine W.widen (k := 8) (n := 2000) (by decide) (by decide) ?_
  refine vx_ret ?_
  exact W.iret (v := r16) hx hb hr (fun t ht hW => ⟨⟨_, (sh16, ci16, ai16, al16), rfl, h, by rw [ht]; exact hP, cK.moved hW.alike hK, hD⟩, hS.F ht⟩) hS.2.2 dX11_iterate_28
abbrev wmX11_map : List Cond := .code yX11_map cX11_map 6 (some .int) :: WC
theorem hd_X11_map : yX11_map.cls = RX11 ∧ yX11_map.cls ≠ "java/lang/invoke/MethodHandle" ∧ yX11_map.cls ≠ "java/lang/invoke/VarHandle" ∧ (parseMethodDescriptor yX11_map.desc).map (fun d => d.parameters.length) = some 3 := by decide +kernel
def P_X11_map (sh : Sh) (ci : Nat → Nat → Int32) (ai : Nat → Nat → Int32) (al : Nat → Nat → Int64) (q : Nat) (p0 : Int32) (p1 : Int32) (p2 : Int64) (Q : Int32 → Sh → (Nat → Nat → Int32) → (Nat → Nat → Int32) → (Nat → Nat → Int64) → Prop) (X : String → Prop) : Prop := (q ∈ sL sh ∧ sK sh q = 10) ∧ P_X11_listOf sh ci ai al q p0 (fun r1 => P_X11_checkOp p1 (P_X11_checkRoom sh ci ai al q  (∀ (q4 : Nat) (sh5 : Sh), q4 ∉ sL sh → sh5 = shO sh q4 1 → (q ∈ sL sh5 ∧ sK sh5 q = 10) ∧ ∃ q10 : Nat, sR sh5 q 0 = some q10 ∧ (q4 ∈ sL sh5 ∧ sK sh5 q4 = 1) ∧ P_X1_initN sh5 (va_up ci q4 (fun _ => 0)) ai al q4 q10 r1 p1 p2 (fun sh14 ci14 ai14 al14 => (q ∈ sL sh14 ∧ sK sh14 q = 10) ∧ P_X11_addList sh14 ci14 ai14 al14 q q4 (fun r17 sh17 ci17 ai17 al17 => Q r17 sh17 ci17 ai17 al17))) X) X) X
set_option maxHeartbeats 4000000 in
set_option maxRecDepth 100000 in
theorem p_X11_map (l : Launch) (hl0 : l.stackTraces = false) (dC : Nat → ClassId) (dI : Nat → Nat → Nat) (sh : Sh) (ci : Nat → Nat → Int32) (ai : Nat → Nat → Int32) (al : Nat → Nat → Int64) (q : Nat) (p0 : Int32) (p1 : Int32) (p2 : Int64) (Q : Int32 → Sh → (Nat → Nat → Int32) → (Nat → Nat → Int32) → (Nat → Nat → Int64) → Prop) (X : String → Prop) (h : P_X11_map sh ci ai al q p0 p1 p2 Q X) (sz : Nat) : vx_Met l yX11_map wmX11_map ({ frames := 100, cells := 8, slots := 2000, locals := 3000 }) (va_Pc [.ref q, .int p0, .int p1, .long p2] (xPre dC dI sh ci ai al sz)) (va_Qi (S := XSt) (xI Q) (xB dC dI (va_A (cW sh ci ai al) sz)) (va_A (cW sh ci ai al) sz)) (XC X sz) 8 2000 (va_A (cW sh ci ai al) sz) := by
  refine vx_ofW (cc := cX11_map) (maxL := 6) (ret := (some .int)) (by decide) rfl ?_
  intro p e s m args below meth c s₁ B hml htab hv
  obtain ⟨rfl, ⟨hsz, hP, hK, hD0, hG⟩, hZ⟩ := hv
  have hx := B.exec
  have hb := B.bytes
  have hr := B.returns
  have hts : ∀ w ∈ WC, w.before _ s = true := fun w h => atoms_spec (ws := wmX11_map) B.pre w (List.mem_cons_of_mem _ h)
  have hown : s.vm.findClass RX11 = some m.cls := findClass_of_methodNamed B.named
  have hlocks := B.notSynchronized
  subst hsz
  have hD := hD0.self (sz := s.heap.size)
  generalize hAe : va_A (cW sh ci ai al) s.heap.size = A at hD hZ ⊢
  have hA : ∀ q : Nat, s.heap.size ≤ q → A q := fun q h => by rw [← hAe]; exact Or.inr h
  generalize hz9 : s.heap.size = z9
  generalize hH : s.heap = H at hP ⊢
  subst hz9
  have hS : va_S A s.heap H [] := by rw [← hH]; exact va_S.rf
  have hE : xE s.heap H := by rw [← hH]; exact xE.rf
  have hl := lv_entry [.ref q, .int p0, .int p1, .long p2] (n := 6) (Nat.le_of_ble_eq_true rfl)
  rw [lg_entry_eq]
  generalize (lg_sl [.ref q, .int p0, .int p1, .long p2] ++ List.replicate (6 - (lg_sl [.ref q, .int p0, .int p1, .long p2]).length) Slot.unset).toArray = ls at hl ⊢
  have hl : lv_has ls 6 [(0, .ref q), (1, .int p0), (2, .int p1), (3, .long p2)] := hl
  unfold P_X11_map at h
  obtain ⟨⟨hq, hk⟩, h⟩ := h
  refine lv_aload_n hx hb dX11_map_0 rfl (lv_at hl 0 rfl) ?_
  refine lv_iload_n hx hb dX11_map_1 rfl (lv_at hl 1 rfl) ?_
  refine xr_endr (cells := 0) (slots := 0) (mc0 := 8) (ms0 := 2000) (vx_runV (rm := ({ frames := 20, cells := 1, slots := 6, locals := 300 })) (As := [.int p0]) (rest := []) ⟨hx, hb, hml, hown, hts⟩ (p_X11_listOf l hl0 dC dI _ _ _ _ q p0 _ _ h H.size) (cwV 1 hts (g_V gdC mwC_436 mwC_437 mwC_438 mwC_119 mwC_435) rfl rfl rfl hd_X11_listOf ⟨Nat.le_of_ble_eq_true rfl, Nat.le_of_ble_eq_true rfl⟩) (x_preV hK hP hD hS hA hS hG hZ hq hk) rfl rfl hl.1 rfl (lv_room (Nat.le_of_ble_eq_true rfl)) dX11_map_2 ⟨Nat.le_of_ble_eq_true rfl, Nat.le_of_ble_eq_true rfl⟩) hE hS hP hA (fun x h => (htab x h).elim) hlocks (Nat.le_of_ble_eq_true rfl) (Nat.le_of_ble_eq_true rfl) (fun r1 H locs h hE hP hS => ?_)
  refine lv_astore (lv' := [(5, .ref r1), (0, .ref q), (1, .int p0), (2, .int p1), (3, .long p2)]) hx hb dX11_map_5 hl (by decide) rfl (fun ls hl => ?_)
  refine lv_iload_n hx hb dX11_map_7 rfl (lv_at hl 3 rfl) ?_
  refine xr_endv (cells := 1) (slots := 6) (mc0 := 8) (ms0 := 2000) (vx_runS (rm := ({ frames := 20, cells := 1, slots := 6, locals := 300 })) (As := [.int p1]) (rest := []) ⟨hx, hb, hml, hown, hts⟩ (p_X11_checkOp l hl0 p1 _ _ h H.size) (va_cwS 1 hts (g_S gdC mwC_428 mwC_429 mwC_119 mwC_427) rfl rfl rfl hd_X11_checkOp ⟨Nat.le_of_ble_eq_true rfl, Nat.le_of_ble_eq_true rfl⟩) (x_preS hA hS hG hZ) rfl rfl hl.1 rfl (lv_room (Nat.le_of_ble_eq_true rfl)) dX11_map_8 ⟨Nat.le_of_ble_eq_true rfl, Nat.le_of_ble_eq_true rfl⟩) hE hS hP hA (fun x h => (htab x h).elim) hlocks (Nat.le_of_ble_eq_true rfl) (Nat.le_of_ble_eq_true rfl) (fun H locs h hE hP hS => ?_)
  refine lv_aload_n hx hb dX11_map_11 rfl (lv_at hl 1 rfl) ?_
  refine xr_endv (cells := 2) (slots := 12) (mc0 := 8) (ms0 := 2000) (vx_runV (rm := ({ frames := 20, cells := 1, slots := 6, locals := 300 })) (As := []) (rest := []) ⟨hx, hb, hml, hown, hts⟩ (p_X11_checkRoom l hl0 dC dI _ _ _ _ q  _ _ h H.size) (cwV 0 hts (g_V gdC mwC_405 mwC_406 mwC_407 mwC_119 mwC_404) rfl rfl rfl hd_X11_checkRoom ⟨Nat.le_of_ble_eq_true rfl, Nat.le_of_ble_eq_true rfl⟩) (x_preV hK hP hD hS hA hS hG hZ hq hk) rfl rfl hl.1 rfl (lv_room (Nat.le_of_ble_eq_true rfl)) dX11_map_12 ⟨Nat.le_of_ble_eq_true rfl, Nat.le_of_ble_eq_true rfl⟩) hE hS hP hA (fun x h => (htab x h).elim) hlocks (Nat.le_of_ble_eq_true rfl) (Nat.le_of_ble_eq_true rfl) (fun H locs h hE hP hS => ?_)
  refine lv_aload_n hx hb dX11_map_15 rfl (lv_at hl 1 rfl) ?_
  refine x_newX1 hx hb hts hown (hts _ mwC_439) (hts _ mwC_440) (hts _ mwC_276) hK hP hD hS hA (Nat.le_of_ble_eq_true rfl) (Nat.le_of_ble_eq_true rfl) dX11_map_16 (fun q4 sh5 H hn7 es6 hK hP hD hS => ?_)
  have h := h q4 sh5 hn7 es6
  refine lv_dup hx hb dX11_map_19 rfl ?_
  refine lv_aload_n hx hb dX11_map_20 rfl (lv_at hl 1 rfl) ?_
  obtain ⟨⟨hm8, hk9⟩, h⟩ := h
  obtain ⟨q10, e11, h⟩ := h
  refine c_get (C := RX11) (T := TX11) (N := 9) (K := 10) (v := .ref q10) hx hb hts hinX11 hown hK hP hm8 hk9 (by decide) rfl 0 (by decide) (hts _ mwC_383) (fun _ h9 => h9) (by show some (va_rf (sR sh5 q 0)) = _; rw [e11]; rfl) dX11_map_21 ?_
  refine lv_aload hx hb dX11_map_24 (lv_at hl 0 rfl) ?_
  refine lv_null hx hb dX11_map_26 ?_
  refine lv_iload_n hx hb dX11_map_27 rfl (lv_at hl 3 rfl) ?_
  refine lv_lload_n hx hb dX11_map_28 rfl (lv_at hl 4 rfl) ?_
  obtain ⟨⟨hm12, hk13⟩, h⟩ := h
  refine xn_endv (va_runI (rm := ({ frames := 30, cells := 2, slots := 800, locals := 400 })) (As := [.ref q10, .ref r1, .null, .int p1, .long p2]) (rest := [.ref q4, .ref q]) ⟨hx, hb, hml, hown, hts⟩ (p_X1_initN l dC dI _ _ _ _ q4 q10 r1 p1 p2 _ h H.size) (cwI 5 hts (g_C gdC mwC_441) rfl rfl rfl (hts _ mwC_276) (hts _ mwC_442) (hts _ mwC_443) rfl hd_X1_initN ⟨Nat.le_of_ble_eq_true rfl, Nat.le_of_ble_eq_true rfl⟩) (c_preS hK hP hD hG) rfl rfl hl.1 rfl (lv_room (Nat.le_of_ble_eq_true rfl)) dX11_map_29 ⟨Nat.le_of_ble_eq_true rfl, Nat.le_of_ble_eq_true rfl⟩) hD hS hA (fun sh14 ci14 ai14 al14 H locs h hK hP hD hS => ?_)
  obtain ⟨⟨hm15, hk16⟩, h⟩ := h
  refine xn_endi (va_runV (rm := ({ frames := 60, cells := 0, slots := 0, locals := 2000 })) (As := [.ref q4]) (rest := []) ⟨hx, hb, hml, hown, hts⟩ (p_X11_addList l dC dI _ _ _ _ q q4 _ h H.size) (cwV 1 hts (g_V gdC mwC_421 mwC_422 mwC_423 mwC_119 mwC_420) rfl rfl rfl hd_X11_addList ⟨Nat.le_of_ble_eq_true rfl, Nat.le_of_ble_eq_true rfl⟩) (c_preV (vc := (RX11, TX11, 9)) hK hP hD hG hm15 hk16 (by decide) rfl) rfl rfl hl.1 rfl (lv_room (Nat.le_of_ble_eq_true rfl)) dX11_map_32 ⟨Nat.le_of_ble_eq_true rfl, Nat.le_of_ble_eq_true rfl⟩) hD hS hA (fun r17 sh17 ci17 ai17 al17 H locs h hK hP hD hS => ?_)
  refine W.widen (k := 8) (n := 2000) (by decide) (by decide) ?_
  refine vx_ret ?_
  exact W.iret (v := r17) hx hb hr (fun t ht hW => ⟨⟨_, (sh17, ci17, ai17, al17), rfl, h, by rw [ht]; exact hP, cK.moved hW.alike hK, hD⟩, hS.F ht⟩) hS.2.2 dX11_map_35
