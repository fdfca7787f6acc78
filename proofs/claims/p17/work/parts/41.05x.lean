abbrev cX11_map : ByteArray := prog_1_method_8_code
def yX11_map : MethodName := ⟨RX11, "map", "(IIJ)I"⟩
abbrev cX11_both : ByteArray := prog_1_method_9_code
def yX11_both : MethodName := ⟨RX11, "both", "(III)I"⟩
abbrev cX11_scan : ByteArray := prog_1_method_10_code
def yX11_scan : MethodName := ⟨RX11, "scan", "(IIJ)I"⟩
abbrev cX11_take : ByteArray := prog_1_method_11_code
def yX11_take : MethodName := ⟨RX11, "take", "(II)I"⟩
abbrev cX11_drop : ByteArray := prog_1_method_12_code
def yX11_drop : MethodName := ⟨RX11, "drop", "(II)I"⟩
abbrev cX11_keep : ByteArray := prog_1_method_13_code
def yX11_keep : MethodName := ⟨RX11, "keep", "(IIJ)I"⟩
theorem dX11_map_0 : decode cX11_map 0 = .ok (.aload_n 0, 1) := by decide +kernel
theorem dX11_map_1 : decode cX11_map 1 = .ok (.iload_n 1, 1) := by decide +kernel
theorem dX11_map_2 : decode cX11_map 2 = .ok (.invokevirtual 87, 3) := by decide +kernel
theorem dX11_map_5 : decode cX11_map 5 = .ok (.astore 5, 2) := by decide +kernel
theorem dX11_map_7 : decode cX11_map 7 = .ok (.iload_n 2, 1) := by decide +kernel
theorem dX11_map_8 : decode cX11_map 8 = .ok (.invokestatic 78, 3) := by decide +kernel
theorem dX11_map_11 : decode cX11_map 11 = .ok (.aload_n 0, 1) := by decide +kernel
theorem dX11_map_12 : decode cX11_map 12 = .ok (.invokevirtual 53, 3) := by decide +kernel
theorem dX11_map_15 : decode cX11_map 15 = .ok (.aload_n 0, 1) := by decide +kernel
theorem dX11_map_16 : decode cX11_map 16 = .ok (.new 91, 3) := by decide +kernel
theorem dX11_map_19 : decode cX11_map 19 = .ok (.dup, 1) := by decide +kernel
theorem dX11_map_20 : decode cX11_map 20 = .ok (.aload_n 0, 1) := by decide +kernel
theorem dX11_map_21 : decode cX11_map 21 = .ok (.getfield 12, 3) := by decide +kernel
theorem dX11_map_24 : decode cX11_map 24 = .ok (.aload 5, 2) := by decide +kernel
theorem dX11_map_26 : decode cX11_map 26 = .ok (.aconst_null, 1) := by decide +kernel
theorem dX11_map_27 : decode cX11_map 27 = .ok (.iload_n 2, 1) := by decide +kernel
theorem dX11_map_28 : decode cX11_map 28 = .ok (.lload_n 3, 1) := by decide +kernel
theorem dX11_map_29 : decode cX11_map 29 = .ok (.invokespecial 93, 3) := by decide +kernel
theorem dX11_map_32 : decode cX11_map 32 = .ok (.invokevirtual 70, 3) := by decide +kernel
theorem dX11_map_35 : decode cX11_map 35 = .ok (.ireturn, 1) := by decide +kernel
theorem dX11_both_0 : decode cX11_both 0 = .ok (.aload_n 0, 1) := by decide +kernel
theorem dX11_both_1 : decode cX11_both 1 = .ok (.iload_n 1, 1) := by decide +kernel
theorem dX11_both_2 : decode cX11_both 2 = .ok (.invokevirtual 87, 3) := by decide +kernel
theorem dX11_both_5 : decode cX11_both 5 = .ok (.astore 4, 2) := by decide +kernel
theorem dX11_both_7 : decode cX11_both 7 = .ok (.aload_n 0, 1) := by decide +kernel
theorem dX11_both_8 : decode cX11_both 8 = .ok (.iload_n 2, 1) := by decide +kernel
theorem dX11_both_9 : decode cX11_both 9 = .ok (.invokevirtual 87, 3) := by decide +kernel
theorem dX11_both_12 : decode cX11_both 12 = .ok (.astore 5, 2) := by decide +kernel
theorem dX11_both_14 : decode cX11_both 14 = .ok (.iload_n 3, 1) := by decide +kernel
theorem dX11_both_15 : decode cX11_both 15 = .ok (.invokestatic 78, 3) := by decide +kernel
theorem dX11_both_18 : decode cX11_both 18 = .ok (.aload_n 0, 1) := by decide +kernel
theorem dX11_both_19 : decode cX11_both 19 = .ok (.invokevirtual 53, 3) := by decide +kernel
theorem dX11_both_22 : decode cX11_both 22 = .ok (.aload_n 0, 1) := by decide +kernel
theorem dX11_both_23 : decode cX11_both 23 = .ok (.new 91, 3) := by decide +kernel
theorem dX11_both_26 : decode cX11_both 26 = .ok (.dup, 1) := by decide +kernel
theorem dX11_both_27 : decode cX11_both 27 = .ok (.aload_n 0, 1) := by decide +kernel
theorem dX11_both_28 : decode cX11_both 28 = .ok (.getfield 12, 3) := by decide +kernel
theorem dX11_both_31 : decode cX11_both 31 = .ok (.aload 4, 2) := by decide +kernel
theorem dX11_both_33 : decode cX11_both 33 = .ok (.aload 5, 2) := by decide +kernel
theorem dX11_both_35 : decode cX11_both 35 = .ok (.iload_n 3, 1) := by decide +kernel
theorem dX11_both_36 : decode cX11_both 36 = .ok (.lconst 0, 1) := by decide +kernel
theorem dX11_both_37 : decode cX11_both 37 = .ok (.invokespecial 93, 3) := by decide +kernel
theorem dX11_both_40 : decode cX11_both 40 = .ok (.invokevirtual 70, 3) := by decide +kernel
theorem dX11_both_43 : decode cX11_both 43 = .ok (.ireturn, 1) := by decide +kernel
theorem dX11_scan_0 : decode cX11_scan 0 = .ok (.aload_n 0, 1) := by decide +kernel
theorem dX11_scan_1 : decode cX11_scan 1 = .ok (.iload_n 1, 1) := by decide +kernel
theorem dX11_scan_2 : decode cX11_scan 2 = .ok (.invokevirtual 87, 3) := by decide +kernel
theorem dX11_scan_5 : decode cX11_scan 5 = .ok (.astore 5, 2) := by decide +kernel
theorem dX11_scan_7 : decode cX11_scan 7 = .ok (.iload_n 2, 1) := by decide +kernel
theorem dX11_scan_8 : decode cX11_scan 8 = .ok (.invokestatic 78, 3) := by decide +kernel
theorem dX11_scan_11 : decode cX11_scan 11 = .ok (.aload_n 0, 1) := by decide +kernel
theorem dX11_scan_12 : decode cX11_scan 12 = .ok (.invokevirtual 53, 3) := by decide +kernel
theorem dX11_scan_15 : decode cX11_scan 15 = .ok (.aload_n 0, 1) := by decide +kernel
theorem dX11_scan_16 : decode cX11_scan 16 = .ok (.new 82, 3) := by decide +kernel
theorem dX11_scan_19 : decode cX11_scan 19 = .ok (.dup, 1) := by decide +kernel
theorem dX11_scan_20 : decode cX11_scan 20 = .ok (.aload_n 0, 1) := by decide +kernel
theorem dX11_scan_21 : decode cX11_scan 21 = .ok (.getfield 12, 3) := by decide +kernel
theorem dX11_scan_24 : decode cX11_scan 24 = .ok (.aload 5, 2) := by decide +kernel
theorem dX11_scan_26 : decode cX11_scan 26 = .ok (.iload_n 2, 1) := by decide +kernel
theorem dX11_scan_27 : decode cX11_scan 27 = .ok (.lconst 0, 1) := by decide +kernel
theorem dX11_scan_28 : decode cX11_scan 28 = .ok (.lload_n 3, 1) := by decide +kernel
theorem dX11_scan_29 : decode cX11_scan 29 = .ok (.invokespecial 84, 3) := by decide +kernel
theorem dX11_scan_32 : decode cX11_scan 32 = .ok (.invokevirtual 70, 3) := by decide +kernel
theorem dX11_scan_35 : decode cX11_scan 35 = .ok (.ireturn, 1) := by decide +kernel
theorem dX11_take_0 : decode cX11_take 0 = .ok (.aload_n 0, 1) := by decide +kernel
theorem dX11_take_1 : decode cX11_take 1 = .ok (.iload_n 1, 1) := by decide +kernel
theorem dX11_take_2 : decode cX11_take 2 = .ok (.invokevirtual 87, 3) := by decide +kernel
theorem dX11_take_5 : decode cX11_take 5 = .ok (.astore_n 3, 1) := by decide +kernel
theorem dX11_take_6 : decode cX11_take 6 = .ok (.iload_n 2, 1) := by decide +kernel
theorem dX11_take_7 : decode cX11_take 7 = .ok (.invokestatic 96, 3) := by decide +kernel
theorem dX11_take_10 : decode cX11_take 10 = .ok (.aload_n 0, 1) := by decide +kernel
theorem dX11_take_11 : decode cX11_take 11 = .ok (.invokevirtual 53, 3) := by decide +kernel
theorem dX11_take_14 : decode cX11_take 14 = .ok (.aload_n 0, 1) := by decide +kernel
theorem dX11_take_15 : decode cX11_take 15 = .ok (.new 99, 3) := by decide +kernel
theorem dX11_take_18 : decode cX11_take 18 = .ok (.dup, 1) := by decide +kernel
theorem dX11_take_19 : decode cX11_take 19 = .ok (.aload_n 0, 1) := by decide +kernel
theorem dX11_take_20 : decode cX11_take 20 = .ok (.getfield 12, 3) := by decide +kernel
theorem dX11_take_23 : decode cX11_take 23 = .ok (.aload_n 3, 1) := by decide +kernel
theorem dX11_take_24 : decode cX11_take 24 = .ok (.iload_n 2, 1) := by decide +kernel
theorem dX11_take_25 : decode cX11_take 25 = .ok (.iconst (-1), 1) := by decide +kernel
theorem dX11_take_26 : decode cX11_take 26 = .ok (.lconst 0, 1) := by decide +kernel
theorem dX11_take_27 : decode cX11_take 27 = .ok (.invokespecial 101, 3) := by decide +kernel
theorem dX11_take_30 : decode cX11_take 30 = .ok (.invokevirtual 70, 3) := by decide +kernel
theorem dX11_take_33 : decode cX11_take 33 = .ok (.ireturn, 1) := by decide +kernel
theorem dX11_drop_0 : decode cX11_drop 0 = .ok (.aload_n 0, 1) := by decide +kernel
theorem dX11_drop_1 : decode cX11_drop 1 = .ok (.iload_n 1, 1) := by decide +kernel
theorem dX11_drop_2 : decode cX11_drop 2 = .ok (.invokevirtual 87, 3) := by decide +kernel
theorem dX11_drop_5 : decode cX11_drop 5 = .ok (.astore_n 3, 1) := by decide +kernel
theorem dX11_drop_6 : decode cX11_drop 6 = .ok (.iload_n 2, 1) := by decide +kernel
theorem dX11_drop_7 : decode cX11_drop 7 = .ok (.invokestatic 96, 3) := by decide +kernel
theorem dX11_drop_10 : decode cX11_drop 10 = .ok (.aload_n 0, 1) := by decide +kernel
theorem dX11_drop_11 : decode cX11_drop 11 = .ok (.invokevirtual 53, 3) := by decide +kernel
theorem dX11_drop_14 : decode cX11_drop 14 = .ok (.aload_n 0, 1) := by decide +kernel
theorem dX11_drop_15 : decode cX11_drop 15 = .ok (.new 104, 3) := by decide +kernel
theorem dX11_drop_18 : decode cX11_drop 18 = .ok (.dup, 1) := by decide +kernel
theorem dX11_drop_19 : decode cX11_drop 19 = .ok (.aload_n 0, 1) := by decide +kernel
theorem dX11_drop_20 : decode cX11_drop 20 = .ok (.getfield 12, 3) := by decide +kernel
theorem dX11_drop_23 : decode cX11_drop 23 = .ok (.aload_n 3, 1) := by decide +kernel
theorem dX11_drop_24 : decode cX11_drop 24 = .ok (.iload_n 2, 1) := by decide +kernel
theorem dX11_drop_25 : decode cX11_drop 25 = .ok (.iconst (-1), 1) := by decide +kernel
theorem dX11_drop_26 : decode cX11_drop 26 = .ok (.lconst 0, 1) := by decide +kernel
theorem dX11_drop_27 : decode cX11_drop 27 = .ok (.invokespecial 106, 3) := by decide +kernel
theorem dX11_drop_30 : decode cX11_drop 30 = .ok (.invokevirtual 70, 3) := by decide +kernel
theorem dX11_drop_33 : decode cX11_drop 33 = .ok (.ireturn, 1) := by decide +kernel
theorem dX11_keep_0 : decode cX11_keep 0 = .ok (.aload_n 0, 1) := by decide +kernel
theorem dX11_keep_1 : decode cX11_keep 1 = .ok (.iload_n 1, 1) := by decide +kernel
theorem dX11_keep_2 : decode cX11_keep 2 = .ok (.invokevirtual 87, 3) := by decide +kernel
theorem dX11_keep_5 : decode cX11_keep 5 = .ok (.astore 5, 2) := by decide +kernel
theorem dX11_keep_7 : decode cX11_keep 7 = .ok (.iload_n 2, 1) := by decide +kernel
theorem dX11_keep_8 : decode cX11_keep 8 = .ok (.invokestatic 107, 3) := by decide +kernel
theorem dX11_keep_11 : decode cX11_keep 11 = .ok (.aload_n 0, 1) := by decide +kernel
theorem dX11_keep_12 : decode cX11_keep 12 = .ok (.invokevirtual 53, 3) := by decide +kernel
theorem dX11_keep_15 : decode cX11_keep 15 = .ok (.aload_n 0, 1) := by decide +kernel
theorem dX11_keep_16 : decode cX11_keep 16 = .ok (.new 110, 3) := by decide +kernel
theorem dX11_keep_19 : decode cX11_keep 19 = .ok (.dup, 1) := by decide +kernel
theorem dX11_keep_20 : decode cX11_keep 20 = .ok (.aload_n 0, 1) := by decide +kernel
theorem dX11_keep_21 : decode cX11_keep 21 = .ok (.getfield 12, 3) := by decide +kernel
theorem dX11_keep_24 : decode cX11_keep 24 = .ok (.aload 5, 2) := by decide +kernel
theorem dX11_keep_26 : decode cX11_keep 26 = .ok (.iload_n 2, 1) := by decide +kernel
theorem dX11_keep_27 : decode cX11_keep 27 = .ok (.lload_n 3, 1) := by decide +kernel
theorem dX11_keep_28 : decode cX11_keep 28 = .ok (.invokespecial 112, 3) := by decide +kernel
theorem dX11_keep_31 : decode cX11_keep 31 = .ok (.invokevirtual 70, 3) := by decide +kernel
theorem dX11_keep_34 : decode cX11_keep 34 = .ok (.ireturn, 1) := by decide +kernel
abbrev wmX11_map : List Cond := .code yX11_map cX11_map 6 (some .int) :: WC
theorem hd_X11_map : yX11_map.cls = RX11 ∧ yX11_map.cls ≠ "java/lang/invoke/MethodHandle" ∧ yX11_map.cls ≠ "java/lang/invoke/VarHandle" ∧ (parseMethodDescriptor yX11_map.desc).map (fun d => d.parameters.length) = some 3 := by decide +kernel
def P_X11_map (sh : Sh) (ci : Nat → Nat → Int32) (ai : Nat → Nat → Int32) (al : Nat → Nat → Int64) (q : Nat) (p0 : Int32) (p1 : Int32) (p2 : Int64) (Q : Int32 → Sh → (Nat → Nat → Int32) → (Nat → Nat → Int32) → (Nat → Nat → Int64) → Prop) (X : String → Prop) : Prop := (q ∈ sL sh ∧ sK sh q = 10) ∧ P_X11_listOf sh ci ai al q p0 (fun r1 => P_X11_checkOp p1 (P_X11_checkRoom sh ci ai al q  (∀ (q4 : Nat) (sh5 : Sh), q4 ∉ sL sh → sh5 = shO sh q4 1 → (q ∈ sL sh5 ∧ sK sh5 q = 10) ∧ ∃ q10 : Nat, sR sh5 q 0 = some q10 ∧ (q4 ∈ sL sh5 ∧ sK sh5 q4 = 1) ∧ P_X1_initN sh5 (va_up ci q4 (fun _ => 0)) ai al q4 q10 r1 p1 p2 (fun sh14 ci14 ai14 al14 => (q ∈ sL sh14 ∧ sK sh14 q = 10) ∧ P_X11_addList sh14 ci14 ai14 al14 q q4 (fun r17 sh17 ci17 ai17 al17 => Q r17 sh17 ci17 ai17 al17))) X) X) X
set_option maxHeartbeats 4000000 in
set_option maxRecDepth 100000 in
theorem p_X11_map (l : Launch) (hl0 : l.stackTraces = false) (dC : Nat → ClassId) (dI : Nat → Nat → Nat) (sh : Sh) (ci : Nat → Nat → Int32) (ai : Nat → Nat → Int32) (al : Nat → Nat → Int64) (q : Nat) (p0 : Int32) (p1 : Int32) (p2 : Int64) (Q : Int32 → Sh → (Nat → Nat → Int32) → (Nat → Nat → Int32) → (Nat → Nat → Int64) → Prop) (X : String → Prop) (h : P_X11_map sh ci ai al q p0 p1 p2 Q X) (sz : Nat) : vx_Met l yX11_map wmX11_map ({ frames := 100, cells := 8, slots := 2000, locals := 3000 }) (va_Pc [.ref q, .int p0, .int p1, .long p2] (xPre dC dI sh ci ai al sz)) (va_Qi (S := XSt) (xI Q) (xB dC dI (va_A (cW sh ci ai al) sz)) (va_A (cW sh ci ai al) sz)) (XC X sz) 8 2000 (va_A (cW sh ci ai al) sz) := by
  refine vx_ofW (cc := cX11_map) (maxL := 6) (ret := (some .int)) (by decide) rfl ?_
  intro p e s m args below meth c s₁ B hml htab hv
  obtain ⟨rfl, ⟨hsz, hP, hK, hD0, hG⟩, hZ⟩ := hv
  have hx := B.exec
  have hb := B.bytes
  have hr := B.returns
  have hts : ∀ w ∈ WC, w.before _ s = true := fun w h => atoms_spec (ws := wmX11_map) B.pre w (List.mem_cons_of_mem _ h)
  have hown : s.vm.findClass RX11 = some m.cls := findClass_of_methodNamed B.named
  have hlocks := B.notSynchronized
  subst hsz
  have hD := hD0.self (sz := s.heap.size)
  generalize hAe : va_A (cW sh ci ai al) s.heap.size = A at hD hZ ⊢
  have hA : ∀ q : Nat, s.heap.size ≤ q → A q := fun q h => by rw [← hAe]; exact Or.inr h
  generalize hz9 : s.heap.size = z9
  generalize hH : s.heap = H at hP ⊢
  subst hz9
  have hS : va_S A s.heap H [] := by rw [← hH]; exact va_S.rf
  have hE : xE s.heap H := by rw [← hH]; exact xE.rf
  have hl := lv_entry [.ref q, .int p0, .int p1, .long p2] (n := 6) (Nat.le_of_ble_eq_true rfl)
  rw [lg_entry_eq]
  generalize (lg_sl [.ref q, .int p0, .int p1, .long p2] ++ List.replicate (6 - (lg_sl [.ref q, .int p0, .int p1, .long p2]).length) Slot.unset).toArray = ls at hl ⊢
  have hl : lv_has ls 6 [(0, .ref q), (1, .int p0), (2, .int p1), (3, .long p2)] := hl
  unfold P_X11_map at h
  obtain ⟨⟨hq, hk⟩, h⟩ := h
  refine lv_aload_n hx hb dX11_map_0 rfl (lv_at hl 0 rfl) ?_
  refine lv_iload_n hx hb dX11_map_1 rfl (lv_at hl 1 rfl) ?_
  refine xr_endr (cells := 0) (slots := 0) (mc0 := 8) (ms0 := 2000) (vx_runV (rm := ({ frames := 20, cells := 1, slots := 6, locals := 300 })) (As := [.int p0]) (rest := []) ⟨hx, hb, hml, hown, hts⟩ (p_X11_listOf l hl0 dC dI _ _ _ _ q p0 _ _ h H.size) (cwV 1 hts (g_V gdC mwC_436 mwC_437 mwC_438 mwC_119 mwC_435) rfl rfl rfl hd_X11_listOf ⟨Nat.le_of_ble_eq_true rfl, Nat.le_of_ble_eq_true rfl⟩) (x_preV hK hP hD hS hA hS hG hZ hq hk) rfl rfl hl.1 rfl (lv_room (Nat.le_of_ble_eq_true rfl)) dX11_map_2 ⟨Nat.le_of_ble_eq_true rfl, Nat.le_of_ble_eq_true rfl⟩) hE hS hP hA (fun x h => (htab x h).elim) hlocks (Nat.le_of_ble_eq_true rfl) (Nat.le_of_ble_eq_true rfl) (fun r1 H locs h hE hP hS => ?_)
  refine lv_astore (lv' := [(5, .ref r1), (0, .ref q), (1, .int p0), (2, .int p1), (3, .long p2)]) hx hb dX11_map_5 hl (by decide) rfl (fun ls hl => ?_)
  refine lv_iload_n hx hb dX11_map_7 rfl (lv_at hl 3 rfl) ?_
  refine xr_endv (cells := 1) (slots := 6) (mc0 := 8) (ms0 := 2000) (vx_runS (rm := ({ frames := 20, cells := 1, slots := 6, locals := 300 })) (As := [.int p1]) (rest := []) ⟨hx, hb, hml, hown, hts⟩ (p_X11_checkOp l hl0 p1 _ _ h H.size) (va_cwS 1 hts (g_S gdC mwC_428 mwC_429 mwC_119 mwC_427) rfl rfl rfl hd_X11_checkOp ⟨Nat.le_of_ble_eq_true rfl, Nat.le_of_ble_eq_true rfl⟩) (x_preS hA hS hG hZ) rfl rfl hl.1 rfl (lv_room (Nat.le_of_ble_eq_true rfl)) dX11_map_8 ⟨Nat.le_of_ble_eq_true rfl, Nat.le_of_ble_eq_true rfl⟩) hE hS hP hA (fun x h => (htab x h).elim) hlocks (Nat.le_of_ble_eq_true rfl) (Nat.le_of_ble_eq_true rfl) (fun H locs h hE hP hS => ?_)
  refine lv_aload_n hx hb dX11_map_11 rfl (lv_at hl 1 rfl) ?_
  refine xr_endv (cells := 2) (slots := 12) (mc0 := 8) (ms0 := 2000) (vx_runV (rm := ({ frames := 20, cells := 1, slots := 6, locals := 300 })) (As := []) (rest := []) ⟨hx, hb, hml, hown, hts⟩ (p_X11_checkRoom l hl0 dC dI _ _ _ _ q  _ _ h H.size) (cwV 0 hts (g_V gdC mwC_405 mwC_406 mwC_407 mwC_119 mwC_404) rfl rfl rfl hd_X11_checkRoom ⟨Nat.le_of_ble_eq_true rfl, Nat.le_of_ble_eq_true rfl⟩) (x_preV hK hP hD hS hA hS hG hZ hq hk) rfl rfl hl.1 rfl (lv_room (Nat.le_of_ble_eq_true rfl)) dX11_map_12 ⟨Nat.le_of_ble_eq_true rfl, Nat.le_of_ble_eq_true rfl⟩) hE hS hP hA (fun x h => (htab x h).elim) hlocks (Nat.le_of_ble_eq_true rfl) (Nat.le_of_ble_eq_true rfl) (fun H locs h hE hP hS => ?_)
  refine lv_aload_n hx hb dX11_map_15 rfl (lv_at hl 1 rfl) ?_
  refine x_newX1 hx hb hts hown (hts _ mwC_439) (hts _ mwC_440) (hts _ mwC_276) hK hP hD hS hA (Nat.le_of_ble_eq_true rfl) (Nat.le_of_ble_eq_true rfl) dX11_map_16 (fun q4 sh5 H hn7 es6 hK hP hD hS => ?_)
  have h := h q4 sh5 hn7 es6
  refine lv_dup hx hb dX11_map_19 rfl ?_
  refine lv_aload_n hx hb dX11_map_20 rfl (lv_at hl 1 rfl) ?_
  obtain ⟨⟨hm8, hk9⟩, h⟩ := h
  obtain ⟨q10, e11, h⟩ := h
  refine c_get (C := RX11) (T := TX11) (N := 9) (K := 10) (v := .ref q10) hx hb hts hinX11 hown hK hP hm8 hk9 (by decide) rfl 0 (by decide) (hts _ mwC_383) (fun _ h9 => h9) (by show some (va_rf (sR sh5 q 0)) = _; rw [e11]; rfl) dX11_map_21 ?_
  refine lv_aload hx hb dX11_map_24 (lv_at hl 0 rfl) ?_
  refine lv_null hx hb dX11_map_26 ?_
  refine lv_iload_n hx hb dX11_map_27 rfl (lv_at hl 3 rfl) ?_
  refine lv_lload_n hx hb dX11_map_28 rfl (lv_at hl 4 rfl) ?_
  obtain ⟨⟨hm12, hk13⟩, h⟩ := h
  refine xn_endv (va_runI (rm := ({ frames := 30, cells := 2, slots := 800, locals := 400 })) (As := [.ref q10, .ref r1, .null, .int p1, .long p2]) (rest := [.ref q4, .ref q]) ⟨hx, hb, hml, hown, hts⟩ (p_X1_initN l dC dI _ _ _ _ q4 q10 r1 p1 p2 _ h H.size) (cwI 5 hts (g_C gdC mwC_441) rfl rfl rfl (hts _ mwC_276) (hts _ mwC_442) (hts _ mwC_443) rfl hd_X1_initN ⟨Nat.le_of_ble_eq_true rfl, Nat.le_of_ble_eq_true rfl⟩) (c_preS hK hP hD hG) rfl rfl hl.1 rfl (lv_room (Nat.le_of_ble_eq_true rfl)) dX11_map_29 ⟨Nat.le_of_ble_eq_true rfl, Nat.le_of_ble_eq_true rfl⟩) hD hS hA (fun sh14 ci14 ai14 al14 H locs h hK hP hD hS => ?_)
  obtain ⟨⟨hm15, hk16⟩, h⟩ := h
  refine xn_endi (va_runV (rm := ({ frames := 60, cells := 0, slots := 0, locals := 2000 })) (As := [.ref q4]) (rest := []) ⟨hx, hb, hml, hown, hts⟩ (p_X11_addList l dC dI _ _ _ _ q q4 _ h H.size) (cwV 1 hts (g_V gdC mwC_421 mwC_422 mwC_423 mwC_119 mwC_420) rfl rfl rfl hd_X11_addList ⟨Nat.le_of_ble_eq_true rfl, Nat.le_of_ble_eq_true rfl⟩) (c_preV (vc := (RX11, TX11, 9)) hK hP hD hG hm15 hk16 (by decide) rfl) rfl rfl hl.1 rfl (lv_room (Nat.le_of_ble_eq_true rfl)) dX11_map_32 ⟨Nat.le_of_ble_eq_true rfl, Nat.le_of_ble_eq_true rfl⟩) hD hS hA (fun r17 sh17 ci17 ai17 al17 H locs h hK hP hD hS => ?_)
  refine W.widen (k := 8) (n := 2000) (by decide) (by decide) ?_
  refine vx_ret ?_
  exact W.iret (v := r17) hx hb hr (fun t ht hW => ⟨⟨_, (sh17, ci17, ai17, al17), rfl, h, by rw [ht]; exact hP, cK.moved hW.alike hK, hD⟩, hS.F ht⟩) hS.2.2 dX11_map_35
abbrev wmX11_both : List Cond := .code yX11_both cX11_both 6 (some .int) :: WC
theorem hd_X11_both : yX11_both.cls = RX11 ∧ yX11_both.cls ≠ "java/lang/invoke/MethodHandle" ∧ yX11_both.cls ≠ "java/lang/invoke/VarHandle" ∧ (parseMethodDescriptor yX11_both.desc).map (fun d => d.parameters.length) = some 3 := by decide +kernel
def P_X11_both (sh : Sh) (ci : Nat → Nat → Int32) (ai : Nat → Nat → Int32) (al : Nat → Nat → Int64) (q : Nat) (p0 : Int32) (p1 : Int32) (p2 : Int32) (Q : Int32 → Sh → (Nat → Nat → Int32) → (Nat → Nat → Int32) → (Nat → Nat → Int64) → Prop) (X : String → Prop) : Prop := (q ∈ sL sh ∧ sK sh q = 10) ∧ P_X11_listOf sh ci ai al q p0 (fun r1 => P_X11_listOf sh ci ai al q p1 (fun r2 => P_X11_checkOp p2 (P_X11_checkRoom sh ci ai al q  (∀ (q5 : Nat) (sh6 : Sh), q5 ∉ sL sh → sh6 = shO sh q5 1 → (q ∈ sL sh6 ∧ sK sh6 q = 10) ∧ ∃ q11 : Nat, sR sh6 q 0 = some q11 ∧ (q5 ∈ sL sh6 ∧ sK sh6 q5 = 1) ∧ P_X1_init sh6 (va_up ci q5 (fun _ => 0)) ai al q5 q11 r1 r2 p2 0 (fun sh15 ci15 ai15 al15 => (q ∈ sL sh15 ∧ sK sh15 q = 10) ∧ P_X11_addList sh15 ci15 ai15 al15 q q5 (fun r18 sh18 ci18 ai18 al18 => Q r18 sh18 ci18 ai18 al18))) X) X) X) X
set_option maxHeartbeats 4000000 in
set_option maxRecDepth 100000 in
theorem p_X11_both (l : Launch) (hl0 : l.stackTraces = false) (dC : Nat → ClassId) (dI : Nat → Nat → Nat) (sh : Sh) (ci : Nat → Nat → Int32) (ai : Nat → Nat → Int32) (al : Nat → Nat → Int64) (q : Nat) (p0 : Int32) (p1 : Int32) (p2 : Int32) (Q : Int32 → Sh → (Nat → Nat → Int32) → (Nat → Nat → Int32) → (Nat → Nat → Int64) → Prop) (X : String → Prop) (h : P_X11_both sh ci ai al q p0 p1 p2 Q X) (sz : Nat) : vx_Met l yX11_both wmX11_both ({ frames := 100, cells := 8, slots := 2000, locals := 3000 }) (va_Pc [.ref q, .int p0, .int p1, .int p2] (xPre dC dI sh ci ai al sz)) (va_Qi (S := XSt) (xI Q) (xB dC dI (va_A (cW sh ci ai al) sz)) (va_A (cW sh ci ai al) sz)) (XC X sz) 8 2000 (va_A (cW sh ci ai al) sz) := by
  refine vx_ofW (cc := cX11_both) (maxL := 6) (ret := (some .int)) (by decide) rfl ?_
  intro p e s m args below meth c s₁ B hml htab hv
  obtain ⟨rfl, ⟨hsz, hP, hK, hD0, hG⟩, hZ⟩ := hv
  have hx := B.exec
  have hb := B.bytes
  have hr := B.returns
  have hts : ∀ w ∈ WC, w.before _ s = true := fun w h => atoms_spec (ws := wmX11_both) B.pre w (List.mem_cons_of_mem _ h)
  have hown : s.vm.findClass RX11 = some m.cls := findClass_of_methodNamed B.named
  have hlocks := B.notSynchronized
  subst hsz
  have hD := hD0.self (sz := s.heap.size)
  generalize hAe : va_A (cW sh ci ai al) s.heap.size = A at hD hZ ⊢
  have hA : ∀ q : Nat, s.heap.size ≤ q → A q := fun q h => by rw [← hAe]; exact Or.inr h
  generalize hz9 : s.heap.size = z9
  generalize hH : s.heap = H at hP ⊢
  subst hz9
  have hS : va_S A s.heap H [] := by rw [← hH]; exact va_S.rf
  have hE : xE s.heap H := by rw [← hH]; exact xE.rf
  have hl := lv_entry [.ref q, .int p0, .int p1, .int p2] (n := 6) (Nat.le_of_ble_eq_true rfl)
  rw [lg_entry_eq]
  generalize (lg_sl [.ref q, .int p0, .int p1, .int p2] ++ List.replicate (6 - (lg_sl [.ref q, .int p0, .int p1, .int p2]).length) Slot.unset).toArray = ls at hl ⊢
  have hl : lv_has ls 6 [(0, .ref q), (1, .int p0), (2, .int p1), (3, .int p2)] := hl
  unfold P_X11_both at h
  obtain ⟨⟨hq, hk⟩, h⟩ := h
  refine lv_aload_n hx hb dX11_both_0 rfl (lv_at hl 0 rfl) ?_
  refine lv_iload_n hx hb dX11_both_1 rfl (lv_at hl 1 rfl) ?_
  refine xr_endr (cells := 0) (slots := 0) (mc0 := 8) (ms0 := 2000) (vx_runV (rm := ({ frames := 20, cells := 1, slots := 6, locals := 300 })) (As := [.int p0]) (rest := []) ⟨hx, hb, hml, hown, hts⟩ (p_X11_listOf l hl0 dC dI _ _ _ _ q p0 _ _ h H.size) (cwV 1 hts (g_V gdC mwC_436 mwC_437 mwC_438 mwC_119 mwC_435) rfl rfl rfl hd_X11_listOf ⟨Nat.le_of_ble_eq_true rfl, Nat.le_of_ble_eq_true rfl⟩) (x_preV hK hP hD hS hA hS hG hZ hq hk) rfl rfl hl.1 rfl (lv_room (Nat.le_of_ble_eq_true rfl)) dX11_both_2 ⟨Nat.le_of_ble_eq_true rfl, Nat.le_of_ble_eq_true rfl⟩) hE hS hP hA (fun x h => (htab x h).elim) hlocks (Nat.le_of_ble_eq_true rfl) (Nat.le_of_ble_eq_true rfl) (fun r1 H locs h hE hP hS => ?_)
  refine lv_astore (lv' := [(4, .ref r1), (0, .ref q), (1, .int p0), (2, .int p1), (3, .int p2)]) hx hb dX11_both_5 hl (by decide) rfl (fun ls hl => ?_)
  refine lv_aload_n hx hb dX11_both_7 rfl (lv_at hl 1 rfl) ?_
  refine lv_iload_n hx hb dX11_both_8 rfl (lv_at hl 3 rfl) ?_
  refine xr_endr (cells := 1) (slots := 6) (mc0 := 8) (ms0 := 2000) (vx_runV (rm := ({ frames := 20, cells := 1, slots := 6, locals := 300 })) (As := [.int p1]) (rest := []) ⟨hx, hb, hml, hown, hts⟩ (p_X11_listOf l hl0 dC dI _ _ _ _ q p1 _ _ h H.size) (cwV 1 hts (g_V gdC mwC_436 mwC_437 mwC_438 mwC_119 mwC_435) rfl rfl rfl hd_X11_listOf ⟨Nat.le_of_ble_eq_true rfl, Nat.le_of_ble_eq_true rfl⟩) (x_preV hK hP hD hS hA hS hG hZ hq hk) rfl rfl hl.1 rfl (lv_room (Nat.le_of_ble_eq_true rfl)) dX11_both_9 ⟨Nat.le_of_ble_eq_true rfl, Nat.le_of_ble_eq_true rfl⟩) hE hS hP hA (fun x h => (htab x h).elim) hlocks (Nat.le_of_ble_eq_true rfl) (Nat.le_of_ble_eq_true rfl) (fun r2 H locs h hE hP hS => ?_)
  refine lv_astore (lv' := [(5, .ref r2), (4, .ref r1), (0, .ref q), (1, .int p0), (2, .int p1), (3, .int p2)]) hx hb dX11_both_12 hl (by decide) rfl (fun ls hl => ?_)
  refine lv_iload_n hx hb dX11_both_14 rfl (lv_at hl 5 rfl) ?_
  refine xr_endv (cells := 2) (slots := 12) (mc0 := 8) (ms0 := 2000) (vx_runS (rm := ({ frames := 20, cells := 1, slots := 6, locals := 300 })) (As := [.int p2]) (rest := []) ⟨hx, hb, hml, hown, hts⟩ (p_X11_checkOp l hl0 p2 _ _ h H.size) (va_cwS 1 hts (g_S gdC mwC_428 mwC_429 mwC_119 mwC_427) rfl rfl rfl hd_X11_checkOp ⟨Nat.le_of_ble_eq_true rfl, Nat.le_of_ble_eq_true rfl⟩) (x_preS hA hS hG hZ) rfl rfl hl.1 rfl (lv_room (Nat.le_of_ble_eq_true rfl)) dX11_both_15 ⟨Nat.le_of_ble_eq_true rfl, Nat.le_of_ble_eq_true rfl⟩) hE hS hP hA (fun x h => (htab x h).elim) hlocks (Nat.le_of_ble_eq_true rfl) (Nat.le_of_ble_eq_true rfl) (fun H locs h hE hP hS => ?_)
  refine lv_aload_n hx hb dX11_both_18 rfl (lv_at hl 2 rfl) ?_
  refine xr_endv (cells := 3) (slots := 18) (mc0 := 8) (ms0 := 2000) (vx_runV (rm := ({ frames := 20, cells := 1, slots := 6, locals := 300 })) (As := []) (rest := []) ⟨hx, hb, hml, hown, hts⟩ (p_X11_checkRoom l hl0 dC dI _ _ _ _ q  _ _ h H.size) (cwV 0 hts (g_V gdC mwC_405 mwC_406 mwC_407 mwC_119 mwC_404) rfl rfl rfl hd_X11_checkRoom ⟨Nat.le_of_ble_eq_true rfl, Nat.le_of_ble_eq_true rfl⟩) (x_preV hK hP hD hS hA hS hG hZ hq hk) rfl rfl hl.1 rfl (lv_room (Nat.le_of_ble_eq_true rfl)) dX11_both_19 ⟨Nat.le_of_ble_eq_true rfl, Nat.le_of_ble_eq_true rfl⟩) hE hS hP hA (fun x h => (htab x h).elim) hlocks (Nat.le_of_ble_eq_true rfl) (Nat.le_of_ble_eq_true rfl) (fun H locs h hE hP hS => ?_)
  refine lv_aload_n hx hb dX11_both_22 rfl (lv_at hl 2 rfl) ?_
  refine x_newX1 hx hb hts hown (hts _ mwC_439) (hts _ mwC_440) (hts _ mwC_276) hK hP hD hS hA (Nat.le_of_ble_eq_true rfl) (Nat.le_of_ble_eq_true rfl) dX11_both_23 (fun q5 sh6 H hn8 es7 hK hP hD hS => ?_)
  have h := h q5 sh6 hn8 es7
  refine lv_dup hx hb dX11_both_26 rfl ?_
  refine lv_aload_n hx hb dX11_both_27 rfl (lv_at hl 2 rfl) ?_
  obtain ⟨⟨hm9, hk10⟩, h⟩ := h
  obtain ⟨q11, e12, h⟩ := h
  refine c_get (C := RX11) (T := TX11) (N := 9) (K := 10) (v := .ref q11) hx hb hts hinX11 hown hK hP hm9 hk10 (by decide) rfl 0 (by decide) (hts _ mwC_383) (fun _ h9 => h9) (by show some (va_rf (sR sh6 q 0)) = _; rw [e12]; rfl) dX11_both_28 ?_
  refine lv_aload hx hb dX11_both_31 (lv_at hl 1 rfl) ?_
  refine lv_aload hx hb dX11_both_33 (lv_at hl 0 rfl) ?_
  refine lv_iload_n hx hb dX11_both_35 rfl (lv_at hl 5 rfl) ?_
  refine lv_lconst (v := 0) hx hb dX11_both_36 (by decide) ?_
  obtain ⟨⟨hm13, hk14⟩, h⟩ := h
  refine xn_endv (va_runI (rm := ({ frames := 30, cells := 2, slots := 800, locals := 400 })) (As := [.ref q11, .ref r1, .ref r2, .int p2, .long 0]) (rest := [.ref q5, .ref q]) ⟨hx, hb, hml, hown, hts⟩ (p_X1_init l dC dI _ _ _ _ q5 q11 r1 r2 p2 0 _ h H.size) (cwI 5 hts (g_C gdC mwC_441) rfl rfl rfl (hts _ mwC_276) (hts _ mwC_442) (hts _ mwC_443) rfl hd_X1_init ⟨Nat.le_of_ble_eq_true rfl, Nat.le_of_ble_eq_true rfl⟩) (c_preS hK hP hD hG) rfl rfl hl.1 rfl (lv_room (Nat.le_of_ble_eq_true rfl)) dX11_both_37 ⟨Nat.le_of_ble_eq_true rfl, Nat.le_of_ble_eq_true rfl⟩) hD hS hA (fun sh15 ci15 ai15 al15 H locs h hK hP hD hS => ?_)
  obtain ⟨⟨hm16, hk17⟩, h⟩ := h
  refine xn_endi (va_runV (rm := ({ frames := 60, cells := 0, slots := 0, locals := 2000 })) (As := [.ref q5]) (rest := []) ⟨hx, hb, hml, hown, hts⟩ (p_X11_addList l dC dI _ _ _ _ q q5 _ h H.size) (cwV 1 hts (g_V gdC mwC_421 mwC_422 mwC_423 mwC_119 mwC_420) rfl rfl rfl hd_X11_addList ⟨Nat.le_of_ble_eq_true rfl, Nat.le_of_ble_eq_true rfl⟩) (c_preV (vc := (RX11, TX11, 9)) hK hP hD hG hm16 hk17 (by decide) rfl) rfl rfl hl.1 rfl (lv_room (Nat.le_of_ble_eq_true rfl)) dX11_both_40 ⟨Nat.le_of_ble_eq_true rfl, Nat.le_of_ble_eq_true rfl⟩) hD hS hA (fun r18 sh18 ci18 ai18 al18 H locs h hK hP hD hS => ?_)
  refine W.widen (k := 8) (n := 2000) (by decide) (by decide) ?_
  refine vx_ret ?_
  exact W.iret (v := r18) hx hb hr (fun t ht hW => ⟨⟨_, (sh18, ci18, ai18, al18), rfl, h, by rw [ht]; exact hP, cK.moved hW.alike hK, hD⟩, hS.F ht⟩) hS.2.2 dX11_both_43
abbrev wmX11_scan : List Cond := .code yX11_scan cX11_scan 6 (some .int) :: WC
theorem hd_X11_scan : yX11_scan.cls = RX11 ∧ yX11_scan.cls ≠ "java/lang/invoke/MethodHandle" ∧ yX11_scan.cls ≠ "java/lang/invoke/VarHandle" ∧ (parseMethodDescriptor yX11_scan.desc).map (fun d => d.parameters.length) = some 3 := by decide +kernel
def P_X11_scan (sh : Sh) (ci : Nat → Nat → Int32) (ai : Nat → Nat → Int32) (al : Nat → Nat → Int64) (q : Nat) (p0 : Int32) (p1 : Int32) (p2 : Int64) (Q : Int32 → Sh → (Nat → Nat → Int32) → (Nat → Nat → Int32) → (Nat → Nat → Int64) → Prop) (X : String → Prop) : Prop := (q ∈ sL sh ∧ sK sh q = 10) ∧ P_X11_listOf sh ci ai al q p0 (fun r1 => P_X11_checkOp p1 (P_X11_checkRoom sh ci ai al q  (∀ (q4 : Nat) (sh5 : Sh), q4 ∉ sL sh → sh5 = shO sh q4 0 → (q ∈ sL sh5 ∧ sK sh5 q = 10) ∧ ∃ q10 : Nat, sR sh5 q 0 = some q10 ∧ (q4 ∈ sL sh5 ∧ sK sh5 q4 = 0) ∧ P_X0_init sh5 (va_up ci q4 (fun _ => 0)) ai al q4 q10 r1 p1 0 p2 (fun sh14 ci14 ai14 al14 => (q ∈ sL sh14 ∧ sK sh14 q = 10) ∧ P_X11_addList sh14 ci14 ai14 al14 q q4 (fun r17 sh17 ci17 ai17 al17 => Q r17 sh17 ci17 ai17 al17))) X) X) X
set_option maxHeartbeats 4000000 in
set_option maxRecDepth 100000 in
theorem p_X11_scan (l : Launch) (hl0 : l.stackTraces = false) (dC : Nat → ClassId) (dI : Nat → Nat → Nat) (sh : Sh) (ci : Nat → Nat → Int32) (ai : Nat → Nat → Int32) (al : Nat → Nat → Int64) (q : Nat) (p0 : Int32) (p1 : Int32) (p2 : Int64) (Q : Int32 → Sh → (Nat → Nat → Int32) → (Nat → Nat → Int32) → (Nat → Nat → Int64) → Prop) (X : String → Prop) (h : P_X11_scan sh ci ai al q p0 p1 p2 Q X) (sz : Nat) : vx_Met l yX11_scan wmX11_scan ({ frames := 100, cells := 8, slots := 2000, locals := 3000 }) (va_Pc [.ref q, .int p0, .int p1, .long p2] (xPre dC dI sh ci ai al sz)) (va_Qi (S := XSt) (xI Q) (xB dC dI (va_A (cW sh ci ai al) sz)) (va_A (cW sh ci ai al) sz)) (XC X sz) 8 2000 (va_A (cW sh ci ai al) sz) := by
  refine vx_ofW (cc := cX11_scan) (maxL := 6) (ret := (some .int)) (by decide) rfl ?_
  intro p e s m args below meth c s₁ B hml htab hv
  obtain ⟨rfl, ⟨hsz, hP, hK, hD0, hG⟩, hZ⟩ := hv
  have hx := B.exec
  have hb := B.bytes
  have hr := B.returns
  have hts : ∀ w ∈ WC, w.before _ s = true := fun w h => atoms_spec (ws := wmX11_scan) B.pre w (List.mem_cons_of_mem _ h)
  have hown : s.vm.findClass RX11 = some m.cls := findClass_of_methodNamed B.named
  have hlocks := B.notSynchronized
  subst hsz
  have hD := hD0.self (sz := s.heap.size)
  generalize hAe : va_A (cW sh ci ai al) s.heap.size = A at hD hZ ⊢
  have hA : ∀ q : Nat, s.heap.size ≤ q → A q := fun q h => by rw [← hAe]; exact Or.inr h
  generalize hz9 : s.heap.size = z9
  generalize hH : s.heap = H at hP ⊢
  subst hz9
  have hS : va_S A s.heap H [] := by rw [← hH]; exact va_S.rf
  have hE : xE s.heap H := by rw [← hH]; exact xE.rf
  have hl := lv_entry [.ref q, .int p0, .int p1, .long p2] (n := 6) (Nat.le_of_ble_eq_true rfl)
  rw [lg_entry_eq]
  generalize (lg_sl [.ref q, .int p0, .int p1, .long p2] ++ List.replicate (6 - (lg_sl [.ref q, .int p0, .int p1, .long p2]).length) Slot.unset).toArray = ls at hl ⊢
  have hl : lv_has ls 6 [(0, .ref q), (1, .int p0), (2, .int p1), (3, .long p2)] := hl
  unfold P_X11_scan at h
  obtain ⟨⟨hq, hk⟩, h⟩ := h
  refine lv_aload_n hx hb dX11_scan_0 rfl (lv_at hl 0 rfl) ?_
  refine lv_iload_n hx hb dX11_scan_1 rfl (lv_at hl 1 rfl) ?_
  refine xr_endr (cells := 0) (slots := 0) (mc0 := 8) (ms0 := 2000) (vx_runV (rm := ({ frames := 20, cells := 1, slots := 6, locals := 300 })) (As := [.int p0]) (rest := []) ⟨hx, hb, hml, hown, hts⟩ (p_X11_listOf l hl0 dC dI _ _ _ _ q p0 _ _ h H.size) (cwV 1 hts (g_V gdC mwC_436 mwC_437 mwC_438 mwC_119 mwC_435) rfl rfl rfl hd_X11_listOf ⟨Nat.le_of_ble_eq_true rfl, Nat.le_of_ble_eq_true rfl⟩) (x_preV hK hP hD hS hA hS hG hZ hq hk) rfl rfl hl.1 rfl (lv_room (Nat.le_of_ble_eq_true rfl)) dX11_scan_2 ⟨Nat.le_of_ble_eq_true rfl, Nat.le_of_ble_eq_true rfl⟩) hE hS hP hA (fun x h => (htab x h).elim) hlocks (Nat.le_of_ble_eq_true rfl) (Nat.le_of_ble_eq_true rfl) (fun r1 H locs h hE hP hS => ?_)
  refine lv_astore (lv' := [(5, .ref r1), (0, .ref q), (1, .int p0), (2, .int p1), (3, .long p2)]) hx hb dX11_scan_5 hl (by decide) rfl (fun ls hl => ?_)
  refine lv_iload_n hx hb dX11_scan_7 rfl (lv_at hl 3 rfl) ?_
  refine xr_endv (cells := 1) (slots := 6) (mc0 := 8) (ms0 := 2000) (vx_runS (rm := ({ frames := 20, cells := 1, slots := 6, locals := 300 })) (As := [.int p1]) (rest := []) ⟨hx, hb, hml, hown, hts⟩ (p_X11_checkOp l hl0 p1 _ _ h H.size) (va_cwS 1 hts (g_S gdC mwC_428 mwC_429 mwC_119 mwC_427) rfl rfl rfl hd_X11_checkOp ⟨Nat.le_of_ble_eq_true rfl, Nat.le_of_ble_eq_true rfl⟩) (x_preS hA hS hG hZ) rfl rfl hl.1 rfl (lv_room (Nat.le_of_ble_eq_true rfl)) dX11_scan_8 ⟨Nat.le_of_ble_eq_true rfl, Nat.le_of_ble_eq_true rfl⟩) hE hS hP hA (fun x h => (htab x h).elim) hlocks (Nat.le_of_ble_eq_true rfl) (Nat.le_of_ble_eq_true rfl) (fun H locs h hE hP hS => ?_)
  refine lv_aload_n hx hb dX11_scan_11 rfl (lv_at hl 1 rfl) ?_
  refine xr_endv (cells := 2) (slots := 12) (mc0 := 8) (ms0 := 2000) (vx_runV (rm := ({ frames := 20, cells := 1, slots := 6, locals := 300 })) (As := []) (rest := []) ⟨hx, hb, hml, hown, hts⟩ (p_X11_checkRoom l hl0 dC dI _ _ _ _ q  _ _ h H.size) (cwV 0 hts (g_V gdC mwC_405 mwC_406 mwC_407 mwC_119 mwC_404) rfl rfl rfl hd_X11_checkRoom ⟨Nat.le_of_ble_eq_true rfl, Nat.le_of_ble_eq_true rfl⟩) (x_preV hK hP hD hS hA hS hG hZ hq hk) rfl rfl hl.1 rfl (lv_room (Nat.le_of_ble_eq_true rfl)) dX11_scan_12 ⟨Nat.le_of_ble_eq_true rfl, Nat.le_of_ble_eq_true rfl⟩) hE hS hP hA (fun x h => (htab x h).elim) hlocks (Nat.le_of_ble_eq_true rfl) (Nat.le_of_ble_eq_true rfl) (fun H locs h hE hP hS => ?_)
  refine lv_aload_n hx hb dX11_scan_15 rfl (lv_at hl 1 rfl) ?_
  refine x_newX0 hx hb hts hown (hts _ mwC_430) (hts _ mwC_431) (hts _ mwC_250) hK hP hD hS hA (Nat.le_of_ble_eq_true rfl) (Nat.le_of_ble_eq_true rfl) dX11_scan_16 (fun q4 sh5 H hn7 es6 hK hP hD hS => ?_)
  have h := h q4 sh5 hn7 es6
  refine lv_dup hx hb dX11_scan_19 rfl ?_
  refine lv_aload_n hx hb dX11_scan_20 rfl (lv_at hl 1 rfl) ?_
  obtain ⟨⟨hm8, hk9⟩, h⟩ := h
  obtain ⟨q10, e11, h⟩ := h
  refine c_get (C := RX11) (T := TX11) (N := 9) (K := 10) (v := .ref q10) hx hb hts hinX11 hown hK hP hm8 hk9 (by decide) rfl 0 (by decide) (hts _ mwC_383) (fun _ h9 => h9) (by show some (va_rf (sR sh5 q 0)) = _; rw [e11]; rfl) dX11_scan_21 ?_
  refine lv_aload hx hb dX11_scan_24 (lv_at hl 0 rfl) ?_
  refine lv_iload_n hx hb dX11_scan_26 rfl (lv_at hl 3 rfl) ?_
  refine lv_lconst (v := 0) hx hb dX11_scan_27 (by decide) ?_
  refine lv_lload_n hx hb dX11_scan_28 rfl (lv_at hl 4 rfl) ?_
  obtain ⟨⟨hm12, hk13⟩, h⟩ := h
  refine xn_endv (va_runI (rm := ({ frames := 30, cells := 2, slots := 800, locals := 400 })) (As := [.ref q10, .ref r1, .int p1, .long 0, .long p2]) (rest := [.ref q4, .ref q]) ⟨hx, hb, hml, hown, hts⟩ (p_X0_init l dC dI _ _ _ _ q4 q10 r1 p1 0 p2 _ h H.size) (cwI 5 hts (g_C gdC mwC_432) rfl rfl rfl (hts _ mwC_250) (hts _ mwC_433) (hts _ mwC_434) rfl hd_X0_init ⟨Nat.le_of_ble_eq_true rfl, Nat.le_of_ble_eq_true rfl⟩) (c_preS hK hP hD hG) rfl rfl hl.1 rfl (lv_room (Nat.le_of_ble_eq_true rfl)) dX11_scan_29 ⟨Nat.le_of_ble_eq_true rfl, Nat.le_of_ble_eq_true rfl⟩) hD hS hA (fun sh14 ci14 ai14 al14 H locs h hK hP hD hS => ?_)
  obtain ⟨⟨hm15, hk16⟩, h⟩ := h
  refine xn_endi (va_runV (rm := ({ frames := 60, cells := 0, slots := 0, locals := 2000 })) (As := [.ref q4]) (rest := []) ⟨hx, hb, hml, hown, hts⟩ (p_X11_addList l dC dI _ _ _ _ q q4 _ h H.size) (cwV 1 hts (g_V gdC mwC_421 mwC_422 mwC_423 mwC_119 mwC_420) rfl rfl rfl hd_X11_addList ⟨Nat.le_of_ble_eq_true rfl, Nat.le_of_ble_eq_true rfl⟩) (c_preV (vc := (RX11, TX11, 9)) hK hP hD hG hm15 hk16 (by decide) rfl) rfl rfl hl.1 rfl (lv_room (Nat.le_of_ble_eq_true rfl)) dX11_scan_32 ⟨Nat.le_of_ble_eq_true rfl, Nat.le_of_ble_eq_true rfl⟩) hD hS hA (fun r17 sh17 ci17 ai17 al17 H locs h hK hP hD hS => ?_)
  refine W.widen (k := 8) (n := 2000) (by decide) (by decide) ?_
  refine vx_ret ?_
  exact W.iret (v := r17) hx hb hr (fun t ht hW => ⟨⟨_, (sh17, ci17, ai17, al17), rfl, h, by rw [ht]; exact hP, cK.moved hW.alike hK, hD⟩, hS.F ht⟩) hS.2.2 dX11_scan_35
abbrev wmX11_take : List Cond := .code yX11_take cX11_take 4 (some .int) :: WC
theorem hd_X11_take : yX11_take.cls = RX11 ∧ yX11_take.cls ≠ "java/lang/invoke/MethodHandle" ∧ yX11_take.cls ≠ "java/lang/invoke/VarHandle" ∧ (parseMethodDescriptor yX11_take.desc).map (fun d => d.parameters.length) = some 2 := by decide +kernel
def P_X11_take (sh : Sh) (ci : Nat → Nat → Int32) (ai : Nat → Nat → Int32) (al : Nat → Nat → Int64) (q : Nat) (p0 : Int32) (p1 : Int32) (Q : Int32 → Sh → (Nat → Nat → Int32) → (Nat → Nat → Int32) → (Nat → Nat → Int64) → Prop) (X : String → Prop) : Prop := (q ∈ sL sh ∧ sK sh q = 10) ∧ P_X11_listOf sh ci ai al q p0 (fun r1 => P_X11_checkLength p1 (P_X11_checkRoom sh ci ai al q  (∀ (q4 : Nat) (sh5 : Sh), q4 ∉ sL sh → sh5 = shO sh q4 2 → (q ∈ sL sh5 ∧ sK sh5 q = 10) ∧ ∃ q10 : Nat, sR sh5 q 0 = some q10 ∧ (q4 ∈ sL sh5 ∧ sK sh5 q4 = 2) ∧ P_X2_init sh5 (va_up ci q4 (fun _ => 0)) ai al q4 q10 r1 p1 (-1) 0 (fun sh14 ci14 ai14 al14 => (q ∈ sL sh14 ∧ sK sh14 q = 10) ∧ P_X11_addList sh14 ci14 ai14 al14 q q4 (fun r17 sh17 ci17 ai17 al17 => Q r17 sh17 ci17 ai17 al17))) X) X) X
set_option maxHeartbeats 4000000 in
set_option maxRecDepth 100000 in
theorem p_X11_take (l : Launch) (hl0 : l.stackTraces = false) (dC : Nat → ClassId) (dI : Nat → Nat → Nat) (sh : Sh) (ci : Nat → Nat → Int32) (ai : Nat → Nat → Int32) (al : Nat → Nat → Int64) (q : Nat) (p0 : Int32) (p1 : Int32) (Q : Int32 → Sh → (Nat → Nat → Int32) → (Nat → Nat → Int32) → (Nat → Nat → Int64) → Prop) (X : String → Prop) (h : P_X11_take sh ci ai al q p0 p1 Q X) (sz : Nat) : vx_Met l yX11_take wmX11_take ({ frames := 100, cells := 8, slots := 2000, locals := 3000 }) (va_Pc [.ref q, .int p0, .int p1] (xPre dC dI sh ci ai al sz)) (va_Qi (S := XSt) (xI Q) (xB dC dI (va_A (cW sh ci ai al) sz)) (va_A (cW sh ci ai al) sz)) (XC X sz) 8 2000 (va_A (cW sh ci ai al) sz) := by
  refine vx_ofW (cc := cX11_take) (maxL := 4) (ret := (some .int)) (by decide) rfl ?_
  intro p e s m args below meth c s₁ B hml htab hv
  obtain ⟨rfl, ⟨hsz, hP, hK, hD0, hG⟩, hZ⟩ := hv
  have hx := B.exec
  have hb := B.bytes
  have hr := B.returns
  have hts : ∀ w ∈ WC, w.before _ s = true := fun w h => atoms_spec (ws := wmX11_take) B.pre w (List.mem_cons_of_mem _ h)
  have hown : s.vm.findClass RX11 = some m.cls := findClass_of_methodNamed B.named
  have hlocks := B.notSynchronized
  subst hsz
  have hD := hD0.self (sz := s.heap.size)
  generalize hAe : va_A (cW sh ci ai al) s.heap.size = A at hD hZ ⊢
  have hA : ∀ q : Nat, s.heap.size ≤ q → A q := fun q h => by rw [← hAe]; exact Or.inr h
  generalize hz9 : s.heap.size = z9
  generalize hH : s.heap = H at hP ⊢
  subst hz9
  have hS : va_S A s.heap H [] := by rw [← hH]; exact va_S.rf
  have hE : xE s.heap H := by rw [← hH]; exact xE.rf
  have hl := lv_entry [.ref q, .int p0, .int p1] (n := 4) (Nat.le_of_ble_eq_true rfl)
  rw [lg_entry_eq]
  generalize (lg_sl [.ref q, .int p0, .int p1] ++ List.replicate (4 - (lg_sl [.ref q, .int p0, .int p1]).length) Slot.unset).toArray = ls at hl ⊢
  have hl : lv_has ls 4 [(0, .ref q), (1, .int p0), (2, .int p1)] := hl
  unfold P_X11_take at h
  obtain ⟨⟨hq, hk⟩, h⟩ := h
  refine lv_aload_n hx hb dX11_take_0 rfl (lv_at hl 0 rfl) ?_
  refine lv_iload_n hx hb dX11_take_1 rfl (lv_at hl 1 rfl) ?_
  refine xr_endr (cells := 0) (slots := 0) (mc0 := 8) (ms0 := 2000) (vx_runV (rm := ({ frames := 20, cells := 1, slots := 6, locals := 300 })) (As := [.int p0]) (rest := []) ⟨hx, hb, hml, hown, hts⟩ (p_X11_listOf l hl0 dC dI _ _ _ _ q p0 _ _ h H.size) (cwV 1 hts (g_V gdC mwC_436 mwC_437 mwC_438 mwC_119 mwC_435) rfl rfl rfl hd_X11_listOf ⟨Nat.le_of_ble_eq_true rfl, Nat.le_of_ble_eq_true rfl⟩) (x_preV hK hP hD hS hA hS hG hZ hq hk) rfl rfl hl.1 rfl (lv_room (Nat.le_of_ble_eq_true rfl)) dX11_take_2 ⟨Nat.le_of_ble_eq_true rfl, Nat.le_of_ble_eq_true rfl⟩) hE hS hP hA (fun x h => (htab x h).elim) hlocks (Nat.le_of_ble_eq_true rfl) (Nat.le_of_ble_eq_true rfl) (fun r1 H locs h hE hP hS => ?_)
  refine lv_astore_n (lv' := [(3, .ref r1), (0, .ref q), (1, .int p0), (2, .int p1)]) hx hb dX11_take_5 rfl hl (by decide) rfl (fun ls hl => ?_)
  refine lv_iload_n hx hb dX11_take_6 rfl (lv_at hl 3 rfl) ?_
  refine xr_endv (cells := 1) (slots := 6) (mc0 := 8) (ms0 := 2000) (vx_runS (rm := ({ frames := 20, cells := 1, slots := 6, locals := 300 })) (As := [.int p1]) (rest := []) ⟨hx, hb, hml, hown, hts⟩ (p_X11_checkLength l hl0 p1 _ _ h H.size) (va_cwS 1 hts (g_S gdC mwC_445 mwC_446 mwC_119 mwC_444) rfl rfl rfl hd_X11_checkLength ⟨Nat.le_of_ble_eq_true rfl, Nat.le_of_ble_eq_true rfl⟩) (x_preS hA hS hG hZ) rfl rfl hl.1 rfl (lv_room (Nat.le_of_ble_eq_true rfl)) dX11_take_7 ⟨Nat.le_of_ble_eq_true rfl, Nat.le_of_ble_eq_true rfl⟩) hE hS hP hA (fun x h => (htab x h).elim) hlocks (Nat.le_of_ble_eq_true rfl) (Nat.le_of_ble_eq_true rfl) (fun H locs h hE hP hS => ?_)
  refine lv_aload_n hx hb dX11_take_10 rfl (lv_at hl 1 rfl) ?_
  refine xr_endv (cells := 2) (slots := 12) (mc0 := 8) (ms0 := 2000) (vx_runV (rm := ({ frames := 20, cells := 1, slots := 6, locals := 300 })) (As := []) (rest := []) ⟨hx, hb, hml, hown, hts⟩ (p_X11_checkRoom l hl0 dC dI _ _ _ _ q  _ _ h H.size) (cwV 0 hts (g_V gdC mwC_405 mwC_406 mwC_407 mwC_119 mwC_404) rfl rfl rfl hd_X11_checkRoom ⟨Nat.le_of_ble_eq_true rfl, Nat.le_of_ble_eq_true rfl⟩) (x_preV hK hP hD hS hA hS hG hZ hq hk) rfl rfl hl.1 rfl (lv_room (Nat.le_of_ble_eq_true rfl)) dX11_take_11 ⟨Nat.le_of_ble_eq_true rfl, Nat.le_of_ble_eq_true rfl⟩) hE hS hP hA (fun x h => (htab x h).elim) hlocks (Nat.le_of_ble_eq_true rfl) (Nat.le_of_ble_eq_true rfl) (fun H locs h hE hP hS => ?_)
  refine lv_aload_n hx hb dX11_take_14 rfl (lv_at hl 1 rfl) ?_
  refine x_newX2 hx hb hts hown (hts _ mwC_447) (hts _ mwC_448) (hts _ mwC_49) hK hP hD hS hA (Nat.le_of_ble_eq_true rfl) (Nat.le_of_ble_eq_true rfl) dX11_take_15 (fun q4 sh5 H hn7 es6 hK hP hD hS => ?_)
  have h := h q4 sh5 hn7 es6
  refine lv_dup hx hb dX11_take_18 rfl ?_
  refine lv_aload_n hx hb dX11_take_19 rfl (lv_at hl 1 rfl) ?_
  obtain ⟨⟨hm8, hk9⟩, h⟩ := h
  obtain ⟨q10, e11, h⟩ := h
  refine c_get (C := RX11) (T := TX11) (N := 9) (K := 10) (v := .ref q10) hx hb hts hinX11 hown hK hP hm8 hk9 (by decide) rfl 0 (by decide) (hts _ mwC_383) (fun _ h9 => h9) (by show some (va_rf (sR sh5 q 0)) = _; rw [e11]; rfl) dX11_take_20 ?_
  refine lv_aload_n hx hb dX11_take_23 rfl (lv_at hl 0 rfl) ?_
  refine lv_iload_n hx hb dX11_take_24 rfl (lv_at hl 3 rfl) ?_
  refine lv_iconst (v := (-1)) hx hb dX11_take_25 (by decide) ?_
  refine lv_lconst (v := 0) hx hb dX11_take_26 (by decide) ?_
  obtain ⟨⟨hm12, hk13⟩, h⟩ := h
  refine xn_endv (va_runI (rm := ({ frames := 30, cells := 2, slots := 800, locals := 400 })) (As := [.ref q10, .ref r1, .int p1, .int (-1), .long 0]) (rest := [.ref q4, .ref q]) ⟨hx, hb, hml, hown, hts⟩ (p_X2_init l dC dI _ _ _ _ q4 q10 r1 p1 (-1) 0 _ h H.size) (cwI 5 hts (g_C gdC mwC_449) rfl rfl rfl (hts _ mwC_49) (hts _ mwC_450) (hts _ mwC_451) rfl hd_X2_init ⟨Nat.le_of_ble_eq_true rfl, Nat.le_of_ble_eq_true rfl⟩) (c_preS hK hP hD hG) rfl rfl hl.1 rfl (lv_room (Nat.le_of_ble_eq_true rfl)) dX11_take_27 ⟨Nat.le_of_ble_eq_true rfl, Nat.le_of_ble_eq_true rfl⟩) hD hS hA (fun sh14 ci14 ai14 al14 H locs h hK hP hD hS => ?_)
  obtain ⟨⟨hm15, hk16⟩, h⟩ := h
  refine xn_endi (va_runV (rm := ({ frames := 60, cells := 0, slots := 0, locals := 2000 })) (As := [.ref q4]) (rest := []) ⟨hx, hb, hml, hown, hts⟩ (p_X11_addList l dC dI _ _ _ _ q q4 _ h H.size) (cwV 1 hts (g_V gdC mwC_421 mwC_422 mwC_423 mwC_119 mwC_420) rfl rfl rfl hd_X11_addList ⟨Nat.le_of_ble_eq_true rfl, Nat.le_of_ble_eq_true rfl⟩) (c_preV (vc := (RX11, TX11, 9)) hK hP hD hG hm15 hk16 (by decide) rfl) rfl rfl hl.1 rfl (lv_room (Nat.le_of_ble_eq_true rfl)) dX11_take_30 ⟨Nat.le_of_ble_eq_true rfl, Nat.le_of_ble_eq_true rfl⟩) hD hS hA (fun r17 sh17 ci17 ai17 al17 H locs h hK hP hD hS => ?_)
  refine W.widen (k := 8) (n := 2000) (by decide) (by decide) ?_
  refine vx_ret ?_
  exact W.iret (v := r17) hx hb hr (fun t ht hW => ⟨⟨_, (sh17, ci17, ai17, al17), rfl, h, by rw [ht]; exact hP, cK.moved hW.alike hK, hD⟩, hS.F ht⟩) hS.2.2 dX11_take_33
abbrev wmX11_drop : List Cond := .code yX11_drop cX11_drop 4 (some .int) :: WC
theorem hd_X11_drop : yX11_drop.cls = RX11 ∧ yX11_drop.cls ≠ "java/lang/invoke/MethodHandle" ∧ yX11_drop.cls ≠ "java/lang/invoke/VarHandle" ∧ (parseMethodDescriptor yX11_drop.desc).map (fun d => d.parameters.length) = some 2 := by decide +kernel
def P_X11_drop (sh : Sh) (ci : Nat → Nat → Int32) (ai : Nat → Nat → Int32) (al : Nat → Nat → Int64) (q : Nat) (p0 : Int32) (p1 : Int32) (Q : Int32 → Sh → (Nat → Nat → Int32) → (Nat → Nat → Int32) → (Nat → Nat → Int64) → Prop) (X : String → Prop) : Prop := (q ∈ sL sh ∧ sK sh q = 10) ∧ P_X11_listOf sh ci ai al q p0 (fun r1 => P_X11_checkLength p1 (P_X11_checkRoom sh ci ai al q  (∀ (q4 : Nat) (sh5 : Sh), q4 ∉ sL sh → sh5 = shO sh q4 7 → (q ∈ sL sh5 ∧ sK sh5 q = 10) ∧ ∃ q10 : Nat, sR sh5 q 0 = some q10 ∧ (q4 ∈ sL sh5 ∧ sK sh5 q4 = 7) ∧ P_X8_init sh5 (va_up ci q4 (fun _ => 0)) ai al q4 q10 r1 p1 (-1) 0 (fun sh14 ci14 ai14 al14 => (q ∈ sL sh14 ∧ sK sh14 q = 10) ∧ P_X11_addList sh14 ci14 ai14 al14 q q4 (fun r17 sh17 ci17 ai17 al17 => Q r17 sh17 ci17 ai17 al17))) X) X) X
set_option maxHeartbeats 4000000 in
set_option maxRecDepth 100000 in
theorem p_X11_drop (l : Launch) (hl0 : l.stackTraces = false) (dC : Nat → ClassId) (dI : Nat → Nat → Nat) (sh : Sh) (ci : Nat → Nat → Int32) (ai : Nat → Nat → Int32) (al : Nat → Nat → Int64) (q : Nat) (p0 : Int32) (p1 : Int32) (Q : Int32 → Sh → (Nat → Nat → Int32) → (Nat → Nat → Int32) → (Nat → Nat → Int64) → Prop) (X : String → Prop) (h : P_X11_drop sh ci ai al q p0 p1 Q X) (sz : Nat) : vx_Met l yX11_drop wmX11_drop ({ frames := 100, cells := 8, slots := 2000, locals := 3000 }) (va_Pc [.ref q, .int p0, .int p1] (xPre dC dI sh ci ai al sz)) (va_Qi (S := XSt) (xI Q) (xB dC dI (va_A (cW sh ci ai al) sz)) (va_A (cW sh ci ai al) sz)) (XC X sz) 8 2000 (va_A (cW sh ci ai al) sz) := by
  refine vx_ofW (cc := cX11_drop) (maxL := 4) (ret := (some .int)) (by decide) rfl ?_
  intro p e s m args below meth c s₁ B hml htab hv
  obtain ⟨rfl, ⟨hsz, hP, hK, hD0, hG⟩, hZ⟩ := hv
  have hx := B.exec
  have hb := B.bytes
  have hr := B.returns
  have hts : ∀ w ∈ WC, w.before _ s = true := fun w h => atoms_spec (ws := wmX11_drop) B.pre w (List.mem_cons_of_mem _ h)
  have hown : s.vm.findClass RX11 = some m.cls := findClass_of_methodNamed B.named
  have hlocks := B.notSynchronized
  subst hsz
  have hD := hD0.self (sz := s.heap.size)
  generalize hAe : va_A (cW sh ci ai al) s.heap.size = A at hD hZ ⊢
  have hA : ∀ q : Nat, s.heap.size ≤ q → A q := fun q h => by rw [← hAe]; exact Or.inr h
  generalize hz9 : s.heap.size = z9
  generalize hH : s.heap = H at hP ⊢
  subst hz9
  have hS : va_S A s.heap H [] := by rw [← hH]; exact va_S.rf
  have hE : xE s.heap H := by rw [← hH]; exact xE.rf
  have hl := lv_entry [.ref q, .int p0, .int p1] (n := 4) (Nat.le_of_ble_eq_true rfl)
  rw [lg_entry_eq]
  generalize (lg_sl [.ref q, .int p0, .int p1] ++ List.replicate (4 - (lg_sl [.ref q, .int p0, .int p1]).length) Slot.unset).toArray = ls at hl ⊢
  have hl : lv_has ls 4 [(0, .ref q), (1, .int p0), (2, .int p1)] := hl
  unfold P_X11_drop at h
  obtain ⟨⟨hq, hk⟩, h⟩ := h
  refine lv_aload_n hx hb dX11_drop_0 rfl (lv_at hl 0 rfl) ?_
  refine lv_iload_n hx hb dX11_drop_1 rfl (lv_at hl 1 rfl) ?_
  refine xr_endr (cells := 0) (slots := 0) (mc0 := 8) (ms0 := 2000) (vx_runV (rm := ({ frames := 20, cells := 1, slots := 6, locals := 300 })) (As := [.int p0]) (rest := []) ⟨hx, hb, hml, hown, hts⟩ (p_X11_listOf l hl0 dC dI _ _ _ _ q p0 _ _ h H.size) (cwV 1 hts (g_V gdC mwC_436 mwC_437 mwC_438 mwC_119 mwC_435) rfl rfl rfl hd_X11_listOf ⟨Nat.le_of_ble_eq_true rfl, Nat.le_of_ble_eq_true rfl⟩) (x_preV hK hP hD hS hA hS hG hZ hq hk) rfl rfl hl.1 rfl (lv_room (Nat.le_of_ble_eq_true rfl)) dX11_drop_2 ⟨Nat.le_of_ble_eq_true rfl, Nat.le_of_ble_eq_true rfl⟩) hE hS hP hA (fun x h => (htab x h).elim) hlocks (Nat.le_of_ble_eq_true rfl) (Nat.le_of_ble_eq_true rfl) (fun r1 H locs h hE hP hS => ?_)
  refine lv_astore_n (lv' := [(3, .ref r1), (0, .ref q), (1, .int p0), (2, .int p1)]) hx hb dX11_drop_5 rfl hl (by decide) rfl (fun ls hl => ?_)
  refine lv_iload_n hx hb dX11_drop_6 rfl (lv_at hl 3 rfl) ?_
  refine xr_endv (cells := 1) (slots := 6) (mc0 := 8) (ms0 := 2000) (vx_runS (rm := ({ frames := 20, cells := 1, slots := 6, locals := 300 })) (As := [.int p1]) (rest := []) ⟨hx, hb, hml, hown, hts⟩ (p_X11_checkLength l hl0 p1 _ _ h H.size) (va_cwS 1 hts (g_S gdC mwC_445 mwC_446 mwC_119 mwC_444) rfl rfl rfl hd_X11_checkLength ⟨Nat.le_of_ble_eq_true rfl, Nat.le_of_ble_eq_true rfl⟩) (x_preS hA hS hG hZ) rfl rfl hl.1 rfl (lv_room (Nat.le_of_ble_eq_true rfl)) dX11_drop_7 ⟨Nat.le_of_ble_eq_true rfl, Nat.le_of_ble_eq_true rfl⟩) hE hS hP hA (fun x h => (htab x h).elim) hlocks (Nat.le_of_ble_eq_true rfl) (Nat.le_of_ble_eq_true rfl) (fun H locs h hE hP hS => ?_)
  refine lv_aload_n hx hb dX11_drop_10 rfl (lv_at hl 1 rfl) ?_
  refine xr_endv (cells := 2) (slots := 12) (mc0 := 8) (ms0 := 2000) (vx_runV (rm := ({ frames := 20, cells := 1, slots := 6, locals := 300 })) (As := []) (rest := []) ⟨hx, hb, hml, hown, hts⟩ (p_X11_checkRoom l hl0 dC dI _ _ _ _ q  _ _ h H.size) (cwV 0 hts (g_V gdC mwC_405 mwC_406 mwC_407 mwC_119 mwC_404) rfl rfl rfl hd_X11_checkRoom ⟨Nat.le_of_ble_eq_true rfl, Nat.le_of_ble_eq_true rfl⟩) (x_preV hK hP hD hS hA hS hG hZ hq hk) rfl rfl hl.1 rfl (lv_room (Nat.le_of_ble_eq_true rfl)) dX11_drop_11 ⟨Nat.le_of_ble_eq_true rfl, Nat.le_of_ble_eq_true rfl⟩) hE hS hP hA (fun x h => (htab x h).elim) hlocks (Nat.le_of_ble_eq_true rfl) (Nat.le_of_ble_eq_true rfl) (fun H locs h hE hP hS => ?_)
  refine lv_aload_n hx hb dX11_drop_14 rfl (lv_at hl 1 rfl) ?_
  refine x_newX8 hx hb hts hown (hts _ mwC_452) (hts _ mwC_453) (hts _ mwC_62) hK hP hD hS hA (Nat.le_of_ble_eq_true rfl) (Nat.le_of_ble_eq_true rfl) dX11_drop_15 (fun q4 sh5 H hn7 es6 hK hP hD hS => ?_)
  have h := h q4 sh5 hn7 es6
  refine lv_dup hx hb dX11_drop_18 rfl ?_
  refine lv_aload_n hx hb dX11_drop_19 rfl (lv_at hl 1 rfl) ?_
  obtain ⟨⟨hm8, hk9⟩, h⟩ := h
  obtain ⟨q10, e11, h⟩ := h
  refine c_get (C := RX11) (T := TX11) (N := 9) (K := 10) (v := .ref q10) hx hb hts hinX11 hown hK hP hm8 hk9 (by decide) rfl 0 (by decide) (hts _ mwC_383) (fun _ h9 => h9) (by show some (va_rf (sR sh5 q 0)) = _; rw [e11]; rfl) dX11_drop_20 ?_
  refine lv_aload_n hx hb dX11_drop_23 rfl (lv_at hl 0 rfl) ?_
  refine lv_iload_n hx hb dX11_drop_24 rfl (lv_at hl 3 rfl) ?_
  refine lv_iconst (v := (-1)) hx hb dX11_drop_25 (by decide) ?_
  refine lv_lconst (v := 0) hx hb dX11_drop_26 (by decide) ?_
  obtain ⟨⟨hm12, hk13⟩, h⟩ := h
  refine xn_endv (va_runI (rm := ({ frames := 30, cells := 2, slots := 800, locals := 400 })) (As := [.ref q10, .ref r1, .int p1, .int (-1), .long 0]) (rest := [.ref q4, .ref q]) ⟨hx, hb, hml, hown, hts⟩ (p_X8_init l dC dI _ _ _ _ q4 q10 r1 p1 (-1) 0 _ h H.size) (cwI 5 hts (g_C gdC mwC_454) rfl rfl rfl (hts _ mwC_62) (hts _ mwC_455) (hts _ mwC_456) rfl hd_X8_init ⟨Nat.le_of_ble_eq_true rfl, Nat.le_of_ble_eq_true rfl⟩) (c_preS hK hP hD hG) rfl rfl hl.1 rfl (lv_room (Nat.le_of_ble_eq_true rfl)) dX11_drop_27 ⟨Nat.le_of_ble_eq_true rfl, Nat.le_of_ble_eq_true rfl⟩) hD hS hA (fun sh14 ci14 ai14 al14 H locs h hK hP hD hS => ?_)
  obtain ⟨⟨hm15, hk16⟩, h⟩ := h
  refine xn_endi (va_runV (rm := ({ frames := 60, cells := 0, slots := 0, locals := 2000 })) (As := [.ref q4]) (rest := []) ⟨hx, hb, hml, hown, hts⟩ (p_X11_addList l dC dI _ _ _ _ q q4 _ h H.size) (cwV 1 hts (g_V gdC mwC_421 mwC_422 mwC_423 mwC_119 mwC_420) rfl rfl rfl hd_X11_addList ⟨Nat.le_of_ble_eq_true rfl, Nat.le_of_ble_eq_true rfl⟩) (c_preV (vc := (RX11, TX11, 9)) hK hP hD hG hm15 hk16 (by decide) rfl) rfl rfl hl.1 rfl (lv_room (Nat.le_of_ble_eq_true rfl)) dX11_drop_30 ⟨Nat.le_of_ble_eq_true rfl, Nat.le_of_ble_eq_true rfl⟩) hD hS hA (fun r17 sh17 ci17 ai17 al17 H locs h hK hP hD hS => ?_)
  refine W.widen (k := 8) (n := 2000) (by decide) (by decide) ?_
  refine vx_ret ?_
  exact W.iret (v := r17) hx hb hr (fun t ht hW => ⟨⟨_, (sh17, ci17, ai17, al17), rfl, h, by rw [ht]; exact hP, cK.moved hW.alike hK, hD⟩, hS.F ht⟩) hS.2.2 dX11_drop_33
abbrev wmX11_keep : List Cond := .code yX11_keep cX11_keep 6 (some .int) :: WC
theorem hd_X11_keep : yX11_keep.cls = RX11 ∧ yX11_keep.cls ≠ "java/lang/invoke/MethodHandle" ∧ yX11_keep.cls ≠ "java/lang/invoke/VarHandle" ∧ (parseMethodDescriptor yX11_keep.desc).map (fun d => d.parameters.length) = some 3 := by decide +kernel
def P_X11_keep (sh : Sh) (ci : Nat → Nat → Int32) (ai : Nat → Nat → Int32) (al : Nat → Nat → Int64) (q : Nat) (p0 : Int32) (p1 : Int32) (p2 : Int64) (Q : Int32 → Sh → (Nat → Nat → Int32) → (Nat → Nat → Int32) → (Nat → Nat → Int64) → Prop) (X : String → Prop) : Prop := (q ∈ sL sh ∧ sK sh q = 10) ∧ P_X11_listOf sh ci ai al q p0 (fun r1 => P_X11_checkCond p1 (P_X11_checkRoom sh ci ai al q  (∀ (q4 : Nat) (sh5 : Sh), q4 ∉ sL sh → sh5 = shO sh q4 9 → (q ∈ sL sh5 ∧ sK sh5 q = 10) ∧ ∃ q10 : Nat, sR sh5 q 0 = some q10 ∧ (q4 ∈ sL sh5 ∧ sK sh5 q4 = 9) ∧ P_X10_init sh5 (va_up ci q4 (fun _ => 0)) ai al q4 q10 r1 p1 p2 (fun sh14 ci14 ai14 al14 => (q ∈ sL sh14 ∧ sK sh14 q = 10) ∧ P_X11_addList sh14 ci14 ai14 al14 q q4 (fun r17 sh17 ci17 ai17 al17 => Q r17 sh17 ci17 ai17 al17))) X) X) X
set_option maxHeartbeats 4000000 in
set_option maxRecDepth 100000 in
theorem p_X11_keep (l : Launch) (hl0 : l.stackTraces = false) (dC : Nat → ClassId) (dI : Nat → Nat → Nat) (sh : Sh) (ci : Nat → Nat → Int32) (ai : Nat → Nat → Int32) (al : Nat → Nat → Int64) (q : Nat) (p0 : Int32) (p1 : Int32) (p2 : Int64) (Q : Int32 → Sh → (Nat → Nat → Int32) → (Nat → Nat → Int32) → (Nat → Nat → Int64) → Prop) (X : String → Prop) (h : P_X11_keep sh ci ai al q p0 p1 p2 Q X) (sz : Nat) : vx_Met l yX11_keep wmX11_keep ({ frames := 100, cells := 8, slots := 2000, locals := 3000 }) (va_Pc [.ref q, .int p0, .int p1, .long p2] (xPre dC dI sh ci ai al sz)) (va_Qi (S := XSt) (xI Q) (xB dC dI (va_A (cW sh ci ai al) sz)) (va_A (cW sh ci ai al) sz)) (XC X sz) 8 2000 (va_A (cW sh ci ai al) sz) := by
  refine vx_ofW (cc := cX11_keep) (maxL := 6) (ret := (some .int)) (by decide) rfl ?_
  intro p e s m args below meth c s₁ B hml htab hv
  obtain ⟨rfl, ⟨hsz, hP, hK, hD0, hG⟩, hZ⟩ := hv
  have hx := B.exec
  have hb := B.bytes
  have hr := B.returns
  have hts : ∀ w ∈ WC, w.before _ s = true := fun w h => atoms_spec (ws := wmX11_keep) B.pre w (List.mem_cons_of_mem _ h)
  have hown : s.vm.findClass RX11 = some m.cls := findClass_of_methodNamed B.named
  have hlocks := B.notSynchronized
  subst hsz
  have hD := hD0.self (sz := s.heap.size)
  generalize hAe : va_A (cW sh ci ai al) s.heap.size = A at hD hZ ⊢
  have hA : ∀ q : Nat, s.heap.size ≤ q → A q := fun q h => by rw [← hAe]; exact Or.inr h
  generalize hz9 : s.heap.size = z9
  generalize hH : s.heap = H at hP ⊢
  subst hz9
  have hS : va_S A s.heap H [] := by rw [← hH]; exact va_S.rf
  have hE : xE s.heap H := by rw [← hH]; exact xE.rf
  have hl := lv_entry [.ref q, .int p0, .int p1, .long p2] (n := 6) (Nat.le_of_ble_eq_true rfl)
  rw [lg_entry_eq]
  generalize (lg_sl [.ref q, .int p0, .int p1, .long p2] ++ List.replicate (6 - (lg_sl [.ref q, .int p0, .int p1, .long p2]).length) Slot.unset).toArray = ls at hl ⊢
  have hl : lv_has ls 6 [(0, .ref q), (1, .int p0), (2, .int p1), (3, .long p2)] := hl
  unfold P_X11_keep at h
  obtain ⟨⟨hq, hk⟩, h⟩ := h
  refine lv_aload_n hx hb dX11_keep_0 rfl (lv_at hl 0 rfl) ?_
  refine lv_iload_n hx hb dX11_keep_1 rfl (lv_at hl 1 rfl) ?_
  refine xr_endr (cells := 0) (slots := 0) (mc0 := 8) (ms0 := 2000) (vx_runV (rm := ({ frames := 20, cells := 1, slots := 6, locals := 300 })) (As := [.int p0]) (rest := []) ⟨hx, hb, hml, hown, hts⟩ (p_X11_listOf l hl0 dC dI _ _ _ _ q p0 _ _ h H.size) (cwV 1 hts (g_V gdC mwC_436 mwC_437 mwC_438 mwC_119 mwC_435) rfl rfl rfl hd_X11_listOf ⟨Nat.le_of_ble_eq_true rfl, Nat.le_of_ble_eq_true rfl⟩) (x_preV hK hP hD hS hA hS hG hZ hq hk) rfl rfl hl.1 rfl (lv_room (Nat.le_of_ble_eq_true rfl)) dX11_keep_2 ⟨Nat.le_of_ble_eq_true rfl, Nat.le_of_ble_eq_true rfl⟩) hE hS hP hA (fun x h => (htab x h).elim) hlocks (Nat.le_of_ble_eq_true rfl) (Nat.le_of_ble_eq_true rfl) (fun r1 H locs h hE hP hS => ?_)
  refine lv_astore (lv' := [(5, .ref r1), (0, .ref q), (1, .int p0), (2, .int p1), (3, .long p2)]) hx hb dX11_keep_5 hl (by decide) rfl (fun ls hl => ?_)
  refine lv_iload_n hx hb dX11_keep_7 rfl (lv_at hl 3 rfl) ?_
  refine xr_endv (cells := 1) (slots := 6) (mc0 := 8) (ms0 := 2000) (vx_runS (rm := ({ frames := 20, cells := 1, slots := 6, locals := 300 })) (As := [.int p1]) (rest := []) ⟨hx, hb, hml, hown, hts⟩ (p_X11_checkCond l hl0 p1 _ _ h H.size) (va_cwS 1 hts (g_S gdC mwC_458 mwC_459 mwC_119 mwC_457) rfl rfl rfl hd_X11_checkCond ⟨Nat.le_of_ble_eq_true rfl, Nat.le_of_ble_eq_true rfl⟩) (x_preS hA hS hG hZ) rfl rfl hl.1 rfl (lv_room (Nat.le_of_ble_eq_true rfl)) dX11_keep_8 ⟨Nat.le_of_ble_eq_true rfl, Nat.le_of_ble_eq_true rfl⟩) hE hS hP hA (fun x h => (htab x h).elim) hlocks (Nat.le_of_ble_eq_true rfl) (Nat.le_of_ble_eq_true rfl) (fun H locs h hE hP hS => ?_)
  refine lv_aload_n hx hb dX11_keep_11 rfl (lv_at hl 1 rfl) ?_
  refine xr_endv (cells := 2) (slots := 12) (mc0 := 8) (ms0 := 2000) (vx_runV (rm := ({ frames := 20, cells := 1, slots := 6, locals := 300 })) (As := []) (rest := []) ⟨hx, hb, hml, hown, hts⟩ (p_X11_checkRoom l hl0 dC dI _ _ _ _ q  _ _ h H.size) (cwV 0 hts (g_V gdC mwC_405 mwC_406 mwC_407 mwC_119 mwC_404) rfl rfl rfl hd_X11_checkRoom ⟨Nat.le_of_ble_eq_true rfl, Nat.le_of_ble_eq_true rfl⟩) (x_preV hK hP hD hS hA hS hG hZ hq hk) rfl rfl hl.1 rfl (lv_room (Nat.le_of_ble_eq_true rfl)) dX11_keep_12 ⟨Nat.le_of_ble_eq_true rfl, Nat.le_of_ble_eq_true rfl⟩) hE hS hP hA (fun x h => (htab x h).elim) hlocks (Nat.le_of_ble_eq_true rfl) (Nat.le_of_ble_eq_true rfl) (fun H locs h hE hP hS => ?_)
  refine lv_aload_n hx hb dX11_keep_15 rfl (lv_at hl 1 rfl) ?_
  refine x_newX10 hx hb hts hown (hts _ mwC_392) (hts _ mwC_393) (hts _ mwC_67) hK hP hD hS hA (Nat.le_of_ble_eq_true rfl) (Nat.le_of_ble_eq_true rfl) dX11_keep_16 (fun q4 sh5 H hn7 es6 hK hP hD hS => ?_)
  have h := h q4 sh5 hn7 es6
  refine lv_dup hx hb dX11_keep_19 rfl ?_
  refine lv_aload_n hx hb dX11_keep_20 rfl (lv_at hl 1 rfl) ?_
  obtain ⟨⟨hm8, hk9⟩, h⟩ := h
  obtain ⟨q10, e11, h⟩ := h
  refine c_get (C := RX11) (T := TX11) (N := 9) (K := 10) (v := .ref q10) hx hb hts hinX11 hown hK hP hm8 hk9 (by decide) rfl 0 (by decide) (hts _ mwC_383) (fun _ h9 => h9) (by show some (va_rf (sR sh5 q 0)) = _; rw [e11]; rfl) dX11_keep_21 ?_
  refine lv_aload hx hb dX11_keep_24 (lv_at hl 0 rfl) ?_
  refine lv_iload_n hx hb dX11_keep_26 rfl (lv_at hl 3 rfl) ?_
  refine lv_lload_n hx hb dX11_keep_27 rfl (lv_at hl 4 rfl) ?_
  obtain ⟨⟨hm12, hk13⟩, h⟩ := h
  refine xn_endv (va_runI (rm := ({ frames := 30, cells := 3, slots := 1200, locals := 400 })) (As := [.ref q10, .ref r1, .int p1, .long p2]) (rest := [.ref q4, .ref q]) ⟨hx, hb, hml, hown, hts⟩ (p_X10_init l dC dI _ _ _ _ q4 q10 r1 p1 p2 _ h H.size) (cwI 4 hts (g_C gdC mwC_394) rfl rfl rfl (hts _ mwC_67) (hts _ mwC_395) (hts _ mwC_396) rfl hd_X10_init ⟨Nat.le_of_ble_eq_true rfl, Nat.le_of_ble_eq_true rfl⟩) (c_preS hK hP hD hG) rfl rfl hl.1 rfl (lv_room (Nat.le_of_ble_eq_true rfl)) dX11_keep_28 ⟨Nat.le_of_ble_eq_true rfl, Nat.le_of_ble_eq_true rfl⟩) hD hS hA (fun sh14 ci14 ai14 al14 H locs h hK hP hD hS => ?_)
  obtain ⟨⟨hm15, hk16⟩, h⟩ := h
  refine xn_endi (va_runV (rm := ({ frames := 60, cells := 0, slots := 0, locals := 2000 })) (As := [.ref q4]) (rest := []) ⟨hx, hb, hml, hown, hts⟩ (p_X11_addList l dC dI _ _ _ _ q q4 _ h H.size) (cwV 1 hts (g_V gdC mwC_421 mwC_422 mwC_423 mwC_119 mwC_420) rfl rfl rfl hd_X11_addList ⟨Nat.le_of_ble_eq_true rfl, Nat.le_of_ble_eq_true rfl⟩) (c_preV (vc := (RX11, TX11, 9)) hK hP hD hG hm15 hk16 (by decide) rfl) rfl rfl hl.1 rfl (lv_room (Nat.le_of_ble_eq_true rfl)) dX11_keep_31 ⟨Nat.le_of_ble_eq_true rfl, Nat.le_of_ble_eq_true rfl⟩) hD hS hA (fun r17 sh17 ci17 ai17 al17 H locs h hK hP hD hS => ?_)
  refine W.widen (k := 8) (n := 2000) (by decide) (by decide) ?_
  refine vx_ret ?_
  exact W.iret (v := r17) hx hb hr (fun t ht hW => ⟨⟨_, (sh17, ci17, ai17, al17), rfl, h, by rw [ht]; exact hP, cK.moved hW.alike hK, hD⟩, hS.F ht⟩) hS.2.2 dX11_keep_34
