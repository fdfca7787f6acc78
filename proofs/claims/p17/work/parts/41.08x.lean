abbrev cX11_last : ByteArray := prog_1_method_25_code
def yX11_last : MethodName := ⟨RX11, "last", "(I)J"⟩
abbrev cX11_reached : ByteArray := prog_1_method_30_code
def yX11_reached : MethodName := ⟨RX11, "reached", "(I)I"⟩
abbrev cX11_worked : ByteArray := prog_1_method_31_code
def yX11_worked : MethodName := ⟨RX11, "worked", "(II)Z"⟩
theorem dX11_last_0 : decode cX11_last 0 = .ok (.aload_n 0, 1) := by decide +kernel
theorem dX11_last_1 : decode cX11_last 1 = .ok (.iload_n 1, 1) := by decide +kernel
theorem dX11_last_2 : decode cX11_last 2 = .ok (.invokevirtual 87, 3) := by decide +kernel
theorem dX11_last_5 : decode cX11_last 5 = .ok (.astore_n 2, 1) := by decide +kernel
theorem dX11_last_6 : decode cX11_last 6 = .ok (.aload_n 0, 1) := by decide +kernel
theorem dX11_last_7 : decode cX11_last 7 = .ok (.getfield 12, 3) := by decide +kernel
theorem dX11_last_10 : decode cX11_last 10 = .ok (.aload_n 0, 1) := by decide +kernel
theorem dX11_last_11 : decode cX11_last 11 = .ok (.getfield 30, 3) := by decide +kernel
theorem dX11_last_14 : decode cX11_last 14 = .ok (.invokevirtual 143, 3) := by decide +kernel
theorem dX11_last_17 : decode cX11_last 17 = .ok (.aload_n 2, 1) := by decide +kernel
theorem dX11_last_18 : decode cX11_last 18 = .ok (.invokevirtual 161, 3) := by decide +kernel
theorem dX11_last_21 : decode cX11_last 21 = .ok (.istore_n 3, 1) := by decide +kernel
theorem dX11_last_22 : decode cX11_last 22 = .ok (.iload_n 3, 1) := by decide +kernel
theorem dX11_last_23 : decode cX11_last 23 = .ok (.iconst 2, 1) := by decide +kernel
theorem dX11_last_24 : decode cX11_last 24 = .ok (.if_icmp .eq 10, 3) := by decide +kernel
theorem dX11_last_27 : decode cX11_last 27 = .ok (.aload_n 0, 1) := by decide +kernel
theorem dX11_last_28 : decode cX11_last 28 = .ok (.iload_n 3, 1) := by decide +kernel
theorem dX11_last_29 : decode cX11_last 29 = .ok (.lconst 0, 1) := by decide +kernel
theorem dX11_last_30 : decode cX11_last 30 = .ok (.invokevirtual 150, 3) := by decide +kernel
theorem dX11_last_33 : decode cX11_last 33 = .ok (.lreturn, 1) := by decide +kernel
theorem dX11_last_34 : decode cX11_last 34 = .ok (.aload_n 2, 1) := by decide +kernel
theorem dX11_last_35 : decode cX11_last 35 = .ok (.invokevirtual 165, 3) := by decide +kernel
theorem dX11_last_38 : decode cX11_last 38 = .ok (.istore 4, 2) := by decide +kernel
theorem dX11_last_40 : decode cX11_last 40 = .ok (.iload 4, 2) := by decide +kernel
theorem dX11_last_42 : decode cX11_last 42 = .ok (.ifCond .ne 11, 3) := by decide +kernel
theorem dX11_last_45 : decode cX11_last 45 = .ok (.aload_n 0, 1) := by decide +kernel
theorem dX11_last_46 : decode cX11_last 46 = .ok (.bipush 6, 2) := by decide +kernel
theorem dX11_last_48 : decode cX11_last 48 = .ok (.lconst 0, 1) := by decide +kernel
theorem dX11_last_49 : decode cX11_last 49 = .ok (.invokevirtual 150, 3) := by decide +kernel
theorem dX11_last_52 : decode cX11_last 52 = .ok (.lreturn, 1) := by decide +kernel
theorem dX11_last_53 : decode cX11_last 53 = .ok (.aload_n 2, 1) := by decide +kernel
theorem dX11_last_54 : decode cX11_last 54 = .ok (.iload 4, 2) := by decide +kernel
theorem dX11_last_56 : decode cX11_last 56 = .ok (.iconst 1, 1) := by decide +kernel
theorem dX11_last_57 : decode cX11_last 57 = .ok (.isub, 1) := by decide +kernel
theorem dX11_last_58 : decode cX11_last 58 = .ok (.invokevirtual 154, 3) := by decide +kernel
theorem dX11_last_61 : decode cX11_last 61 = .ok (.istore 5, 2) := by decide +kernel
theorem dX11_last_63 : decode cX11_last 63 = .ok (.aload_n 0, 1) := by decide +kernel
theorem dX11_last_64 : decode cX11_last 64 = .ok (.iload 5, 2) := by decide +kernel
theorem dX11_last_66 : decode cX11_last 66 = .ok (.aload_n 2, 1) := by decide +kernel
theorem dX11_last_67 : decode cX11_last 67 = .ok (.iload 4, 2) := by decide +kernel
theorem dX11_last_69 : decode cX11_last 69 = .ok (.iconst 1, 1) := by decide +kernel
theorem dX11_last_70 : decode cX11_last 70 = .ok (.isub, 1) := by decide +kernel
theorem dX11_last_71 : decode cX11_last 71 = .ok (.invokevirtual 157, 3) := by decide +kernel
theorem dX11_last_74 : decode cX11_last 74 = .ok (.invokevirtual 150, 3) := by decide +kernel
theorem dX11_last_77 : decode cX11_last 77 = .ok (.lreturn, 1) := by decide +kernel
theorem dX11_reached_0 : decode cX11_reached 0 = .ok (.aload_n 0, 1) := by decide +kernel
theorem dX11_reached_1 : decode cX11_reached 1 = .ok (.iload_n 1, 1) := by decide +kernel
theorem dX11_reached_2 : decode cX11_reached 2 = .ok (.invokevirtual 87, 3) := by decide +kernel
theorem dX11_reached_5 : decode cX11_reached 5 = .ok (.getfield 191, 3) := by decide +kernel
theorem dX11_reached_8 : decode cX11_reached 8 = .ok (.ireturn, 1) := by decide +kernel
theorem dX11_worked_0 : decode cX11_worked 0 = .ok (.aload_n 0, 1) := by decide +kernel
theorem dX11_worked_1 : decode cX11_worked 1 = .ok (.iload_n 1, 1) := by decide +kernel
theorem dX11_worked_2 : decode cX11_worked 2 = .ok (.invokevirtual 87, 3) := by decide +kernel
theorem dX11_worked_5 : decode cX11_worked 5 = .ok (.astore_n 3, 1) := by decide +kernel
theorem dX11_worked_6 : decode cX11_worked 6 = .ok (.iload_n 2, 1) := by decide +kernel
theorem dX11_worked_7 : decode cX11_worked 7 = .ok (.ifCond .lt 23, 3) := by decide +kernel
theorem dX11_worked_10 : decode cX11_worked 10 = .ok (.iload_n 2, 1) := by decide +kernel
theorem dX11_worked_11 : decode cX11_worked 11 = .ok (.aload_n 3, 1) := by decide +kernel
theorem dX11_worked_12 : decode cX11_worked 12 = .ok (.invokevirtual 165, 3) := by decide +kernel
theorem dX11_worked_15 : decode cX11_worked 15 = .ok (.if_icmp .ge 15, 3) := by decide +kernel
theorem dX11_worked_18 : decode cX11_worked 18 = .ok (.aload_n 3, 1) := by decide +kernel
theorem dX11_worked_19 : decode cX11_worked 19 = .ok (.iload_n 2, 1) := by decide +kernel
theorem dX11_worked_20 : decode cX11_worked 20 = .ok (.invokevirtual 194, 3) := by decide +kernel
theorem dX11_worked_23 : decode cX11_worked 23 = .ok (.ifCond .eq 7, 3) := by decide +kernel
theorem dX11_worked_26 : decode cX11_worked 26 = .ok (.iconst 1, 1) := by decide +kernel
theorem dX11_worked_27 : decode cX11_worked 27 = .ok (.goto 4, 3) := by decide +kernel
theorem dX11_worked_30 : decode cX11_worked 30 = .ok (.iconst 0, 1) := by decide +kernel
theorem dX11_worked_31 : decode cX11_worked 31 = .ok (.ireturn, 1) := by decide +kernel
abbrev wmX11_last : List Cond := .code yX11_last cX11_last 6 (some .long) :: WC
theorem hd_X11_last : yX11_last.cls = RX11 ∧ yX11_last.cls ≠ "java/lang/invoke/MethodHandle" ∧ yX11_last.cls ≠ "java/lang/invoke/VarHandle" ∧ (parseMethodDescriptor yX11_last.desc).map (fun d => d.parameters.length) = some 1 := by decide +kernel
def P_X11_last (sh : Sh) (ci : Nat → Nat → Int32) (ai : Nat → Nat → Int32) (al : Nat → Nat → Int64) (q : Nat) (p0 : Int32) (Q : Int64 → Sh → (Nat → Nat → Int32) → (Nat → Nat → Int32) → (Nat → Nat → Int64) → Prop) (X : String → Prop) : Prop := (q ∈ sL sh ∧ sK sh q = 10) ∧ P_X11_listOf sh ci ai al q p0 (fun r1 => ∃ q2 : Nat, sR sh q 0 = some q2 ∧ (q2 ∈ sL sh ∧ sK sh q2 = 5) ∧ P_X6_begin sh ci ai al q2 (ci q 6) (fun ci6 ai6 al6 => (r1 ∈ sL sh ∧ isZ (sK sh r1)) ∧ P_X5_reachAll sh (PG sh 100).1 (PG sh 100).2 ci6 ai6 al6 r1  (fun r9 ci9 ai9 al9 => ((r9 = 2) → (P_X5_there sh ci9 ai9 al9 r1  (fun r10 => ((¬ r10 = 0) → ((PG sh 100).2 ci9 ai9 al9 r1 (r10 - 1) (fun r11 ci11 ai11 al11 => P_X5_number_f sh 30 ci11 ai11 al11 r1 (r10 - 1) (fun r12 => P_X11_finish sh ci11 ai11 al11 q r11 r12 (fun r13 sh13 ci13 ai13 al13 => Q r13 sh13 ci13 ai13 al13))))) ∧ ((r10 = 0) → (P_X11_finish sh ci9 ai9 al9 q 6 0 (fun r14 sh14 ci14 ai14 al14 => Q r14 sh14 ci14 ai14 al14)))))) ∧ ((¬ r9 = 2) → (P_X11_finish sh ci9 ai9 al9 q r9 0 (fun r15 sh15 ci15 ai15 al15 => Q r15 sh15 ci15 ai15 al15)))))) X
set_option maxHeartbeats 4000000 in
set_option maxRecDepth 100000 in
theorem p_X11_last (l : Launch) (hl0 : l.stackTraces = false) (dC : Nat → ClassId) (dI : Nat → Nat → Nat) (sh : Sh) (ci : Nat → Nat → Int32) (ai : Nat → Nat → Int32) (al : Nat → Nat → Int64) (q : Nat) (p0 : Int32) (Q : Int64 → Sh → (Nat → Nat → Int32) → (Nat → Nat → Int32) → (Nat → Nat → Int64) → Prop) (X : String → Prop) (h : P_X11_last sh ci ai al q p0 Q X) (sz : Nat) : vx_Met l yX11_last wmX11_last ({ frames := 1000, cells := 3, slots := 20, locals := 40000 }) (va_Pc [.ref q, .int p0] (xPre dC dI sh ci ai al sz)) (va_Ql (S := XSt) (xJ Q) (xB dC dI (va_A (cW sh ci ai al) sz)) (va_A (cW sh ci ai al) sz)) (XC X sz) 3 20 (va_A (cW sh ci ai al) sz) := by
  refine vx_ofW (cc := cX11_last) (maxL := 6) (ret := (some .long)) (by decide) rfl ?_
  intro p e s m args below meth c s₁ B hml htab hv
  obtain ⟨rfl, ⟨hsz, hP, hK, hD0, hG⟩, hZ⟩ := hv
  have hx := B.exec
  have hb := B.bytes
  have hr := B.returns
  have hts : ∀ w ∈ WC, w.before _ s = true := fun w h => atoms_spec (ws := wmX11_last) B.pre w (List.mem_cons_of_mem _ h)
  have hown : s.vm.findClass RX11 = some m.cls := findClass_of_methodNamed B.named
  have hlocks := B.notSynchronized
  subst hsz
  have hD := hD0.self (sz := s.heap.size)
  generalize hAe : va_A (cW sh ci ai al) s.heap.size = A at hD hZ ⊢
  have hA : ∀ q : Nat, s.heap.size ≤ q → A q := fun q h => by rw [← hAe]; exact Or.inr h
  generalize hz9 : s.heap.size = z9
  generalize hH : s.heap = H at hP ⊢
  subst hz9
  have hS : va_S A s.heap H [] := by rw [← hH]; exact va_S.rf
  have hE : xE s.heap H := by rw [← hH]; exact xE.rf
  have hl := lv_entry [.ref q, .int p0] (n := 6) (Nat.le_of_ble_eq_true rfl)
  rw [lg_entry_eq]
  generalize (lg_sl [.ref q, .int p0] ++ List.replicate (6 - (lg_sl [.ref q, .int p0]).length) Slot.unset).toArray = ls at hl ⊢
  have hl : lv_has ls 6 [(0, .ref q), (1, .int p0)] := hl
  unfold P_X11_last at h
  obtain ⟨⟨hq, hk⟩, h⟩ := h
  refine lv_aload_n hx hb dX11_last_0 rfl (lv_at hl 0 rfl) ?_
  refine lv_iload_n hx hb dX11_last_1 rfl (lv_at hl 1 rfl) ?_
  refine xr_endr (cells := 0) (slots := 0) (mc0 := 3) (ms0 := 20) (vx_runV (rm := ({ frames := 20, cells := 1, slots := 6, locals := 300 })) (As := [.int p0]) (rest := []) ⟨hx, hb, hml, hown, hts⟩ (p_X11_listOf l hl0 dC dI _ _ _ _ q p0 _ _ h H.size) (cwV 1 hts (g_V gdC mwC_436 mwC_437 mwC_438 mwC_119 mwC_435) rfl rfl rfl hd_X11_listOf ⟨Nat.le_of_ble_eq_true rfl, Nat.le_of_ble_eq_true rfl⟩) (x_preV hK hP hD hS hA hS hG hZ hq hk) rfl rfl hl.1 rfl (lv_room (Nat.le_of_ble_eq_true rfl)) dX11_last_2 ⟨Nat.le_of_ble_eq_true rfl, Nat.le_of_ble_eq_true rfl⟩) hE hS hP hA (fun x h => (htab x h).elim) hlocks (Nat.le_of_ble_eq_true rfl) (Nat.le_of_ble_eq_true rfl) (fun r1 H locs h hE hP hS => ?_)
  refine lv_astore_n (lv' := [(2, .ref r1), (0, .ref q), (1, .int p0)]) hx hb dX11_last_5 rfl hl (by decide) rfl (fun ls hl => ?_)
  refine lv_aload_n hx hb dX11_last_6 rfl (lv_at hl 1 rfl) ?_
  obtain ⟨q2, e3, h⟩ := h
  refine c_get (C := RX11) (T := TX11) (N := 9) (K := 10) (v := .ref q2) hx hb hts hinX11 hown hK hP hq hk (by decide) rfl 0 (by decide) (hts _ mwC_383) (fun _ h9 => h9) (by show some (va_rf (sR sh q 0)) = _; rw [e3]; rfl) dX11_last_7 ?_
  refine lv_aload_n hx hb dX11_last_10 rfl (lv_at hl 1 rfl) ?_
  refine c_get (C := RX11) (T := TX11) (N := 9) (K := 10) (v := .int (ci q 6)) hx hb hts hinX11 hown hK hP hq hk (by decide) rfl 6 (by decide) (hts _ mwC_380) (fun _ h9 => h9) rfl dX11_last_11 ?_
  obtain ⟨⟨hm4, hk5⟩, h⟩ := h
  refine c_endv (va_runV (rm := ({ frames := 4, cells := 0, slots := 0, locals := 60 })) (As := [.int (ci q 6)]) (rest := []) ⟨hx, hb, hml, hown, hts⟩ (p_X6_begin l dC dI sh _ _ _ q2 (ci q 6) _ h H.size) (cwV 1 hts (g_V gdC mwC_464 mwC_465 mwC_466 mwC_329 mwC_467) rfl rfl rfl hd_X6_begin ⟨Nat.le_of_ble_eq_true rfl, Nat.le_of_ble_eq_true rfl⟩) (c_preV (vc := (RX6, TX6, 2)) hK hP hD hG hm4 hk5 (by decide) rfl) rfl rfl hl.1 rfl (lv_room (Nat.le_of_ble_eq_true rfl)) dX11_last_14 ⟨Nat.le_of_ble_eq_true rfl, Nat.le_of_ble_eq_true rfl⟩) hD hS hA (fun ci6 ai6 al6 H locs h hP hD hS => ?_)
  refine lv_aload_n hx hb dX11_last_17 rfl (lv_at hl 0 rfl) ?_
  obtain ⟨⟨hm7, hk8⟩, h⟩ := h
  refine c_endi (c_runZ (rm := ({ frames := 301 + 5 * 100, cells := 0, slots := 0, locals := 6040 + 200 * 100 })) (y := yX5_reachAll) (x := ⟨"NeededLists$LazyList", "reachAll", "()I"⟩) (n := 0) (bytes := cX5_reachAll) (maxL := 1) (ret := (some .int)) (q := r1) (As := []) (rest := []) ⟨hx, hb, hml, hown, hts⟩ (p_X5_reachAll l dC dI sh 100 (pg l dC dI sh 100).1 (pg l dC dI sh 100).2 _ _ _ r1  _ h H.size) mwC_475 mwC_205 mwC_206 mwC_22 mwC_207 mwC_208 mwC_209 mwC_210 mwC_211 mwC_212 mwC_213 mwC_214 mwC_215 mwC_216 rfl (by decide +kernel) rfl rfl ⟨(show 301 + 5 * 100 + 1 ≤ 1000 by omega), (show 8 + (1 + 11) + (6040 + 200 * 100) ≤ 40000 by omega)⟩ hK hP hD hG hm7 hk8 rfl hl.1 rfl (Nat.le_of_ble_eq_true rfl) ⟨Nat.le_of_ble_eq_true rfl, Nat.le_of_ble_eq_true rfl⟩ dX11_last_18) hD hS hA (fun r9 ci9 ai9 al9 H locs h hP hD hS => ?_)
  refine lv_istore_n (lv' := [(3, .int r9), (2, .ref r1), (0, .ref q), (1, .int p0)]) hx hb dX11_last_21 rfl hl (by decide) rfl (fun ls hl => ?_)
  refine lv_iload_n hx hb dX11_last_22 rfl (lv_at hl 0 rfl) ?_
  refine lv_iconst (v := 2) hx hb dX11_last_23 (by decide) ?_
  refine lv_icmp_eq (tgt := 34) hx hb dX11_last_24 (by decide) (fun c_24 => ?_) (fun c_24 => ?_)
  · have h := h.1 c_24
    refine lv_aload_n hx hb dX11_last_34 rfl (lv_at hl 1 rfl) ?_
    refine r_endi (c_runZ (rm := ({ frames := 4, cells := 0, slots := 0, locals := 60 })) (y := yX5_there) (x := ⟨"NeededLists$LazyList", "there", "()I"⟩) (n := 0) (bytes := cX5_there) (maxL := 1) (ret := (some .int)) (q := r1) (As := []) (rest := []) ⟨hx, hb, hml, hown, hts⟩ (p_X5_there l dC dI sh _ _ _ r1  _ h H.size) mwC_476 mwC_20 mwC_21 mwC_22 mwC_23 mwC_24 mwC_25 mwC_26 mwC_27 mwC_28 mwC_29 mwC_30 mwC_31 mwC_32 rfl (by decide +kernel) rfl rfl ⟨Nat.le_of_ble_eq_true rfl, Nat.le_of_ble_eq_true rfl⟩ hK hP hD hG hm7 hk8 rfl hl.1 rfl (Nat.le_of_ble_eq_true rfl) ⟨Nat.le_of_ble_eq_true rfl, Nat.le_of_ble_eq_true rfl⟩ dX11_last_35) hP hS hA (fun r10 H locs h hP hS => ?_)
    refine lv_istore (lv' := [(4, .int r10), (3, .int r9), (2, .ref r1), (0, .ref q), (1, .int p0)]) hx hb dX11_last_38 hl (by decide) rfl (fun ls hl => ?_)
    refine lv_iload hx hb dX11_last_40 (lv_at hl 0 rfl) ?_
    refine lv_if_ne (tgt := 53) hx hb dX11_last_42 (by decide) (fun c_42 => ?_) (fun c_42 => ?_)
    · have h := h.1 c_42
      refine lv_aload_n hx hb dX11_last_53 rfl (lv_at hl 2 rfl) ?_
      refine lv_iload hx hb dX11_last_54 (lv_at hl 0 rfl) ?_
      refine lv_iconst (v := 1) hx hb dX11_last_56 (by decide) ?_
      refine lv_isub hx hb dX11_last_57 ?_
      refine c_endi (c_runZ (rm := ({ frames := 300 + 5 * 100, cells := 0, slots := 0, locals := 6000 + 200 * 100 })) (y := yX5_work) (x := ⟨"NeededLists$LazyList", "work", "(I)I"⟩) (n := 1) (bytes := cX5_work) (maxL := 4) (ret := (some .int)) (q := r1) (As := [.int (r10 - 1)]) (rest := []) ⟨hx, hb, hml, hown, hts⟩ ((pg l dC dI sh 100).2 _ _ _ r1 (r10 - 1) _ h H.size) mwC_469 mwC_159 mwC_160 mwC_22 mwC_161 mwC_162 mwC_163 mwC_164 mwC_165 mwC_166 mwC_167 mwC_168 mwC_169 mwC_170 rfl (by decide +kernel) rfl rfl ⟨(show 300 + 5 * 100 + 1 ≤ 1000 by omega), (show 8 + (4 + 11) + (6000 + 200 * 100) ≤ 40000 by omega)⟩ hK hP hD hG hm7 hk8 rfl hl.1 rfl (Nat.le_of_ble_eq_true rfl) ⟨Nat.le_of_ble_eq_true rfl, Nat.le_of_ble_eq_true rfl⟩ dX11_last_58) hD hS hA (fun r11 ci11 ai11 al11 H locs h hP hD hS => ?_)
      refine lv_istore (lv' := [(5, .int r11), (4, .int r10), (3, .int r9), (2, .ref r1), (0, .ref q), (1, .int p0)]) hx hb dX11_last_61 hl (by decide) rfl (fun ls hl => ?_)
      refine lv_aload_n hx hb dX11_last_63 rfl (lv_at hl 4 rfl) ?_
      refine lv_iload hx hb dX11_last_64 (lv_at hl 0 rfl) ?_
      refine lv_aload_n hx hb dX11_last_66 rfl (lv_at hl 3 rfl) ?_
      refine lv_iload hx hb dX11_last_67 (lv_at hl 1 rfl) ?_
      refine lv_iconst (v := 1) hx hb dX11_last_69 (by decide) ?_
      refine lv_isub hx hb dX11_last_70 ?_
      refine r_endl (c_runZ (rm := ({ frames := 20 + 2 * 30, cells := 0, slots := 0, locals := 300 + 50 * 30 })) (y := yX5_number) (x := ⟨"NeededLists$LazyList", "number", "(I)J"⟩) (n := 1) (bytes := cX5_number) (maxL := 3) (ret := (some .long)) (q := r1) (As := [.int (r10 - 1)]) (rest := [.int r11, .ref q]) ⟨hx, hb, hml, hown, hts⟩ (p_X5_number_f l dC dI sh 30 _ _ _ r1 (r10 - 1) _ h H.size) mwC_470 mwC_92 mwC_93 mwC_22 mwC_94 mwC_95 mwC_96 mwC_97 mwC_98 mwC_99 mwC_100 mwC_101 mwC_102 mwC_103 rfl (by decide +kernel) rfl rfl ⟨(show 20 + 2 * 30 + 1 ≤ 1000 by omega), (show 8 + (3 + 11) + (300 + 50 * 30) ≤ 40000 by omega)⟩ hK hP hD hG hm7 hk8 rfl hl.1 rfl (Nat.le_of_ble_eq_true rfl) ⟨Nat.le_of_ble_eq_true rfl, Nat.le_of_ble_eq_true rfl⟩ dX11_last_71) hP hS hA (fun r12 H locs h hP hS => ?_)
      refine xn_endl (va_runV (rm := ({ frames := 60, cells := 0, slots := 0, locals := 2000 })) (As := [.int r11, .long r12]) (rest := []) ⟨hx, hb, hml, hown, hts⟩ (p_X11_finish l dC dI _ _ _ _ q r11 r12 _ h H.size) (cwV 2 hts (g_V gdC mwC_472 mwC_473 mwC_474 mwC_119 mwC_471) rfl rfl rfl hd_X11_finish ⟨Nat.le_of_ble_eq_true rfl, Nat.le_of_ble_eq_true rfl⟩) (c_preV (vc := (RX11, TX11, 9)) hK hP hD hG hq hk (by decide) rfl) rfl rfl hl.1 rfl (lv_room (Nat.le_of_ble_eq_true rfl)) dX11_last_74 ⟨Nat.le_of_ble_eq_true rfl, Nat.le_of_ble_eq_true rfl⟩) hD hS hA (fun r13 sh13 ci13 ai13 al13 H locs h hK hP hD hS => ?_)
      refine W.widen (k := 3) (n := 20) (by decide) (by decide) ?_
      refine vx_ret ?_
      exact W.lret (v := r13) hx hb hr (fun t ht hW => ⟨⟨_, (sh13, ci13, ai13, al13), rfl, h, by rw [ht]; exact hP, cK.moved hW.alike hK, hD⟩, hS.F ht⟩) hS.2.2 dX11_last_77
    · have h := h.2 c_42
      refine lv_aload_n hx hb dX11_last_45 rfl (lv_at hl 3 rfl) ?_
      refine lv_bipush (v := 6) hx hb dX11_last_46 (by decide) ?_
      refine lv_lconst (v := 0) hx hb dX11_last_48 (by decide) ?_
      refine xn_endl (va_runV (rm := ({ frames := 60, cells := 0, slots := 0, locals := 2000 })) (As := [.int 6, .long 0]) (rest := []) ⟨hx, hb, hml, hown, hts⟩ (p_X11_finish l dC dI _ _ _ _ q 6 0 _ h H.size) (cwV 2 hts (g_V gdC mwC_472 mwC_473 mwC_474 mwC_119 mwC_471) rfl rfl rfl hd_X11_finish ⟨Nat.le_of_ble_eq_true rfl, Nat.le_of_ble_eq_true rfl⟩) (c_preV (vc := (RX11, TX11, 9)) hK hP hD hG hq hk (by decide) rfl) rfl rfl hl.1 rfl (lv_room (Nat.le_of_ble_eq_true rfl)) dX11_last_49 ⟨Nat.le_of_ble_eq_true rfl, Nat.le_of_ble_eq_true rfl⟩) hD hS hA (fun r14 sh14 ci14 ai14 al14 H locs h hK hP hD hS => ?_)
      refine W.widen (k := 3) (n := 20) (by decide) (by decide) ?_
      refine vx_ret ?_
      exact W.lret (v := r14) hx hb hr (fun t ht hW => ⟨⟨_, (sh14, ci14, ai14, al14), rfl, h, by rw [ht]; exact hP, cK.moved hW.alike hK, hD⟩, hS.F ht⟩) hS.2.2 dX11_last_52
  · have h := h.2 c_24
    refine lv_aload_n hx hb dX11_last_27 rfl (lv_at hl 2 rfl) ?_
    refine lv_iload_n hx hb dX11_last_28 rfl (lv_at hl 0 rfl) ?_
    refine lv_lconst (v := 0) hx hb dX11_last_29 (by decide) ?_
    refine xn_endl (va_runV (rm := ({ frames := 60, cells := 0, slots := 0, locals := 2000 })) (As := [.int r9, .long 0]) (rest := []) ⟨hx, hb, hml, hown, hts⟩ (p_X11_finish l dC dI _ _ _ _ q r9 0 _ h H.size) (cwV 2 hts (g_V gdC mwC_472 mwC_473 mwC_474 mwC_119 mwC_471) rfl rfl rfl hd_X11_finish ⟨Nat.le_of_ble_eq_true rfl, Nat.le_of_ble_eq_true rfl⟩) (c_preV (vc := (RX11, TX11, 9)) hK hP hD hG hq hk (by decide) rfl) rfl rfl hl.1 rfl (lv_room (Nat.le_of_ble_eq_true rfl)) dX11_last_30 ⟨Nat.le_of_ble_eq_true rfl, Nat.le_of_ble_eq_true rfl⟩) hD hS hA (fun r15 sh15 ci15 ai15 al15 H locs h hK hP hD hS => ?_)
    refine W.widen (k := 3) (n := 20) (by decide) (by decide) ?_
    refine vx_ret ?_
    exact W.lret (v := r15) hx hb hr (fun t ht hW => ⟨⟨_, (sh15, ci15, ai15, al15), rfl, h, by rw [ht]; exact hP, cK.moved hW.alike hK, hD⟩, hS.F ht⟩) hS.2.2 dX11_last_33
abbrev wmX11_reached : List Cond := .code yX11_reached cX11_reached 2 (some .int) :: WC
theorem hd_X11_reached : yX11_reached.cls = RX11 ∧ yX11_reached.cls ≠ "java/lang/invoke/MethodHandle" ∧ yX11_reached.cls ≠ "java/lang/invoke/VarHandle" ∧ (parseMethodDescriptor yX11_reached.desc).map (fun d => d.parameters.length) = some 1 := by decide +kernel
def P_X11_reached (sh : Sh) (ci : Nat → Nat → Int32) (ai : Nat → Nat → Int32) (al : Nat → Nat → Int64) (q : Nat) (p0 : Int32) (Q : Int32 → Sh → (Nat → Nat → Int32) → (Nat → Nat → Int32) → (Nat → Nat → Int64) → Prop) (X : String → Prop) : Prop := (q ∈ sL sh ∧ sK sh q = 10) ∧ P_X11_listOf sh ci ai al q p0 (fun r1 => (r1 ∈ sL sh ∧ isZ (sK sh r1)) ∧ Q (ci r1 3) sh ci ai al) X
set_option maxHeartbeats 4000000 in
set_option maxRecDepth 100000 in
theorem p_X11_reached (l : Launch) (hl0 : l.stackTraces = false) (dC : Nat → ClassId) (dI : Nat → Nat → Nat) (sh : Sh) (ci : Nat → Nat → Int32) (ai : Nat → Nat → Int32) (al : Nat → Nat → Int64) (q : Nat) (p0 : Int32) (Q : Int32 → Sh → (Nat → Nat → Int32) → (Nat → Nat → Int32) → (Nat → Nat → Int64) → Prop) (X : String → Prop) (h : P_X11_reached sh ci ai al q p0 Q X) (sz : Nat) : vx_Met l yX11_reached wmX11_reached ({ frames := 1000, cells := 3, slots := 20, locals := 40000 }) (va_Pc [.ref q, .int p0] (xPre dC dI sh ci ai al sz)) (va_Qi (S := XSt) (xI Q) (xB dC dI (va_A (cW sh ci ai al) sz)) (va_A (cW sh ci ai al) sz)) (XC X sz) 3 20 (va_A (cW sh ci ai al) sz) := by
  refine vx_ofW (cc := cX11_reached) (maxL := 2) (ret := (some .int)) (by decide) rfl ?_
  intro p e s m args below meth c s₁ B hml htab hv
  obtain ⟨rfl, ⟨hsz, hP, hK, hD0, hG⟩, hZ⟩ := hv
  have hx := B.exec
  have hb := B.bytes
  have hr := B.returns
  have hts : ∀ w ∈ WC, w.before _ s = true := fun w h => atoms_spec (ws := wmX11_reached) B.pre w (List.mem_cons_of_mem _ h)
  have hown : s.vm.findClass RX11 = some m.cls := findClass_of_methodNamed B.named
  have hlocks := B.notSynchronized
  subst hsz
  have hD := hD0.self (sz := s.heap.size)
  generalize hAe : va_A (cW sh ci ai al) s.heap.size = A at hD hZ ⊢
  have hA : ∀ q : Nat, s.heap.size ≤ q → A q := fun q h => by rw [← hAe]; exact Or.inr h
  generalize hz9 : s.heap.size = z9
  generalize hH : s.heap = H at hP ⊢
  subst hz9
  have hS : va_S A s.heap H [] := by rw [← hH]; exact va_S.rf
  have hE : xE s.heap H := by rw [← hH]; exact xE.rf
  have hl := lv_entry [.ref q, .int p0] (n := 2) (Nat.le_of_ble_eq_true rfl)
  rw [lg_entry_eq]
  generalize (lg_sl [.ref q, .int p0] ++ List.replicate (2 - (lg_sl [.ref q, .int p0]).length) Slot.unset).toArray = ls at hl ⊢
  have hl : lv_has ls 2 [(0, .ref q), (1, .int p0)] := hl
  unfold P_X11_reached at h
  obtain ⟨⟨hq, hk⟩, h⟩ := h
  refine lv_aload_n hx hb dX11_reached_0 rfl (lv_at hl 0 rfl) ?_
  refine lv_iload_n hx hb dX11_reached_1 rfl (lv_at hl 1 rfl) ?_
  refine xr_endr (cells := 0) (slots := 0) (mc0 := 3) (ms0 := 20) (vx_runV (rm := ({ frames := 20, cells := 1, slots := 6, locals := 300 })) (As := [.int p0]) (rest := []) ⟨hx, hb, hml, hown, hts⟩ (p_X11_listOf l hl0 dC dI _ _ _ _ q p0 _ _ h H.size) (cwV 1 hts (g_V gdC mwC_436 mwC_437 mwC_438 mwC_119 mwC_435) rfl rfl rfl hd_X11_listOf ⟨Nat.le_of_ble_eq_true rfl, Nat.le_of_ble_eq_true rfl⟩) (x_preV hK hP hD hS hA hS hG hZ hq hk) rfl rfl hl.1 rfl (lv_room (Nat.le_of_ble_eq_true rfl)) dX11_reached_2 ⟨Nat.le_of_ble_eq_true rfl, Nat.le_of_ble_eq_true rfl⟩) hE hS hP hA (fun x h => (htab x h).elim) hlocks (Nat.le_of_ble_eq_true rfl) (Nat.le_of_ble_eq_true rfl) (fun r1 H locs h hE hP hS => ?_)
  obtain ⟨⟨hm2, hk3⟩, h⟩ := h
  refine c_getNZ hx hb hts hown hK hP hG hm2 hk3 dX11_reached_5 ?_
  refine W.widen (k := 3) (n := 20) (by decide) (by decide) ?_
  refine vx_ret ?_
  exact W.iret (v := (ci r1 3)) hx hb hr (fun t ht hW => ⟨⟨_, (sh, ci, ai, al), rfl, h, by rw [ht]; exact hP, cK.moved hW.alike hK, hD⟩, hS.F ht⟩) hS.2.2 dX11_reached_8
abbrev wmX11_worked : List Cond := .code yX11_worked cX11_worked 4 (some .boolean) :: WC
theorem hd_X11_worked : yX11_worked.cls = RX11 ∧ yX11_worked.cls ≠ "java/lang/invoke/MethodHandle" ∧ yX11_worked.cls ≠ "java/lang/invoke/VarHandle" ∧ (parseMethodDescriptor yX11_worked.desc).map (fun d => d.parameters.length) = some 2 := by decide +kernel
def P_X11_worked (sh : Sh) (ci : Nat → Nat → Int32) (ai : Nat → Nat → Int32) (al : Nat → Nat → Int64) (q : Nat) (p0 : Int32) (p1 : Int32) (Q : Int32 → Sh → (Nat → Nat → Int32) → (Nat → Nat → Int32) → (Nat → Nat → Int64) → Prop) (X : String → Prop) : Prop := (q ∈ sL sh ∧ sK sh q = 10) ∧ P_X11_listOf sh ci ai al q p0 (fun r1 => ((p1 < 0) → (Q 0 sh ci ai al)) ∧ ((¬ p1 < 0) → ((r1 ∈ sL sh ∧ isZ (sK sh r1)) ∧ P_X5_there sh ci ai al r1  (fun r4 => ((r4 ≤ p1) → (Q 0 sh ci ai al)) ∧ ((¬ r4 ≤ p1) → (P_X5_isWorked_f sh 30 ci ai al r1 p1 (fun r5 => ((r5 = 0) → (Q 0 sh ci ai al)) ∧ ((¬ r5 = 0) → (Q 1 sh ci ai al))))))))) X
set_option maxHeartbeats 4000000 in
set_option maxRecDepth 100000 in
theorem p_X11_worked (l : Launch) (hl0 : l.stackTraces = false) (dC : Nat → ClassId) (dI : Nat → Nat → Nat) (sh : Sh) (ci : Nat → Nat → Int32) (ai : Nat → Nat → Int32) (al : Nat → Nat → Int64) (q : Nat) (p0 : Int32) (p1 : Int32) (Q : Int32 → Sh → (Nat → Nat → Int32) → (Nat → Nat → Int32) → (Nat → Nat → Int64) → Prop) (X : String → Prop) (h : P_X11_worked sh ci ai al q p0 p1 Q X) (sz : Nat) : vx_Met l yX11_worked wmX11_worked ({ frames := 1000, cells := 3, slots := 20, locals := 40000 }) (va_Pc [.ref q, .int p0, .int p1] (xPre dC dI sh ci ai al sz)) (va_Qi (S := XSt) (xI Q) (xB dC dI (va_A (cW sh ci ai al) sz)) (va_A (cW sh ci ai al) sz)) (XC X sz) 3 20 (va_A (cW sh ci ai al) sz) := by
  refine vx_ofW (cc := cX11_worked) (maxL := 4) (ret := (some .boolean)) (by decide) rfl ?_
  intro p e s m args below meth c s₁ B hml htab hv
  obtain ⟨rfl, ⟨hsz, hP, hK, hD0, hG⟩, hZ⟩ := hv
  have hx := B.exec
  have hb := B.bytes
  have hr := B.returns
  have hts : ∀ w ∈ WC, w.before _ s = true := fun w h => atoms_spec (ws := wmX11_worked) B.pre w (List.mem_cons_of_mem _ h)
  have hown : s.vm.findClass RX11 = some m.cls := findClass_of_methodNamed B.named
  have hlocks := B.notSynchronized
  subst hsz
  have hD := hD0.self (sz := s.heap.size)
  generalize hAe : va_A (cW sh ci ai al) s.heap.size = A at hD hZ ⊢
  have hA : ∀ q : Nat, s.heap.size ≤ q → A q := fun q h => by rw [← hAe]; exact Or.inr h
  generalize hz9 : s.heap.size = z9
  generalize hH : s.heap = H at hP ⊢
  subst hz9
  have hS : va_S A s.heap H [] := by rw [← hH]; exact va_S.rf
  have hE : xE s.heap H := by rw [← hH]; exact xE.rf
  have hl := lv_entry [.ref q, .int p0, .int p1] (n := 4) (Nat.le_of_ble_eq_true rfl)
  rw [lg_entry_eq]
  generalize (lg_sl [.ref q, .int p0, .int p1] ++ List.replicate (4 - (lg_sl [.ref q, .int p0, .int p1]).length) Slot.unset).toArray = ls at hl ⊢
  have hl : lv_has ls 4 [(0, .ref q), (1, .int p0), (2, .int p1)] := hl
  unfold P_X11_worked at h
  obtain ⟨⟨hq, hk⟩, h⟩ := h
  refine lv_aload_n hx hb dX11_worked_0 rfl (lv_at hl 0 rfl) ?_
  refine lv_iload_n hx hb dX11_worked_1 rfl (lv_at hl 1 rfl) ?_
  refine xr_endr (cells := 0) (slots := 0) (mc0 := 3) (ms0 := 20) (vx_runV (rm := ({ frames := 20, cells := 1, slots := 6, locals := 300 })) (As := [.int p0]) (rest := []) ⟨hx, hb, hml, hown, hts⟩ (p_X11_listOf l hl0 dC dI _ _ _ _ q p0 _ _ h H.size) (cwV 1 hts (g_V gdC mwC_436 mwC_437 mwC_438 mwC_119 mwC_435) rfl rfl rfl hd_X11_listOf ⟨Nat.le_of_ble_eq_true rfl, Nat.le_of_ble_eq_true rfl⟩) (x_preV hK hP hD hS hA hS hG hZ hq hk) rfl rfl hl.1 rfl (lv_room (Nat.le_of_ble_eq_true rfl)) dX11_worked_2 ⟨Nat.le_of_ble_eq_true rfl, Nat.le_of_ble_eq_true rfl⟩) hE hS hP hA (fun x h => (htab x h).elim) hlocks (Nat.le_of_ble_eq_true rfl) (Nat.le_of_ble_eq_true rfl) (fun r1 H locs h hE hP hS => ?_)
  refine lv_astore_n (lv' := [(3, .ref r1), (0, .ref q), (1, .int p0), (2, .int p1)]) hx hb dX11_worked_5 rfl hl (by decide) rfl (fun ls hl => ?_)
  refine lv_iload_n hx hb dX11_worked_6 rfl (lv_at hl 3 rfl) ?_
  refine lv_if_lt (tgt := 30) hx hb dX11_worked_7 (by decide) (fun c_7 => ?_) (fun c_7 => ?_)
  · have h := h.1 c_7
    refine lv_iconst (v := 0) hx hb dX11_worked_30 (by decide) ?_
    refine W.widen (k := 3) (n := 20) (by decide) (by decide) ?_
    refine vx_ret ?_
    exact W.zret (v := 0) hx hb hr (by decide) (fun t ht hW => ⟨⟨_, (sh, ci, ai, al), rfl, h, by rw [ht]; exact hP, cK.moved hW.alike hK, hD⟩, hS.F ht⟩) hS.2.2 dX11_worked_31
  · have h := h.2 c_7
    refine lv_iload_n hx hb dX11_worked_10 rfl (lv_at hl 3 rfl) ?_
    refine lv_aload_n hx hb dX11_worked_11 rfl (lv_at hl 0 rfl) ?_
    obtain ⟨⟨hm2, hk3⟩, h⟩ := h
    refine r_endi (c_runZ (rm := ({ frames := 4, cells := 0, slots := 0, locals := 60 })) (y := yX5_there) (x := ⟨"NeededLists$LazyList", "there", "()I"⟩) (n := 0) (bytes := cX5_there) (maxL := 1) (ret := (some .int)) (q := r1) (As := []) (rest := [.int p1]) ⟨hx, hb, hml, hown, hts⟩ (p_X5_there l dC dI sh _ _ _ r1  _ h H.size) mwC_476 mwC_20 mwC_21 mwC_22 mwC_23 mwC_24 mwC_25 mwC_26 mwC_27 mwC_28 mwC_29 mwC_30 mwC_31 mwC_32 rfl (by decide +kernel) rfl rfl ⟨Nat.le_of_ble_eq_true rfl, Nat.le_of_ble_eq_true rfl⟩ hK hP hD hG hm2 hk3 rfl hl.1 rfl (Nat.le_of_ble_eq_true rfl) ⟨Nat.le_of_ble_eq_true rfl, Nat.le_of_ble_eq_true rfl⟩ dX11_worked_12) hP hS hA (fun r4 H locs h hP hS => ?_)
    refine lv_icmp_ge (tgt := 30) hx hb dX11_worked_15 (by decide) (fun c_15 => ?_) (fun c_15 => ?_)
    · have h := h.1 c_15
      refine lv_iconst (v := 0) hx hb dX11_worked_30 (by decide) ?_
      refine W.widen (k := 3) (n := 20) (by decide) (by decide) ?_
      refine vx_ret ?_
      exact W.zret (v := 0) hx hb hr (by decide) (fun t ht hW => ⟨⟨_, (sh, ci, ai, al), rfl, h, by rw [ht]; exact hP, cK.moved hW.alike hK, hD⟩, hS.F ht⟩) hS.2.2 dX11_worked_31
    · have h := h.2 c_15
      refine lv_aload_n hx hb dX11_worked_18 rfl (lv_at hl 0 rfl) ?_
      refine lv_iload_n hx hb dX11_worked_19 rfl (lv_at hl 3 rfl) ?_
      refine r_endi (c_runZ (rm := ({ frames := 20 + 2 * 30, cells := 0, slots := 0, locals := 300 + 50 * 30 })) (y := yX5_isWorked) (x := ⟨"NeededLists$LazyList", "isWorked", "(I)Z"⟩) (n := 1) (bytes := cX5_isWorked) (maxL := 3) (ret := (some .boolean)) (q := r1) (As := [.int p1]) (rest := []) ⟨hx, hb, hml, hown, hts⟩ (p_X5_isWorked_f l dC dI sh 30 _ _ _ r1 p1 _ h H.size) mwC_481 mwC_106 mwC_107 mwC_22 mwC_108 mwC_109 mwC_110 mwC_111 mwC_112 mwC_113 mwC_114 mwC_115 mwC_116 mwC_117 rfl (by decide +kernel) rfl rfl ⟨(show 20 + 2 * 30 + 1 ≤ 1000 by omega), (show 8 + (3 + 11) + (300 + 50 * 30) ≤ 40000 by omega)⟩ hK hP hD hG hm2 hk3 rfl hl.1 rfl (Nat.le_of_ble_eq_true rfl) ⟨Nat.le_of_ble_eq_true rfl, Nat.le_of_ble_eq_true rfl⟩ dX11_worked_20) hP hS hA (fun r5 H locs h hP hS => ?_)
      refine lv_if_eq (tgt := 30) hx hb dX11_worked_23 (by decide) (fun c_23 => ?_) (fun c_23 => ?_)
      · have h := h.1 c_23
        refine lv_iconst (v := 0) hx hb dX11_worked_30 (by decide) ?_
        refine W.widen (k := 3) (n := 20) (by decide) (by decide) ?_
        refine vx_ret ?_
        exact W.zret (v := 0) hx hb hr (by decide) (fun t ht hW => ⟨⟨_, (sh, ci, ai, al), rfl, h, by rw [ht]; exact hP, cK.moved hW.alike hK, hD⟩, hS.F ht⟩) hS.2.2 dX11_worked_31
      · have h := h.2 c_23
        refine lv_iconst (v := 1) hx hb dX11_worked_26 (by decide) ?_
        refine lv_goto (tgt := 31) hx hb dX11_worked_27 (by decide) ?_
        refine W.widen (k := 3) (n := 20) (by decide) (by decide) ?_
        refine vx_ret ?_
        exact W.zret (v := 1) hx hb hr (by decide) (fun t ht hW => ⟨⟨_, (sh, ci, ai, al), rfl, h, by rw [ht]; exact hP, cK.moved hW.alike hK, hD⟩, hS.F ht⟩) hS.2.2 dX11_worked_31
