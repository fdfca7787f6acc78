abbrev cX11_other : ByteArray := prog_1_method_17_code
def yX11_other : MethodName := ⟨RX11, "other", "(II)I"⟩
abbrev cX11_at : ByteArray := prog_1_method_21_code
def yX11_at : MethodName := ⟨RX11, "at", "(II)J"⟩
theorem dX11_other_0 : decode cX11_other 0 = .ok (.aload_n 0, 1) := by decide +kernel
theorem dX11_other_1 : decode cX11_other 1 = .ok (.iload_n 1, 1) := by decide +kernel
theorem dX11_other_2 : decode cX11_other 2 = .ok (.invokevirtual 87, 3) := by decide +kernel
theorem dX11_other_5 : decode cX11_other 5 = .ok (.astore_n 3, 1) := by decide +kernel
theorem dX11_other_6 : decode cX11_other 6 = .ok (.iload_n 2, 1) := by decide +kernel
theorem dX11_other_7 : decode cX11_other 7 = .ok (.ifCond .lt 8, 3) := by decide +kernel
theorem dX11_other_10 : decode cX11_other 10 = .ok (.iload_n 2, 1) := by decide +kernel
theorem dX11_other_11 : decode cX11_other 11 = .ok (.iconst 4, 1) := by decide +kernel
theorem dX11_other_12 : decode cX11_other 12 = .ok (.if_icmp .le 13, 3) := by decide +kernel
theorem dX11_other_15 : decode cX11_other 15 = .ok (.new 38, 3) := by decide +kernel
theorem dX11_other_18 : decode cX11_other 18 = .ok (.dup, 1) := by decide +kernel
theorem dX11_other_19 : decode cX11_other 19 = .ok (.ldc 120, 2) := by decide +kernel
theorem dX11_other_21 : decode cX11_other 21 = .ok (.invokespecial 42, 3) := by decide +kernel
theorem dX11_other_24 : decode cX11_other 24 = .ok (.athrow, 1) := by decide +kernel
theorem dX11_other_25 : decode cX11_other 25 = .ok (.aload_n 0, 1) := by decide +kernel
theorem dX11_other_26 : decode cX11_other 26 = .ok (.invokevirtual 53, 3) := by decide +kernel
theorem dX11_other_29 : decode cX11_other 29 = .ok (.aload_n 0, 1) := by decide +kernel
theorem dX11_other_30 : decode cX11_other 30 = .ok (.aload_n 0, 1) := by decide +kernel
theorem dX11_other_31 : decode cX11_other 31 = .ok (.aload_n 3, 1) := by decide +kernel
theorem dX11_other_32 : decode cX11_other 32 = .ok (.iload_n 2, 1) := by decide +kernel
theorem dX11_other_33 : decode cX11_other 33 = .ok (.invokevirtual 122, 3) := by decide +kernel
theorem dX11_other_36 : decode cX11_other 36 = .ok (.invokevirtual 70, 3) := by decide +kernel
theorem dX11_other_39 : decode cX11_other 39 = .ok (.ireturn, 1) := by decide +kernel
theorem dX11_at_0 : decode cX11_at 0 = .ok (.aload_n 0, 1) := by decide +kernel
theorem dX11_at_1 : decode cX11_at 1 = .ok (.iload_n 1, 1) := by decide +kernel
theorem dX11_at_2 : decode cX11_at 2 = .ok (.invokevirtual 87, 3) := by decide +kernel
theorem dX11_at_5 : decode cX11_at 5 = .ok (.astore_n 3, 1) := by decide +kernel
theorem dX11_at_6 : decode cX11_at 6 = .ok (.iload_n 2, 1) := by decide +kernel
theorem dX11_at_7 : decode cX11_at 7 = .ok (.ifCond .ge 13, 3) := by decide +kernel
theorem dX11_at_10 : decode cX11_at 10 = .ok (.new 38, 3) := by decide +kernel
theorem dX11_at_13 : decode cX11_at 13 = .ok (.dup, 1) := by decide +kernel
theorem dX11_at_14 : decode cX11_at 14 = .ok (.ldc 141, 2) := by decide +kernel
theorem dX11_at_16 : decode cX11_at 16 = .ok (.invokespecial 42, 3) := by decide +kernel
theorem dX11_at_19 : decode cX11_at 19 = .ok (.athrow, 1) := by decide +kernel
theorem dX11_at_20 : decode cX11_at 20 = .ok (.aload_n 0, 1) := by decide +kernel
theorem dX11_at_21 : decode cX11_at 21 = .ok (.getfield 12, 3) := by decide +kernel
theorem dX11_at_24 : decode cX11_at 24 = .ok (.aload_n 0, 1) := by decide +kernel
theorem dX11_at_25 : decode cX11_at 25 = .ok (.getfield 30, 3) := by decide +kernel
theorem dX11_at_28 : decode cX11_at 28 = .ok (.invokevirtual 143, 3) := by decide +kernel
theorem dX11_at_31 : decode cX11_at 31 = .ok (.aload_n 3, 1) := by decide +kernel
theorem dX11_at_32 : decode cX11_at 32 = .ok (.iload_n 2, 1) := by decide +kernel
theorem dX11_at_33 : decode cX11_at 33 = .ok (.invokevirtual 146, 3) := by decide +kernel
theorem dX11_at_36 : decode cX11_at 36 = .ok (.istore 4, 2) := by decide +kernel
theorem dX11_at_38 : decode cX11_at 38 = .ok (.iload 4, 2) := by decide +kernel
theorem dX11_at_40 : decode cX11_at 40 = .ok (.iconst 1, 1) := by decide +kernel
theorem dX11_at_41 : decode cX11_at 41 = .ok (.if_icmp .eq 22, 3) := by decide +kernel
theorem dX11_at_44 : decode cX11_at 44 = .ok (.aload_n 0, 1) := by decide +kernel
theorem dX11_at_45 : decode cX11_at 45 = .ok (.iload 4, 2) := by decide +kernel
theorem dX11_at_47 : decode cX11_at 47 = .ok (.iconst 2, 1) := by decide +kernel
theorem dX11_at_48 : decode cX11_at 48 = .ok (.if_icmp .ne 8, 3) := by decide +kernel
theorem dX11_at_51 : decode cX11_at 51 = .ok (.bipush 7, 2) := by decide +kernel
theorem dX11_at_53 : decode cX11_at 53 = .ok (.goto 5, 3) := by decide +kernel
theorem dX11_at_56 : decode cX11_at 56 = .ok (.iload 4, 2) := by decide +kernel
theorem dX11_at_58 : decode cX11_at 58 = .ok (.lconst 0, 1) := by decide +kernel
theorem dX11_at_59 : decode cX11_at 59 = .ok (.invokevirtual 150, 3) := by decide +kernel
theorem dX11_at_62 : decode cX11_at 62 = .ok (.lreturn, 1) := by decide +kernel
theorem dX11_at_63 : decode cX11_at 63 = .ok (.aload_n 3, 1) := by decide +kernel
theorem dX11_at_64 : decode cX11_at 64 = .ok (.iload_n 2, 1) := by decide +kernel
theorem dX11_at_65 : decode cX11_at 65 = .ok (.invokevirtual 154, 3) := by decide +kernel
theorem dX11_at_68 : decode cX11_at 68 = .ok (.istore 5, 2) := by decide +kernel
theorem dX11_at_70 : decode cX11_at 70 = .ok (.aload_n 0, 1) := by decide +kernel
theorem dX11_at_71 : decode cX11_at 71 = .ok (.iload 5, 2) := by decide +kernel
theorem dX11_at_73 : decode cX11_at 73 = .ok (.aload_n 3, 1) := by decide +kernel
theorem dX11_at_74 : decode cX11_at 74 = .ok (.iload_n 2, 1) := by decide +kernel
theorem dX11_at_75 : decode cX11_at 75 = .ok (.invokevirtual 157, 3) := by decide +kernel
theorem dX11_at_78 : decode cX11_at 78 = .ok (.invokevirtual 150, 3) := by decide +kernel
theorem dX11_at_81 : decode cX11_at 81 = .ok (.lreturn, 1) := by decide +kernel
abbrev wmX11_other : List Cond := .code yX11_other cX11_other 4 (some .int) :: WC
theorem hd_X11_other : yX11_other.cls = RX11 ∧ yX11_other.cls ≠ "java/lang/invoke/MethodHandle" ∧ yX11_other.cls ≠ "java/lang/invoke/VarHandle" ∧ (parseMethodDescriptor yX11_other.desc).map (fun d => d.parameters.length) = some 2 := by decide +kernel
def P_X11_other (sh : Sh) (ci : Nat → Nat → Int32) (ai : Nat → Nat → Int32) (al : Nat → Nat → Int64) (q : Nat) (p0 : Int32) (p1 : Int32) (Q : Int32 → Sh → (Nat → Nat → Int32) → (Nat → Nat → Int32) → (Nat → Nat → Int64) → Prop) (X : String → Prop) : Prop := (q ∈ sL sh ∧ sK sh q = 10) ∧ P_X11_listOf sh ci ai al q p0 (fun r1 => ((p1 < 0) → (X "java/lang/IllegalArgumentException")) ∧ ((¬ p1 < 0) → (((p1 ≤ 4) → (P_X11_checkRoom sh ci ai al q  (P_X11_otherList sh ci ai al q r1 p1 (fun r3 sh3 ci3 ai3 al3 => (q ∈ sL sh3 ∧ sK sh3 q = 10) ∧ P_X11_addList sh3 ci3 ai3 al3 q r3 (fun r6 sh6 ci6 ai6 al6 => Q r6 sh6 ci6 ai6 al6))) X)) ∧ ((¬ p1 ≤ 4) → (X "java/lang/IllegalArgumentException"))))) X
set_option maxHeartbeats 4000000 in
set_option maxRecDepth 100000 in
theorem p_X11_other (l : Launch) (hl0 : l.stackTraces = false) (dC : Nat → ClassId) (dI : Nat → Nat → Nat) (sh : Sh) (ci : Nat → Nat → Int32) (ai : Nat → Nat → Int32) (al : Nat → Nat → Int64) (q : Nat) (p0 : Int32) (p1 : Int32) (Q : Int32 → Sh → (Nat → Nat → Int32) → (Nat → Nat → Int32) → (Nat → Nat → Int64) → Prop) (X : String → Prop) (h : P_X11_other sh ci ai al q p0 p1 Q X) (sz : Nat) : vx_Met l yX11_other wmX11_other ({ frames := 100, cells := 8, slots := 2000, locals := 3000 }) (va_Pc [.ref q, .int p0, .int p1] (xPre dC dI sh ci ai al sz)) (va_Qi (S := XSt) (xI Q) (xB dC dI (va_A (cW sh ci ai al) sz)) (va_A (cW sh ci ai al) sz)) (XC X sz) 8 2000 (va_A (cW sh ci ai al) sz) := by
  refine vx_ofW (cc := cX11_other) (maxL := 4) (ret := (some .int)) (by decide) rfl ?_
  intro p e s m args below meth c s₁ B hml htab hv
  obtain ⟨rfl, ⟨hsz, hP, hK, hD0, hG⟩, hZ⟩ := hv
  have hx := B.exec
  have hb := B.bytes
  have hr := B.returns
  have hts : ∀ w ∈ WC, w.before _ s = true := fun w h => atoms_spec (ws := wmX11_other) B.pre w (List.mem_cons_of_mem _ h)
  have hown : s.vm.findClass RX11 = some m.cls := findClass_of_methodNamed B.named
  have hlocks := B.notSynchronized
  subst hsz
  have hD := hD0.self (sz := s.heap.size)
  generalize hAe : va_A (cW sh ci ai al) s.heap.size = A at hD hZ ⊢
  have hA : ∀ q : Nat, s.heap.size ≤ q → A q := fun q h => by rw [← hAe]; exact Or.inr h
  generalize hz9 : s.heap.size = z9
  generalize hH : s.heap = H at hP ⊢
  subst hz9
  have hS : va_S A s.heap H [] := by rw [← hH]; exact va_S.rf
  have hE : xE s.heap H := by rw [← hH]; exact xE.rf
  have hl := lv_entry [.ref q, .int p0, .int p1] (n := 4) (Nat.le_of_ble_eq_true rfl)
  rw [lg_entry_eq]
  generalize (lg_sl [.ref q, .int p0, .int p1] ++ List.replicate (4 - (lg_sl [.ref q, .int p0, .int p1]).length) Slot.unset).toArray = ls at hl ⊢
  have hl : lv_has ls 4 [(0, .ref q), (1, .int p0), (2, .int p1)] := hl
  unfold P_X11_other at h
  obtain ⟨⟨hq, hk⟩, h⟩ := h
  refine lv_aload_n hx hb dX11_other_0 rfl (lv_at hl 0 rfl) ?_
  refine lv_iload_n hx hb dX11_other_1 rfl (lv_at hl 1 rfl) ?_
  refine xr_endr (cells := 0) (slots := 0) (mc0 := 8) (ms0 := 2000) (vx_runV (rm := ({ frames := 20, cells := 1, slots := 6, locals := 300 })) (As := [.int p0]) (rest := []) ⟨hx, hb, hml, hown, hts⟩ (p_X11_listOf l hl0 dC dI _ _ _ _ q p0 _ _ h H.size) (cwV 1 hts (g_V gdC mwC_436 mwC_437 mwC_438 mwC_119 mwC_435) rfl rfl rfl hd_X11_listOf ⟨Nat.le_of_ble_eq_true rfl, Nat.le_of_ble_eq_true rfl⟩) (x_preV hK hP hD hS hA hS hG hZ hq hk) rfl rfl hl.1 rfl (lv_room (Nat.le_of_ble_eq_true rfl)) dX11_other_2 ⟨Nat.le_of_ble_eq_true rfl, Nat.le_of_ble_eq_true rfl⟩) hE hS hP hA (fun x h => (htab x h).elim) hlocks (Nat.le_of_ble_eq_true rfl) (Nat.le_of_ble_eq_true rfl) (fun r1 H locs h hE hP hS => ?_)
  refine lv_astore_n (lv' := [(3, .ref r1), (0, .ref q), (1, .int p0), (2, .int p1)]) hx hb dX11_other_5 rfl hl (by decide) rfl (fun ls hl => ?_)
  refine lv_iload_n hx hb dX11_other_6 rfl (lv_at hl 3 rfl) ?_
  refine lv_if_lt (tgt := 15) hx hb dX11_other_7 (by decide) (fun c_7 => ?_) (fun c_7 => ?_)
  · have h := h.1 c_7
    obtain ⟨sa, hsa⟩ := hG.t120
    exact vx_throwS (A := A) (own := RX11) (cls := "java/lang/IllegalArgumentException") (text := "sort is not 0 .. 4") (names := ["java/lang/RuntimeException", "java/lang/Exception"]) (sa := sa) (rest := []) hx hb hl0 hown (by decide) (by decide) (hts _ mwC_371) (hts _ mwC_372) hsa (vx_hat (B := [.castable "java/lang/IllegalArgumentException" "java/lang/IllegalArgumentException", .declares ⟨"java/lang/RuntimeException", "<init>", "(Ljava/lang/String;)V"⟩, .declares ⟨"java/lang/Exception", "<init>", "(Ljava/lang/String;)V"⟩, .declares ⟨"java/lang/Throwable", "<init>", "(Ljava/lang/String;)V"⟩]) (fun w h => hts w (xat_IAE w h)) (by decide +kernel) (vx_c (va_Nw.use rfl hG.xIAE) (vx_c (va_Nw.use rfl hG.dR) (vx_c (va_Nw.use rfl hG.dE) (vx_c (va_Nw.use rfl hG.dT) vx_n))))) (by decide +kernel) hZ.1 hZ.2 hS (hl.1.trans hml.symm) dX11_other_15 dX11_other_18 dX11_other_19 dX11_other_21 dX11_other_24 (fun x h => (htab x h).elim) (Nat.le_of_ble_eq_true rfl) (Nat.le_of_ble_eq_true rfl) (Nat.le_of_ble_eq_true rfl) (Nat.le_of_ble_eq_true rfl) hlocks (fun t hvm hz hq => ⟨(), trivial, h, Nat.le_trans hE.1 hz, fun q h1 h2 => (hq q (Nat.lt_of_lt_of_le h1 hE.1)).trans (hE.2 q h1)⟩) hS.2.2 (Nat.le_of_ble_eq_true rfl) (Nat.le_of_ble_eq_true rfl)
  · have h := h.2 c_7
    refine lv_iload_n hx hb dX11_other_10 rfl (lv_at hl 3 rfl) ?_
    refine lv_iconst (v := 4) hx hb dX11_other_11 (by decide) ?_
    refine lv_icmp_le (tgt := 25) hx hb dX11_other_12 (by decide) (fun c_12 => ?_) (fun c_12 => ?_)
    · have h := h.1 c_12
      refine lv_aload_n hx hb dX11_other_25 rfl (lv_at hl 1 rfl) ?_
      refine xr_endv (cells := 1) (slots := 6) (mc0 := 8) (ms0 := 2000) (vx_runV (rm := ({ frames := 20, cells := 1, slots := 6, locals := 300 })) (As := []) (rest := []) ⟨hx, hb, hml, hown, hts⟩ (p_X11_checkRoom l hl0 dC dI _ _ _ _ q  _ _ h H.size) (cwV 0 hts (g_V gdC mwC_405 mwC_406 mwC_407 mwC_119 mwC_404) rfl rfl rfl hd_X11_checkRoom ⟨Nat.le_of_ble_eq_true rfl, Nat.le_of_ble_eq_true rfl⟩) (x_preV hK hP hD hS hA hS hG hZ hq hk) rfl rfl hl.1 rfl (lv_room (Nat.le_of_ble_eq_true rfl)) dX11_other_26 ⟨Nat.le_of_ble_eq_true rfl, Nat.le_of_ble_eq_true rfl⟩) hE hS hP hA (fun x h => (htab x h).elim) hlocks (Nat.le_of_ble_eq_true rfl) (Nat.le_of_ble_eq_true rfl) (fun H locs h hE hP hS => ?_)
      refine lv_aload_n hx hb dX11_other_29 rfl (lv_at hl 1 rfl) ?_
      refine lv_aload_n hx hb dX11_other_30 rfl (lv_at hl 1 rfl) ?_
      refine lv_aload_n hx hb dX11_other_31 rfl (lv_at hl 0 rfl) ?_
      refine lv_iload_n hx hb dX11_other_32 rfl (lv_at hl 3 rfl) ?_
      refine xn_endr (va_runV (rm := ({ frames := 60, cells := 4, slots := 1210, locals := 2000 })) (As := [.ref r1, .int p1]) (rest := [.ref q]) ⟨hx, hb, hml, hown, hts⟩ (p_X11_otherList l dC dI _ _ _ _ q r1 p1 _ h H.size) (cwV 2 hts (g_V gdC mwC_461 mwC_462 mwC_463 mwC_119 mwC_460) rfl rfl rfl hd_X11_otherList ⟨Nat.le_of_ble_eq_true rfl, Nat.le_of_ble_eq_true rfl⟩) (c_preV (vc := (RX11, TX11, 9)) hK hP hD hG hq hk (by decide) rfl) rfl rfl hl.1 rfl (lv_room (Nat.le_of_ble_eq_true rfl)) dX11_other_33 ⟨Nat.le_of_ble_eq_true rfl, Nat.le_of_ble_eq_true rfl⟩) hD hS hA (fun r3 sh3 ci3 ai3 al3 H locs h hK hP hD hS => ?_)
      obtain ⟨⟨hm4, hk5⟩, h⟩ := h
      refine xn_endi (va_runV (rm := ({ frames := 60, cells := 0, slots := 0, locals := 2000 })) (As := [.ref r3]) (rest := []) ⟨hx, hb, hml, hown, hts⟩ (p_X11_addList l dC dI _ _ _ _ q r3 _ h H.size) (cwV 1 hts (g_V gdC mwC_421 mwC_422 mwC_423 mwC_119 mwC_420) rfl rfl rfl hd_X11_addList ⟨Nat.le_of_ble_eq_true rfl, Nat.le_of_ble_eq_true rfl⟩) (c_preV (vc := (RX11, TX11, 9)) hK hP hD hG hm4 hk5 (by decide) rfl) rfl rfl hl.1 rfl (lv_room (Nat.le_of_ble_eq_true rfl)) dX11_other_36 ⟨Nat.le_of_ble_eq_true rfl, Nat.le_of_ble_eq_true rfl⟩) hD hS hA (fun r6 sh6 ci6 ai6 al6 H locs h hK hP hD hS => ?_)
      refine W.widen (k := 8) (n := 2000) (by decide) (by decide) ?_
      refine vx_ret ?_
      exact W.iret (v := r6) hx hb hr (fun t ht hW => ⟨⟨_, (sh6, ci6, ai6, al6), rfl, h, by rw [ht]; exact hP, cK.moved hW.alike hK, hD⟩, hS.F ht⟩) hS.2.2 dX11_other_39
    · have h := h.2 c_12
      obtain ⟨sa, hsa⟩ := hG.t120
      exact vx_throwS (A := A) (own := RX11) (cls := "java/lang/IllegalArgumentException") (text := "sort is not 0 .. 4") (names := ["java/lang/RuntimeException", "java/lang/Exception"]) (sa := sa) (rest := []) hx hb hl0 hown (by decide) (by decide) (hts _ mwC_371) (hts _ mwC_372) hsa (vx_hat (B := [.castable "java/lang/IllegalArgumentException" "java/lang/IllegalArgumentException", .declares ⟨"java/lang/RuntimeException", "<init>", "(Ljava/lang/String;)V"⟩, .declares ⟨"java/lang/Exception", "<init>", "(Ljava/lang/String;)V"⟩, .declares ⟨"java/lang/Throwable", "<init>", "(Ljava/lang/String;)V"⟩]) (fun w h => hts w (xat_IAE w h)) (by decide +kernel) (vx_c (va_Nw.use rfl hG.xIAE) (vx_c (va_Nw.use rfl hG.dR) (vx_c (va_Nw.use rfl hG.dE) (vx_c (va_Nw.use rfl hG.dT) vx_n))))) (by decide +kernel) hZ.1 hZ.2 hS (hl.1.trans hml.symm) dX11_other_15 dX11_other_18 dX11_other_19 dX11_other_21 dX11_other_24 (fun x h => (htab x h).elim) (Nat.le_of_ble_eq_true rfl) (Nat.le_of_ble_eq_true rfl) (Nat.le_of_ble_eq_true rfl) (Nat.le_of_ble_eq_true rfl) hlocks (fun t hvm hz hq => ⟨(), trivial, h, Nat.le_trans hE.1 hz, fun q h1 h2 => (hq q (Nat.lt_of_lt_of_le h1 hE.1)).trans (hE.2 q h1)⟩) hS.2.2 (Nat.le_of_ble_eq_true rfl) (Nat.le_of_ble_eq_true rfl)
abbrev wmX11_at : List Cond := .code yX11_at cX11_at 6 (some .long) :: WC
theorem hd_X11_at : yX11_at.cls = RX11 ∧ yX11_at.cls ≠ "java/lang/invoke/MethodHandle" ∧ yX11_at.cls ≠ "java/lang/invoke/VarHandle" ∧ (parseMethodDescriptor yX11_at.desc).map (fun d => d.parameters.length) = some 2 := by decide +kernel
def P_X11_at (sh : Sh) (ci : Nat → Nat → Int32) (ai : Nat → Nat → Int32) (al : Nat → Nat → Int64) (q : Nat) (p0 : Int32) (p1 : Int32) (Q : Int64 → Sh → (Nat → Nat → Int32) → (Nat → Nat → Int32) → (Nat → Nat → Int64) → Prop) (X : String → Prop) : Prop := (q ∈ sL sh ∧ sK sh q = 10) ∧ P_X11_listOf sh ci ai al q p0 (fun r1 => ((0 ≤ p1) → (∃ q2 : Nat, sR sh q 0 = some q2 ∧ (q2 ∈ sL sh ∧ sK sh q2 = 5) ∧ P_X6_begin sh ci ai al q2 (ci q 6) (fun ci6 ai6 al6 => (r1 ∈ sL sh ∧ isZ (sK sh r1)) ∧ (PG sh 100).1 ci6 ai6 al6 r1 p1 (fun r9 ci9 ai9 al9 => ((r9 = 1) → ((PG sh 100).2 ci9 ai9 al9 r1 p1 (fun r10 ci10 ai10 al10 => P_X5_number_f sh 30 ci10 ai10 al10 r1 p1 (fun r11 => P_X11_finish sh ci10 ai10 al10 q r10 r11 (fun r12 sh12 ci12 ai12 al12 => Q r12 sh12 ci12 ai12 al12))))) ∧ ((¬ r9 = 1) → (((¬ r9 = 2) → (P_X11_finish sh ci9 ai9 al9 q r9 0 (fun r13 sh13 ci13 ai13 al13 => Q r13 sh13 ci13 ai13 al13))) ∧ ((r9 = 2) → (P_X11_finish sh ci9 ai9 al9 q 7 0 (fun r14 sh14 ci14 ai14 al14 => Q r14 sh14 ci14 ai14 al14))))))))) ∧ ((¬ 0 ≤ p1) → (X "java/lang/IllegalArgumentException"))) X
set_option maxHeartbeats 4000000 in
set_option maxRecDepth 100000 in
theorem p_X11_at (l : Launch) (hl0 : l.stackTraces = false) (dC : Nat → ClassId) (dI : Nat → Nat → Nat) (sh : Sh) (ci : Nat → Nat → Int32) (ai : Nat → Nat → Int32) (al : Nat → Nat → Int64) (q : Nat) (p0 : Int32) (p1 : Int32) (Q : Int64 → Sh → (Nat → Nat → Int32) → (Nat → Nat → Int32) → (Nat → Nat → Int64) → Prop) (X : String → Prop) (h : P_X11_at sh ci ai al q p0 p1 Q X) (sz : Nat) : vx_Met l yX11_at wmX11_at ({ frames := 1000, cells := 3, slots := 20, locals := 40000 }) (va_Pc [.ref q, .int p0, .int p1] (xPre dC dI sh ci ai al sz)) (va_Ql (S := XSt) (xJ Q) (xB dC dI (va_A (cW sh ci ai al) sz)) (va_A (cW sh ci ai al) sz)) (XC X sz) 3 20 (va_A (cW sh ci ai al) sz) := by
  refine vx_ofW (cc := cX11_at) (maxL := 6) (ret := (some .long)) (by decide) rfl ?_
  intro p e s m args below meth c s₁ B hml htab hv
  obtain ⟨rfl, ⟨hsz, hP, hK, hD0, hG⟩, hZ⟩ := hv
  have hx := B.exec
  have hb := B.bytes
  have hr := B.returns
  have hts : ∀ w ∈ WC, w.before _ s = true := fun w h => atoms_spec (ws := wmX11_at) B.pre w (List.mem_cons_of_mem _ h)
  have hown : s.vm.findClass RX11 = some m.cls := findClass_of_methodNamed B.named
  have hlocks := B.notSynchronized
  subst hsz
  have hD := hD0.self (sz := s.heap.size)
  generalize hAe : va_A (cW sh ci ai al) s.heap.size = A at hD hZ ⊢
  have hA : ∀ q : Nat, s.heap.size ≤ q → A q := fun q h => by rw [← hAe]; exact Or.inr h
  generalize hz9 : s.heap.size = z9
  generalize hH : s.heap = H at hP ⊢
  subst hz9
  have hS : va_S A s.heap H [] := by rw [← hH]; exact va_S.rf
  have hE : xE s.heap H := by rw [← hH]; exact xE.rf
  have hl := lv_entry [.ref q, .int p0, .int p1] (n := 6) (Nat.le_of_ble_eq_true rfl)
  rw [lg_entry_eq]
  generalize (lg_sl [.ref q, .int p0, .int p1] ++ List.replicate (6 - (lg_sl [.ref q, .int p0, .int p1]).length) Slot.unset).toArray = ls at hl ⊢
  have hl : lv_has ls 6 [(0, .ref q), (1, .int p0), (2, .int p1)] := hl
  unfold P_X11_at at h
  obtain ⟨⟨hq, hk⟩, h⟩ := h
  refine lv_aload_n hx hb dX11_at_0 rfl (lv_at hl 0 rfl) ?_
  refine lv_iload_n hx hb dX11_at_1 rfl (lv_at hl 1 rfl) ?_
  refine xr_endr (cells := 0) (slots := 0) (mc0 := 3) (ms0 := 20) (vx_runV (rm := ({ frames := 20, cells := 1, slots := 6, locals := 300 })) (As := [.int p0]) (rest := []) ⟨hx, hb, hml, hown, hts⟩ (p_X11_listOf l hl0 dC dI _ _ _ _ q p0 _ _ h H.size) (cwV 1 hts (g_V gdC mwC_436 mwC_437 mwC_438 mwC_119 mwC_435) rfl rfl rfl hd_X11_listOf ⟨Nat.le_of_ble_eq_true rfl, Nat.le_of_ble_eq_true rfl⟩) (x_preV hK hP hD hS hA hS hG hZ hq hk) rfl rfl hl.1 rfl (lv_room (Nat.le_of_ble_eq_true rfl)) dX11_at_2 ⟨Nat.le_of_ble_eq_true rfl, Nat.le_of_ble_eq_true rfl⟩) hE hS hP hA (fun x h => (htab x h).elim) hlocks (Nat.le_of_ble_eq_true rfl) (Nat.le_of_ble_eq_true rfl) (fun r1 H locs h hE hP hS => ?_)
  refine lv_astore_n (lv' := [(3, .ref r1), (0, .ref q), (1, .int p0), (2, .int p1)]) hx hb dX11_at_5 rfl hl (by decide) rfl (fun ls hl => ?_)
  refine lv_iload_n hx hb dX11_at_6 rfl (lv_at hl 3 rfl) ?_
  refine lv_if_ge (tgt := 20) hx hb dX11_at_7 (by decide) (fun c_7 => ?_) (fun c_7 => ?_)
  · have h := h.1 c_7
    refine lv_aload_n hx hb dX11_at_20 rfl (lv_at hl 1 rfl) ?_
    obtain ⟨q2, e3, h⟩ := h
    refine c_get (C := RX11) (T := TX11) (N := 9) (K := 10) (v := .ref q2) hx hb hts hinX11 hown hK hP hq hk (by decide) rfl 0 (by decide) (hts _ mwC_383) (fun _ h9 => h9) (by show some (va_rf (sR sh q 0)) = _; rw [e3]; rfl) dX11_at_21 ?_
    refine lv_aload_n hx hb dX11_at_24 rfl (lv_at hl 1 rfl) ?_
    refine c_get (C := RX11) (T := TX11) (N := 9) (K := 10) (v := .int (ci q 6)) hx hb hts hinX11 hown hK hP hq hk (by decide) rfl 6 (by decide) (hts _ mwC_380) (fun _ h9 => h9) rfl dX11_at_25 ?_
    obtain ⟨⟨hm4, hk5⟩, h⟩ := h
    refine c_endv (va_runV (rm := ({ frames := 4, cells := 0, slots := 0, locals := 60 })) (As := [.int (ci q 6)]) (rest := []) ⟨hx, hb, hml, hown, hts⟩ (p_X6_begin l dC dI sh _ _ _ q2 (ci q 6) _ h H.size) (cwV 1 hts (g_V gdC mwC_464 mwC_465 mwC_466 mwC_329 mwC_467) rfl rfl rfl hd_X6_begin ⟨Nat.le_of_ble_eq_true rfl, Nat.le_of_ble_eq_true rfl⟩) (c_preV (vc := (RX6, TX6, 2)) hK hP hD hG hm4 hk5 (by decide) rfl) rfl rfl hl.1 rfl (lv_room (Nat.le_of_ble_eq_true rfl)) dX11_at_28 ⟨Nat.le_of_ble_eq_true rfl, Nat.le_of_ble_eq_true rfl⟩) hD hS hA (fun ci6 ai6 al6 H locs h hP hD hS => ?_)
    refine lv_aload_n hx hb dX11_at_31 rfl (lv_at hl 0 rfl) ?_
    refine lv_iload_n hx hb dX11_at_32 rfl (lv_at hl 3 rfl) ?_
    obtain ⟨⟨hm7, hk8⟩, h⟩ := h
    refine c_endi (c_runZ (rm := ({ frames := 300 + 5 * 100, cells := 0, slots := 0, locals := 6000 + 200 * 100 })) (y := yX5_reach) (x := ⟨"NeededLists$LazyList", "reach", "(I)I"⟩) (n := 1) (bytes := cX5_reach) (maxL := 5) (ret := (some .int)) (q := r1) (As := [.int p1]) (rest := []) ⟨hx, hb, hml, hown, hts⟩ ((pg l dC dI sh 100).1 _ _ _ r1 p1 _ h H.size) mwC_468 mwC_145 mwC_146 mwC_22 mwC_147 mwC_148 mwC_149 mwC_150 mwC_151 mwC_152 mwC_153 mwC_154 mwC_155 mwC_156 rfl (by decide +kernel) rfl rfl ⟨(show 300 + 5 * 100 + 1 ≤ 1000 by omega), (show 8 + (5 + 11) + (6000 + 200 * 100) ≤ 40000 by omega)⟩ hK hP hD hG hm7 hk8 rfl hl.1 rfl (Nat.le_of_ble_eq_true rfl) ⟨Nat.le_of_ble_eq_true rfl, Nat.le_of_ble_eq_true rfl⟩ dX11_at_33) hD hS hA (fun r9 ci9 ai9 al9 H locs h hP hD hS => ?_)
    refine lv_istore (lv' := [(4, .int r9), (3, .ref r1), (0, .ref q), (1, .int p0), (2, .int p1)]) hx hb dX11_at_36 hl (by decide) rfl (fun ls hl => ?_)
    refine lv_iload hx hb dX11_at_38 (lv_at hl 0 rfl) ?_
    refine lv_iconst (v := 1) hx hb dX11_at_40 (by decide) ?_
    refine lv_icmp_eq (tgt := 63) hx hb dX11_at_41 (by decide) (fun c_41 => ?_) (fun c_41 => ?_)
    · have h := h.1 c_41
      refine lv_aload_n hx hb dX11_at_63 rfl (lv_at hl 1 rfl) ?_
      refine lv_iload_n hx hb dX11_at_64 rfl (lv_at hl 4 rfl) ?_
      refine c_endi (c_runZ (rm := ({ frames := 300 + 5 * 100, cells := 0, slots := 0, locals := 6000 + 200 * 100 })) (y := yX5_work) (x := ⟨"NeededLists$LazyList", "work", "(I)I"⟩) (n := 1) (bytes := cX5_work) (maxL := 4) (ret := (some .int)) (q := r1) (As := [.int p1]) (rest := []) ⟨hx, hb, hml, hown, hts⟩ ((pg l dC dI sh 100).2 _ _ _ r1 p1 _ h H.size) mwC_469 mwC_159 mwC_160 mwC_22 mwC_161 mwC_162 mwC_163 mwC_164 mwC_165 mwC_166 mwC_167 mwC_168 mwC_169 mwC_170 rfl (by decide +kernel) rfl rfl ⟨(show 300 + 5 * 100 + 1 ≤ 1000 by omega), (show 8 + (4 + 11) + (6000 + 200 * 100) ≤ 40000 by omega)⟩ hK hP hD hG hm7 hk8 rfl hl.1 rfl (Nat.le_of_ble_eq_true rfl) ⟨Nat.le_of_ble_eq_true rfl, Nat.le_of_ble_eq_true rfl⟩ dX11_at_65) hD hS hA (fun r10 ci10 ai10 al10 H locs h hP hD hS => ?_)
      refine lv_istore (lv' := [(5, .int r10), (4, .int r9), (3, .ref r1), (0, .ref q), (1, .int p0), (2, .int p1)]) hx hb dX11_at_68 hl (by decide) rfl (fun ls hl => ?_)
      refine lv_aload_n hx hb dX11_at_70 rfl (lv_at hl 3 rfl) ?_
      refine lv_iload hx hb dX11_at_71 (lv_at hl 0 rfl) ?_
      refine lv_aload_n hx hb dX11_at_73 rfl (lv_at hl 2 rfl) ?_
      refine lv_iload_n hx hb dX11_at_74 rfl (lv_at hl 5 rfl) ?_
      refine r_endl (c_runZ (rm := ({ frames := 20 + 2 * 30, cells := 0, slots := 0, locals := 300 + 50 * 30 })) (y := yX5_number) (x := ⟨"NeededLists$LazyList", "number", "(I)J"⟩) (n := 1) (bytes := cX5_number) (maxL := 3) (ret := (some .long)) (q := r1) (As := [.int p1]) (rest := [.int r10, .ref q]) ⟨hx, hb, hml, hown, hts⟩ (p_X5_number_f l dC dI sh 30 _ _ _ r1 p1 _ h H.size) mwC_470 mwC_92 mwC_93 mwC_22 mwC_94 mwC_95 mwC_96 mwC_97 mwC_98 mwC_99 mwC_100 mwC_101 mwC_102 mwC_103 rfl (by decide +kernel) rfl rfl ⟨(show 20 + 2 * 30 + 1 ≤ 1000 by omega), (show 8 + (3 + 11) + (300 + 50 * 30) ≤ 40000 by omega)⟩ hK hP hD hG hm7 hk8 rfl hl.1 rfl (Nat.le_of_ble_eq_true rfl) ⟨Nat.le_of_ble_eq_true rfl, Nat.le_of_ble_eq_true rfl⟩ dX11_at_75) hP hS hA (fun r11 H locs h hP hS => ?_)
      refine xn_endl (va_runV (rm := ({ frames := 60, cells := 0, slots := 0, locals := 2000 })) (As := [.int r10, .long r11]) (rest := []) ⟨hx, hb, hml, hown, hts⟩ (p_X11_finish l dC dI _ _ _ _ q r10 r11 _ h H.size) (cwV 2 hts (g_V gdC mwC_472 mwC_473 mwC_474 mwC_119 mwC_471) rfl rfl rfl hd_X11_finish ⟨Nat.le_of_ble_eq_true rfl, Nat.le_of_ble_eq_true rfl⟩) (c_preV (vc := (RX11, TX11, 9)) hK hP hD hG hq hk (by decide) rfl) rfl rfl hl.1 rfl (lv_room (Nat.le_of_ble_eq_true rfl)) dX11_at_78 ⟨Nat.le_of_ble_eq_true rfl, Nat.le_of_ble_eq_true rfl⟩) hD hS hA (fun r12 sh12 ci12 ai12 al12 H locs h hK hP hD hS => ?_)
      refine W.widen (k := 3) (n := 20) (by decide) (by decide) ?_
      refine vx_ret ?_
      exact W.lret (v := r12) hx hb hr (fun t ht hW => ⟨⟨_, (sh12, ci12, ai12, al12), rfl, h, by rw [ht]; exact hP, cK.moved hW.alike hK, hD⟩, hS.F ht⟩) hS.2.2 dX11_at_81
    · have h := h.2 c_41
      refine lv_aload_n hx hb dX11_at_44 rfl (lv_at hl 2 rfl) ?_
      refine lv_iload hx hb dX11_at_45 (lv_at hl 0 rfl) ?_
      refine lv_iconst (v := 2) hx hb dX11_at_47 (by decide) ?_
      refine lv_icmp_ne (tgt := 56) hx hb dX11_at_48 (by decide) (fun c_48 => ?_) (fun c_48 => ?_)
      · have h := h.1 c_48
        refine lv_iload hx hb dX11_at_56 (lv_at hl 0 rfl) ?_
        refine lv_lconst (v := 0) hx hb dX11_at_58 (by decide) ?_
        refine xn_endl (va_runV (rm := ({ frames := 60, cells := 0, slots := 0, locals := 2000 })) (As := [.int r9, .long 0]) (rest := []) ⟨hx, hb, hml, hown, hts⟩ (p_X11_finish l dC dI _ _ _ _ q r9 0 _ h H.size) (cwV 2 hts (g_V gdC mwC_472 mwC_473 mwC_474 mwC_119 mwC_471) rfl rfl rfl hd_X11_finish ⟨Nat.le_of_ble_eq_true rfl, Nat.le_of_ble_eq_true rfl⟩) (c_preV (vc := (RX11, TX11, 9)) hK hP hD hG hq hk (by decide) rfl) rfl rfl hl.1 rfl (lv_room (Nat.le_of_ble_eq_true rfl)) dX11_at_59 ⟨Nat.le_of_ble_eq_true rfl, Nat.le_of_ble_eq_true rfl⟩) hD hS hA (fun r13 sh13 ci13 ai13 al13 H locs h hK hP hD hS => ?_)
        refine W.widen (k := 3) (n := 20) (by decide) (by decide) ?_
        refine vx_ret ?_
        exact W.lret (v := r13) hx hb hr (fun t ht hW => ⟨⟨_, (sh13, ci13, ai13, al13), rfl, h, by rw [ht]; exact hP, cK.moved hW.alike hK, hD⟩, hS.F ht⟩) hS.2.2 dX11_at_62
      · have h := h.2 c_48
        refine lv_bipush (v := 7) hx hb dX11_at_51 (by decide) ?_
        refine lv_goto (tgt := 58) hx hb dX11_at_53 (by decide) ?_
        refine lv_lconst (v := 0) hx hb dX11_at_58 (by decide) ?_
        refine xn_endl (va_runV (rm := ({ frames := 60, cells := 0, slots := 0, locals := 2000 })) (As := [.int 7, .long 0]) (rest := []) ⟨hx, hb, hml, hown, hts⟩ (p_X11_finish l dC dI _ _ _ _ q 7 0 _ h H.size) (cwV 2 hts (g_V gdC mwC_472 mwC_473 mwC_474 mwC_119 mwC_471) rfl rfl rfl hd_X11_finish ⟨Nat.le_of_ble_eq_true rfl, Nat.le_of_ble_eq_true rfl⟩) (c_preV (vc := (RX11, TX11, 9)) hK hP hD hG hq hk (by decide) rfl) rfl rfl hl.1 rfl (lv_room (Nat.le_of_ble_eq_true rfl)) dX11_at_59 ⟨Nat.le_of_ble_eq_true rfl, Nat.le_of_ble_eq_true rfl⟩) hD hS hA (fun r14 sh14 ci14 ai14 al14 H locs h hK hP hD hS => ?_)
        refine W.widen (k := 3) (n := 20) (by decide) (by decide) ?_
        refine vx_ret ?_
        exact W.lret (v := r14) hx hb hr (fun t ht hW => ⟨⟨_, (sh14, ci14, ai14, al14), rfl, h, by rw [ht]; exact hP, cK.moved hW.alike hK, hD⟩, hS.F ht⟩) hS.2.2 dX11_at_62
  · have h := h.2 c_7
    obtain ⟨sa, hsa⟩ := hG.t141
    exact vx_throwS (A := A) (own := RX11) (cls := "java/lang/IllegalArgumentException") (text := "k is below 0") (names := ["java/lang/RuntimeException", "java/lang/Exception"]) (sa := sa) (rest := []) hx hb hl0 hown (by decide) (by decide) (hts _ mwC_371) (hts _ mwC_372) hsa (vx_hat (B := [.castable "java/lang/IllegalArgumentException" "java/lang/IllegalArgumentException", .declares ⟨"java/lang/RuntimeException", "<init>", "(Ljava/lang/String;)V"⟩, .declares ⟨"java/lang/Exception", "<init>", "(Ljava/lang/String;)V"⟩, .declares ⟨"java/lang/Throwable", "<init>", "(Ljava/lang/String;)V"⟩]) (fun w h => hts w (xat_IAE w h)) (by decide +kernel) (vx_c (va_Nw.use rfl hG.xIAE) (vx_c (va_Nw.use rfl hG.dR) (vx_c (va_Nw.use rfl hG.dE) (vx_c (va_Nw.use rfl hG.dT) vx_n))))) (by decide +kernel) hZ.1 hZ.2 hS (hl.1.trans hml.symm) dX11_at_10 dX11_at_13 dX11_at_14 dX11_at_16 dX11_at_19 (fun x h => (htab x h).elim) (Nat.le_of_ble_eq_true rfl) (Nat.le_of_ble_eq_true rfl) (Nat.le_of_ble_eq_true rfl) (Nat.le_of_ble_eq_true rfl) hlocks (fun t hvm hz hq => ⟨(), trivial, h, Nat.le_trans hE.1 hz, fun q h1 h2 => (hq q (Nat.lt_of_lt_of_le h1 hE.1)).trans (hE.2 q h1)⟩) hS.2.2 (Nat.le_of_ble_eq_true rfl) (Nat.le_of_ble_eq_true rfl)
