theorem nmX11 : ∀ a, a < 9 → ∀ b, b < 9 → a ≠ b → (TX11 a).2.1 ≠ (TX11 b).2.1 := by decide +kernel
abbrev cX11_put : ByteArray := prog_1_method_2_code
def yX11_put : MethodName := ⟨RX11, "put", "(J)I"⟩
abbrev cX11_hole : ByteArray := prog_1_method_3_code
def yX11_hole : MethodName := ⟨RX11, "hole", "(I)I"⟩
theorem dX11_put_0 : decode cX11_put 0 = .ok (.aload_n 0, 1) := by decide +kernel
theorem dX11_put_1 : decode cX11_put 1 = .ok (.lload_n 1, 1) := by decide +kernel
theorem dX11_put_2 : decode cX11_put 2 = .ok (.iconst 1, 1) := by decide +kernel
theorem dX11_put_3 : decode cX11_put 3 = .ok (.invokevirtual 34, 3) := by decide +kernel
theorem dX11_put_6 : decode cX11_put 6 = .ok (.ireturn, 1) := by decide +kernel
theorem dX11_hole_0 : decode cX11_hole 0 = .ok (.iload_n 1, 1) := by decide +kernel
theorem dX11_hole_1 : decode cX11_hole 1 = .ok (.ifCond .eq 18, 3) := by decide +kernel
theorem dX11_hole_4 : decode cX11_hole 4 = .ok (.iload_n 1, 1) := by decide +kernel
theorem dX11_hole_5 : decode cX11_hole 5 = .ok (.iconst 1, 1) := by decide +kernel
theorem dX11_hole_6 : decode cX11_hole 6 = .ok (.if_icmp .eq 13, 3) := by decide +kernel
theorem dX11_hole_9 : decode cX11_hole 9 = .ok (.new 38, 3) := by decide +kernel
theorem dX11_hole_12 : decode cX11_hole 12 = .ok (.dup, 1) := by decide +kernel
theorem dX11_hole_13 : decode cX11_hole 13 = .ok (.ldc 40, 2) := by decide +kernel
theorem dX11_hole_15 : decode cX11_hole 15 = .ok (.invokespecial 42, 3) := by decide +kernel
theorem dX11_hole_18 : decode cX11_hole 18 = .ok (.athrow, 1) := by decide +kernel
theorem dX11_hole_19 : decode cX11_hole 19 = .ok (.aload_n 0, 1) := by decide +kernel
theorem dX11_hole_20 : decode cX11_hole 20 = .ok (.lconst 0, 1) := by decide +kernel
theorem dX11_hole_21 : decode cX11_hole 21 = .ok (.iload_n 1, 1) := by decide +kernel
theorem dX11_hole_22 : decode cX11_hole 22 = .ok (.ifCond .ne 7, 3) := by decide +kernel
theorem dX11_hole_25 : decode cX11_hole 25 = .ok (.iconst 4, 1) := by decide +kernel
theorem dX11_hole_26 : decode cX11_hole 26 = .ok (.goto 5, 3) := by decide +kernel
theorem dX11_hole_29 : decode cX11_hole 29 = .ok (.bipush 8, 2) := by decide +kernel
theorem dX11_hole_31 : decode cX11_hole 31 = .ok (.invokevirtual 34, 3) := by decide +kernel
theorem dX11_hole_34 : decode cX11_hole 34 = .ok (.ireturn, 1) := by decide +kernel
theorem dX11_addToRow_0 : decode cX11_addToRow 0 = .ok (.aload_n 0, 1) := by decide +kernel
theorem dX11_addToRow_1 : decode cX11_addToRow 1 = .ok (.getfield 45, 3) := by decide +kernel
theorem dX11_addToRow_4 : decode cX11_addToRow 4 = .ok (.bipush 100, 2) := by decide +kernel
theorem dX11_addToRow_6 : decode cX11_addToRow 6 = .ok (.if_icmp .lt 13, 3) := by decide +kernel
theorem dX11_addToRow_9 : decode cX11_addToRow 9 = .ok (.new 48, 3) := by decide +kernel
theorem dX11_addToRow_12 : decode cX11_addToRow 12 = .ok (.dup, 1) := by decide +kernel
theorem dX11_addToRow_13 : decode cX11_addToRow 13 = .ok (.ldc 50, 2) := by decide +kernel
theorem dX11_addToRow_15 : decode cX11_addToRow 15 = .ok (.invokespecial 52, 3) := by decide +kernel
theorem dX11_addToRow_18 : decode cX11_addToRow 18 = .ok (.athrow, 1) := by decide +kernel
theorem dX11_addToRow_19 : decode cX11_addToRow 19 = .ok (.aload_n 0, 1) := by decide +kernel
theorem dX11_addToRow_20 : decode cX11_addToRow 20 = .ok (.getfield 22, 3) := by decide +kernel
theorem dX11_addToRow_23 : decode cX11_addToRow 23 = .ok (.aload_n 0, 1) := by decide +kernel
theorem dX11_addToRow_24 : decode cX11_addToRow 24 = .ok (.getfield 45, 3) := by decide +kernel
theorem dX11_addToRow_27 : decode cX11_addToRow 27 = .ok (.lload_n 1, 1) := by decide +kernel
theorem dX11_addToRow_28 : decode cX11_addToRow 28 = .ok (.lastore, 1) := by decide +kernel
theorem dX11_addToRow_29 : decode cX11_addToRow 29 = .ok (.aload_n 0, 1) := by decide +kernel
theorem dX11_addToRow_30 : decode cX11_addToRow 30 = .ok (.getfield 26, 3) := by decide +kernel
theorem dX11_addToRow_33 : decode cX11_addToRow 33 = .ok (.aload_n 0, 1) := by decide +kernel
theorem dX11_addToRow_34 : decode cX11_addToRow 34 = .ok (.getfield 45, 3) := by decide +kernel
theorem dX11_addToRow_37 : decode cX11_addToRow 37 = .ok (.iload_n 3, 1) := by decide +kernel
theorem dX11_addToRow_38 : decode cX11_addToRow 38 = .ok (.i2b, 1) := by decide +kernel
theorem dX11_addToRow_39 : decode cX11_addToRow 39 = .ok (.bastore, 1) := by decide +kernel
theorem dX11_addToRow_40 : decode cX11_addToRow 40 = .ok (.aload_n 0, 1) := by decide +kernel
theorem dX11_addToRow_41 : decode cX11_addToRow 41 = .ok (.dup, 1) := by decide +kernel
theorem dX11_addToRow_42 : decode cX11_addToRow 42 = .ok (.getfield 45, 3) := by decide +kernel
theorem dX11_addToRow_45 : decode cX11_addToRow 45 = .ok (.iconst 1, 1) := by decide +kernel
theorem dX11_addToRow_46 : decode cX11_addToRow 46 = .ok (.iadd, 1) := by decide +kernel
theorem dX11_addToRow_47 : decode cX11_addToRow 47 = .ok (.putfield 45, 3) := by decide +kernel
theorem dX11_addToRow_50 : decode cX11_addToRow 50 = .ok (.aload_n 0, 1) := by decide +kernel
theorem dX11_addToRow_51 : decode cX11_addToRow 51 = .ok (.getfield 45, 3) := by decide +kernel
theorem dX11_addToRow_54 : decode cX11_addToRow 54 = .ok (.ireturn, 1) := by decide +kernel
abbrev wmX11_addToRow : List Cond := .code yX11_addToRow cX11_addToRow 4 (some .int) :: WC
theorem hd_X11_addToRow : yX11_addToRow.cls = RX11 ∧ yX11_addToRow.cls ≠ "java/lang/invoke/MethodHandle" ∧ yX11_addToRow.cls ≠ "java/lang/invoke/VarHandle" ∧ (parseMethodDescriptor yX11_addToRow.desc).map (fun d => d.parameters.length) = some 2 := by decide +kernel
def P_X11_addToRow (sh : Sh) (ci : Nat → Nat → Int32) (ai : Nat → Nat → Int32) (al : Nat → Nat → Int64) (q : Nat) (p0 : Int64) (p1 : Int32) (Q : Int32 → Sh → (Nat → Nat → Int32) → (Nat → Nat → Int32) → (Nat → Nat → Int64) → Prop) (X : String → Prop) : Prop := (q ∈ sL sh ∧ sK sh q = 10) ∧ (((ci q 5) < 100) → (∃ q1 : Nat, sR sh q 2 = some q1 ∧ (q1 ∈ sL sh ∧ sK sh q1 = 22) ∧ vp_in (ci q 5) (sN sh q1) ∧ ∃ q6 : Nat, sR sh q 3 = some q6 ∧ (q6 ∈ sL sh ∧ sK sh q6 = 21) ∧ vp_in (ci q 5) (sN sh q6) ∧ Q ((va_up ci q (va_up (ci q) 5 ((ci q 5) + 1))) q 5) sh (va_up ci q (va_up (ci q) 5 ((ci q 5) + 1))) (va_up ai q6 (upd (ai q6) (ci q 5).toNatClampNeg (vp_nar .byte p1.toInt8.toInt32))) (va_up al q1 (vp_updL (al q1) (ci q 5).toNatClampNeg p0)))) ∧ ((¬ (ci q 5) < 100) → (X "java/lang/UnsupportedOperationException"))
set_option maxHeartbeats 4000000 in
set_option maxRecDepth 100000 in
theorem p_X11_addToRow (l : Launch) (hl0 : l.stackTraces = false) (dC : Nat → ClassId) (dI : Nat → Nat → Nat) (sh : Sh) (ci : Nat → Nat → Int32) (ai : Nat → Nat → Int32) (al : Nat → Nat → Int64) (q : Nat) (p0 : Int64) (p1 : Int32) (Q : Int32 → Sh → (Nat → Nat → Int32) → (Nat → Nat → Int32) → (Nat → Nat → Int64) → Prop) (X : String → Prop) (h : P_X11_addToRow sh ci ai al q p0 p1 Q X) (sz : Nat) : vx_Met l yX11_addToRow wmX11_addToRow ({ frames := 20, cells := 1, slots := 6, locals := 300 }) (va_Pc [.ref q, .long p0, .int p1] (xPre dC dI sh ci ai al sz)) (va_Qi (S := XSt) (xI Q) (xB dC dI (va_A (cW sh ci ai al) sz)) (va_A (cW sh ci ai al) sz)) (XC X sz) 1 6 (va_A (cW sh ci ai al) sz) := by
  refine vx_ofW (cc := cX11_addToRow) (maxL := 4) (ret := (some .int)) (by decide) rfl ?_
  intro p e s m args below meth c s₁ B hml htab hv
  obtain ⟨rfl, ⟨hsz, hP, hK, hD0, hG⟩, hZ⟩ := hv
  have hx := B.exec
  have hb := B.bytes
  have hr := B.returns
  have hts : ∀ w ∈ WC, w.before _ s = true := fun w h => atoms_spec (ws := wmX11_addToRow) B.pre w (List.mem_cons_of_mem _ h)
  have hown : s.vm.findClass RX11 = some m.cls := findClass_of_methodNamed B.named
  have hlocks := B.notSynchronized
  subst hsz
  have hD := hD0.self (sz := s.heap.size)
  generalize hAe : va_A (cW sh ci ai al) s.heap.size = A at hD hZ ⊢
  have hA : ∀ q : Nat, s.heap.size ≤ q → A q := fun q h => by rw [← hAe]; exact Or.inr h
  generalize hz9 : s.heap.size = z9
  generalize hH : s.heap = H at hP ⊢
  subst hz9
  have hS : va_S A s.heap H [] := by rw [← hH]; exact va_S.rf
  have hE : xE s.heap H := by rw [← hH]; exact xE.rf
  have hl := lv_entry [.ref q, .long p0, .int p1] (n := 4) (Nat.le_of_ble_eq_true rfl)
  rw [lg_entry_eq]
  generalize (lg_sl [.ref q, .long p0, .int p1] ++ List.replicate (4 - (lg_sl [.ref q, .long p0, .int p1]).length) Slot.unset).toArray = ls at hl ⊢
  have hl : lv_has ls 4 [(0, .ref q), (1, .long p0), (3, .int p1)] := hl
  unfold P_X11_addToRow at h
  obtain ⟨⟨hq, hk⟩, h⟩ := h
  refine lv_aload_n hx hb dX11_addToRow_0 rfl (lv_at hl 0 rfl) ?_
  refine c_get (C := RX11) (T := TX11) (N := 9) (K := 10) (v := .int (ci q 5)) hx hb hts hinX11 hown hK hP hq hk (by decide) rfl 5 (by decide) (hts _ mwC_373) (fun _ h9 => h9) rfl dX11_addToRow_1 ?_
  refine lv_bipush (v := 100) hx hb dX11_addToRow_4 (by decide) ?_
  refine lv_icmp_lt (tgt := 19) hx hb dX11_addToRow_6 (by decide) (fun c_6 => ?_) (fun c_6 => ?_)
  · have h := h.1 c_6
    refine lv_aload_n hx hb dX11_addToRow_19 rfl (lv_at hl 0 rfl) ?_
    obtain ⟨q1, e2, h⟩ := h
    refine c_get (C := RX11) (T := TX11) (N := 9) (K := 10) (v := .ref q1) hx hb hts hinX11 hown hK hP hq hk (by decide) rfl 2 (by decide) (hts _ mwC_374) (fun _ h9 => h9) (by show some (va_rf (sR sh q 2)) = _; rw [e2]; rfl) dX11_addToRow_20 ?_
    refine lv_aload_n hx hb dX11_addToRow_23 rfl (lv_at hl 0 rfl) ?_
    refine c_get (C := RX11) (T := TX11) (N := 9) (K := 10) (v := .int (ci q 5)) hx hb hts hinX11 hown hK hP hq hk (by decide) rfl 5 (by decide) (hts _ mwC_373) (fun _ h9 => h9) rfl dX11_addToRow_24 ?_
    refine lv_lload_n hx hb dX11_addToRow_27 rfl (lv_at hl 1 rfl) ?_
    obtain ⟨⟨hm3, hk4⟩, h⟩ := h
    obtain ⟨hi5, h⟩ := h
    refine c_last hx hb hK hP hD hS hm3 hk4 hi5 dX11_addToRow_28 (fun H locs hP hD hS => ?_)
    refine lv_aload_n hx hb dX11_addToRow_29 rfl (lv_at hl 0 rfl) ?_
    obtain ⟨q6, e7, h⟩ := h
    refine c_get (C := RX11) (T := TX11) (N := 9) (K := 10) (v := .ref q6) hx hb hts hinX11 hown hK hP hq hk (by decide) rfl 3 (by decide) (hts _ mwC_375) (fun _ h9 => h9) (by show some (va_rf (sR sh q 3)) = _; rw [e7]; rfl) dX11_addToRow_30 ?_
    refine lv_aload_n hx hb dX11_addToRow_33 rfl (lv_at hl 0 rfl) ?_
    refine c_get (C := RX11) (T := TX11) (N := 9) (K := 10) (v := .int (ci q 5)) hx hb hts hinX11 hown hK hP hq hk (by decide) rfl 5 (by decide) (hts _ mwC_373) (fun _ h9 => h9) rfl dX11_addToRow_34 ?_
    refine lv_iload_n hx hb dX11_addToRow_37 rfl (lv_at hl 2 rfl) ?_
    refine lv_i2b hx hb dX11_addToRow_38 rfl ?_
    obtain ⟨⟨hm8, hk9⟩, h⟩ := h
    obtain ⟨hi10, h⟩ := h
    refine c_bast hx hb hK hP hD hS hm8 hk9 hi10 dX11_addToRow_39 (fun H locs hP hD hS => ?_)
    refine lv_aload_n hx hb dX11_addToRow_40 rfl (lv_at hl 0 rfl) ?_
    refine lv_dup hx hb dX11_addToRow_41 rfl ?_
    refine c_get (C := RX11) (T := TX11) (N := 9) (K := 10) (v := .int (ci q 5)) hx hb hts hinX11 hown hK hP hq hk (by decide) rfl 5 (by decide) (hts _ mwC_373) (fun _ h9 => h9) rfl dX11_addToRow_42 ?_
    refine lv_iconst (v := 1) hx hb dX11_addToRow_45 (by decide) ?_
    refine lv_iadd hx hb dX11_addToRow_46 ?_
    refine c_put (C := RX11) (T := TX11) (N := 9) (K := 10) hx hb hts hinX11 tyX11 tyX11_ok nmX11 hown hK hP hD hS hq hk (by decide) rfl 5 (by decide) (hts _ mwC_373) (fun _ h9 => h9) rfl (by decide +kernel) (Nat.le_of_ble_eq_true rfl) rfl dX11_addToRow_47 (fun H locs hP hD hS => ?_)
    refine lv_aload_n hx hb dX11_addToRow_50 rfl (lv_at hl 0 rfl) ?_
    refine c_get (C := RX11) (T := TX11) (N := 9) (K := 10) (v := .int ((va_up ci q (va_up (ci q) 5 ((ci q 5) + 1))) q 5)) hx hb hts hinX11 hown hK hP hq hk (by decide) rfl 5 (by decide) (hts _ mwC_373) (fun _ h9 => h9) rfl dX11_addToRow_51 ?_
    refine W.widen (k := 1) (n := 6) (by decide) (by decide) ?_
    refine vx_ret ?_
    exact W.iret (v := ((va_up ci q (va_up (ci q) 5 ((ci q 5) + 1))) q 5)) hx hb hr (fun t ht hW => ⟨⟨_, (sh, va_up ci q (va_up (ci q) 5 ((ci q 5) + 1)), va_up ai q6 (upd (ai q6) (ci q 5).toNatClampNeg (vp_nar .byte p1.toInt8.toInt32)), va_up al q1 (vp_updL (al q1) (ci q 5).toNatClampNeg p0)), rfl, h, by rw [ht]; exact hP, cK.moved hW.alike hK, hD⟩, hS.F ht⟩) hS.2.2 dX11_addToRow_54
  · have h := h.2 c_6
    obtain ⟨sa, hsa⟩ := hG.t50
    exact vx_throwS (A := A) (own := RX11) (cls := "java/lang/UnsupportedOperationException") (text := "THE ROW is full") (names := ["java/lang/RuntimeException", "java/lang/Exception"]) (sa := sa) (rest := []) hx hb hl0 hown (by decide) (by decide) (hts _ mwC_366) (hts _ mwC_367) hsa (vx_hat (B := [.castable "java/lang/UnsupportedOperationException" "java/lang/UnsupportedOperationException", .declares ⟨"java/lang/RuntimeException", "<init>", "(Ljava/lang/String;)V"⟩, .declares ⟨"java/lang/Exception", "<init>", "(Ljava/lang/String;)V"⟩, .declares ⟨"java/lang/Throwable", "<init>", "(Ljava/lang/String;)V"⟩]) (fun w h => hts w (xat_UOE w h)) (by decide +kernel) (vx_c (va_Nw.use rfl hG.xUOE) (vx_c (va_Nw.use rfl hG.dR) (vx_c (va_Nw.use rfl hG.dE) (vx_c (va_Nw.use rfl hG.dT) vx_n))))) (by decide +kernel) hZ.1 hZ.2 hS (hl.1.trans hml.symm) dX11_addToRow_9 dX11_addToRow_12 dX11_addToRow_13 dX11_addToRow_15 dX11_addToRow_18 (fun x h => (htab x h).elim) (Nat.le_of_ble_eq_true rfl) (Nat.le_of_ble_eq_true rfl) (Nat.le_of_ble_eq_true rfl) (Nat.le_of_ble_eq_true rfl) hlocks (fun t hvm hz hq => ⟨(), trivial, h, Nat.le_trans hE.1 hz, fun q h1 h2 => (hq q (Nat.lt_of_lt_of_le h1 hE.1)).trans (hE.2 q h1)⟩) hS.2.2 (Nat.le_of_ble_eq_true rfl) (Nat.le_of_ble_eq_true rfl)
abbrev wmX11_put : List Cond := .code yX11_put cX11_put 3 (some .int) :: WC
theorem hd_X11_put : yX11_put.cls = RX11 ∧ yX11_put.cls ≠ "java/lang/invoke/MethodHandle" ∧ yX11_put.cls ≠ "java/lang/invoke/VarHandle" ∧ (parseMethodDescriptor yX11_put.desc).map (fun d => d.parameters.length) = some 1 := by decide +kernel
def P_X11_put (sh : Sh) (ci : Nat → Nat → Int32) (ai : Nat → Nat → Int32) (al : Nat → Nat → Int64) (q : Nat) (p0 : Int64) (Q : Int32 → Sh → (Nat → Nat → Int32) → (Nat → Nat → Int32) → (Nat → Nat → Int64) → Prop) (X : String → Prop) : Prop := (q ∈ sL sh ∧ sK sh q = 10) ∧ P_X11_addToRow sh ci ai al q p0 1 (fun r1 sh1 ci1 ai1 al1 => Q r1 sh1 ci1 ai1 al1) X
set_option maxHeartbeats 4000000 in
set_option maxRecDepth 100000 in
theorem p_X11_put (l : Launch) (hl0 : l.stackTraces = false) (dC : Nat → ClassId) (dI : Nat → Nat → Nat) (sh : Sh) (ci : Nat → Nat → Int32) (ai : Nat → Nat → Int32) (al : Nat → Nat → Int64) (q : Nat) (p0 : Int64) (Q : Int32 → Sh → (Nat → Nat → Int32) → (Nat → Nat → Int32) → (Nat → Nat → Int64) → Prop) (X : String → Prop) (h : P_X11_put sh ci ai al q p0 Q X) (sz : Nat) : vx_Met l yX11_put wmX11_put ({ frames := 40, cells := 1, slots := 6, locals := 600 }) (va_Pc [.ref q, .long p0] (xPre dC dI sh ci ai al sz)) (va_Qi (S := XSt) (xI Q) (xB dC dI (va_A (cW sh ci ai al) sz)) (va_A (cW sh ci ai al) sz)) (XC X sz) 1 6 (va_A (cW sh ci ai al) sz) := by
  refine vx_ofW (cc := cX11_put) (maxL := 3) (ret := (some .int)) (by decide) rfl ?_
  intro p e s m args below meth c s₁ B hml htab hv
  obtain ⟨rfl, ⟨hsz, hP, hK, hD0, hG⟩, hZ⟩ := hv
  have hx := B.exec
  have hb := B.bytes
  have hr := B.returns
  have hts : ∀ w ∈ WC, w.before _ s = true := fun w h => atoms_spec (ws := wmX11_put) B.pre w (List.mem_cons_of_mem _ h)
  have hown : s.vm.findClass RX11 = some m.cls := findClass_of_methodNamed B.named
  have hlocks := B.notSynchronized
  subst hsz
  have hD := hD0.self (sz := s.heap.size)
  generalize hAe : va_A (cW sh ci ai al) s.heap.size = A at hD hZ ⊢
  have hA : ∀ q : Nat, s.heap.size ≤ q → A q := fun q h => by rw [← hAe]; exact Or.inr h
  generalize hz9 : s.heap.size = z9
  generalize hH : s.heap = H at hP ⊢
  subst hz9
  have hS : va_S A s.heap H [] := by rw [← hH]; exact va_S.rf
  have hE : xE s.heap H := by rw [← hH]; exact xE.rf
  have hl := lv_entry [.ref q, .long p0] (n := 3) (Nat.le_of_ble_eq_true rfl)
  rw [lg_entry_eq]
  generalize (lg_sl [.ref q, .long p0] ++ List.replicate (3 - (lg_sl [.ref q, .long p0]).length) Slot.unset).toArray = ls at hl ⊢
  have hl : lv_has ls 3 [(0, .ref q), (1, .long p0)] := hl
  unfold P_X11_put at h
  obtain ⟨⟨hq, hk⟩, h⟩ := h
  refine lv_aload_n hx hb dX11_put_0 rfl (lv_at hl 0 rfl) ?_
  refine lv_lload_n hx hb dX11_put_1 rfl (lv_at hl 1 rfl) ?_
  refine lv_iconst (v := 1) hx hb dX11_put_2 (by decide) ?_
  refine xw_endi (R := (headSpec wmX11_put ({ frames := 40, cells := 1, slots := 6, locals := 600 })).room) (cells := 0) (slots := 0) (mc0 := 1) (ms0 := 6) (vx_runV (rm := ({ frames := 20, cells := 1, slots := 6, locals := 300 })) (As := [.long p0, .int 1]) (rest := []) ⟨hx, hb, hml, hown, hts⟩ (p_X11_addToRow l hl0 dC dI _ _ _ _ q p0 1 _ _ h H.size) (cwV 2 hts (g_V gdC mwC_377 mwC_378 mwC_379 mwC_119 mwC_376) rfl rfl rfl hd_X11_addToRow ⟨Nat.le_of_ble_eq_true rfl, Nat.le_of_ble_eq_true rfl⟩) (x_preV hK hP hD hS hA hS hG hZ hq hk) rfl rfl hl.1 rfl (lv_room (Nat.le_of_ble_eq_true rfl)) dX11_put_3 ⟨Nat.le_of_ble_eq_true rfl, Nat.le_of_ble_eq_true rfl⟩) hE hS hP hA (fun x h => (htab x h).elim) hlocks (Nat.le_of_ble_eq_true rfl) (Nat.le_of_ble_eq_true rfl) hD (fun r1 sh1 ci1 ai1 al1 H locs h hK hP hD hS => ?_)
  refine W.widen (k := 1) (n := 6) (by decide) (by decide) ?_
  refine vx_ret ?_
  exact W.iret (v := r1) hx hb hr (fun t ht hW => ⟨⟨_, (sh1, ci1, ai1, al1), rfl, h, by rw [ht]; exact hP, cK.moved hW.alike hK, hD⟩, hS.F ht⟩) hS.2.2 dX11_put_6
abbrev wmX11_hole : List Cond := .code yX11_hole cX11_hole 2 (some .int) :: WC
theorem hd_X11_hole : yX11_hole.cls = RX11 ∧ yX11_hole.cls ≠ "java/lang/invoke/MethodHandle" ∧ yX11_hole.cls ≠ "java/lang/invoke/VarHandle" ∧ (parseMethodDescriptor yX11_hole.desc).map (fun d => d.parameters.length) = some 1 := by decide +kernel
def P_X11_hole (sh : Sh) (ci : Nat → Nat → Int32) (ai : Nat → Nat → Int32) (al : Nat → Nat → Int64) (q : Nat) (p0 : Int32) (Q : Int32 → Sh → (Nat → Nat → Int32) → (Nat → Nat → Int32) → (Nat → Nat → Int64) → Prop) (X : String → Prop) : Prop := (q ∈ sL sh ∧ sK sh q = 10) ∧ ((p0 = 0) → (P_X11_addToRow sh ci ai al q 0 4 (fun r1 sh1 ci1 ai1 al1 => Q r1 sh1 ci1 ai1 al1) X)) ∧ ((¬ p0 = 0) → (((p0 = 1) → (P_X11_addToRow sh ci ai al q 0 8 (fun r2 sh2 ci2 ai2 al2 => Q r2 sh2 ci2 ai2 al2) X)) ∧ ((¬ p0 = 1) → (X "java/lang/IllegalArgumentException"))))
set_option maxHeartbeats 4000000 in
set_option maxRecDepth 100000 in
theorem p_X11_hole (l : Launch) (hl0 : l.stackTraces = false) (dC : Nat → ClassId) (dI : Nat → Nat → Nat) (sh : Sh) (ci : Nat → Nat → Int32) (ai : Nat → Nat → Int32) (al : Nat → Nat → Int64) (q : Nat) (p0 : Int32) (Q : Int32 → Sh → (Nat → Nat → Int32) → (Nat → Nat → Int32) → (Nat → Nat → Int64) → Prop) (X : String → Prop) (h : P_X11_hole sh ci ai al q p0 Q X) (sz : Nat) : vx_Met l yX11_hole wmX11_hole ({ frames := 40, cells := 1, slots := 6, locals := 600 }) (va_Pc [.ref q, .int p0] (xPre dC dI sh ci ai al sz)) (va_Qi (S := XSt) (xI Q) (xB dC dI (va_A (cW sh ci ai al) sz)) (va_A (cW sh ci ai al) sz)) (XC X sz) 1 6 (va_A (cW sh ci ai al) sz) := by
  refine vx_ofW (cc := cX11_hole) (maxL := 2) (ret := (some .int)) (by decide) rfl ?_
  intro p e s m args below meth c s₁ B hml htab hv
  obtain ⟨rfl, ⟨hsz, hP, hK, hD0, hG⟩, hZ⟩ := hv
  have hx := B.exec
  have hb := B.bytes
  have hr := B.returns
  have hts : ∀ w ∈ WC, w.before _ s = true := fun w h => atoms_spec (ws := wmX11_hole) B.pre w (List.mem_cons_of_mem _ h)
  have hown : s.vm.findClass RX11 = some m.cls := findClass_of_methodNamed B.named
  have hlocks := B.notSynchronized
  subst hsz
  have hD := hD0.self (sz := s.heap.size)
  generalize hAe : va_A (cW sh ci ai al) s.heap.size = A at hD hZ ⊢
  have hA : ∀ q : Nat, s.heap.size ≤ q → A q := fun q h => by rw [← hAe]; exact Or.inr h
  generalize hz9 : s.heap.size = z9
  generalize hH : s.heap = H at hP ⊢
  subst hz9
  have hS : va_S A s.heap H [] := by rw [← hH]; exact va_S.rf
  have hE : xE s.heap H := by rw [← hH]; exact xE.rf
  have hl := lv_entry [.ref q, .int p0] (n := 2) (Nat.le_of_ble_eq_true rfl)
  rw [lg_entry_eq]
  generalize (lg_sl [.ref q, .int p0] ++ List.replicate (2 - (lg_sl [.ref q, .int p0]).length) Slot.unset).toArray = ls at hl ⊢
  have hl : lv_has ls 2 [(0, .ref q), (1, .int p0)] := hl
  unfold P_X11_hole at h
  obtain ⟨⟨hq, hk⟩, h⟩ := h
  refine lv_iload_n hx hb dX11_hole_0 rfl (lv_at hl 1 rfl) ?_
  refine lv_if_eq (tgt := 19) hx hb dX11_hole_1 (by decide) (fun c_1 => ?_) (fun c_1 => ?_)
  · have h := h.1 c_1
    refine lv_aload_n hx hb dX11_hole_19 rfl (lv_at hl 0 rfl) ?_
    refine lv_lconst (v := 0) hx hb dX11_hole_20 (by decide) ?_
    refine lv_iload_n hx hb dX11_hole_21 rfl (lv_at hl 1 rfl) ?_
    refine lv_if_ne (tgt := 29) hx hb dX11_hole_22 (by decide) (fun c_22 => ?_) (fun c_22 => ?_)
    · exact (c_22 c_1).elim
    · refine lv_iconst (v := 4) hx hb dX11_hole_25 (by decide) ?_
      refine lv_goto (tgt := 31) hx hb dX11_hole_26 (by decide) ?_
      refine xw_endi (R := (headSpec wmX11_hole ({ frames := 40, cells := 1, slots := 6, locals := 600 })).room) (cells := 0) (slots := 0) (mc0 := 1) (ms0 := 6) (vx_runV (rm := ({ frames := 20, cells := 1, slots := 6, locals := 300 })) (As := [.long 0, .int 4]) (rest := []) ⟨hx, hb, hml, hown, hts⟩ (p_X11_addToRow l hl0 dC dI _ _ _ _ q 0 4 _ _ h H.size) (cwV 2 hts (g_V gdC mwC_377 mwC_378 mwC_379 mwC_119 mwC_376) rfl rfl rfl hd_X11_addToRow ⟨Nat.le_of_ble_eq_true rfl, Nat.le_of_ble_eq_true rfl⟩) (x_preV hK hP hD hS hA hS hG hZ hq hk) rfl rfl hl.1 rfl (lv_room (Nat.le_of_ble_eq_true rfl)) dX11_hole_31 ⟨Nat.le_of_ble_eq_true rfl, Nat.le_of_ble_eq_true rfl⟩) hE hS hP hA (fun x h => (htab x h).elim) hlocks (Nat.le_of_ble_eq_true rfl) (Nat.le_of_ble_eq_true rfl) hD (fun r1 sh1 ci1 ai1 al1 H locs h hK hP hD hS => ?_)
      refine W.widen (k := 1) (n := 6) (by decide) (by decide) ?_
      refine vx_ret ?_
      exact W.iret (v := r1) hx hb hr (fun t ht hW => ⟨⟨_, (sh1, ci1, ai1, al1), rfl, h, by rw [ht]; exact hP, cK.moved hW.alike hK, hD⟩, hS.F ht⟩) hS.2.2 dX11_hole_34
  · have h := h.2 c_1
    refine lv_iload_n hx hb dX11_hole_4 rfl (lv_at hl 1 rfl) ?_
    refine lv_iconst (v := 1) hx hb dX11_hole_5 (by decide) ?_
    refine lv_icmp_eq (tgt := 19) hx hb dX11_hole_6 (by decide) (fun c_6 => ?_) (fun c_6 => ?_)
    · have h := h.1 c_6
      refine lv_aload_n hx hb dX11_hole_19 rfl (lv_at hl 0 rfl) ?_
      refine lv_lconst (v := 0) hx hb dX11_hole_20 (by decide) ?_
      refine lv_iload_n hx hb dX11_hole_21 rfl (lv_at hl 1 rfl) ?_
      refine lv_if_ne (tgt := 29) hx hb dX11_hole_22 (by decide) (fun c_22 => ?_) (fun c_22 => ?_)
      · refine lv_bipush (v := 8) hx hb dX11_hole_29 (by decide) ?_
        refine xw_endi (R := (headSpec wmX11_hole ({ frames := 40, cells := 1, slots := 6, locals := 600 })).room) (cells := 0) (slots := 0) (mc0 := 1) (ms0 := 6) (vx_runV (rm := ({ frames := 20, cells := 1, slots := 6, locals := 300 })) (As := [.long 0, .int 8]) (rest := []) ⟨hx, hb, hml, hown, hts⟩ (p_X11_addToRow l hl0 dC dI _ _ _ _ q 0 8 _ _ h H.size) (cwV 2 hts (g_V gdC mwC_377 mwC_378 mwC_379 mwC_119 mwC_376) rfl rfl rfl hd_X11_addToRow ⟨Nat.le_of_ble_eq_true rfl, Nat.le_of_ble_eq_true rfl⟩) (x_preV hK hP hD hS hA hS hG hZ hq hk) rfl rfl hl.1 rfl (lv_room (Nat.le_of_ble_eq_true rfl)) dX11_hole_31 ⟨Nat.le_of_ble_eq_true rfl, Nat.le_of_ble_eq_true rfl⟩) hE hS hP hA (fun x h => (htab x h).elim) hlocks (Nat.le_of_ble_eq_true rfl) (Nat.le_of_ble_eq_true rfl) hD (fun r2 sh2 ci2 ai2 al2 H locs h hK hP hD hS => ?_)
        refine W.widen (k := 1) (n := 6) (by decide) (by decide) ?_
        refine vx_ret ?_
        exact W.iret (v := r2) hx hb hr (fun t ht hW => ⟨⟨_, (sh2, ci2, ai2, al2), rfl, h, by rw [ht]; exact hP, cK.moved hW.alike hK, hD⟩, hS.F ht⟩) hS.2.2 dX11_hole_34
      · exact (c_1 c_22).elim
    · have h := h.2 c_6
      obtain ⟨sa, hsa⟩ := hG.t40
      exact vx_throwS (A := A) (own := RX11) (cls := "java/lang/IllegalArgumentException") (text := "kind is not 0 or 1") (names := ["java/lang/RuntimeException", "java/lang/Exception"]) (sa := sa) (rest := []) hx hb hl0 hown (by decide) (by decide) (hts _ mwC_371) (hts _ mwC_372) hsa (vx_hat (B := [.castable "java/lang/IllegalArgumentException" "java/lang/IllegalArgumentException", .declares ⟨"java/lang/RuntimeException", "<init>", "(Ljava/lang/String;)V"⟩, .declares ⟨"java/lang/Exception", "<init>", "(Ljava/lang/String;)V"⟩, .declares ⟨"java/lang/Throwable", "<init>", "(Ljava/lang/String;)V"⟩]) (fun w h => hts w (xat_IAE w h)) (by decide +kernel) (vx_c (va_Nw.use rfl hG.xIAE) (vx_c (va_Nw.use rfl hG.dR) (vx_c (va_Nw.use rfl hG.dE) (vx_c (va_Nw.use rfl hG.dT) vx_n))))) (by decide +kernel) hZ.1 hZ.2 hS (hl.1.trans hml.symm) dX11_hole_9 dX11_hole_12 dX11_hole_13 dX11_hole_15 dX11_hole_18 (fun x h => (htab x h).elim) (Nat.le_of_ble_eq_true rfl) (Nat.le_of_ble_eq_true rfl) (Nat.le_of_ble_eq_true rfl) (Nat.le_of_ble_eq_true rfl) hlocks (fun t hvm hz hq => ⟨(), trivial, h, Nat.le_trans hE.1 hz, fun q h1 h2 => (hq q (Nat.lt_of_lt_of_le h1 hE.1)).trans (hE.2 q h1)⟩) hS.2.2 (Nat.le_of_ble_eq_true rfl) (Nat.le_of_ble_eq_true rfl)
