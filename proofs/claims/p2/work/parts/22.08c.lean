theorem dX5_tell_0 : decode cX5_tell 0 = .ok (.iload_n 1, 1) := by decide +kernel
theorem dX5_tell_1 : decode cX5_tell 1 = .ok (.ifCond .lt 12, 3) := by decide +kernel
theorem dX5_tell_4 : decode cX5_tell 4 = .ok (.iload_n 1, 1) := by decide +kernel
theorem dX5_tell_5 : decode cX5_tell 5 = .ok (.aload_n 0, 1) := by decide +kernel
theorem dX5_tell_6 : decode cX5_tell 6 = .ok (.getfield 15, 3) := by decide +kernel
theorem dX5_tell_9 : decode cX5_tell 9 = .ok (.arraylength, 1) := by decide +kernel
theorem dX5_tell_10 : decode cX5_tell 10 = .ok (.if_icmp .lt 5, 3) := by decide +kernel
theorem dX5_tell_13 : decode cX5_tell 13 = .ok (.iconst 3, 1) := by decide +kernel
theorem dX5_tell_14 : decode cX5_tell 14 = .ok (.ireturn, 1) := by decide +kernel
theorem dX5_tell_15 : decode cX5_tell 15 = .ok (.aload_n 0, 1) := by decide +kernel
theorem dX5_tell_16 : decode cX5_tell 16 = .ok (.getfield 15, 3) := by decide +kernel
theorem dX5_tell_19 : decode cX5_tell 19 = .ok (.iload_n 1, 1) := by decide +kernel
theorem dX5_tell_20 : decode cX5_tell 20 = .ok (.lload_n 2, 1) := by decide +kernel
theorem dX5_tell_21 : decode cX5_tell 21 = .ok (.lastore, 1) := by decide +kernel
theorem dX5_tell_22 : decode cX5_tell 22 = .ok (.iconst 1, 1) := by decide +kernel
theorem dX5_tell_23 : decode cX5_tell 23 = .ok (.ireturn, 1) := by decide +kernel
theorem dX5_tellOp_0 : decode cX5_tellOp 0 = .ok (.iload_n 2, 1) := by decide +kernel
theorem dX5_tellOp_1 : decode cX5_tellOp 1 = .ok (.lload 5, 2) := by decide +kernel
theorem dX5_tellOp_3 : decode cX5_tellOp 3 = .ok (.invokestatic 74, 3) := by decide +kernel
theorem dX5_tellOp_6 : decode cX5_tellOp 6 = .ok (.ifCond .eq 7, 3) := by decide +kernel
theorem dX5_tellOp_9 : decode cX5_tellOp 9 = .ok (.iconst 5, 1) := by decide +kernel
theorem dX5_tellOp_10 : decode cX5_tellOp 10 = .ok (.goto 15, 3) := by decide +kernel
theorem dX5_tellOp_13 : decode cX5_tellOp 13 = .ok (.aload_n 0, 1) := by decide +kernel
theorem dX5_tellOp_14 : decode cX5_tellOp 14 = .ok (.iload_n 1, 1) := by decide +kernel
theorem dX5_tellOp_15 : decode cX5_tellOp 15 = .ok (.iload_n 2, 1) := by decide +kernel
theorem dX5_tellOp_16 : decode cX5_tellOp 16 = .ok (.lload_n 3, 1) := by decide +kernel
theorem dX5_tellOp_17 : decode cX5_tellOp 17 = .ok (.lload 5, 2) := by decide +kernel
theorem dX5_tellOp_19 : decode cX5_tellOp 19 = .ok (.invokestatic 78, 3) := by decide +kernel
theorem dX5_tellOp_22 : decode cX5_tellOp 22 = .ok (.invokevirtual 82, 3) := by decide +kernel
theorem dX5_tellOp_25 : decode cX5_tellOp 25 = .ok (.ireturn, 1) := by decide +kernel
theorem dX10_lets_0 : decode cX10_lets 0 = .ok (.aload_n 0, 1) := by decide +kernel
theorem dX10_lets_1 : decode cX10_lets 1 = .ok (.getfield 15, 3) := by decide +kernel
theorem dX10_lets_4 : decode cX10_lets 4 = .ok (.iconst (-1), 1) := by decide +kernel
theorem dX10_lets_5 : decode cX10_lets 5 = .ok (.if_icmp .eq 16, 3) := by decide +kernel
theorem dX10_lets_8 : decode cX10_lets 8 = .ok (.aload_n 0, 1) := by decide +kernel
theorem dX10_lets_9 : decode cX10_lets 9 = .ok (.getfield 15, 3) := by decide +kernel
theorem dX10_lets_12 : decode cX10_lets 12 = .ok (.lload_n 1, 1) := by decide +kernel
theorem dX10_lets_13 : decode cX10_lets 13 = .ok (.aload_n 0, 1) := by decide +kernel
theorem dX10_lets_14 : decode cX10_lets 14 = .ok (.getfield 19, 3) := by decide +kernel
theorem dX10_lets_17 : decode cX10_lets 17 = .ok (.invokestatic 42, 3) := by decide +kernel
theorem dX10_lets_20 : decode cX10_lets 20 = .ok (.ireturn, 1) := by decide +kernel
theorem dX10_lets_21 : decode cX10_lets 21 = .ok (.iconst 0, 1) := by decide +kernel
theorem dX10_lets_22 : decode cX10_lets 22 = .ok (.istore 4, 2) := by decide +kernel
theorem dX10_lets_24 : decode cX10_lets 24 = .ok (.iload 4, 2) := by decide +kernel
theorem dX10_lets_26 : decode cX10_lets 26 = .ok (.iload_n 3, 1) := by decide +kernel
theorem dX10_lets_27 : decode cX10_lets 27 = .ok (.if_icmp .ge 22, 3) := by decide +kernel
theorem dX10_lets_30 : decode cX10_lets 30 = .ok (.aload_n 0, 1) := by decide +kernel
theorem dX10_lets_31 : decode cX10_lets 31 = .ok (.iload 4, 2) := by decide +kernel
theorem dX10_lets_33 : decode cX10_lets 33 = .ok (.invokevirtual 46, 3) := by decide +kernel
theorem dX10_lets_36 : decode cX10_lets 36 = .ok (.lload_n 1, 1) := by decide +kernel
theorem dX10_lets_37 : decode cX10_lets 37 = .ok (.lcmp, 1) := by decide +kernel
theorem dX10_lets_38 : decode cX10_lets 38 = .ok (.ifCond .ne 5, 3) := by decide +kernel
theorem dX10_lets_41 : decode cX10_lets 41 = .ok (.iconst 0, 1) := by decide +kernel
theorem dX10_lets_42 : decode cX10_lets 42 = .ok (.ireturn, 1) := by decide +kernel
theorem dX10_lets_43 : decode cX10_lets 43 = .ok (.iinc 4 1, 3) := by decide +kernel
theorem dX10_lets_46 : decode cX10_lets 46 = .ok (.goto (-22), 3) := by decide +kernel
theorem dX10_lets_49 : decode cX10_lets 49 = .ok (.iconst 1, 1) := by decide +kernel
theorem dX10_lets_50 : decode cX10_lets 50 = .ok (.ireturn, 1) := by decide +kernel
abbrev wmX5_tell : List Cond := .code yX5_tell cX5_tell 4 (some .int) :: WC
theorem hd_X5_tell : yX5_tell.cls = RX5 ∧ yX5_tell.cls ≠ "java/lang/invoke/MethodHandle" ∧ yX5_tell.cls ≠ "java/lang/invoke/VarHandle" ∧ (parseMethodDescriptor yX5_tell.desc).map (fun d => d.parameters.length) = some 2 := by decide +kernel
def P_X5_tell (sh : Sh) (ci : Nat → Nat → Int32) (ai : Nat → Nat → Int32) (al : Nat → Nat → Int64) (q : Nat) (p0 : Int32) (p1 : Int64) (Q : Int32 → (Nat → Nat → Int32) → (Nat → Nat → Int32) → (Nat → Nat → Int64) → Prop) : Prop := (q ∈ sL sh ∧ isZ (sK sh q)) ∧ ((p0 < 0) → (Q 3 ci ai al)) ∧ ((¬ p0 < 0) → (∃ q1 : Nat, sR sh q 1 = some q1 ∧ (q1 ∈ sL sh ∧ sK sh q1 = 22) ∧ ((p0 < (nI (sN sh q1))) → (vp_in p0 (sN sh q1) ∧ Q 1 ci ai (va_up al q1 (vp_updL (al q1) p0.toNatClampNeg p1)))) ∧ ((¬ p0 < (nI (sN sh q1))) → (Q 3 ci ai al))))
set_option maxHeartbeats 4000000 in
set_option maxRecDepth 100000 in
theorem p_X5_tell (l : Launch) (dC : Nat → ClassId) (dI : Nat → Nat → Nat) (sh : Sh) (ci : Nat → Nat → Int32) (ai : Nat → Nat → Int32) (al : Nat → Nat → Int64) (q : Nat) (p0 : Int32) (p1 : Int64) (Q : Int32 → (Nat → Nat → Int32) → (Nat → Nat → Int32) → (Nat → Nat → Int64) → Prop) (h : P_X5_tell sh ci ai al q p0 p1 Q) (sz : Nat) : Met l yX5_tell wmX5_tell ({ frames := 4, cells := 0, slots := 0, locals := 60 }) (va_Pc [.ref q, .int p0, .long p1] (cPre dC dI sh ci ai al sz)) (va_Qi (S := CSt) (cI Q) (cB dC dI sh (va_A (cW sh ci ai al) sz)) (va_A (cW sh ci ai al) sz)) 0 0 (va_A (cW sh ci ai al) sz) := by
  refine Met.ofW (cc := cX5_tell) (maxL := 4) (ret := (some .int)) (by decide) rfl ?_
  intro p e s m args below meth c s₁ B hml hv
  obtain ⟨rfl, hsz, hP, hK, hD0, hG⟩ := hv
  have hx := B.exec
  have hb := B.bytes
  have hr := B.returns
  have hts : ∀ w ∈ WC, w.before _ s = true := fun w h => atoms_spec (ws := wmX5_tell) B.pre w (List.mem_cons_of_mem _ h)
  have hown : s.vm.findClass RX5 = some m.cls := findClass_of_methodNamed B.named
  have hlocks := B.notSynchronized
  subst hsz
  have hD := hD0.self (sz := s.heap.size)
  generalize hAe : va_A (cW sh ci ai al) s.heap.size = A at hD ⊢
  have hA : ∀ q : Nat, s.heap.size ≤ q → A q := fun q h => by rw [← hAe]; exact Or.inr h
  generalize hH : s.heap = H at hP ⊢
  have hS : va_S A s.heap H [] := by rw [← hH]; exact va_S.rf
  have hl := lv_entry [.ref q, .int p0, .long p1] (n := 4) (Nat.le_of_ble_eq_true rfl)
  rw [lg_entry_eq]
  generalize (lg_sl [.ref q, .int p0, .long p1] ++ List.replicate (4 - (lg_sl [.ref q, .int p0, .long p1]).length) Slot.unset).toArray = ls at hl ⊢
  have hl : lv_has ls 4 [(0, .ref q), (1, .int p0), (2, .long p1)] := hl
  unfold P_X5_tell at h
  obtain ⟨⟨hq, hk⟩, h⟩ := h
  refine lv_iload_n hx hb dX5_tell_0 rfl (lv_at hl 1 rfl) ?_
  refine lv_if_lt (tgt := 13) hx hb dX5_tell_1 (by decide) (fun c_1 => ?_) (fun c_1 => ?_)
  · have h := h.1 c_1
    refine lv_iconst (v := 3) hx hb dX5_tell_13 (by decide) ?_
    exact W.iret (v := 3) hx hb hr (fun t ht hW => ⟨⟨_, (ci, ai, al), rfl, h, by rw [ht]; exact hP, cK.moved hW.alike hK, hD⟩, hS.F ht⟩) hS.2.2 dX5_tell_14
  · have h := h.2 c_1
    refine lv_iload_n hx hb dX5_tell_4 rfl (lv_at hl 1 rfl) ?_
    refine lv_aload_n hx hb dX5_tell_5 rfl (lv_at hl 0 rfl) ?_
    obtain ⟨q1, e2, h⟩ := h
    refine c_getZ1 hx hb hts hown hK hP hq hk e2 (hts _ mwC_90) dX5_tell_6 ?_
    obtain ⟨⟨hm3, hk4⟩, h⟩ := h
    refine c_alen hx hb hK hP hm3 (Or.inr (Or.inr (Or.inl hk4))) dX5_tell_9 ?_
    refine lv_icmp_lt (tgt := 15) hx hb dX5_tell_10 (by decide) (fun c_10 => ?_) (fun c_10 => ?_)
    · have h := h.1 c_10
      refine lv_aload_n hx hb dX5_tell_15 rfl (lv_at hl 0 rfl) ?_
      refine c_getZ1 hx hb hts hown hK hP hq hk e2 (hts _ mwC_90) dX5_tell_16 ?_
      refine lv_iload_n hx hb dX5_tell_19 rfl (lv_at hl 1 rfl) ?_
      refine lv_lload_n hx hb dX5_tell_20 rfl (lv_at hl 2 rfl) ?_
      obtain ⟨hi5, h⟩ := h
      refine c_last hx hb hK hP hD hS hm3 hk4 hi5 dX5_tell_21 (fun H locs hP hD hS => ?_)
      refine lv_iconst (v := 1) hx hb dX5_tell_22 (by decide) ?_
      exact W.iret (v := 1) hx hb hr (fun t ht hW => ⟨⟨_, (ci, ai, va_up al q1 (vp_updL (al q1) p0.toNatClampNeg p1)), rfl, h, by rw [ht]; exact hP, cK.moved hW.alike hK, hD⟩, hS.F ht⟩) hS.2.2 dX5_tell_23
    · have h := h.2 c_10
      refine lv_iconst (v := 3) hx hb dX5_tell_13 (by decide) ?_
      exact W.iret (v := 3) hx hb hr (fun t ht hW => ⟨⟨_, (ci, ai, al), rfl, h, by rw [ht]; exact hP, cK.moved hW.alike hK, hD⟩, hS.F ht⟩) hS.2.2 dX5_tell_14

abbrev wmX5_tellOp : List Cond := .code yX5_tellOp cX5_tellOp 7 (some .int) :: WC
theorem hd_X5_tellOp : yX5_tellOp.cls = RX5 ∧ yX5_tellOp.cls ≠ "java/lang/invoke/MethodHandle" ∧ yX5_tellOp.cls ≠ "java/lang/invoke/VarHandle" ∧ (parseMethodDescriptor yX5_tellOp.desc).map (fun d => d.parameters.length) = some 4 := by decide +kernel
def P_X5_tellOp (sh : Sh) (ci : Nat → Nat → Int32) (ai : Nat → Nat → Int32) (al : Nat → Nat → Int64) (q : Nat) (p0 : Int32) (p1 : Int32) (p2 : Int64) (p3 : Int64) (Q : Int32 → (Nat → Nat → Int32) → (Nat → Nat → Int32) → (Nat → Nat → Int64) → Prop) : Prop := (q ∈ sL sh ∧ isZ (sK sh q)) ∧ P_X11_dividesByNone p1 p3 (fun r1 => ((r1 = 0) → (P_X11_reckon p1 p2 p3 (fun r2 => P_X5_tell sh ci ai al q p0 r2 (fun r3 ci3 ai3 al3 => Q r3 ci3 ai3 al3)))) ∧ ((¬ r1 = 0) → (Q 5 ci ai al)))
set_option maxHeartbeats 4000000 in
set_option maxRecDepth 100000 in
theorem p_X5_tellOp (l : Launch) (dC : Nat → ClassId) (dI : Nat → Nat → Nat) (sh : Sh) (ci : Nat → Nat → Int32) (ai : Nat → Nat → Int32) (al : Nat → Nat → Int64) (q : Nat) (p0 : Int32) (p1 : Int32) (p2 : Int64) (p3 : Int64) (Q : Int32 → (Nat → Nat → Int32) → (Nat → Nat → Int32) → (Nat → Nat → Int64) → Prop) (h : P_X5_tellOp sh ci ai al q p0 p1 p2 p3 Q) (sz : Nat) : Met l yX5_tellOp wmX5_tellOp ({ frames := 40, cells := 0, slots := 0, locals := 600 }) (va_Pc [.ref q, .int p0, .int p1, .long p2, .long p3] (cPre dC dI sh ci ai al sz)) (va_Qi (S := CSt) (cI Q) (cB dC dI sh (va_A (cW sh ci ai al) sz)) (va_A (cW sh ci ai al) sz)) 0 0 (va_A (cW sh ci ai al) sz) := by
  refine Met.ofW (cc := cX5_tellOp) (maxL := 7) (ret := (some .int)) (by decide) rfl ?_
  intro p e s m args below meth c s₁ B hml hv
  obtain ⟨rfl, hsz, hP, hK, hD0, hG⟩ := hv
  have hx := B.exec
  have hb := B.bytes
  have hr := B.returns
  have hts : ∀ w ∈ WC, w.before _ s = true := fun w h => atoms_spec (ws := wmX5_tellOp) B.pre w (List.mem_cons_of_mem _ h)
  have hown : s.vm.findClass RX5 = some m.cls := findClass_of_methodNamed B.named
  have hlocks := B.notSynchronized
  subst hsz
  have hD := hD0.self (sz := s.heap.size)
  generalize hAe : va_A (cW sh ci ai al) s.heap.size = A at hD ⊢
  have hA : ∀ q : Nat, s.heap.size ≤ q → A q := fun q h => by rw [← hAe]; exact Or.inr h
  generalize hH : s.heap = H at hP ⊢
  have hS : va_S A s.heap H [] := by rw [← hH]; exact va_S.rf
  have hl := lv_entry [.ref q, .int p0, .int p1, .long p2, .long p3] (n := 7) (Nat.le_of_ble_eq_true rfl)
  rw [lg_entry_eq]
  generalize (lg_sl [.ref q, .int p0, .int p1, .long p2, .long p3] ++ List.replicate (7 - (lg_sl [.ref q, .int p0, .int p1, .long p2, .long p3]).length) Slot.unset).toArray = ls at hl ⊢
  have hl : lv_has ls 7 [(0, .ref q), (1, .int p0), (2, .int p1), (3, .long p2), (5, .long p3)] := hl
  unfold P_X5_tellOp at h
  obtain ⟨⟨hq, hk⟩, h⟩ := h
  refine lv_iload_n hx hb dX5_tellOp_0 rfl (lv_at hl 2 rfl) ?_
  refine lv_lload hx hb dX5_tellOp_1 (lv_at hl 4 rfl) ?_
  refine r_endi (va_runSN (host := "NeededLists") (rm := ({ frames := 4, cells := 0, slots := 0, locals := 60 })) (As := [.int p1, .long p3]) (rest := []) ⟨hx, hb, hml, hown, hts⟩ (p_X11_dividesByNone l dC dI p1 p3 _ h H.size) ⟨va_cnB 2 hts (g_C gdC mwC_118) rfl rfl rfl hG.dbn (hts _ mwC_119) hd_X11_dividesByNone ⟨Nat.le_of_ble_eq_true rfl, Nat.le_of_ble_eq_true rfl⟩, hts _ mwC_120, trivial⟩ ⟨s_blind, fun U hU hW => ⟨rfl, congrArg Array.size hU⟩⟩ rfl rfl hl.1 rfl (lv_room (Nat.le_of_ble_eq_true rfl)) dX5_tellOp_3 ⟨Nat.le_of_ble_eq_true rfl, Nat.le_of_ble_eq_true rfl⟩) hP hS hA (fun r1 H locs h hP hS => ?_)
  refine lv_if_eq (tgt := 13) hx hb dX5_tellOp_6 (by decide) (fun c_6 => ?_) (fun c_6 => ?_)
  · have h := h.1 c_6
    refine lv_aload_n hx hb dX5_tellOp_13 rfl (lv_at hl 0 rfl) ?_
    refine lv_iload_n hx hb dX5_tellOp_14 rfl (lv_at hl 1 rfl) ?_
    refine lv_iload_n hx hb dX5_tellOp_15 rfl (lv_at hl 2 rfl) ?_
    refine lv_lload_n hx hb dX5_tellOp_16 rfl (lv_at hl 3 rfl) ?_
    refine lv_lload hx hb dX5_tellOp_17 (lv_at hl 4 rfl) ?_
    refine r_endl (va_runSN (host := "NeededLists") (rm := ({ frames := 8, cells := 0, slots := 0, locals := 120 })) (As := [.int p1, .long p2, .long p3]) (rest := [.int p0, .ref q]) ⟨hx, hb, hml, hown, hts⟩ (p_X11_reckon l dC dI p1 p2 p3 _ h H.size) ⟨va_cnB 3 hts (g_C gdC mwC_121) rfl rfl rfl hG.rck (hts _ mwC_119) hd_X11_reckon ⟨Nat.le_of_ble_eq_true rfl, Nat.le_of_ble_eq_true rfl⟩, hts _ mwC_122, trivial⟩ ⟨s_blind, fun U hU hW => ⟨rfl, congrArg Array.size hU⟩⟩ rfl rfl hl.1 rfl (lv_room (Nat.le_of_ble_eq_true rfl)) dX5_tellOp_19 ⟨Nat.le_of_ble_eq_true rfl, Nat.le_of_ble_eq_true rfl⟩) hP hS hA (fun r2 H locs h hP hS => ?_)
    refine c_endi (c_runZ (rm := ({ frames := 4, cells := 0, slots := 0, locals := 60 })) (y := yX5_tell) (x := ⟨"NeededLists$LazyList", "tell", "(IJ)I"⟩) (n := 2) (bytes := cX5_tell) (maxL := 4) (ret := (some .int)) (q := q) (As := [.int p0, .long r2]) (rest := []) ⟨hx, hb, hml, hown, hts⟩ (p_X5_tell l dC dI sh _ _ _ q p0 r2 _ h H.size) mwC_123 mwC_124 mwC_125 mwC_22 mwC_126 mwC_127 mwC_128 mwC_129 mwC_130 mwC_131 mwC_132 mwC_133 mwC_134 mwC_135 rfl (by decide +kernel) rfl rfl ⟨Nat.le_of_ble_eq_true rfl, Nat.le_of_ble_eq_true rfl⟩ hK hP hD hG hq hk rfl hl.1 rfl (Nat.le_of_ble_eq_true rfl) ⟨Nat.le_of_ble_eq_true rfl, Nat.le_of_ble_eq_true rfl⟩ dX5_tellOp_22) hD hS hA (fun r3 ci3 ai3 al3 H locs h hP hD hS => ?_)
    exact W.iret (v := r3) hx hb hr (fun t ht hW => ⟨⟨_, (ci3, ai3, al3), rfl, h, by rw [ht]; exact hP, cK.moved hW.alike hK, hD⟩, hS.F ht⟩) hS.2.2 dX5_tellOp_25
  · have h := h.2 c_6
    refine lv_iconst (v := 5) hx hb dX5_tellOp_9 (by decide) ?_
    refine lv_goto (tgt := 25) hx hb dX5_tellOp_10 (by decide) ?_
    exact W.iret (v := 5) hx hb hr (fun t ht hW => ⟨⟨_, (ci, ai, al), rfl, h, by rw [ht]; exact hP, cK.moved hW.alike hK, hD⟩, hS.F ht⟩) hS.2.2 dX5_tellOp_25

abbrev wmX10_lets : List Cond := .code yX10_lets cX10_lets 5 (some .boolean) :: WC
theorem hd_X10_lets : yX10_lets.cls = RX10 ∧ yX10_lets.cls ≠ "java/lang/invoke/MethodHandle" ∧ yX10_lets.cls ≠ "java/lang/invoke/VarHandle" ∧ (parseMethodDescriptor yX10_lets.desc).map (fun d => d.parameters.length) = some 2 := by decide +kernel
def B_X10_lets_24 (sh : Sh) (ci : Nat → Nat → Int32) (ai : Nat → Nat → Int32) (al : Nat → Nat → Int64)  (K24 : Int64 → Int32 → Int32 → Prop) (Q : Int32 → Prop) (q : Nat) (x1 : Int64) (x3 : Int32) (x4 : Int32) : Prop := ((x3 ≤ x4) → (Q 1)) ∧ ((¬ x3 ≤ x4) → (P_X5_number_f sh 30 ci ai al q x4 (fun r1 => ((¬ (lg_cmp r1 x1) = 0) → (K24  x1 x3 (x4 + 1))) ∧ (((lg_cmp r1 x1) = 0) → (Q 0)))))
def P_X10_lets_24 (sh : Sh) (ci : Nat → Nat → Int32) (ai : Nat → Nat → Int32) (al : Nat → Nat → Int64)  (Q : Int32 → Prop) (q : Nat) : Nat → Int64 → Int32 → Int32 → Prop
  | 0 => fun _ _ _ => False
  | n + 1 => B_X10_lets_24 sh ci ai al  (P_X10_lets_24 sh ci ai al  Q q n) Q q
set_option maxHeartbeats 4000000 in
set_option maxRecDepth 100000 in
theorem b_X10_lets_24 {p : Program} {l : Launch} {e : Env} {s : State} {m : MethodId} {args : Array Value} {below : List Frame} {meth : Method} {c : Code} {A : Nat → Prop} {dC : Nat → ClassId} {dI : Nat → Nat → Nat} {sh : Sh} {q : Nat} {ci : Nat → Nat → Int32} {ai : Nat → Nat → Int32} {al : Nat → Nat → Int64}  {K24 : Int64 → Int32 → Int32 → Prop} {Q : Int32 → Prop} (hx : p.tables.exec = Jvm.exec) (hb : c.code = cX10_lets) (hr : meth.sig.returnType = (some .boolean)) (hts : ∀ w ∈ WC, w.before args s = true) (hown : s.vm.findClass RX10 = some m.cls) (hlocks : meth.locks = false) (hml : c.maxLocals = 5) (hA : ∀ q : Nat, s.heap.size ≤ q → A q) (hK : cK dC dI sh s) (hG : Gc s) (hq : q ∈ sL sh) (hk : sK sh q = 9) (hD : va_D (fun _ => True) (cW sh ci ai al))  (hK24 : ∀ (x1 : Int64) (x3 : Int32) (x4 : Int32) (H : Heap) (locs : List Loc) (ls : Array Slot), K24 x1 x3 x4 → va_P (dC, dI) vwCl (cW sh ci ai al) H → va_S A s.heap H locs → lv_has ls 5 [(0, .ref q), (1, .long x1), (3, .int x3), (4, .int x4)] → W p l e (headSpec wmX10_lets ({ frames := 120, cells := 0, slots := 0, locals := 2400 })).room s m args below meth c H locs 0 0 (MQ below (va_Qi (S := Unit) (fun r _ => Q r) (fun _ _ => True) A) args s 0 0 A) (F0 m 24 ls [])) : ∀ (x1 : Int64) (x3 : Int32) (x4 : Int32) (H : Heap) (locs : List Loc) (ls : Array Slot), B_X10_lets_24 sh ci ai al  K24 Q q x1 x3 x4 → va_P (dC, dI) vwCl (cW sh ci ai al) H → va_S A s.heap H locs → lv_has ls 5 [(0, .ref q), (1, .long x1), (3, .int x3), (4, .int x4)] → W p l e (headSpec wmX10_lets ({ frames := 120, cells := 0, slots := 0, locals := 2400 })).room s m args below meth c H locs 0 0 (MQ below (va_Qi (S := Unit) (fun r _ => Q r) (fun _ _ => True) A) args s 0 0 A) (F0 m 24 ls []) := by
  intro x1 x3 x4 H locs ls h hP hS hl
  unfold B_X10_lets_24 at h
  refine lv_iload hx hb dX10_lets_24 (lv_at hl 3 rfl) ?_
  refine lv_iload_n hx hb dX10_lets_26 rfl (lv_at hl 2 rfl) ?_
  refine lv_icmp_ge (tgt := 49) hx hb dX10_lets_27 (by decide) (fun c_27 => ?_) (fun c_27 => ?_)
  · have h := h.1 c_27
    refine lv_iconst (v := 1) hx hb dX10_lets_49 (by decide) ?_
    exact W.zret (v := 1) hx hb hr (by decide) (fun t ht hW => ⟨⟨_, (), rfl, h, trivial⟩, hS.F ht⟩) hS.2.2 dX10_lets_50
  · have h := h.2 c_27
    refine lv_aload_n hx hb dX10_lets_30 rfl (lv_at hl 0 rfl) ?_
    refine lv_iload hx hb dX10_lets_31 (lv_at hl 3 rfl) ?_
    refine r_endl (va_runU (C := RX10) (owner := "NeededLists$LazyList") (rm := ({ frames := 20 + 2 * 30, cells := 0, slots := 0, locals := 300 + 50 * 30 })) (As := [.int x4]) (rest := []) ⟨hx, hb, hml, hown, hts⟩ (p_X5_number_f l dC dI sh 30 _ _ _ q x4 _ h H.size) (va_cwU (x := ⟨"NeededLists$Sieve", "number", "(I)J"⟩) 1 hts (g_U gdC mwC_140 mwC_141 mwC_142 mwC_93 mwC_22 mwC_94) rfl rfl rfl rfl ⟨by decide, by decide, by decide +kernel⟩ ⟨(show 20 + 2 * 30 + 1 ≤ 120 by omega), (show 8 + (3 + 11) + (300 + 50 * 30) ≤ 2400 by omega)⟩) (c_preV (vc := (RX10, TX10, 9)) hK hP hD hG hq hk (by decide) rfl) rfl rfl hl.1 rfl (lv_room (Nat.le_of_ble_eq_true rfl)) dX10_lets_33 ⟨Nat.le_of_ble_eq_true rfl, Nat.le_of_ble_eq_true rfl⟩) hP hS hA (fun r1 H locs h hP hS => ?_)
    refine lv_lload_n hx hb dX10_lets_36 rfl (lv_at hl 1 rfl) ?_
    refine W.lcmp hx hb dX10_lets_37 ?_
    refine lv_if_ne (tgt := 43) hx hb dX10_lets_38 (by decide) (fun c_38 => ?_) (fun c_38 => ?_)
    · have h := h.1 c_38
      refine lv_iinc (v := x4 + 1) (lv' := [(4, .int (x4 + 1)), (0, .ref q), (1, .long x1), (3, .int x3)]) hx hb dX10_lets_43 hl (k := 3) rfl (iinc_1 _) (by decide) rfl (fun ls hl => ?_)
      refine lv_goto (tgt := 24) hx hb dX10_lets_46 (by decide) ?_
      exact hK24 _ _ _ H _ ls h hP hS (lv_sub hl [1, 2, 3, 0] rfl)
    · have h := h.2 c_38
      refine lv_iconst (v := 0) hx hb dX10_lets_41 (by decide) ?_
      exact W.zret (v := 0) hx hb hr (by decide) (fun t ht hW => ⟨⟨_, (), rfl, h, trivial⟩, hS.F ht⟩) hS.2.2 dX10_lets_42
set_option maxHeartbeats 4000000 in
set_option maxRecDepth 100000 in
theorem t_X10_lets_24 {p : Program} {l : Launch} {e : Env} {s : State} {m : MethodId} {args : Array Value} {below : List Frame} {meth : Method} {c : Code} {A : Nat → Prop} {dC : Nat → ClassId} {dI : Nat → Nat → Nat} {sh : Sh} {q : Nat} {ci : Nat → Nat → Int32} {ai : Nat → Nat → Int32} {al : Nat → Nat → Int64}  {Q : Int32 → Prop} (hx : p.tables.exec = Jvm.exec) (hb : c.code = cX10_lets) (hr : meth.sig.returnType = (some .boolean)) (hts : ∀ w ∈ WC, w.before args s = true) (hown : s.vm.findClass RX10 = some m.cls) (hlocks : meth.locks = false) (hml : c.maxLocals = 5) (hA : ∀ q : Nat, s.heap.size ≤ q → A q) (hK : cK dC dI sh s) (hG : Gc s) (hq : q ∈ sL sh) (hk : sK sh q = 9) (hD : va_D (fun _ => True) (cW sh ci ai al))  : ∀ n : Nat, ∀ (x1 : Int64) (x3 : Int32) (x4 : Int32) (H : Heap) (locs : List Loc) (ls : Array Slot), P_X10_lets_24 sh ci ai al  Q q n x1 x3 x4 → va_P (dC, dI) vwCl (cW sh ci ai al) H → va_S A s.heap H locs → lv_has ls 5 [(0, .ref q), (1, .long x1), (3, .int x3), (4, .int x4)] → W p l e (headSpec wmX10_lets ({ frames := 120, cells := 0, slots := 0, locals := 2400 })).room s m args below meth c H locs 0 0 (MQ below (va_Qi (S := Unit) (fun r _ => Q r) (fun _ _ => True) A) args s 0 0 A) (F0 m 24 ls []) := by
  intro n
  induction n with
  | zero => intro x1 x3 x4 H locs ls h; exact h.elim
  | succ n ih => exact b_X10_lets_24 hx hb hr hts hown hlocks hml hA hK hG hq hk hD  ih
def P_X10_lets (sh : Sh) (ci : Nat → Nat → Int32) (ai : Nat → Nat → Int32) (al : Nat → Nat → Int64) (q : Nat) (p0 : Int64) (p1 : Int32) (Q : Int32 → Prop) : Prop := (q ∈ sL sh ∧ sK sh q = 9) ∧ (((ci q 6) = (-1)) → (∃ n9 : Nat, P_X10_lets_24 sh ci ai al  Q q n9  p0 p1 (0 : Int32))) ∧ ((¬ (ci q 6) = (-1)) → (P_X11_meets (ci q 6) p0 (sJ sh q 7) (fun r1 => narrow .boolean (.int r1) = .int r1 ∧ Q r1)))
set_option maxHeartbeats 4000000 in
set_option maxRecDepth 100000 in
theorem p_X10_lets (l : Launch) (dC : Nat → ClassId) (dI : Nat → Nat → Nat) (sh : Sh) (ci : Nat → Nat → Int32) (ai : Nat → Nat → Int32) (al : Nat → Nat → Int64) (q : Nat) (p0 : Int64) (p1 : Int32) (Q : Int32 → Prop) (h : P_X10_lets sh ci ai al q p0 p1 Q) (sz : Nat) : Met l yX10_lets wmX10_lets ({ frames := 120, cells := 0, slots := 0, locals := 2400 }) (va_Pc [.ref q, .long p0, .int p1] (cPre dC dI sh ci ai al sz)) (va_Qi (S := Unit) (fun r _ => Q r) (fun _ _ => True) (va_A [] sz)) 0 0 (va_A [] sz) := by
  refine Met.ofW (cc := cX10_lets) (maxL := 5) (ret := (some .boolean)) (by decide) rfl ?_
  intro p e s m args below meth c s₁ B hml hv
  obtain ⟨rfl, hsz, hP, hK, hD0, hG⟩ := hv
  have hx := B.exec
  have hb := B.bytes
  have hr := B.returns
  have hts : ∀ w ∈ WC, w.before _ s = true := fun w h => atoms_spec (ws := wmX10_lets) B.pre w (List.mem_cons_of_mem _ h)
  have hown : s.vm.findClass RX10 = some m.cls := findClass_of_methodNamed B.named
  have hlocks := B.notSynchronized
  subst hsz
  have hD := hD0
  generalize hAe : va_A [] s.heap.size = A at ⊢
  have hA : ∀ q : Nat, s.heap.size ≤ q → A q := fun q h => by rw [← hAe]; exact Or.inr h
  generalize hH : s.heap = H at hP ⊢
  have hS : va_S A s.heap H [] := by rw [← hH]; exact va_S.rf
  have hl := lv_entry [.ref q, .long p0, .int p1] (n := 5) (Nat.le_of_ble_eq_true rfl)
  rw [lg_entry_eq]
  generalize (lg_sl [.ref q, .long p0, .int p1] ++ List.replicate (5 - (lg_sl [.ref q, .long p0, .int p1]).length) Slot.unset).toArray = ls at hl ⊢
  have hl : lv_has ls 5 [(0, .ref q), (1, .long p0), (3, .int p1)] := hl
  unfold P_X10_lets at h
  obtain ⟨⟨hq, hk⟩, h⟩ := h
  refine lv_aload_n hx hb dX10_lets_0 rfl (lv_at hl 0 rfl) ?_
  refine c_get (C := RX10) (T := TX10) (N := 9) (K := 9) (v := .int (ci q 6)) hx hb hts hinX10 hown hK hP hq hk (by decide) rfl 6 (by decide) (hts _ mwC_136) (fun _ h9 => h9) rfl dX10_lets_1 ?_
  refine lv_iconst (v := (-1)) hx hb dX10_lets_4 (by decide) ?_
  refine lv_icmp_eq (tgt := 21) hx hb dX10_lets_5 (by decide) (fun c_5 => ?_) (fun c_5 => ?_)
  · have h := h.1 c_5
    refine lv_iconst (v := 0) hx hb dX10_lets_21 (by decide) ?_
    refine lv_istore (lv' := [(4, .int 0), (0, .ref q), (1, .long p0), (3, .int p1)]) hx hb dX10_lets_22 hl (by decide) rfl (fun ls hl => ?_)
    obtain ⟨n9, h⟩ := h
    exact t_X10_lets_24 hx hb hr hts hown hlocks hml hA hK hG hq hk hD  n9 _ _ _ H _ ls h hP hS (lv_sub hl [1, 2, 3, 0] rfl)
  · have h := h.2 c_5
    refine lv_aload_n hx hb dX10_lets_8 rfl (lv_at hl 0 rfl) ?_
    refine c_get (C := RX10) (T := TX10) (N := 9) (K := 9) (v := .int (ci q 6)) hx hb hts hinX10 hown hK hP hq hk (by decide) rfl 6 (by decide) (hts _ mwC_136) (fun _ h9 => h9) rfl dX10_lets_9 ?_
    refine lv_lload_n hx hb dX10_lets_12 rfl (lv_at hl 1 rfl) ?_
    refine lv_aload_n hx hb dX10_lets_13 rfl (lv_at hl 0 rfl) ?_
    refine c_get (C := RX10) (T := TX10) (N := 9) (K := 9) (v := .long (sJ sh q 7)) hx hb hts hinX10 hown hK hP hq hk (by decide) rfl 7 (by decide) (hts _ mwC_137) (fun _ h9 => h9) rfl dX10_lets_14 ?_
    refine r_endi (va_runSN (host := "NeededLists") (rm := ({ frames := 4, cells := 0, slots := 0, locals := 60 })) (As := [.int (ci q 6), .long p0, .long (sJ sh q 7)]) (rest := []) ⟨hx, hb, hml, hown, hts⟩ (p_X11_meets l dC dI (ci q 6) p0 (sJ sh q 7) _ h H.size) ⟨va_cnB 3 hts (g_C gdC mwC_138) rfl rfl rfl hG.mt10 (hts _ mwC_119) hd_X11_meets ⟨Nat.le_of_ble_eq_true rfl, Nat.le_of_ble_eq_true rfl⟩, hts _ mwC_139, trivial⟩ ⟨s_blind, fun U hU hW => ⟨rfl, congrArg Array.size hU⟩⟩ rfl rfl hl.1 rfl (lv_room (Nat.le_of_ble_eq_true rfl)) dX10_lets_17 ⟨Nat.le_of_ble_eq_true rfl, Nat.le_of_ble_eq_true rfl⟩) hP hS hA (fun r1 H locs h hP hS => ?_)
    obtain ⟨hz2, h⟩ := h
    exact W.zret (v := r1) hx hb hr hz2 (fun t ht hW => ⟨⟨_, (), rfl, h, trivial⟩, hS.F ht⟩) hS.2.2 dX10_lets_20
