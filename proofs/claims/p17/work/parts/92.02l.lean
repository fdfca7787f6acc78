abbrev cL_take : ByteArray := method_11_code
def yL_take : MethodName := ⟨RL, "take", "(LNeededLists;II[J)I"⟩
abbrev cL_drop : ByteArray := method_12_code
def yL_drop : MethodName := ⟨RL, "drop", "(LNeededLists;II[J)I"⟩
abbrev cL_keep : ByteArray := method_13_code
def yL_keep : MethodName := ⟨RL, "keep", "(LNeededLists;IIJ[J)I"⟩
abbrev cL_during : ByteArray := method_14_code
def yL_during : MethodName := ⟨RL, "during", "(LNeededLists;IIJ[J)I"⟩
theorem dL_take_0 : decode cL_take 0 = .ok (.aload_n 3, 1) := by decide +kernel
theorem dL_take_1 : decode cL_take 1 = .ok (.iconst 0, 1) := by decide +kernel
theorem dL_take_2 : decode cL_take 2 = .ok (.aload_n 0, 1) := by decide +kernel
theorem dL_take_3 : decode cL_take 3 = .ok (.iload_n 1, 1) := by decide +kernel
theorem dL_take_4 : decode cL_take 4 = .ok (.iload_n 2, 1) := by decide +kernel
theorem dL_take_5 : decode cL_take 5 = .ok (.invokevirtual 46, 3) := by decide +kernel
theorem dL_take_8 : decode cL_take 8 = .ok (.i2l, 1) := by decide +kernel
theorem dL_take_9 : decode cL_take 9 = .ok (.lastore, 1) := by decide +kernel
theorem dL_take_10 : decode cL_take 10 = .ok (.goto 15, 3) := by decide +kernel
theorem dL_take_13 : decode cL_take 13 = .ok (.astore 4, 2) := by decide +kernel
theorem dL_take_15 : decode cL_take 15 = .ok (.iconst 1, 1) := by decide +kernel
theorem dL_take_16 : decode cL_take 16 = .ok (.ireturn, 1) := by decide +kernel
theorem dL_take_17 : decode cL_take 17 = .ok (.astore 4, 2) := by decide +kernel
theorem dL_take_19 : decode cL_take 19 = .ok (.iconst 2, 1) := by decide +kernel
theorem dL_take_20 : decode cL_take 20 = .ok (.ireturn, 1) := by decide +kernel
theorem dL_take_21 : decode cL_take 21 = .ok (.astore 4, 2) := by decide +kernel
theorem dL_take_23 : decode cL_take 23 = .ok (.iconst 3, 1) := by decide +kernel
theorem dL_take_24 : decode cL_take 24 = .ok (.ireturn, 1) := by decide +kernel
theorem dL_take_25 : decode cL_take 25 = .ok (.iconst 0, 1) := by decide +kernel
theorem dL_take_26 : decode cL_take 26 = .ok (.ireturn, 1) := by decide +kernel
theorem dL_drop_0 : decode cL_drop 0 = .ok (.aload_n 3, 1) := by decide +kernel
theorem dL_drop_1 : decode cL_drop 1 = .ok (.iconst 0, 1) := by decide +kernel
theorem dL_drop_2 : decode cL_drop 2 = .ok (.aload_n 0, 1) := by decide +kernel
theorem dL_drop_3 : decode cL_drop 3 = .ok (.iload_n 1, 1) := by decide +kernel
theorem dL_drop_4 : decode cL_drop 4 = .ok (.iload_n 2, 1) := by decide +kernel
theorem dL_drop_5 : decode cL_drop 5 = .ok (.invokevirtual 50, 3) := by decide +kernel
theorem dL_drop_8 : decode cL_drop 8 = .ok (.i2l, 1) := by decide +kernel
theorem dL_drop_9 : decode cL_drop 9 = .ok (.lastore, 1) := by decide +kernel
theorem dL_drop_10 : decode cL_drop 10 = .ok (.goto 15, 3) := by decide +kernel
theorem dL_drop_13 : decode cL_drop 13 = .ok (.astore 4, 2) := by decide +kernel
theorem dL_drop_15 : decode cL_drop 15 = .ok (.iconst 1, 1) := by decide +kernel
theorem dL_drop_16 : decode cL_drop 16 = .ok (.ireturn, 1) := by decide +kernel
theorem dL_drop_17 : decode cL_drop 17 = .ok (.astore 4, 2) := by decide +kernel
theorem dL_drop_19 : decode cL_drop 19 = .ok (.iconst 2, 1) := by decide +kernel
theorem dL_drop_20 : decode cL_drop 20 = .ok (.ireturn, 1) := by decide +kernel
theorem dL_drop_21 : decode cL_drop 21 = .ok (.astore 4, 2) := by decide +kernel
theorem dL_drop_23 : decode cL_drop 23 = .ok (.iconst 3, 1) := by decide +kernel
theorem dL_drop_24 : decode cL_drop 24 = .ok (.ireturn, 1) := by decide +kernel
theorem dL_drop_25 : decode cL_drop 25 = .ok (.iconst 0, 1) := by decide +kernel
theorem dL_drop_26 : decode cL_drop 26 = .ok (.ireturn, 1) := by decide +kernel
theorem dL_keep_0 : decode cL_keep 0 = .ok (.aload 5, 2) := by decide +kernel
theorem dL_keep_2 : decode cL_keep 2 = .ok (.iconst 0, 1) := by decide +kernel
theorem dL_keep_3 : decode cL_keep 3 = .ok (.aload_n 0, 1) := by decide +kernel
theorem dL_keep_4 : decode cL_keep 4 = .ok (.iload_n 1, 1) := by decide +kernel
theorem dL_keep_5 : decode cL_keep 5 = .ok (.iload_n 2, 1) := by decide +kernel
theorem dL_keep_6 : decode cL_keep 6 = .ok (.lload_n 3, 1) := by decide +kernel
theorem dL_keep_7 : decode cL_keep 7 = .ok (.invokevirtual 53, 3) := by decide +kernel
theorem dL_keep_10 : decode cL_keep 10 = .ok (.i2l, 1) := by decide +kernel
theorem dL_keep_11 : decode cL_keep 11 = .ok (.lastore, 1) := by decide +kernel
theorem dL_keep_12 : decode cL_keep 12 = .ok (.goto 15, 3) := by decide +kernel
theorem dL_keep_15 : decode cL_keep 15 = .ok (.astore 6, 2) := by decide +kernel
theorem dL_keep_17 : decode cL_keep 17 = .ok (.iconst 1, 1) := by decide +kernel
theorem dL_keep_18 : decode cL_keep 18 = .ok (.ireturn, 1) := by decide +kernel
theorem dL_keep_19 : decode cL_keep 19 = .ok (.astore 6, 2) := by decide +kernel
theorem dL_keep_21 : decode cL_keep 21 = .ok (.iconst 2, 1) := by decide +kernel
theorem dL_keep_22 : decode cL_keep 22 = .ok (.ireturn, 1) := by decide +kernel
theorem dL_keep_23 : decode cL_keep 23 = .ok (.astore 6, 2) := by decide +kernel
theorem dL_keep_25 : decode cL_keep 25 = .ok (.iconst 3, 1) := by decide +kernel
theorem dL_keep_26 : decode cL_keep 26 = .ok (.ireturn, 1) := by decide +kernel
theorem dL_keep_27 : decode cL_keep 27 = .ok (.iconst 0, 1) := by decide +kernel
theorem dL_keep_28 : decode cL_keep 28 = .ok (.ireturn, 1) := by decide +kernel
theorem dL_during_0 : decode cL_during 0 = .ok (.aload 5, 2) := by decide +kernel
theorem dL_during_2 : decode cL_during 2 = .ok (.iconst 0, 1) := by decide +kernel
theorem dL_during_3 : decode cL_during 3 = .ok (.aload_n 0, 1) := by decide +kernel
theorem dL_during_4 : decode cL_during 4 = .ok (.iload_n 1, 1) := by decide +kernel
theorem dL_during_5 : decode cL_during 5 = .ok (.iload_n 2, 1) := by decide +kernel
theorem dL_during_6 : decode cL_during 6 = .ok (.lload_n 3, 1) := by decide +kernel
theorem dL_during_7 : decode cL_during 7 = .ok (.invokevirtual 56, 3) := by decide +kernel
theorem dL_during_10 : decode cL_during 10 = .ok (.i2l, 1) := by decide +kernel
theorem dL_during_11 : decode cL_during 11 = .ok (.lastore, 1) := by decide +kernel
theorem dL_during_12 : decode cL_during 12 = .ok (.goto 15, 3) := by decide +kernel
theorem dL_during_15 : decode cL_during 15 = .ok (.astore 6, 2) := by decide +kernel
theorem dL_during_17 : decode cL_during 17 = .ok (.iconst 1, 1) := by decide +kernel
theorem dL_during_18 : decode cL_during 18 = .ok (.ireturn, 1) := by decide +kernel
theorem dL_during_19 : decode cL_during 19 = .ok (.astore 6, 2) := by decide +kernel
theorem dL_during_21 : decode cL_during 21 = .ok (.iconst 2, 1) := by decide +kernel
theorem dL_during_22 : decode cL_during 22 = .ok (.ireturn, 1) := by decide +kernel
theorem dL_during_23 : decode cL_during 23 = .ok (.astore 6, 2) := by decide +kernel
theorem dL_during_25 : decode cL_during 25 = .ok (.iconst 3, 1) := by decide +kernel
theorem dL_during_26 : decode cL_during 26 = .ok (.ireturn, 1) := by decide +kernel
theorem dL_during_27 : decode cL_during 27 = .ok (.iconst 0, 1) := by decide +kernel
theorem dL_during_28 : decode cL_during 28 = .ok (.ireturn, 1) := by decide +kernel
abbrev wmL_take : List Cond := .codeWith yL_take cL_take 5 (some .int) [(0, 10, 13, 37), (0, 10, 17, 19), (0, 10, 21, 13)] :: WL
theorem hd_L_take : yL_take.cls ≠ "java/lang/invoke/MethodHandle" ∧ yL_take.cls ≠ "java/lang/invoke/VarHandle" ∧ (parseMethodDescriptor yL_take.desc).map (fun d => d.parameters.length) = some 4 := by decide +kernel
abbrev rmL_take : Room := ({ frames := 110, cells := 8, slots := 2000, locals := 3300 })
set_option maxHeartbeats 4000000 in
set_option maxRecDepth 100000 in
theorem p_L_take (l : Launch) (hl0 : l.stackTraces = false) (dC : Nat → ClassId) (dI : Nat → Nat → Nat) (sh : Sh) (ci : Nat → Nat → Int32) (ai : Nat → Nat → Int32) (al : Nat → Nat → Int64) (q : Nat) (p0 : Int32) (p1 : Int32) (co : ClassId) (ho : Nat) (f : Nat → Int64) (Q : Int32 → LTy) (h : P_X11_take sh ci ai al q p0 p1 (fun r sh1 ci1 ai1 al1 => Q 0 sh1 ci1 ai1 al1 (vp_updL f (0 : Int32).toNatClampNeg r.toInt64)) (fun E => (E = "java/lang/IndexOutOfBoundsException" ∧ Q 1 sh ci ai al f) ∨ (E = "java/lang/IllegalArgumentException" ∧ Q 2 sh ci ai al f) ∨ (E = "java/lang/UnsupportedOperationException" ∧ Q 3 sh ci ai al f))) (sz : Nat) : Met l yL_take wmL_take rmL_take (va_Pc [.ref q, .int p0, .int p1, .ref ho] (lPre dC dI sh ci ai al co ho f sz)) (va_Qi (S := LSt) (lI Q) (lB dC dI co ho (va_A (oW co ho f ++ cW sh ci ai al) sz)) (va_A (oW co ho f ++ cW sh ci ai al) sz)) 8 2000 (va_A (oW co ho f ++ cW sh ci ai al) sz) := by
  refine va_MetW (hh := [(0, 10, 13, 37), (0, 10, 17, 19), (0, 10, 21, 13)]) (cc := cL_take) (maxL := 5) (ret := (some .int)) (by decide) rfl ?_
  intro p e s m args below meth c s₁ B hml hv
  obtain ⟨rfl, hsz, hP, hK, hO, hD0, hG, hN, hZ⟩ := hv
  have hx := B.exec
  have hb := B.bytes
  have hr := B.returns
  have hts : ∀ w ∈ WL, w.before _ s = true := fun w h => atoms_spec (ws := wmL_take) B.pre w (List.mem_cons_of_mem _ h)
  have hown : s.vm.findClass RL = some m.cls := findClass_of_methodNamed B.named
  have hlocks := B.notSynchronized
  have htab := vx_table (x := yL_take) (hh := [(0, 10, 13, 37), (0, 10, 17, 19), (0, 10, 21, 13)]) (bytes := cL_take) (maxL' := 5) (ret' := (some .int)) B (atoms_spec (ws := wmL_take) B.pre _ List.mem_cons_self)
  have hqk : q ∈ sL sh ∧ sK sh q = 10 := by unfold P_X11_take at h; exact h.1
  subst hsz
  have hD := hD0.self (sz := s.heap.size)
  generalize hAe : va_A (oW co ho f ++ cW sh ci ai al) s.heap.size = A at hD hZ ⊢
  have hA : ∀ q : Nat, s.heap.size ≤ q → A q := fun q h => by rw [← hAe]; exact Or.inr h
  generalize hH : s.heap = H at hP ⊢
  have hS : va_S A s.heap H [] := by rw [← hH]; exact va_S.rf
  have hl := lv_entry [.ref q, .int p0, .int p1, .ref ho] (n := 5) (Nat.le_of_ble_eq_true rfl)
  rw [lg_entry_eq]
  generalize (lg_sl [.ref q, .int p0, .int p1, .ref ho] ++ List.replicate (5 - (lg_sl [.ref q, .int p0, .int p1, .ref ho]).length) Slot.unset).toArray = ls at hl ⊢
  have hl : lv_has ls 5 [(0, .ref q), (1, .int p0), (2, .int p1), (3, .ref ho)] := hl
  refine lv_aload_n hx hb dL_take_0 rfl (lv_at hl 3 rfl) ?_
  refine lv_iconst (v := 0) hx hb dL_take_1 (by decide) ?_
  refine lv_aload_n hx hb dL_take_2 rfl (lv_at hl 0 rfl) ?_
  refine lv_iload_n hx hb dL_take_3 rfl (lv_at hl 1 rfl) ?_
  refine lv_iload_n hx hb dL_take_4 rfl (lv_at hl 2 rfl) ?_
  refine l_xi (cells := 0) (slots := 0) (wr := oW co ho f) (vx_runV (rm := ({ frames := 100, cells := 8, slots := 2000, locals := 3000 })) (As := [.int p0, .int p1]) (rest := [.int 0, .ref ho]) ⟨hx, hb, hml, hown, hts⟩ (p_X11_take l hl0 dC dI _ _ _ _ q p0 p1 _ _ h H.size) (cwV 2 hts (g_Vm gdL gdLC mwL_36 mwL_37 mwL_38 mwL_3 mwL_39) rfl rfl rfl hd_X11_take ⟨Nat.le_of_ble_eq_true rfl, Nat.le_of_ble_eq_true rfl⟩) (x_preV hK (fr_P2 hP) (fr_D2 hD) hS hA hS hG hZ hqk.1 hqk.2) rfl rfl hl.1 rfl (lv_room (Nat.le_of_ble_eq_true rfl)) dL_take_5 ⟨Nat.le_of_ble_eq_true rfl, Nat.le_of_ble_eq_true rfl⟩) hP hD hS hA (fun E ce q9 H locs hX hP hS hce hcv hcl => ?_) (fun r sh1 ci1 ai1 al1 H locs h hK hP hD hS => ?_)
  · rcases hX with ⟨rfl, hX⟩ | ⟨rfl, hX⟩ | ⟨rfl, hX⟩
    · refine vx_catch (own := RL) (name := "java/lang/IndexOutOfBoundsException") hown ((tableOf [(0, 10, 13, 37), (0, 10, 17, 19), (0, 10, 21, 13)]).take 0) (tableOf [(0, 10, 13, 37), (0, 10, 17, 19), (0, 10, 21, 13)])[0] ((tableOf [(0, 10, 13, 37), (0, 10, 17, 19), (0, 10, 21, 13)]).drop 1) (by rw [htab]; rfl) (fun z hz => nomatch hz) (by decide) (by decide) (hts _ mwL_27) (va_Nw.use rfl hG.xIOO) hce hcv hcl ?_
      refine W.eq (g2 := F0 m 13 ls [.ref q9]) rfl ?_
      refine lv_astore (lv' := [(4, .ref q9), (0, .ref q), (1, .int p0), (2, .int p1), (3, .ref ho)]) hx hb dL_take_13 hl (by decide) rfl (fun ls hl => ?_)
      refine lv_iconst (v := 1) hx hb dL_take_15 (by decide) ?_
      refine W.widen (k := 8) (n := 2000) (by decide) (by decide) ?_
      exact W.iret (v := 1) hx hb hr (fun t ht hW => ⟨⟨_, ((sh, ci, ai, al), f), rfl, hX, by rw [ht]; exact hP, cK.moved hW.alike hK, hD⟩, hS.F ht⟩) hS.2.2 dL_take_16
    · refine vx_catch (own := RL) (name := "java/lang/IllegalArgumentException") hown ((tableOf [(0, 10, 13, 37), (0, 10, 17, 19), (0, 10, 21, 13)]).take 1) (tableOf [(0, 10, 13, 37), (0, 10, 17, 19), (0, 10, 21, 13)])[1] ((tableOf [(0, 10, 13, 37), (0, 10, 17, 19), (0, 10, 21, 13)]).drop 2) (by rw [htab]; rfl) (fun z hz => by rw [List.mem_singleton.mp (show z ∈ [(tableOf [(0, 10, 13, 37), (0, 10, 17, 19), (0, 10, 21, 13)])[0]] from hz)]; exact Or.inr ⟨by decide, _, hts _ mwL_27, hN.1⟩) (by decide) (by decide) (hts _ mwL_10) (va_Nw.use rfl hG.xIAE) hce hcv hcl ?_
      refine W.eq (g2 := F0 m 17 ls [.ref q9]) rfl ?_
      refine lv_astore (lv' := [(4, .ref q9), (0, .ref q), (1, .int p0), (2, .int p1), (3, .ref ho)]) hx hb dL_take_17 hl (by decide) rfl (fun ls hl => ?_)
      refine lv_iconst (v := 2) hx hb dL_take_19 (by decide) ?_
      refine W.widen (k := 8) (n := 2000) (by decide) (by decide) ?_
      exact W.iret (v := 2) hx hb hr (fun t ht hW => ⟨⟨_, ((sh, ci, ai, al), f), rfl, hX, by rw [ht]; exact hP, cK.moved hW.alike hK, hD⟩, hS.F ht⟩) hS.2.2 dL_take_20
    · have hps : ∀ z ∈ [(tableOf [(0, 10, 13, 37), (0, 10, 17, 19), (0, 10, 21, 13)])[0], (tableOf [(0, 10, 13, 37), (0, 10, 17, 19), (0, 10, 21, 13)])[1]], covers z 5 = false ∨ (z.catchType ≠ 0 ∧ ∃ nm : String, (Cond.classLink RL z.catchType nm).before _ s = true ∧ va_Nc "java/lang/UnsupportedOperationException" nm s) := fun z hz => by
        rcases List.mem_cons.mp hz with e9 | hz
        · rw [e9]; exact Or.inr ⟨by decide, _, hts _ mwL_27, hN.2.1⟩
        · rw [List.mem_singleton.mp hz]; exact Or.inr ⟨by decide, _, hts _ mwL_10, hN.2.2⟩
      refine vx_catch (own := RL) (name := "java/lang/UnsupportedOperationException") hown ((tableOf [(0, 10, 13, 37), (0, 10, 17, 19), (0, 10, 21, 13)]).take 2) (tableOf [(0, 10, 13, 37), (0, 10, 17, 19), (0, 10, 21, 13)])[2] ((tableOf [(0, 10, 13, 37), (0, 10, 17, 19), (0, 10, 21, 13)]).drop 3) (by rw [htab]; rfl) hps (by decide) (by decide) (hts _ mwL_5) (va_Nw.use rfl hG.xUOE) hce hcv hcl ?_
      refine W.eq (g2 := F0 m 21 ls [.ref q9]) rfl ?_
      refine lv_astore (lv' := [(4, .ref q9), (0, .ref q), (1, .int p0), (2, .int p1), (3, .ref ho)]) hx hb dL_take_21 hl (by decide) rfl (fun ls hl => ?_)
      refine lv_iconst (v := 3) hx hb dL_take_23 (by decide) ?_
      refine W.widen (k := 8) (n := 2000) (by decide) (by decide) ?_
      exact W.iret (v := 3) hx hb hr (fun t ht hW => ⟨⟨_, ((sh, ci, ai, al), f), rfl, hX, by rw [ht]; exact hP, cK.moved hW.alike hK, hD⟩, hS.F ht⟩) hS.2.2 dL_take_24
  · refine lv_i2l hx hb dL_take_8 rfl ?_
    refine va_last hx hb hO hP hD hS 0 0 rfl rfl (nd_in (i := 0) (n := 1) (by decide)) dL_take_9 (fun H locs hP hD hS => ?_)
    have hP : va_P (dC, dI) vwCl (oW co ho (vp_updL f (0 : Int32).toNatClampNeg r.toInt64) ++ cW sh1 ci1 ai1 al1) H := hP
    have hD : va_D A (oW co ho (vp_updL f (0 : Int32).toNatClampNeg r.toInt64) ++ cW sh1 ci1 ai1 al1) := hD
    refine lv_goto (tgt := 25) hx hb dL_take_10 (by decide) ?_
    refine lv_iconst (v := 0) hx hb dL_take_25 (by decide) ?_
    refine W.widen (k := 8) (n := 2000) (by decide) (by decide) ?_
    exact W.iret (v := 0) hx hb hr (fun t ht hW => ⟨⟨_, ((sh1, ci1, ai1, al1), vp_updL f (0 : Int32).toNatClampNeg r.toInt64), rfl, h, by rw [ht]; exact hP, cK.moved hW.alike hK, hD⟩, hS.F ht⟩) hS.2.2 dL_take_26
abbrev wmL_drop : List Cond := .codeWith yL_drop cL_drop 5 (some .int) [(0, 10, 13, 37), (0, 10, 17, 19), (0, 10, 21, 13)] :: WL
theorem hd_L_drop : yL_drop.cls ≠ "java/lang/invoke/MethodHandle" ∧ yL_drop.cls ≠ "java/lang/invoke/VarHandle" ∧ (parseMethodDescriptor yL_drop.desc).map (fun d => d.parameters.length) = some 4 := by decide +kernel
abbrev rmL_drop : Room := ({ frames := 110, cells := 8, slots := 2000, locals := 3300 })
set_option maxHeartbeats 4000000 in
set_option maxRecDepth 100000 in
theorem p_L_drop (l : Launch) (hl0 : l.stackTraces = false) (dC : Nat → ClassId) (dI : Nat → Nat → Nat) (sh : Sh) (ci : Nat → Nat → Int32) (ai : Nat → Nat → Int32) (al : Nat → Nat → Int64) (q : Nat) (p0 : Int32) (p1 : Int32) (co : ClassId) (ho : Nat) (f : Nat → Int64) (Q : Int32 → LTy) (h : P_X11_drop sh ci ai al q p0 p1 (fun r sh1 ci1 ai1 al1 => Q 0 sh1 ci1 ai1 al1 (vp_updL f (0 : Int32).toNatClampNeg r.toInt64)) (fun E => (E = "java/lang/IndexOutOfBoundsException" ∧ Q 1 sh ci ai al f) ∨ (E = "java/lang/IllegalArgumentException" ∧ Q 2 sh ci ai al f) ∨ (E = "java/lang/UnsupportedOperationException" ∧ Q 3 sh ci ai al f))) (sz : Nat) : Met l yL_drop wmL_drop rmL_drop (va_Pc [.ref q, .int p0, .int p1, .ref ho] (lPre dC dI sh ci ai al co ho f sz)) (va_Qi (S := LSt) (lI Q) (lB dC dI co ho (va_A (oW co ho f ++ cW sh ci ai al) sz)) (va_A (oW co ho f ++ cW sh ci ai al) sz)) 8 2000 (va_A (oW co ho f ++ cW sh ci ai al) sz) := by
  refine va_MetW (hh := [(0, 10, 13, 37), (0, 10, 17, 19), (0, 10, 21, 13)]) (cc := cL_drop) (maxL := 5) (ret := (some .int)) (by decide) rfl ?_
  intro p e s m args below meth c s₁ B hml hv
  obtain ⟨rfl, hsz, hP, hK, hO, hD0, hG, hN, hZ⟩ := hv
  have hx := B.exec
  have hb := B.bytes
  have hr := B.returns
  have hts : ∀ w ∈ WL, w.before _ s = true := fun w h => atoms_spec (ws := wmL_drop) B.pre w (List.mem_cons_of_mem _ h)
  have hown : s.vm.findClass RL = some m.cls := findClass_of_methodNamed B.named
  have hlocks := B.notSynchronized
  have htab := vx_table (x := yL_drop) (hh := [(0, 10, 13, 37), (0, 10, 17, 19), (0, 10, 21, 13)]) (bytes := cL_drop) (maxL' := 5) (ret' := (some .int)) B (atoms_spec (ws := wmL_drop) B.pre _ List.mem_cons_self)
  have hqk : q ∈ sL sh ∧ sK sh q = 10 := by unfold P_X11_drop at h; exact h.1
  subst hsz
  have hD := hD0.self (sz := s.heap.size)
  generalize hAe : va_A (oW co ho f ++ cW sh ci ai al) s.heap.size = A at hD hZ ⊢
  have hA : ∀ q : Nat, s.heap.size ≤ q → A q := fun q h => by rw [← hAe]; exact Or.inr h
  generalize hH : s.heap = H at hP ⊢
  have hS : va_S A s.heap H [] := by rw [← hH]; exact va_S.rf
  have hl := lv_entry [.ref q, .int p0, .int p1, .ref ho] (n := 5) (Nat.le_of_ble_eq_true rfl)
  rw [lg_entry_eq]
  generalize (lg_sl [.ref q, .int p0, .int p1, .ref ho] ++ List.replicate (5 - (lg_sl [.ref q, .int p0, .int p1, .ref ho]).length) Slot.unset).toArray = ls at hl ⊢
  have hl : lv_has ls 5 [(0, .ref q), (1, .int p0), (2, .int p1), (3, .ref ho)] := hl
  refine lv_aload_n hx hb dL_drop_0 rfl (lv_at hl 3 rfl) ?_
  refine lv_iconst (v := 0) hx hb dL_drop_1 (by decide) ?_
  refine lv_aload_n hx hb dL_drop_2 rfl (lv_at hl 0 rfl) ?_
  refine lv_iload_n hx hb dL_drop_3 rfl (lv_at hl 1 rfl) ?_
  refine lv_iload_n hx hb dL_drop_4 rfl (lv_at hl 2 rfl) ?_
  refine l_xi (cells := 0) (slots := 0) (wr := oW co ho f) (vx_runV (rm := ({ frames := 100, cells := 8, slots := 2000, locals := 3000 })) (As := [.int p0, .int p1]) (rest := [.int 0, .ref ho]) ⟨hx, hb, hml, hown, hts⟩ (p_X11_drop l hl0 dC dI _ _ _ _ q p0 p1 _ _ h H.size) (cwV 2 hts (g_Vm gdL gdLC mwL_40 mwL_41 mwL_42 mwL_3 mwL_43) rfl rfl rfl hd_X11_drop ⟨Nat.le_of_ble_eq_true rfl, Nat.le_of_ble_eq_true rfl⟩) (x_preV hK (fr_P2 hP) (fr_D2 hD) hS hA hS hG hZ hqk.1 hqk.2) rfl rfl hl.1 rfl (lv_room (Nat.le_of_ble_eq_true rfl)) dL_drop_5 ⟨Nat.le_of_ble_eq_true rfl, Nat.le_of_ble_eq_true rfl⟩) hP hD hS hA (fun E ce q9 H locs hX hP hS hce hcv hcl => ?_) (fun r sh1 ci1 ai1 al1 H locs h hK hP hD hS => ?_)
  · rcases hX with ⟨rfl, hX⟩ | ⟨rfl, hX⟩ | ⟨rfl, hX⟩
    · refine vx_catch (own := RL) (name := "java/lang/IndexOutOfBoundsException") hown ((tableOf [(0, 10, 13, 37), (0, 10, 17, 19), (0, 10, 21, 13)]).take 0) (tableOf [(0, 10, 13, 37), (0, 10, 17, 19), (0, 10, 21, 13)])[0] ((tableOf [(0, 10, 13, 37), (0, 10, 17, 19), (0, 10, 21, 13)]).drop 1) (by rw [htab]; rfl) (fun z hz => nomatch hz) (by decide) (by decide) (hts _ mwL_27) (va_Nw.use rfl hG.xIOO) hce hcv hcl ?_
      refine W.eq (g2 := F0 m 13 ls [.ref q9]) rfl ?_
      refine lv_astore (lv' := [(4, .ref q9), (0, .ref q), (1, .int p0), (2, .int p1), (3, .ref ho)]) hx hb dL_drop_13 hl (by decide) rfl (fun ls hl => ?_)
      refine lv_iconst (v := 1) hx hb dL_drop_15 (by decide) ?_
      refine W.widen (k := 8) (n := 2000) (by decide) (by decide) ?_
      exact W.iret (v := 1) hx hb hr (fun t ht hW => ⟨⟨_, ((sh, ci, ai, al), f), rfl, hX, by rw [ht]; exact hP, cK.moved hW.alike hK, hD⟩, hS.F ht⟩) hS.2.2 dL_drop_16
    · refine vx_catch (own := RL) (name := "java/lang/IllegalArgumentException") hown ((tableOf [(0, 10, 13, 37), (0, 10, 17, 19), (0, 10, 21, 13)]).take 1) (tableOf [(0, 10, 13, 37), (0, 10, 17, 19), (0, 10, 21, 13)])[1] ((tableOf [(0, 10, 13, 37), (0, 10, 17, 19), (0, 10, 21, 13)]).drop 2) (by rw [htab]; rfl) (fun z hz => by rw [List.mem_singleton.mp (show z ∈ [(tableOf [(0, 10, 13, 37), (0, 10, 17, 19), (0, 10, 21, 13)])[0]] from hz)]; exact Or.inr ⟨by decide, _, hts _ mwL_27, hN.1⟩) (by decide) (by decide) (hts _ mwL_10) (va_Nw.use rfl hG.xIAE) hce hcv hcl ?_
      refine W.eq (g2 := F0 m 17 ls [.ref q9]) rfl ?_
      refine lv_astore (lv' := [(4, .ref q9), (0, .ref q), (1, .int p0), (2, .int p1), (3, .ref ho)]) hx hb dL_drop_17 hl (by decide) rfl (fun ls hl => ?_)
      refine lv_iconst (v := 2) hx hb dL_drop_19 (by decide) ?_
      refine W.widen (k := 8) (n := 2000) (by decide) (by decide) ?_
      exact W.iret (v := 2) hx hb hr (fun t ht hW => ⟨⟨_, ((sh, ci, ai, al), f), rfl, hX, by rw [ht]; exact hP, cK.moved hW.alike hK, hD⟩, hS.F ht⟩) hS.2.2 dL_drop_20
    · have hps : ∀ z ∈ [(tableOf [(0, 10, 13, 37), (0, 10, 17, 19), (0, 10, 21, 13)])[0], (tableOf [(0, 10, 13, 37), (0, 10, 17, 19), (0, 10, 21, 13)])[1]], covers z 5 = false ∨ (z.catchType ≠ 0 ∧ ∃ nm : String, (Cond.classLink RL z.catchType nm).before _ s = true ∧ va_Nc "java/lang/UnsupportedOperationException" nm s) := fun z hz => by
        rcases List.mem_cons.mp hz with e9 | hz
        · rw [e9]; exact Or.inr ⟨by decide, _, hts _ mwL_27, hN.2.1⟩
        · rw [List.mem_singleton.mp hz]; exact Or.inr ⟨by decide, _, hts _ mwL_10, hN.2.2⟩
      refine vx_catch (own := RL) (name := "java/lang/UnsupportedOperationException") hown ((tableOf [(0, 10, 13, 37), (0, 10, 17, 19), (0, 10, 21, 13)]).take 2) (tableOf [(0, 10, 13, 37), (0, 10, 17, 19), (0, 10, 21, 13)])[2] ((tableOf [(0, 10, 13, 37), (0, 10, 17, 19), (0, 10, 21, 13)]).drop 3) (by rw [htab]; rfl) hps (by decide) (by decide) (hts _ mwL_5) (va_Nw.use rfl hG.xUOE) hce hcv hcl ?_
      refine W.eq (g2 := F0 m 21 ls [.ref q9]) rfl ?_
      refine lv_astore (lv' := [(4, .ref q9), (0, .ref q), (1, .int p0), (2, .int p1), (3, .ref ho)]) hx hb dL_drop_21 hl (by decide) rfl (fun ls hl => ?_)
      refine lv_iconst (v := 3) hx hb dL_drop_23 (by decide) ?_
      refine W.widen (k := 8) (n := 2000) (by decide) (by decide) ?_
      exact W.iret (v := 3) hx hb hr (fun t ht hW => ⟨⟨_, ((sh, ci, ai, al), f), rfl, hX, by rw [ht]; exact hP, cK.moved hW.alike hK, hD⟩, hS.F ht⟩) hS.2.2 dL_drop_24
  · refine lv_i2l hx hb dL_drop_8 rfl ?_
    refine va_last hx hb hO hP hD hS 0 0 rfl rfl (nd_in (i := 0) (n := 1) (by decide)) dL_drop_9 (fun H locs hP hD hS => ?_)
    have hP : va_P (dC, dI) vwCl (oW co ho (vp_updL f (0 : Int32).toNatClampNeg r.toInt64) ++ cW sh1 ci1 ai1 al1) H := hP
    have hD : va_D A (oW co ho (vp_updL f (0 : Int32).toNatClampNeg r.toInt64) ++ cW sh1 ci1 ai1 al1) := hD
    refine lv_goto (tgt := 25) hx hb dL_drop_10 (by decide) ?_
    refine lv_iconst (v := 0) hx hb dL_drop_25 (by decide) ?_
    refine W.widen (k := 8) (n := 2000) (by decide) (by decide) ?_
    exact W.iret (v := 0) hx hb hr (fun t ht hW => ⟨⟨_, ((sh1, ci1, ai1, al1), vp_updL f (0 : Int32).toNatClampNeg r.toInt64), rfl, h, by rw [ht]; exact hP, cK.moved hW.alike hK, hD⟩, hS.F ht⟩) hS.2.2 dL_drop_26
abbrev wmL_keep : List Cond := .codeWith yL_keep cL_keep 7 (some .int) [(0, 12, 15, 37), (0, 12, 19, 19), (0, 12, 23, 13)] :: WL
theorem hd_L_keep : yL_keep.cls ≠ "java/lang/invoke/MethodHandle" ∧ yL_keep.cls ≠ "java/lang/invoke/VarHandle" ∧ (parseMethodDescriptor yL_keep.desc).map (fun d => d.parameters.length) = some 5 := by decide +kernel
abbrev rmL_keep : Room := ({ frames := 110, cells := 8, slots := 2000, locals := 3300 })
set_option maxHeartbeats 4000000 in
set_option maxRecDepth 100000 in
theorem p_L_keep (l : Launch) (hl0 : l.stackTraces = false) (dC : Nat → ClassId) (dI : Nat → Nat → Nat) (sh : Sh) (ci : Nat → Nat → Int32) (ai : Nat → Nat → Int32) (al : Nat → Nat → Int64) (q : Nat) (p0 : Int32) (p1 : Int32) (p2 : Int64) (co : ClassId) (ho : Nat) (f : Nat → Int64) (Q : Int32 → LTy) (h : P_X11_keep sh ci ai al q p0 p1 p2 (fun r sh1 ci1 ai1 al1 => Q 0 sh1 ci1 ai1 al1 (vp_updL f (0 : Int32).toNatClampNeg r.toInt64)) (fun E => (E = "java/lang/IndexOutOfBoundsException" ∧ Q 1 sh ci ai al f) ∨ (E = "java/lang/IllegalArgumentException" ∧ Q 2 sh ci ai al f) ∨ (E = "java/lang/UnsupportedOperationException" ∧ Q 3 sh ci ai al f))) (sz : Nat) : Met l yL_keep wmL_keep rmL_keep (va_Pc [.ref q, .int p0, .int p1, .long p2, .ref ho] (lPre dC dI sh ci ai al co ho f sz)) (va_Qi (S := LSt) (lI Q) (lB dC dI co ho (va_A (oW co ho f ++ cW sh ci ai al) sz)) (va_A (oW co ho f ++ cW sh ci ai al) sz)) 8 2000 (va_A (oW co ho f ++ cW sh ci ai al) sz) := by
  refine va_MetW (hh := [(0, 12, 15, 37), (0, 12, 19, 19), (0, 12, 23, 13)]) (cc := cL_keep) (maxL := 7) (ret := (some .int)) (by decide) rfl ?_
  intro p e s m args below meth c s₁ B hml hv
  obtain ⟨rfl, hsz, hP, hK, hO, hD0, hG, hN, hZ⟩ := hv
  have hx := B.exec
  have hb := B.bytes
  have hr := B.returns
  have hts : ∀ w ∈ WL, w.before _ s = true := fun w h => atoms_spec (ws := wmL_keep) B.pre w (List.mem_cons_of_mem _ h)
  have hown : s.vm.findClass RL = some m.cls := findClass_of_methodNamed B.named
  have hlocks := B.notSynchronized
  have htab := vx_table (x := yL_keep) (hh := [(0, 12, 15, 37), (0, 12, 19, 19), (0, 12, 23, 13)]) (bytes := cL_keep) (maxL' := 7) (ret' := (some .int)) B (atoms_spec (ws := wmL_keep) B.pre _ List.mem_cons_self)
  have hqk : q ∈ sL sh ∧ sK sh q = 10 := by unfold P_X11_keep at h; exact h.1
  subst hsz
  have hD := hD0.self (sz := s.heap.size)
  generalize hAe : va_A (oW co ho f ++ cW sh ci ai al) s.heap.size = A at hD hZ ⊢
  have hA : ∀ q : Nat, s.heap.size ≤ q → A q := fun q h => by rw [← hAe]; exact Or.inr h
  generalize hH : s.heap = H at hP ⊢
  have hS : va_S A s.heap H [] := by rw [← hH]; exact va_S.rf
  have hl := lv_entry [.ref q, .int p0, .int p1, .long p2, .ref ho] (n := 7) (Nat.le_of_ble_eq_true rfl)
  rw [lg_entry_eq]
  generalize (lg_sl [.ref q, .int p0, .int p1, .long p2, .ref ho] ++ List.replicate (7 - (lg_sl [.ref q, .int p0, .int p1, .long p2, .ref ho]).length) Slot.unset).toArray = ls at hl ⊢
  have hl : lv_has ls 7 [(0, .ref q), (1, .int p0), (2, .int p1), (3, .long p2), (5, .ref ho)] := hl
  refine lv_aload hx hb dL_keep_0 (lv_at hl 4 rfl) ?_
  refine lv_iconst (v := 0) hx hb dL_keep_2 (by decide) ?_
  refine lv_aload_n hx hb dL_keep_3 rfl (lv_at hl 0 rfl) ?_
  refine lv_iload_n hx hb dL_keep_4 rfl (lv_at hl 1 rfl) ?_
  refine lv_iload_n hx hb dL_keep_5 rfl (lv_at hl 2 rfl) ?_
  refine lv_lload_n hx hb dL_keep_6 rfl (lv_at hl 3 rfl) ?_
  refine l_xi (cells := 0) (slots := 0) (wr := oW co ho f) (vx_runV (rm := ({ frames := 100, cells := 8, slots := 2000, locals := 3000 })) (As := [.int p0, .int p1, .long p2]) (rest := [.int 0, .ref ho]) ⟨hx, hb, hml, hown, hts⟩ (p_X11_keep l hl0 dC dI _ _ _ _ q p0 p1 p2 _ _ h H.size) (cwV 3 hts (g_Vm gdL gdLC mwL_44 mwL_45 mwL_46 mwL_3 mwL_47) rfl rfl rfl hd_X11_keep ⟨Nat.le_of_ble_eq_true rfl, Nat.le_of_ble_eq_true rfl⟩) (x_preV hK (fr_P2 hP) (fr_D2 hD) hS hA hS hG hZ hqk.1 hqk.2) rfl rfl hl.1 rfl (lv_room (Nat.le_of_ble_eq_true rfl)) dL_keep_7 ⟨Nat.le_of_ble_eq_true rfl, Nat.le_of_ble_eq_true rfl⟩) hP hD hS hA (fun E ce q9 H locs hX hP hS hce hcv hcl => ?_) (fun r sh1 ci1 ai1 al1 H locs h hK hP hD hS => ?_)
  · rcases hX with ⟨rfl, hX⟩ | ⟨rfl, hX⟩ | ⟨rfl, hX⟩
    · refine vx_catch (own := RL) (name := "java/lang/IndexOutOfBoundsException") hown ((tableOf [(0, 12, 15, 37), (0, 12, 19, 19), (0, 12, 23, 13)]).take 0) (tableOf [(0, 12, 15, 37), (0, 12, 19, 19), (0, 12, 23, 13)])[0] ((tableOf [(0, 12, 15, 37), (0, 12, 19, 19), (0, 12, 23, 13)]).drop 1) (by rw [htab]; rfl) (fun z hz => nomatch hz) (by decide) (by decide) (hts _ mwL_27) (va_Nw.use rfl hG.xIOO) hce hcv hcl ?_
      refine W.eq (g2 := F0 m 15 ls [.ref q9]) rfl ?_
      refine lv_astore (lv' := [(6, .ref q9), (0, .ref q), (1, .int p0), (2, .int p1), (3, .long p2), (5, .ref ho)]) hx hb dL_keep_15 hl (by decide) rfl (fun ls hl => ?_)
      refine lv_iconst (v := 1) hx hb dL_keep_17 (by decide) ?_
      refine W.widen (k := 8) (n := 2000) (by decide) (by decide) ?_
      exact W.iret (v := 1) hx hb hr (fun t ht hW => ⟨⟨_, ((sh, ci, ai, al), f), rfl, hX, by rw [ht]; exact hP, cK.moved hW.alike hK, hD⟩, hS.F ht⟩) hS.2.2 dL_keep_18
    · refine vx_catch (own := RL) (name := "java/lang/IllegalArgumentException") hown ((tableOf [(0, 12, 15, 37), (0, 12, 19, 19), (0, 12, 23, 13)]).take 1) (tableOf [(0, 12, 15, 37), (0, 12, 19, 19), (0, 12, 23, 13)])[1] ((tableOf [(0, 12, 15, 37), (0, 12, 19, 19), (0, 12, 23, 13)]).drop 2) (by rw [htab]; rfl) (fun z hz => by rw [List.mem_singleton.mp (show z ∈ [(tableOf [(0, 12, 15, 37), (0, 12, 19, 19), (0, 12, 23, 13)])[0]] from hz)]; exact Or.inr ⟨by decide, _, hts _ mwL_27, hN.1⟩) (by decide) (by decide) (hts _ mwL_10) (va_Nw.use rfl hG.xIAE) hce hcv hcl ?_
      refine W.eq (g2 := F0 m 19 ls [.ref q9]) rfl ?_
      refine lv_astore (lv' := [(6, .ref q9), (0, .ref q), (1, .int p0), (2, .int p1), (3, .long p2), (5, .ref ho)]) hx hb dL_keep_19 hl (by decide) rfl (fun ls hl => ?_)
      refine lv_iconst (v := 2) hx hb dL_keep_21 (by decide) ?_
      refine W.widen (k := 8) (n := 2000) (by decide) (by decide) ?_
      exact W.iret (v := 2) hx hb hr (fun t ht hW => ⟨⟨_, ((sh, ci, ai, al), f), rfl, hX, by rw [ht]; exact hP, cK.moved hW.alike hK, hD⟩, hS.F ht⟩) hS.2.2 dL_keep_22
    · have hps : ∀ z ∈ [(tableOf [(0, 12, 15, 37), (0, 12, 19, 19), (0, 12, 23, 13)])[0], (tableOf [(0, 12, 15, 37), (0, 12, 19, 19), (0, 12, 23, 13)])[1]], covers z 7 = false ∨ (z.catchType ≠ 0 ∧ ∃ nm : String, (Cond.classLink RL z.catchType nm).before _ s = true ∧ va_Nc "java/lang/UnsupportedOperationException" nm s) := fun z hz => by
        rcases List.mem_cons.mp hz with e9 | hz
        · rw [e9]; exact Or.inr ⟨by decide, _, hts _ mwL_27, hN.2.1⟩
        · rw [List.mem_singleton.mp hz]; exact Or.inr ⟨by decide, _, hts _ mwL_10, hN.2.2⟩
      refine vx_catch (own := RL) (name := "java/lang/UnsupportedOperationException") hown ((tableOf [(0, 12, 15, 37), (0, 12, 19, 19), (0, 12, 23, 13)]).take 2) (tableOf [(0, 12, 15, 37), (0, 12, 19, 19), (0, 12, 23, 13)])[2] ((tableOf [(0, 12, 15, 37), (0, 12, 19, 19), (0, 12, 23, 13)]).drop 3) (by rw [htab]; rfl) hps (by decide) (by decide) (hts _ mwL_5) (va_Nw.use rfl hG.xUOE) hce hcv hcl ?_
      refine W.eq (g2 := F0 m 23 ls [.ref q9]) rfl ?_
      refine lv_astore (lv' := [(6, .ref q9), (0, .ref q), (1, .int p0), (2, .int p1), (3, .long p2), (5, .ref ho)]) hx hb dL_keep_23 hl (by decide) rfl (fun ls hl => ?_)
      refine lv_iconst (v := 3) hx hb dL_keep_25 (by decide) ?_
      refine W.widen (k := 8) (n := 2000) (by decide) (by decide) ?_
      exact W.iret (v := 3) hx hb hr (fun t ht hW => ⟨⟨_, ((sh, ci, ai, al), f), rfl, hX, by rw [ht]; exact hP, cK.moved hW.alike hK, hD⟩, hS.F ht⟩) hS.2.2 dL_keep_26
  · refine lv_i2l hx hb dL_keep_10 rfl ?_
    refine va_last hx hb hO hP hD hS 0 0 rfl rfl (nd_in (i := 0) (n := 1) (by decide)) dL_keep_11 (fun H locs hP hD hS => ?_)
    have hP : va_P (dC, dI) vwCl (oW co ho (vp_updL f (0 : Int32).toNatClampNeg r.toInt64) ++ cW sh1 ci1 ai1 al1) H := hP
    have hD : va_D A (oW co ho (vp_updL f (0 : Int32).toNatClampNeg r.toInt64) ++ cW sh1 ci1 ai1 al1) := hD
    refine lv_goto (tgt := 27) hx hb dL_keep_12 (by decide) ?_
    refine lv_iconst (v := 0) hx hb dL_keep_27 (by decide) ?_
    refine W.widen (k := 8) (n := 2000) (by decide) (by decide) ?_
    exact W.iret (v := 0) hx hb hr (fun t ht hW => ⟨⟨_, ((sh1, ci1, ai1, al1), vp_updL f (0 : Int32).toNatClampNeg r.toInt64), rfl, h, by rw [ht]; exact hP, cK.moved hW.alike hK, hD⟩, hS.F ht⟩) hS.2.2 dL_keep_28
abbrev wmL_during : List Cond := .codeWith yL_during cL_during 7 (some .int) [(0, 12, 15, 37), (0, 12, 19, 19), (0, 12, 23, 13)] :: WL
theorem hd_L_during : yL_during.cls ≠ "java/lang/invoke/MethodHandle" ∧ yL_during.cls ≠ "java/lang/invoke/VarHandle" ∧ (parseMethodDescriptor yL_during.desc).map (fun d => d.parameters.length) = some 5 := by decide +kernel
abbrev rmL_during : Room := ({ frames := 110, cells := 8, slots := 2000, locals := 3300 })
set_option maxHeartbeats 4000000 in
set_option maxRecDepth 100000 in
theorem p_L_during (l : Launch) (hl0 : l.stackTraces = false) (dC : Nat → ClassId) (dI : Nat → Nat → Nat) (sh : Sh) (ci : Nat → Nat → Int32) (ai : Nat → Nat → Int32) (al : Nat → Nat → Int64) (q : Nat) (p0 : Int32) (p1 : Int32) (p2 : Int64) (co : ClassId) (ho : Nat) (f : Nat → Int64) (Q : Int32 → LTy) (h : P_X11_during sh ci ai al q p0 p1 p2 (fun r sh1 ci1 ai1 al1 => Q 0 sh1 ci1 ai1 al1 (vp_updL f (0 : Int32).toNatClampNeg r.toInt64)) (fun E => (E = "java/lang/IndexOutOfBoundsException" ∧ Q 1 sh ci ai al f) ∨ (E = "java/lang/IllegalArgumentException" ∧ Q 2 sh ci ai al f) ∨ (E = "java/lang/UnsupportedOperationException" ∧ Q 3 sh ci ai al f))) (sz : Nat) : Met l yL_during wmL_during rmL_during (va_Pc [.ref q, .int p0, .int p1, .long p2, .ref ho] (lPre dC dI sh ci ai al co ho f sz)) (va_Qi (S := LSt) (lI Q) (lB dC dI co ho (va_A (oW co ho f ++ cW sh ci ai al) sz)) (va_A (oW co ho f ++ cW sh ci ai al) sz)) 8 2000 (va_A (oW co ho f ++ cW sh ci ai al) sz) := by
  refine va_MetW (hh := [(0, 12, 15, 37), (0, 12, 19, 19), (0, 12, 23, 13)]) (cc := cL_during) (maxL := 7) (ret := (some .int)) (by decide) rfl ?_
  intro p e s m args below meth c s₁ B hml hv
  obtain ⟨rfl, hsz, hP, hK, hO, hD0, hG, hN, hZ⟩ := hv
  have hx := B.exec
  have hb := B.bytes
  have hr := B.returns
  have hts : ∀ w ∈ WL, w.before _ s = true := fun w h => atoms_spec (ws := wmL_during) B.pre w (List.mem_cons_of_mem _ h)
  have hown : s.vm.findClass RL = some m.cls := findClass_of_methodNamed B.named
  have hlocks := B.notSynchronized
  have htab := vx_table (x := yL_during) (hh := [(0, 12, 15, 37), (0, 12, 19, 19), (0, 12, 23, 13)]) (bytes := cL_during) (maxL' := 7) (ret' := (some .int)) B (atoms_spec (ws := wmL_during) B.pre _ List.mem_cons_self)
  have hqk : q ∈ sL sh ∧ sK sh q = 10 := by unfold P_X11_during at h; exact h.1
  subst hsz
  have hD := hD0.self (sz := s.heap.size)
  generalize hAe : va_A (oW co ho f ++ cW sh ci ai al) s.heap.size = A at hD hZ ⊢
  have hA : ∀ q : Nat, s.heap.size ≤ q → A q := fun q h => by rw [← hAe]; exact Or.inr h
  generalize hH : s.heap = H at hP ⊢
  have hS : va_S A s.heap H [] := by rw [← hH]; exact va_S.rf
  have hl := lv_entry [.ref q, .int p0, .int p1, .long p2, .ref ho] (n := 7) (Nat.le_of_ble_eq_true rfl)
  rw [lg_entry_eq]
  generalize (lg_sl [.ref q, .int p0, .int p1, .long p2, .ref ho] ++ List.replicate (7 - (lg_sl [.ref q, .int p0, .int p1, .long p2, .ref ho]).length) Slot.unset).toArray = ls at hl ⊢
  have hl : lv_has ls 7 [(0, .ref q), (1, .int p0), (2, .int p1), (3, .long p2), (5, .ref ho)] := hl
  refine lv_aload hx hb dL_during_0 (lv_at hl 4 rfl) ?_
  refine lv_iconst (v := 0) hx hb dL_during_2 (by decide) ?_
  refine lv_aload_n hx hb dL_during_3 rfl (lv_at hl 0 rfl) ?_
  refine lv_iload_n hx hb dL_during_4 rfl (lv_at hl 1 rfl) ?_
  refine lv_iload_n hx hb dL_during_5 rfl (lv_at hl 2 rfl) ?_
  refine lv_lload_n hx hb dL_during_6 rfl (lv_at hl 3 rfl) ?_
  refine l_xi (cells := 0) (slots := 0) (wr := oW co ho f) (vx_runV (rm := ({ frames := 100, cells := 8, slots := 2000, locals := 3000 })) (As := [.int p0, .int p1, .long p2]) (rest := [.int 0, .ref ho]) ⟨hx, hb, hml, hown, hts⟩ (p_X11_during l hl0 dC dI _ _ _ _ q p0 p1 p2 _ _ h H.size) (cwV 3 hts (g_Vm gdL gdLC mwL_48 mwL_49 mwL_50 mwL_3 mwL_51) rfl rfl rfl hd_X11_during ⟨Nat.le_of_ble_eq_true rfl, Nat.le_of_ble_eq_true rfl⟩) (x_preV hK (fr_P2 hP) (fr_D2 hD) hS hA hS hG hZ hqk.1 hqk.2) rfl rfl hl.1 rfl (lv_room (Nat.le_of_ble_eq_true rfl)) dL_during_7 ⟨Nat.le_of_ble_eq_true rfl, Nat.le_of_ble_eq_true rfl⟩) hP hD hS hA (fun E ce q9 H locs hX hP hS hce hcv hcl => ?_) (fun r sh1 ci1 ai1 al1 H locs h hK hP hD hS => ?_)
  · rcases hX with ⟨rfl, hX⟩ | ⟨rfl, hX⟩ | ⟨rfl, hX⟩
    · refine vx_catch (own := RL) (name := "java/lang/IndexOutOfBoundsException") hown ((tableOf [(0, 12, 15, 37), (0, 12, 19, 19), (0, 12, 23, 13)]).take 0) (tableOf [(0, 12, 15, 37), (0, 12, 19, 19), (0, 12, 23, 13)])[0] ((tableOf [(0, 12, 15, 37), (0, 12, 19, 19), (0, 12, 23, 13)]).drop 1) (by rw [htab]; rfl) (fun z hz => nomatch hz) (by decide) (by decide) (hts _ mwL_27) (va_Nw.use rfl hG.xIOO) hce hcv hcl ?_
      refine W.eq (g2 := F0 m 15 ls [.ref q9]) rfl ?_
      refine lv_astore (lv' := [(6, .ref q9), (0, .ref q), (1, .int p0), (2, .int p1), (3, .long p2), (5, .ref ho)]) hx hb dL_during_15 hl (by decide) rfl (fun ls hl => ?_)
      refine lv_iconst (v := 1) hx hb dL_during_17 (by decide) ?_
      refine W.widen (k := 8) (n := 2000) (by decide) (by decide) ?_
      exact W.iret (v := 1) hx hb hr (fun t ht hW => ⟨⟨_, ((sh, ci, ai, al), f), rfl, hX, by rw [ht]; exact hP, cK.moved hW.alike hK, hD⟩, hS.F ht⟩) hS.2.2 dL_during_18
    · refine vx_catch (own := RL) (name := "java/lang/IllegalArgumentException") hown ((tableOf [(0, 12, 15, 37), (0, 12, 19, 19), (0, 12, 23, 13)]).take 1) (tableOf [(0, 12, 15, 37), (0, 12, 19, 19), (0, 12, 23, 13)])[1] ((tableOf [(0, 12, 15, 37), (0, 12, 19, 19), (0, 12, 23, 13)]).drop 2) (by rw [htab]; rfl) (fun z hz => by rw [List.mem_singleton.mp (show z ∈ [(tableOf [(0, 12, 15, 37), (0, 12, 19, 19), (0, 12, 23, 13)])[0]] from hz)]; exact Or.inr ⟨by decide, _, hts _ mwL_27, hN.1⟩) (by decide) (by decide) (hts _ mwL_10) (va_Nw.use rfl hG.xIAE) hce hcv hcl ?_
      refine W.eq (g2 := F0 m 19 ls [.ref q9]) rfl ?_
      refine lv_astore (lv' := [(6, .ref q9), (0, .ref q), (1, .int p0), (2, .int p1), (3, .long p2), (5, .ref ho)]) hx hb dL_during_19 hl (by decide) rfl (fun ls hl => ?_)
      refine lv_iconst (v := 2) hx hb dL_during_21 (by decide) ?_
      refine W.widen (k := 8) (n := 2000) (by decide) (by decide) ?_
      exact W.iret (v := 2) hx hb hr (fun t ht hW => ⟨⟨_, ((sh, ci, ai, al), f), rfl, hX, by rw [ht]; exact hP, cK.moved hW.alike hK, hD⟩, hS.F ht⟩) hS.2.2 dL_during_22
    · have hps : ∀ z ∈ [(tableOf [(0, 12, 15, 37), (0, 12, 19, 19), (0, 12, 23, 13)])[0], (tableOf [(0, 12, 15, 37), (0, 12, 19, 19), (0, 12, 23, 13)])[1]], covers z 7 = false ∨ (z.catchType ≠ 0 ∧ ∃ nm : String, (Cond.classLink RL z.catchType nm).before _ s = true ∧ va_Nc "java/lang/UnsupportedOperationException" nm s) := fun z hz => by
        rcases List.mem_cons.mp hz with e9 | hz
        · rw [e9]; exact Or.inr ⟨by decide, _, hts _ mwL_27, hN.2.1⟩
        · rw [List.mem_singleton.mp hz]; exact Or.inr ⟨by decide, _, hts _ mwL_10, hN.2.2⟩
      refine vx_catch (own := RL) (name := "java/lang/UnsupportedOperationException") hown ((tableOf [(0, 12, 15, 37), (0, 12, 19, 19), (0, 12, 23, 13)]).take 2) (tableOf [(0, 12, 15, 37), (0, 12, 19, 19), (0, 12, 23, 13)])[2] ((tableOf [(0, 12, 15, 37), (0, 12, 19, 19), (0, 12, 23, 13)]).drop 3) (by rw [htab]; rfl) hps (by decide) (by decide) (hts _ mwL_5) (va_Nw.use rfl hG.xUOE) hce hcv hcl ?_
      refine W.eq (g2 := F0 m 23 ls [.ref q9]) rfl ?_
      refine lv_astore (lv' := [(6, .ref q9), (0, .ref q), (1, .int p0), (2, .int p1), (3, .long p2), (5, .ref ho)]) hx hb dL_during_23 hl (by decide) rfl (fun ls hl => ?_)
      refine lv_iconst (v := 3) hx hb dL_during_25 (by decide) ?_
      refine W.widen (k := 8) (n := 2000) (by decide) (by decide) ?_
      exact W.iret (v := 3) hx hb hr (fun t ht hW => ⟨⟨_, ((sh, ci, ai, al), f), rfl, hX, by rw [ht]; exact hP, cK.moved hW.alike hK, hD⟩, hS.F ht⟩) hS.2.2 dL_during_26
  · refine lv_i2l hx hb dL_during_10 rfl ?_
    refine va_last hx hb hO hP hD hS 0 0 rfl rfl (nd_in (i := 0) (n := 1) (by decide)) dL_during_11 (fun H locs hP hD hS => ?_)
    have hP : va_P (dC, dI) vwCl (oW co ho (vp_updL f (0 : Int32).toNatClampNeg r.toInt64) ++ cW sh1 ci1 ai1 al1) H := hP
    have hD : va_D A (oW co ho (vp_updL f (0 : Int32).toNatClampNeg r.toInt64) ++ cW sh1 ci1 ai1 al1) := hD
    refine lv_goto (tgt := 27) hx hb dL_during_12 (by decide) ?_
    refine lv_iconst (v := 0) hx hb dL_during_27 (by decide) ?_
    refine W.widen (k := 8) (n := 2000) (by decide) (by decide) ?_
    exact W.iret (v := 0) hx hb hr (fun t ht hW => ⟨⟨_, ((sh1, ci1, ai1, al1), vp_updL f (0 : Int32).toNatClampNeg r.toInt64), rfl, h, by rw [ht]; exact hP, cK.moved hW.alike hK, hD⟩, hS.F ht⟩) hS.2.2 dL_during_28
