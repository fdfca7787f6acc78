abbrev cL_after : ByteArray := method_15_code
def yL_after : MethodName := ⟨RL, "after", "(LNeededLists;IIJ[J)I"⟩
abbrev cL_join : ByteArray := method_16_code
def yL_join : MethodName := ⟨RL, "join", "(LNeededLists;II[J)I"⟩
abbrev cL_other : ByteArray := method_17_code
def yL_other : MethodName := ⟨RL, "other", "(LNeededLists;II[J)I"⟩
abbrev cL_steps : ByteArray := method_18_code
def yL_steps : MethodName := ⟨RL, "steps", "(LNeededLists;I[J)I"⟩
theorem dL_after_0 : decode cL_after 0 = .ok (.aload 5, 2) := by decide +kernel
theorem dL_after_2 : decode cL_after 2 = .ok (.iconst 0, 1) := by decide +kernel
theorem dL_after_3 : decode cL_after 3 = .ok (.aload_n 0, 1) := by decide +kernel
theorem dL_after_4 : decode cL_after 4 = .ok (.iload_n 1, 1) := by decide +kernel
theorem dL_after_5 : decode cL_after 5 = .ok (.iload_n 2, 1) := by decide +kernel
theorem dL_after_6 : decode cL_after 6 = .ok (.lload_n 3, 1) := by decide +kernel
theorem dL_after_7 : decode cL_after 7 = .ok (.invokevirtual 59, 3) := by decide +kernel
theorem dL_after_10 : decode cL_after 10 = .ok (.i2l, 1) := by decide +kernel
theorem dL_after_11 : decode cL_after 11 = .ok (.lastore, 1) := by decide +kernel
theorem dL_after_12 : decode cL_after 12 = .ok (.goto 15, 3) := by decide +kernel
theorem dL_after_15 : decode cL_after 15 = .ok (.astore 6, 2) := by decide +kernel
theorem dL_after_17 : decode cL_after 17 = .ok (.iconst 1, 1) := by decide +kernel
theorem dL_after_18 : decode cL_after 18 = .ok (.ireturn, 1) := by decide +kernel
theorem dL_after_19 : decode cL_after 19 = .ok (.astore 6, 2) := by decide +kernel
theorem dL_after_21 : decode cL_after 21 = .ok (.iconst 2, 1) := by decide +kernel
theorem dL_after_22 : decode cL_after 22 = .ok (.ireturn, 1) := by decide +kernel
theorem dL_after_23 : decode cL_after 23 = .ok (.astore 6, 2) := by decide +kernel
theorem dL_after_25 : decode cL_after 25 = .ok (.iconst 3, 1) := by decide +kernel
theorem dL_after_26 : decode cL_after 26 = .ok (.ireturn, 1) := by decide +kernel
theorem dL_after_27 : decode cL_after 27 = .ok (.iconst 0, 1) := by decide +kernel
theorem dL_after_28 : decode cL_after 28 = .ok (.ireturn, 1) := by decide +kernel
theorem dL_join_0 : decode cL_join 0 = .ok (.aload_n 3, 1) := by decide +kernel
theorem dL_join_1 : decode cL_join 1 = .ok (.iconst 0, 1) := by decide +kernel
theorem dL_join_2 : decode cL_join 2 = .ok (.aload_n 0, 1) := by decide +kernel
theorem dL_join_3 : decode cL_join 3 = .ok (.iload_n 1, 1) := by decide +kernel
theorem dL_join_4 : decode cL_join 4 = .ok (.iload_n 2, 1) := by decide +kernel
theorem dL_join_5 : decode cL_join 5 = .ok (.invokevirtual 62, 3) := by decide +kernel
theorem dL_join_8 : decode cL_join 8 = .ok (.i2l, 1) := by decide +kernel
theorem dL_join_9 : decode cL_join 9 = .ok (.lastore, 1) := by decide +kernel
theorem dL_join_10 : decode cL_join 10 = .ok (.goto 11, 3) := by decide +kernel
theorem dL_join_13 : decode cL_join 13 = .ok (.astore 4, 2) := by decide +kernel
theorem dL_join_15 : decode cL_join 15 = .ok (.iconst 1, 1) := by decide +kernel
theorem dL_join_16 : decode cL_join 16 = .ok (.ireturn, 1) := by decide +kernel
theorem dL_join_17 : decode cL_join 17 = .ok (.astore 4, 2) := by decide +kernel
theorem dL_join_19 : decode cL_join 19 = .ok (.iconst 2, 1) := by decide +kernel
theorem dL_join_20 : decode cL_join 20 = .ok (.ireturn, 1) := by decide +kernel
theorem dL_join_21 : decode cL_join 21 = .ok (.iconst 0, 1) := by decide +kernel
theorem dL_join_22 : decode cL_join 22 = .ok (.ireturn, 1) := by decide +kernel
theorem dL_other_0 : decode cL_other 0 = .ok (.aload_n 3, 1) := by decide +kernel
theorem dL_other_1 : decode cL_other 1 = .ok (.iconst 0, 1) := by decide +kernel
theorem dL_other_2 : decode cL_other 2 = .ok (.aload_n 0, 1) := by decide +kernel
theorem dL_other_3 : decode cL_other 3 = .ok (.iload_n 1, 1) := by decide +kernel
theorem dL_other_4 : decode cL_other 4 = .ok (.iload_n 2, 1) := by decide +kernel
theorem dL_other_5 : decode cL_other 5 = .ok (.invokevirtual 65, 3) := by decide +kernel
theorem dL_other_8 : decode cL_other 8 = .ok (.i2l, 1) := by decide +kernel
theorem dL_other_9 : decode cL_other 9 = .ok (.lastore, 1) := by decide +kernel
theorem dL_other_10 : decode cL_other 10 = .ok (.goto 15, 3) := by decide +kernel
theorem dL_other_13 : decode cL_other 13 = .ok (.astore 4, 2) := by decide +kernel
theorem dL_other_15 : decode cL_other 15 = .ok (.iconst 1, 1) := by decide +kernel
theorem dL_other_16 : decode cL_other 16 = .ok (.ireturn, 1) := by decide +kernel
theorem dL_other_17 : decode cL_other 17 = .ok (.astore 4, 2) := by decide +kernel
theorem dL_other_19 : decode cL_other 19 = .ok (.iconst 2, 1) := by decide +kernel
theorem dL_other_20 : decode cL_other 20 = .ok (.ireturn, 1) := by decide +kernel
theorem dL_other_21 : decode cL_other 21 = .ok (.astore 4, 2) := by decide +kernel
theorem dL_other_23 : decode cL_other 23 = .ok (.iconst 3, 1) := by decide +kernel
theorem dL_other_24 : decode cL_other 24 = .ok (.ireturn, 1) := by decide +kernel
theorem dL_other_25 : decode cL_other 25 = .ok (.iconst 0, 1) := by decide +kernel
theorem dL_other_26 : decode cL_other 26 = .ok (.ireturn, 1) := by decide +kernel
theorem dL_steps_0 : decode cL_steps 0 = .ok (.aload_n 2, 1) := by decide +kernel
theorem dL_steps_1 : decode cL_steps 1 = .ok (.iconst 0, 1) := by decide +kernel
theorem dL_steps_2 : decode cL_steps 2 = .ok (.aload_n 0, 1) := by decide +kernel
theorem dL_steps_3 : decode cL_steps 3 = .ok (.iload_n 1, 1) := by decide +kernel
theorem dL_steps_4 : decode cL_steps 4 = .ok (.invokevirtual 68, 3) := by decide +kernel
theorem dL_steps_7 : decode cL_steps 7 = .ok (.i2l, 1) := by decide +kernel
theorem dL_steps_8 : decode cL_steps 8 = .ok (.lastore, 1) := by decide +kernel
theorem dL_steps_9 : decode cL_steps 9 = .ok (.goto 6, 3) := by decide +kernel
theorem dL_steps_12 : decode cL_steps 12 = .ok (.astore_n 3, 1) := by decide +kernel
theorem dL_steps_13 : decode cL_steps 13 = .ok (.iconst 1, 1) := by decide +kernel
theorem dL_steps_14 : decode cL_steps 14 = .ok (.ireturn, 1) := by decide +kernel
theorem dL_steps_15 : decode cL_steps 15 = .ok (.iconst 0, 1) := by decide +kernel
theorem dL_steps_16 : decode cL_steps 16 = .ok (.ireturn, 1) := by decide +kernel
abbrev wmL_after : List Cond := .codeWith yL_after cL_after 7 (some .int) [(0, 12, 15, 37), (0, 12, 19, 19), (0, 12, 23, 13)] :: WL
theorem hd_L_after : yL_after.cls ≠ "java/lang/invoke/MethodHandle" ∧ yL_after.cls ≠ "java/lang/invoke/VarHandle" ∧ (parseMethodDescriptor yL_after.desc).map (fun d => d.parameters.length) = some 5 := by decide +kernel
abbrev rmL_after : Room := ({ frames := 110, cells := 8, slots := 2000, locals := 3300 })
set_option maxHeartbeats 4000000 in
set_option maxRecDepth 100000 in
theorem p_L_after (l : Launch) (hl0 : l.stackTraces = false) (dC : Nat → ClassId) (dI : Nat → Nat → Nat) (sh : Sh) (ci : Nat → Nat → Int32) (ai : Nat → Nat → Int32) (al : Nat → Nat → Int64) (q : Nat) (p0 : Int32) (p1 : Int32) (p2 : Int64) (co : ClassId) (ho : Nat) (f : Nat → Int64) (Q : Int32 → LTy) (h : P_X11_after sh ci ai al q p0 p1 p2 (fun r sh1 ci1 ai1 al1 => Q 0 sh1 ci1 ai1 al1 (vp_updL f (0 : Int32).toNatClampNeg r.toInt64)) (fun E => (E = "java/lang/IndexOutOfBoundsException" ∧ Q 1 sh ci ai al f) ∨ (E = "java/lang/IllegalArgumentException" ∧ Q 2 sh ci ai al f) ∨ (E = "java/lang/UnsupportedOperationException" ∧ Q 3 sh ci ai al f))) (sz : Nat) : Met l yL_after wmL_after rmL_after (va_Pc [.ref q, .int p0, .int p1, .long p2, .ref ho] (lPre dC dI sh ci ai al co ho f sz)) (va_Qi (S := LSt) (lI Q) (lB dC dI co ho (va_A (oW co ho f ++ cW sh ci ai al) sz)) (va_A (oW co ho f ++ cW sh ci ai al) sz)) 8 2000 (va_A (oW co ho f ++ cW sh ci ai al) sz) := by
  refine va_MetW (hh := [(0, 12, 15, 37), (0, 12, 19, 19), (0, 12, 23, 13)]) (cc := cL_after) (maxL := 7) (ret := (some .int)) (by decide) rfl ?_
  intro p e s m args below meth c s₁ B hml hv
  obtain ⟨rfl, hsz, hP, hK, hO, hD0, hG, hN, hZ⟩ := hv
  have hx := B.exec
  have hb := B.bytes
  have hr := B.returns
  have hts : ∀ w ∈ WL, w.before _ s = true := fun w h => atoms_spec (ws := wmL_after) B.pre w (List.mem_cons_of_mem _ h)
  have hown : s.vm.findClass RL = some m.cls := findClass_of_methodNamed B.named
  have hlocks := B.notSynchronized
  have htab := vx_table (x := yL_after) (hh := [(0, 12, 15, 37), (0, 12, 19, 19), (0, 12, 23, 13)]) (bytes := cL_after) (maxL' := 7) (ret' := (some .int)) B (atoms_spec (ws := wmL_after) B.pre _ List.mem_cons_self)
  have hqk : q ∈ sL sh ∧ sK sh q = 10 := by unfold P_X11_after at h; exact h.1
  subst hsz
  have hD := hD0.self (sz := s.heap.size)
  generalize hAe : va_A (oW co ho f ++ cW sh ci ai al) s.heap.size = A at hD hZ ⊢
  have hA : ∀ q : Nat, s.heap.size ≤ q → A q := fun q h => by rw [← hAe]; exact Or.inr h
  generalize hH : s.heap = H at hP ⊢
  have hS : va_S A s.heap H [] := by rw [← hH]; exact va_S.rf
  have hl := lv_entry [.ref q, .int p0, .int p1, .long p2, .ref ho] (n := 7) (Nat.le_of_ble_eq_true rfl)
  rw [lg_entry_eq]
  generalize (lg_sl [.ref q, .int p0, .int p1, .long p2, .ref ho] ++ List.replicate (7 - (lg_sl [.ref q, .int p0, .int p1, .long p2, .ref ho]).length) Slot.unset).toArray = ls at hl ⊢
  have hl : lv_has ls 7 [(0, .ref q), (1, .int p0), (2, .int p1), (3, .long p2), (5, .ref ho)] := hl
  refine lv_aload hx hb dL_after_0 (lv_at hl 4 rfl) ?_
  refine lv_iconst (v := 0) hx hb dL_after_2 (by decide) ?_
  refine lv_aload_n hx hb dL_after_3 rfl (lv_at hl 0 rfl) ?_
  refine lv_iload_n hx hb dL_after_4 rfl (lv_at hl 1 rfl) ?_
  refine lv_iload_n hx hb dL_after_5 rfl (lv_at hl 2 rfl) ?_
  refine lv_lload_n hx hb dL_after_6 rfl (lv_at hl 3 rfl) ?_
  refine l_xi (cells := 0) (slots := 0) (wr := oW co ho f) (vx_runV (rm := ({ frames := 100, cells := 8, slots := 2000, locals := 3000 })) (As := [.int p0, .int p1, .long p2]) (rest := [.int 0, .ref ho]) ⟨hx, hb, hml, hown, hts⟩ (p_X11_after l hl0 dC dI _ _ _ _ q p0 p1 p2 _ _ h H.size) (cwV 3 hts (g_Vm gdL gdLC mwL_52 mwL_53 mwL_54 mwL_3 mwL_55) rfl rfl rfl hd_X11_after ⟨Nat.le_of_ble_eq_true rfl, Nat.le_of_ble_eq_true rfl⟩) (x_preV hK (fr_P2 hP) (fr_D2 hD) hS hA hS hG hZ hqk.1 hqk.2) rfl rfl hl.1 rfl (lv_room (Nat.le_of_ble_eq_true rfl)) dL_after_7 ⟨Nat.le_of_ble_eq_true rfl, Nat.le_of_ble_eq_true rfl⟩) hP hD hS hA (fun E ce q9 H locs hX hP hS hce hcv hcl => ?_) (fun r sh1 ci1 ai1 al1 H locs h hK hP hD hS => ?_)
  · rcases hX with ⟨rfl, hX⟩ | ⟨rfl, hX⟩ | ⟨rfl, hX⟩
    · refine vx_catch (own := RL) (name := "java/lang/IndexOutOfBoundsException") hown ((tableOf [(0, 12, 15, 37), (0, 12, 19, 19), (0, 12, 23, 13)]).take 0) (tableOf [(0, 12, 15, 37), (0, 12, 19, 19), (0, 12, 23, 13)])[0] ((tableOf [(0, 12, 15, 37), (0, 12, 19, 19), (0, 12, 23, 13)]).drop 1) (by rw [htab]; rfl) (fun z hz => nomatch hz) (by decide) (by decide) (hts _ mwL_27) (va_Nw.use rfl hG.xIOO) hce hcv hcl ?_
      refine W.eq (g2 := F0 m 15 ls [.ref q9]) rfl ?_
      refine lv_astore (lv' := [(6, .ref q9), (0, .ref q), (1, .int p0), (2, .int p1), (3, .long p2), (5, .ref ho)]) hx hb dL_after_15 hl (by decide) rfl (fun ls hl => ?_)
      refine lv_iconst (v := 1) hx hb dL_after_17 (by decide) ?_
      refine W.widen (k := 8) (n := 2000) (by decide) (by decide) ?_
      exact W.iret (v := 1) hx hb hr (fun t ht hW => ⟨⟨_, ((sh, ci, ai, al), f), rfl, hX, by rw [ht]; exact hP, cK.moved hW.alike hK, hD⟩, hS.F ht⟩) hS.2.2 dL_after_18
    · refine vx_catch (own := RL) (name := "java/lang/IllegalArgumentException") hown ((tableOf [(0, 12, 15, 37), (0, 12, 19, 19), (0, 12, 23, 13)]).take 1) (tableOf [(0, 12, 15, 37), (0, 12, 19, 19), (0, 12, 23, 13)])[1] ((tableOf [(0, 12, 15, 37), (0, 12, 19, 19), (0, 12, 23, 13)]).drop 2) (by rw [htab]; rfl) (fun z hz => by rw [List.mem_singleton.mp (show z ∈ [(tableOf [(0, 12, 15, 37), (0, 12, 19, 19), (0, 12, 23, 13)])[0]] from hz)]; exact Or.inr ⟨by decide, _, hts _ mwL_27, hN.1⟩) (by decide) (by decide) (hts _ mwL_10) (va_Nw.use rfl hG.xIAE) hce hcv hcl ?_
      refine W.eq (g2 := F0 m 19 ls [.ref q9]) rfl ?_
      refine lv_astore (lv' := [(6, .ref q9), (0, .ref q), (1, .int p0), (2, .int p1), (3, .long p2), (5, .ref ho)]) hx hb dL_after_19 hl (by decide) rfl (fun ls hl => ?_)
      refine lv_iconst (v := 2) hx hb dL_after_21 (by decide) ?_
      refine W.widen (k := 8) (n := 2000) (by decide) (by decide) ?_
      exact W.iret (v := 2) hx hb hr (fun t ht hW => ⟨⟨_, ((sh, ci, ai, al), f), rfl, hX, by rw [ht]; exact hP, cK.moved hW.alike hK, hD⟩, hS.F ht⟩) hS.2.2 dL_after_22
    · have hps : ∀ z ∈ [(tableOf [(0, 12, 15, 37), (0, 12, 19, 19), (0, 12, 23, 13)])[0], (tableOf [(0, 12, 15, 37), (0, 12, 19, 19), (0, 12, 23, 13)])[1]], covers z 7 = false ∨ (z.catchType ≠ 0 ∧ ∃ nm : String, (Cond.classLink RL z.catchType nm).before _ s = true ∧ va_Nc "java/lang/UnsupportedOperationException" nm s) := fun z hz => by
        rcases List.mem_cons.mp hz with e9 | hz
        · rw [e9]; exact Or.inr ⟨by decide, _, hts _ mwL_27, hN.2.1⟩
        · rw [List.mem_singleton.mp hz]; exact Or.inr ⟨by decide, _, hts _ mwL_10, hN.2.2⟩
      refine vx_catch (own := RL) (name := "java/lang/UnsupportedOperationException") hown ((tableOf [(0, 12, 15, 37), (0, 12, 19, 19), (0, 12, 23, 13)]).take 2) (tableOf [(0, 12, 15, 37), (0, 12, 19, 19), (0, 12, 23, 13)])[2] ((tableOf [(0, 12, 15, 37), (0, 12, 19, 19), (0, 12, 23, 13)]).drop 3) (by rw [htab]; rfl) hps (by decide) (by decide) (hts _ mwL_5) (va_Nw.use rfl hG.xUOE) hce hcv hcl ?_
      refine W.eq (g2 := F0 m 23 ls [.ref q9]) rfl ?_
      refine lv_astore (lv' := [(6, .ref q9), (0, .ref q), (1, .int p0), (2, .int p1), (3, .long p2), (5, .ref ho)]) hx hb dL_after_23 hl (by decide) rfl (fun ls hl => ?_)
      refine lv_iconst (v := 3) hx hb dL_after_25 (by decide) ?_
      refine W.widen (k := 8) (n := 2000) (by decide) (by decide) ?_
      exact W.iret (v := 3) hx hb hr (fun t ht hW => ⟨⟨_, ((sh, ci, ai, al), f), rfl, hX, by rw [ht]; exact hP, cK.moved hW.alike hK, hD⟩, hS.F ht⟩) hS.2.2 dL_after_26
  · refine lv_i2l hx hb dL_after_10 rfl ?_
    refine va_last hx hb hO hP hD hS 0 0 rfl rfl (nd_in (i := 0) (n := 1) (by decide)) dL_after_11 (fun H locs hP hD hS => ?_)
    have hP : va_P (dC, dI) vwCl (oW co ho (vp_updL f (0 : Int32).toNatClampNeg r.toInt64) ++ cW sh1 ci1 ai1 al1) H := hP
    have hD : va_D A (oW co ho (vp_updL f (0 : Int32).toNatClampNeg r.toInt64) ++ cW sh1 ci1 ai1 al1) := hD
    refine lv_goto (tgt := 27) hx hb dL_after_12 (by decide) ?_
    refine lv_iconst (v := 0) hx hb dL_after_27 (by decide) ?_
    refine W.widen (k := 8) (n := 2000) (by decide) (by decide) ?_
    exact W.iret (v := 0) hx hb hr (fun t ht hW => ⟨⟨_, ((sh1, ci1, ai1, al1), vp_updL f (0 : Int32).toNatClampNeg r.toInt64), rfl, h, by rw [ht]; exact hP, cK.moved hW.alike hK, hD⟩, hS.F ht⟩) hS.2.2 dL_after_28
abbrev wmL_join : List Cond := .codeWith yL_join cL_join 5 (some .int) [(0, 10, 13, 37), (0, 10, 17, 13)] :: WL
theorem hd_L_join : yL_join.cls ≠ "java/lang/invoke/MethodHandle" ∧ yL_join.cls ≠ "java/lang/invoke/VarHandle" ∧ (parseMethodDescriptor yL_join.desc).map (fun d => d.parameters.length) = some 4 := by decide +kernel
abbrev rmL_join : Room := ({ frames := 110, cells := 8, slots := 2000, locals := 3300 })
set_option maxHeartbeats 4000000 in
set_option maxRecDepth 100000 in
theorem p_L_join (l : Launch) (hl0 : l.stackTraces = false) (dC : Nat → ClassId) (dI : Nat → Nat → Nat) (sh : Sh) (ci : Nat → Nat → Int32) (ai : Nat → Nat → Int32) (al : Nat → Nat → Int64) (q : Nat) (p0 : Int32) (p1 : Int32) (co : ClassId) (ho : Nat) (f : Nat → Int64) (Q : Int32 → LTy) (h : P_X11_join sh ci ai al q p0 p1 (fun r sh1 ci1 ai1 al1 => Q 0 sh1 ci1 ai1 al1 (vp_updL f (0 : Int32).toNatClampNeg r.toInt64)) (fun E => (E = "java/lang/IndexOutOfBoundsException" ∧ Q 1 sh ci ai al f) ∨ (E = "java/lang/UnsupportedOperationException" ∧ Q 2 sh ci ai al f))) (sz : Nat) : Met l yL_join wmL_join rmL_join (va_Pc [.ref q, .int p0, .int p1, .ref ho] (lPre dC dI sh ci ai al co ho f sz)) (va_Qi (S := LSt) (lI Q) (lB dC dI co ho (va_A (oW co ho f ++ cW sh ci ai al) sz)) (va_A (oW co ho f ++ cW sh ci ai al) sz)) 8 2000 (va_A (oW co ho f ++ cW sh ci ai al) sz) := by
  refine va_MetW (hh := [(0, 10, 13, 37), (0, 10, 17, 13)]) (cc := cL_join) (maxL := 5) (ret := (some .int)) (by decide) rfl ?_
  intro p e s m args below meth c s₁ B hml hv
  obtain ⟨rfl, hsz, hP, hK, hO, hD0, hG, hN, hZ⟩ := hv
  have hx := B.exec
  have hb := B.bytes
  have hr := B.returns
  have hts : ∀ w ∈ WL, w.before _ s = true := fun w h => atoms_spec (ws := wmL_join) B.pre w (List.mem_cons_of_mem _ h)
  have hown : s.vm.findClass RL = some m.cls := findClass_of_methodNamed B.named
  have hlocks := B.notSynchronized
  have htab := vx_table (x := yL_join) (hh := [(0, 10, 13, 37), (0, 10, 17, 13)]) (bytes := cL_join) (maxL' := 5) (ret' := (some .int)) B (atoms_spec (ws := wmL_join) B.pre _ List.mem_cons_self)
  have hqk : q ∈ sL sh ∧ sK sh q = 10 := by unfold P_X11_join at h; exact h.1
  subst hsz
  have hD := hD0.self (sz := s.heap.size)
  generalize hAe : va_A (oW co ho f ++ cW sh ci ai al) s.heap.size = A at hD hZ ⊢
  have hA : ∀ q : Nat, s.heap.size ≤ q → A q := fun q h => by rw [← hAe]; exact Or.inr h
  generalize hH : s.heap = H at hP ⊢
  have hS : va_S A s.heap H [] := by rw [← hH]; exact va_S.rf
  have hl := lv_entry [.ref q, .int p0, .int p1, .ref ho] (n := 5) (Nat.le_of_ble_eq_true rfl)
  rw [lg_entry_eq]
  generalize (lg_sl [.ref q, .int p0, .int p1, .ref ho] ++ List.replicate (5 - (lg_sl [.ref q, .int p0, .int p1, .ref ho]).length) Slot.unset).toArray = ls at hl ⊢
  have hl : lv_has ls 5 [(0, .ref q), (1, .int p0), (2, .int p1), (3, .ref ho)] := hl
  refine lv_aload_n hx hb dL_join_0 rfl (lv_at hl 3 rfl) ?_
  refine lv_iconst (v := 0) hx hb dL_join_1 (by decide) ?_
  refine lv_aload_n hx hb dL_join_2 rfl (lv_at hl 0 rfl) ?_
  refine lv_iload_n hx hb dL_join_3 rfl (lv_at hl 1 rfl) ?_
  refine lv_iload_n hx hb dL_join_4 rfl (lv_at hl 2 rfl) ?_
  refine l_xi (cells := 0) (slots := 0) (wr := oW co ho f) (vx_runV (rm := ({ frames := 100, cells := 8, slots := 2000, locals := 3000 })) (As := [.int p0, .int p1]) (rest := [.int 0, .ref ho]) ⟨hx, hb, hml, hown, hts⟩ (p_X11_join l hl0 dC dI _ _ _ _ q p0 p1 _ _ h H.size) (cwV 2 hts (g_Vm gdL gdLC mwL_56 mwL_57 mwL_58 mwL_3 mwL_59) rfl rfl rfl hd_X11_join ⟨Nat.le_of_ble_eq_true rfl, Nat.le_of_ble_eq_true rfl⟩) (x_preV hK (fr_P2 hP) (fr_D2 hD) hS hA hS hG hZ hqk.1 hqk.2) rfl rfl hl.1 rfl (lv_room (Nat.le_of_ble_eq_true rfl)) dL_join_5 ⟨Nat.le_of_ble_eq_true rfl, Nat.le_of_ble_eq_true rfl⟩) hP hD hS hA (fun E ce q9 H locs hX hP hS hce hcv hcl => ?_) (fun r sh1 ci1 ai1 al1 H locs h hK hP hD hS => ?_)
  · rcases hX with ⟨rfl, hX⟩ | ⟨rfl, hX⟩
    · refine vx_catch (own := RL) (name := "java/lang/IndexOutOfBoundsException") hown ((tableOf [(0, 10, 13, 37), (0, 10, 17, 13)]).take 0) (tableOf [(0, 10, 13, 37), (0, 10, 17, 13)])[0] ((tableOf [(0, 10, 13, 37), (0, 10, 17, 13)]).drop 1) (by rw [htab]; rfl) (fun z hz => nomatch hz) (by decide) (by decide) (hts _ mwL_27) (va_Nw.use rfl hG.xIOO) hce hcv hcl ?_
      refine W.eq (g2 := F0 m 13 ls [.ref q9]) rfl ?_
      refine lv_astore (lv' := [(4, .ref q9), (0, .ref q), (1, .int p0), (2, .int p1), (3, .ref ho)]) hx hb dL_join_13 hl (by decide) rfl (fun ls hl => ?_)
      refine lv_iconst (v := 1) hx hb dL_join_15 (by decide) ?_
      refine W.widen (k := 8) (n := 2000) (by decide) (by decide) ?_
      exact W.iret (v := 1) hx hb hr (fun t ht hW => ⟨⟨_, ((sh, ci, ai, al), f), rfl, hX, by rw [ht]; exact hP, cK.moved hW.alike hK, hD⟩, hS.F ht⟩) hS.2.2 dL_join_16
    · refine vx_catch (own := RL) (name := "java/lang/UnsupportedOperationException") hown ((tableOf [(0, 10, 13, 37), (0, 10, 17, 13)]).take 1) (tableOf [(0, 10, 13, 37), (0, 10, 17, 13)])[1] ((tableOf [(0, 10, 13, 37), (0, 10, 17, 13)]).drop 2) (by rw [htab]; rfl) (fun z hz => by rw [List.mem_singleton.mp (show z ∈ [(tableOf [(0, 10, 13, 37), (0, 10, 17, 13)])[0]] from hz)]; exact Or.inr ⟨by decide, _, hts _ mwL_27, hN.2.1⟩) (by decide) (by decide) (hts _ mwL_5) (va_Nw.use rfl hG.xUOE) hce hcv hcl ?_
      refine W.eq (g2 := F0 m 17 ls [.ref q9]) rfl ?_
      refine lv_astore (lv' := [(4, .ref q9), (0, .ref q), (1, .int p0), (2, .int p1), (3, .ref ho)]) hx hb dL_join_17 hl (by decide) rfl (fun ls hl => ?_)
      refine lv_iconst (v := 2) hx hb dL_join_19 (by decide) ?_
      refine W.widen (k := 8) (n := 2000) (by decide) (by decide) ?_
      exact W.iret (v := 2) hx hb hr (fun t ht hW => ⟨⟨_, ((sh, ci, ai, al), f), rfl, hX, by rw [ht]; exact hP, cK.moved hW.alike hK, hD⟩, hS.F ht⟩) hS.2.2 dL_join_20
  · refine lv_i2l hx hb dL_join_8 rfl ?_
    refine va_last hx hb hO hP hD hS 0 0 rfl rfl (nd_in (i := 0) (n := 1) (by decide)) dL_join_9 (fun H locs hP hD hS => ?_)
    have hP : va_P (dC, dI) vwCl (oW co ho (vp_updL f (0 : Int32).toNatClampNeg r.toInt64) ++ cW sh1 ci1 ai1 al1) H := hP
    have hD : va_D A (oW co ho (vp_updL f (0 : Int32).toNatClampNeg r.toInt64) ++ cW sh1 ci1 ai1 al1) := hD
    refine lv_goto (tgt := 21) hx hb dL_join_10 (by decide) ?_
    refine lv_iconst (v := 0) hx hb dL_join_21 (by decide) ?_
    refine W.widen (k := 8) (n := 2000) (by decide) (by decide) ?_
    exact W.iret (v := 0) hx hb hr (fun t ht hW => ⟨⟨_, ((sh1, ci1, ai1, al1), vp_updL f (0 : Int32).toNatClampNeg r.toInt64), rfl, h, by rw [ht]; exact hP, cK.moved hW.alike hK, hD⟩, hS.F ht⟩) hS.2.2 dL_join_22
abbrev wmL_other : List Cond := .codeWith yL_other cL_other 5 (some .int) [(0, 10, 13, 37), (0, 10, 17, 19), (0, 10, 21, 13)] :: WL
theorem hd_L_other : yL_other.cls ≠ "java/lang/invoke/MethodHandle" ∧ yL_other.cls ≠ "java/lang/invoke/VarHandle" ∧ (parseMethodDescriptor yL_other.desc).map (fun d => d.parameters.length) = some 4 := by decide +kernel
abbrev rmL_other : Room := ({ frames := 110, cells := 8, slots := 2000, locals := 3300 })
set_option maxHeartbeats 4000000 in
set_option maxRecDepth 100000 in
theorem p_L_other (l : Launch) (hl0 : l.stackTraces = false) (dC : Nat → ClassId) (dI : Nat → Nat → Nat) (sh : Sh) (ci : Nat → Nat → Int32) (ai : Nat → Nat → Int32) (al : Nat → Nat → Int64) (q : Nat) (p0 : Int32) (p1 : Int32) (co : ClassId) (ho : Nat) (f : Nat → Int64) (Q : Int32 → LTy) (h : P_X11_other sh ci ai al q p0 p1 (fun r sh1 ci1 ai1 al1 => Q 0 sh1 ci1 ai1 al1 (vp_updL f (0 : Int32).toNatClampNeg r.toInt64)) (fun E => (E = "java/lang/IndexOutOfBoundsException" ∧ Q 1 sh ci ai al f) ∨ (E = "java/lang/IllegalArgumentException" ∧ Q 2 sh ci ai al f) ∨ (E = "java/lang/UnsupportedOperationException" ∧ Q 3 sh ci ai al f))) (sz : Nat) : Met l yL_other wmL_other rmL_other (va_Pc [.ref q, .int p0, .int p1, .ref ho] (lPre dC dI sh ci ai al co ho f sz)) (va_Qi (S := LSt) (lI Q) (lB dC dI co ho (va_A (oW co ho f ++ cW sh ci ai al) sz)) (va_A (oW co ho f ++ cW sh ci ai al) sz)) 8 2000 (va_A (oW co ho f ++ cW sh ci ai al) sz) := by
  refine va_MetW (hh := [(0, 10, 13, 37), (0, 10, 17, 19), (0, 10, 21, 13)]) (cc := cL_other) (maxL := 5) (ret := (some .int)) (by decide) rfl ?_
  intro p e s m args below meth c s₁ B hml hv
  obtain ⟨rfl, hsz, hP, hK, hO, hD0, hG, hN, hZ⟩ := hv
  have hx := B.exec
  have hb := B.bytes
  have hr := B.returns
  have hts : ∀ w ∈ WL, w.before _ s = true := fun w h => atoms_spec (ws := wmL_other) B.pre w (List.mem_cons_of_mem _ h)
  have hown : s.vm.findClass RL = some m.cls := findClass_of_methodNamed B.named
  have hlocks := B.notSynchronized
  have htab := vx_table (x := yL_other) (hh := [(0, 10, 13, 37), (0, 10, 17, 19), (0, 10, 21, 13)]) (bytes := cL_other) (maxL' := 5) (ret' := (some .int)) B (atoms_spec (ws := wmL_other) B.pre _ List.mem_cons_self)
  have hqk : q ∈ sL sh ∧ sK sh q = 10 := by unfold P_X11_other at h; exact h.1
  subst hsz
  have hD := hD0.self (sz := s.heap.size)
  generalize hAe : va_A (oW co ho f ++ cW sh ci ai al) s.heap.size = A at hD hZ ⊢
  have hA : ∀ q : Nat, s.heap.size ≤ q → A q := fun q h => by rw [← hAe]; exact Or.inr h
  generalize hH : s.heap = H at hP ⊢
  have hS : va_S A s.heap H [] := by rw [← hH]; exact va_S.rf
  have hl := lv_entry [.ref q, .int p0, .int p1, .ref ho] (n := 5) (Nat.le_of_ble_eq_true rfl)
  rw [lg_entry_eq]
  generalize (lg_sl [.ref q, .int p0, .int p1, .ref ho] ++ List.replicate (5 - (lg_sl [.ref q, .int p0, .int p1, .ref ho]).length) Slot.unset).toArray = ls at hl ⊢
  have hl : lv_has ls 5 [(0, .ref q), (1, .int p0), (2, .int p1), (3, .ref ho)] := hl
  refine lv_aload_n hx hb dL_other_0 rfl (lv_at hl 3 rfl) ?_
  refine lv_iconst (v := 0) hx hb dL_other_1 (by decide) ?_
  refine lv_aload_n hx hb dL_other_2 rfl (lv_at hl 0 rfl) ?_
  refine lv_iload_n hx hb dL_other_3 rfl (lv_at hl 1 rfl) ?_
  refine lv_iload_n hx hb dL_other_4 rfl (lv_at hl 2 rfl) ?_
  refine l_xi (cells := 0) (slots := 0) (wr := oW co ho f) (vx_runV (rm := ({ frames := 100, cells := 8, slots := 2000, locals := 3000 })) (As := [.int p0, .int p1]) (rest := [.int 0, .ref ho]) ⟨hx, hb, hml, hown, hts⟩ (p_X11_other l hl0 dC dI _ _ _ _ q p0 p1 _ _ h H.size) (cwV 2 hts (g_Vm gdL gdLC mwL_60 mwL_61 mwL_62 mwL_3 mwL_63) rfl rfl rfl hd_X11_other ⟨Nat.le_of_ble_eq_true rfl, Nat.le_of_ble_eq_true rfl⟩) (x_preV hK (fr_P2 hP) (fr_D2 hD) hS hA hS hG hZ hqk.1 hqk.2) rfl rfl hl.1 rfl (lv_room (Nat.le_of_ble_eq_true rfl)) dL_other_5 ⟨Nat.le_of_ble_eq_true rfl, Nat.le_of_ble_eq_true rfl⟩) hP hD hS hA (fun E ce q9 H locs hX hP hS hce hcv hcl => ?_) (fun r sh1 ci1 ai1 al1 H locs h hK hP hD hS => ?_)
  · rcases hX with ⟨rfl, hX⟩ | ⟨rfl, hX⟩ | ⟨rfl, hX⟩
    · refine vx_catch (own := RL) (name := "java/lang/IndexOutOfBoundsException") hown ((tableOf [(0, 10, 13, 37), (0, 10, 17, 19), (0, 10, 21, 13)]).take 0) (tableOf [(0, 10, 13, 37), (0, 10, 17, 19), (0, 10, 21, 13)])[0] ((tableOf [(0, 10, 13, 37), (0, 10, 17, 19), (0, 10, 21, 13)]).drop 1) (by rw [htab]; rfl) (fun z hz => nomatch hz) (by decide) (by decide) (hts _ mwL_27) (va_Nw.use rfl hG.xIOO) hce hcv hcl ?_
      refine W.eq (g2 := F0 m 13 ls [.ref q9]) rfl ?_
      refine lv_astore (lv' := [(4, .ref q9), (0, .ref q), (1, .int p0), (2, .int p1), (3, .ref ho)]) hx hb dL_other_13 hl (by decide) rfl (fun ls hl => ?_)
      refine lv_iconst (v := 1) hx hb dL_other_15 (by decide) ?_
      refine W.widen (k := 8) (n := 2000) (by decide) (by decide) ?_
      exact W.iret (v := 1) hx hb hr (fun t ht hW => ⟨⟨_, ((sh, ci, ai, al), f), rfl, hX, by rw [ht]; exact hP, cK.moved hW.alike hK, hD⟩, hS.F ht⟩) hS.2.2 dL_other_16
    · refine vx_catch (own := RL) (name := "java/lang/IllegalArgumentException") hown ((tableOf [(0, 10, 13, 37), (0, 10, 17, 19), (0, 10, 21, 13)]).take 1) (tableOf [(0, 10, 13, 37), (0, 10, 17, 19), (0, 10, 21, 13)])[1] ((tableOf [(0, 10, 13, 37), (0, 10, 17, 19), (0, 10, 21, 13)]).drop 2) (by rw [htab]; rfl) (fun z hz => by rw [List.mem_singleton.mp (show z ∈ [(tableOf [(0, 10, 13, 37), (0, 10, 17, 19), (0, 10, 21, 13)])[0]] from hz)]; exact Or.inr ⟨by decide, _, hts _ mwL_27, hN.1⟩) (by decide) (by decide) (hts _ mwL_10) (va_Nw.use rfl hG.xIAE) hce hcv hcl ?_
      refine W.eq (g2 := F0 m 17 ls [.ref q9]) rfl ?_
      refine lv_astore (lv' := [(4, .ref q9), (0, .ref q), (1, .int p0), (2, .int p1), (3, .ref ho)]) hx hb dL_other_17 hl (by decide) rfl (fun ls hl => ?_)
      refine lv_iconst (v := 2) hx hb dL_other_19 (by decide) ?_
      refine W.widen (k := 8) (n := 2000) (by decide) (by decide) ?_
      exact W.iret (v := 2) hx hb hr (fun t ht hW => ⟨⟨_, ((sh, ci, ai, al), f), rfl, hX, by rw [ht]; exact hP, cK.moved hW.alike hK, hD⟩, hS.F ht⟩) hS.2.2 dL_other_20
    · have hps : ∀ z ∈ [(tableOf [(0, 10, 13, 37), (0, 10, 17, 19), (0, 10, 21, 13)])[0], (tableOf [(0, 10, 13, 37), (0, 10, 17, 19), (0, 10, 21, 13)])[1]], covers z 5 = false ∨ (z.catchType ≠ 0 ∧ ∃ nm : String, (Cond.classLink RL z.catchType nm).before _ s = true ∧ va_Nc "java/lang/UnsupportedOperationException" nm s) := fun z hz => by
        rcases List.mem_cons.mp hz with e9 | hz
        · rw [e9]; exact Or.inr ⟨by decide, _, hts _ mwL_27, hN.2.1⟩
        · rw [List.mem_singleton.mp hz]; exact Or.inr ⟨by decide, _, hts _ mwL_10, hN.2.2⟩
      refine vx_catch (own := RL) (name := "java/lang/UnsupportedOperationException") hown ((tableOf [(0, 10, 13, 37), (0, 10, 17, 19), (0, 10, 21, 13)]).take 2) (tableOf [(0, 10, 13, 37), (0, 10, 17, 19), (0, 10, 21, 13)])[2] ((tableOf [(0, 10, 13, 37), (0, 10, 17, 19), (0, 10, 21, 13)]).drop 3) (by rw [htab]; rfl) hps (by decide) (by decide) (hts _ mwL_5) (va_Nw.use rfl hG.xUOE) hce hcv hcl ?_
      refine W.eq (g2 := F0 m 21 ls [.ref q9]) rfl ?_
      refine lv_astore (lv' := [(4, .ref q9), (0, .ref q), (1, .int p0), (2, .int p1), (3, .ref ho)]) hx hb dL_other_21 hl (by decide) rfl (fun ls hl => ?_)
      refine lv_iconst (v := 3) hx hb dL_other_23 (by decide) ?_
      refine W.widen (k := 8) (n := 2000) (by decide) (by decide) ?_
      exact W.iret (v := 3) hx hb hr (fun t ht hW => ⟨⟨_, ((sh, ci, ai, al), f), rfl, hX, by rw [ht]; exact hP, cK.moved hW.alike hK, hD⟩, hS.F ht⟩) hS.2.2 dL_other_24
  · refine lv_i2l hx hb dL_other_8 rfl ?_
    refine va_last hx hb hO hP hD hS 0 0 rfl rfl (nd_in (i := 0) (n := 1) (by decide)) dL_other_9 (fun H locs hP hD hS => ?_)
    have hP : va_P (dC, dI) vwCl (oW co ho (vp_updL f (0 : Int32).toNatClampNeg r.toInt64) ++ cW sh1 ci1 ai1 al1) H := hP
    have hD : va_D A (oW co ho (vp_updL f (0 : Int32).toNatClampNeg r.toInt64) ++ cW sh1 ci1 ai1 al1) := hD
    refine lv_goto (tgt := 25) hx hb dL_other_10 (by decide) ?_
    refine lv_iconst (v := 0) hx hb dL_other_25 (by decide) ?_
    refine W.widen (k := 8) (n := 2000) (by decide) (by decide) ?_
    exact W.iret (v := 0) hx hb hr (fun t ht hW => ⟨⟨_, ((sh1, ci1, ai1, al1), vp_updL f (0 : Int32).toNatClampNeg r.toInt64), rfl, h, by rw [ht]; exact hP, cK.moved hW.alike hK, hD⟩, hS.F ht⟩) hS.2.2 dL_other_26
abbrev wmL_steps : List Cond := .codeWith yL_steps cL_steps 4 (some .int) [(0, 9, 12, 19)] :: WL
theorem hd_L_steps : yL_steps.cls ≠ "java/lang/invoke/MethodHandle" ∧ yL_steps.cls ≠ "java/lang/invoke/VarHandle" ∧ (parseMethodDescriptor yL_steps.desc).map (fun d => d.parameters.length) = some 3 := by decide +kernel
abbrev rmL_steps : Room := ({ frames := 50, cells := 1, slots := 6, locals := 900 })
set_option maxHeartbeats 4000000 in
set_option maxRecDepth 100000 in
theorem p_L_steps (l : Launch) (hl0 : l.stackTraces = false) (dC : Nat → ClassId) (dI : Nat → Nat → Nat) (sh : Sh) (ci : Nat → Nat → Int32) (ai : Nat → Nat → Int32) (al : Nat → Nat → Int64) (q : Nat) (p0 : Int32) (co : ClassId) (ho : Nat) (f : Nat → Int64) (Q : Int32 → LTy) (h : P_X11_steps sh ci ai al q p0 (fun r sh1 ci1 ai1 al1 => Q 0 sh1 ci1 ai1 al1 (vp_updL f (0 : Int32).toNatClampNeg r.toInt64)) (fun E => (E = "java/lang/IllegalArgumentException" ∧ Q 1 sh ci ai al f))) (sz : Nat) : Met l yL_steps wmL_steps rmL_steps (va_Pc [.ref q, .int p0, .ref ho] (lPre dC dI sh ci ai al co ho f sz)) (va_Qi (S := LSt) (lI Q) (lB dC dI co ho (va_A (oW co ho f ++ cW sh ci ai al) sz)) (va_A (oW co ho f ++ cW sh ci ai al) sz)) 1 6 (va_A (oW co ho f ++ cW sh ci ai al) sz) := by
  refine va_MetW (hh := [(0, 9, 12, 19)]) (cc := cL_steps) (maxL := 4) (ret := (some .int)) (by decide) rfl ?_
  intro p e s m args below meth c s₁ B hml hv
  obtain ⟨rfl, hsz, hP, hK, hO, hD0, hG, hN, hZ⟩ := hv
  have hx := B.exec
  have hb := B.bytes
  have hr := B.returns
  have hts : ∀ w ∈ WL, w.before _ s = true := fun w h => atoms_spec (ws := wmL_steps) B.pre w (List.mem_cons_of_mem _ h)
  have hown : s.vm.findClass RL = some m.cls := findClass_of_methodNamed B.named
  have hlocks := B.notSynchronized
  have htab := vx_table (x := yL_steps) (hh := [(0, 9, 12, 19)]) (bytes := cL_steps) (maxL' := 4) (ret' := (some .int)) B (atoms_spec (ws := wmL_steps) B.pre _ List.mem_cons_self)
  have hqk : q ∈ sL sh ∧ sK sh q = 10 := by unfold P_X11_steps at h; exact h.1
  subst hsz
  have hD := hD0.self (sz := s.heap.size)
  generalize hAe : va_A (oW co ho f ++ cW sh ci ai al) s.heap.size = A at hD hZ ⊢
  have hA : ∀ q : Nat, s.heap.size ≤ q → A q := fun q h => by rw [← hAe]; exact Or.inr h
  generalize hH : s.heap = H at hP ⊢
  have hS : va_S A s.heap H [] := by rw [← hH]; exact va_S.rf
  have hl := lv_entry [.ref q, .int p0, .ref ho] (n := 4) (Nat.le_of_ble_eq_true rfl)
  rw [lg_entry_eq]
  generalize (lg_sl [.ref q, .int p0, .ref ho] ++ List.replicate (4 - (lg_sl [.ref q, .int p0, .ref ho]).length) Slot.unset).toArray = ls at hl ⊢
  have hl : lv_has ls 4 [(0, .ref q), (1, .int p0), (2, .ref ho)] := hl
  refine lv_aload_n hx hb dL_steps_0 rfl (lv_at hl 2 rfl) ?_
  refine lv_iconst (v := 0) hx hb dL_steps_1 (by decide) ?_
  refine lv_aload_n hx hb dL_steps_2 rfl (lv_at hl 0 rfl) ?_
  refine lv_iload_n hx hb dL_steps_3 rfl (lv_at hl 1 rfl) ?_
  refine l_xi (cells := 0) (slots := 0) (wr := oW co ho f) (vx_runV (rm := ({ frames := 40, cells := 1, slots := 6, locals := 600 })) (As := [.int p0]) (rest := [.int 0, .ref ho]) ⟨hx, hb, hml, hown, hts⟩ (p_X11_steps l hl0 dC dI _ _ _ _ q p0 _ _ h H.size) (cwV 1 hts (g_Vm gdL gdLC mwL_64 mwL_65 mwL_66 mwL_3 mwL_67) rfl rfl rfl hd_X11_steps ⟨Nat.le_of_ble_eq_true rfl, Nat.le_of_ble_eq_true rfl⟩) (x_preV hK (fr_P2 hP) (fr_D2 hD) hS hA hS hG hZ hqk.1 hqk.2) rfl rfl hl.1 rfl (lv_room (Nat.le_of_ble_eq_true rfl)) dL_steps_4 ⟨Nat.le_of_ble_eq_true rfl, Nat.le_of_ble_eq_true rfl⟩) hP hD hS hA (fun E ce q9 H locs hX hP hS hce hcv hcl => ?_) (fun r sh1 ci1 ai1 al1 H locs h hK hP hD hS => ?_)
  · obtain ⟨rfl, hX⟩ := hX
    refine vx_catch (own := RL) (name := "java/lang/IllegalArgumentException") hown ((tableOf [(0, 9, 12, 19)]).take 0) (tableOf [(0, 9, 12, 19)])[0] ((tableOf [(0, 9, 12, 19)]).drop 1) (by rw [htab]; rfl) (fun z hz => nomatch hz) (by decide) (by decide) (hts _ mwL_10) (va_Nw.use rfl hG.xIAE) hce hcv hcl ?_
    refine W.eq (g2 := F0 m 12 ls [.ref q9]) rfl ?_
    refine lv_astore_n (lv' := [(3, .ref q9), (0, .ref q), (1, .int p0), (2, .ref ho)]) hx hb dL_steps_12 rfl hl (by decide) rfl (fun ls hl => ?_)
    refine lv_iconst (v := 1) hx hb dL_steps_13 (by decide) ?_
    refine W.widen (k := 1) (n := 6) (by decide) (by decide) ?_
    exact W.iret (v := 1) hx hb hr (fun t ht hW => ⟨⟨_, ((sh, ci, ai, al), f), rfl, hX, by rw [ht]; exact hP, cK.moved hW.alike hK, hD⟩, hS.F ht⟩) hS.2.2 dL_steps_14
  · refine lv_i2l hx hb dL_steps_7 rfl ?_
    refine va_last hx hb hO hP hD hS 0 0 rfl rfl (nd_in (i := 0) (n := 1) (by decide)) dL_steps_8 (fun H locs hP hD hS => ?_)
    have hP : va_P (dC, dI) vwCl (oW co ho (vp_updL f (0 : Int32).toNatClampNeg r.toInt64) ++ cW sh1 ci1 ai1 al1) H := hP
    have hD : va_D A (oW co ho (vp_updL f (0 : Int32).toNatClampNeg r.toInt64) ++ cW sh1 ci1 ai1 al1) := hD
    refine lv_goto (tgt := 15) hx hb dL_steps_9 (by decide) ?_
    refine lv_iconst (v := 0) hx hb dL_steps_15 (by decide) ?_
    refine W.widen (k := 1) (n := 6) (by decide) (by decide) ?_
    exact W.iret (v := 0) hx hb hr (fun t ht hW => ⟨⟨_, ((sh1, ci1, ai1, al1), vp_updL f (0 : Int32).toNatClampNeg r.toInt64), rfl, h, by rw [ht]; exact hP, cK.moved hW.alike hK, hD⟩, hS.F ht⟩) hS.2.2 dL_steps_16
