abbrev cL_at : ByteArray := method_19_code
def yL_at : MethodName := ⟨RL, "at", "(LNeededLists;II[J)I"⟩
abbrev cL_size : ByteArray := method_20_code
def yL_size : MethodName := ⟨RL, "size", "(LNeededLists;I[J)I"⟩
abbrev cL_fold : ByteArray := method_21_code
def yL_fold : MethodName := ⟨RL, "fold", "(LNeededLists;IIJ[J)I"⟩
abbrev cL_find : ByteArray := method_22_code
def yL_find : MethodName := ⟨RL, "find", "(LNeededLists;IIJ[J)I"⟩
theorem dL_at_0 : decode cL_at 0 = .ok (.aload_n 3, 1) := by decide +kernel
theorem dL_at_1 : decode cL_at 1 = .ok (.iconst 0, 1) := by decide +kernel
theorem dL_at_2 : decode cL_at 2 = .ok (.aload_n 0, 1) := by decide +kernel
theorem dL_at_3 : decode cL_at 3 = .ok (.iload_n 1, 1) := by decide +kernel
theorem dL_at_4 : decode cL_at 4 = .ok (.iload_n 2, 1) := by decide +kernel
theorem dL_at_5 : decode cL_at 5 = .ok (.invokevirtual 71, 3) := by decide +kernel
theorem dL_at_8 : decode cL_at 8 = .ok (.lastore, 1) := by decide +kernel
theorem dL_at_9 : decode cL_at 9 = .ok (.goto 11, 3) := by decide +kernel
theorem dL_at_12 : decode cL_at 12 = .ok (.astore 4, 2) := by decide +kernel
theorem dL_at_14 : decode cL_at 14 = .ok (.iconst 1, 1) := by decide +kernel
theorem dL_at_15 : decode cL_at 15 = .ok (.ireturn, 1) := by decide +kernel
theorem dL_at_16 : decode cL_at 16 = .ok (.astore 4, 2) := by decide +kernel
theorem dL_at_18 : decode cL_at 18 = .ok (.iconst 2, 1) := by decide +kernel
theorem dL_at_19 : decode cL_at 19 = .ok (.ireturn, 1) := by decide +kernel
theorem dL_at_20 : decode cL_at 20 = .ok (.iconst 0, 1) := by decide +kernel
theorem dL_at_21 : decode cL_at 21 = .ok (.ireturn, 1) := by decide +kernel
theorem dL_size_0 : decode cL_size 0 = .ok (.aload_n 2, 1) := by decide +kernel
theorem dL_size_1 : decode cL_size 1 = .ok (.iconst 0, 1) := by decide +kernel
theorem dL_size_2 : decode cL_size 2 = .ok (.aload_n 0, 1) := by decide +kernel
theorem dL_size_3 : decode cL_size 3 = .ok (.iload_n 1, 1) := by decide +kernel
theorem dL_size_4 : decode cL_size 4 = .ok (.invokevirtual 75, 3) := by decide +kernel
theorem dL_size_7 : decode cL_size 7 = .ok (.lastore, 1) := by decide +kernel
theorem dL_size_8 : decode cL_size 8 = .ok (.goto 6, 3) := by decide +kernel
theorem dL_size_11 : decode cL_size 11 = .ok (.astore_n 3, 1) := by decide +kernel
theorem dL_size_12 : decode cL_size 12 = .ok (.iconst 1, 1) := by decide +kernel
theorem dL_size_13 : decode cL_size 13 = .ok (.ireturn, 1) := by decide +kernel
theorem dL_size_14 : decode cL_size 14 = .ok (.iconst 0, 1) := by decide +kernel
theorem dL_size_15 : decode cL_size 15 = .ok (.ireturn, 1) := by decide +kernel
theorem dL_fold_0 : decode cL_fold 0 = .ok (.aload 5, 2) := by decide +kernel
theorem dL_fold_2 : decode cL_fold 2 = .ok (.iconst 0, 1) := by decide +kernel
theorem dL_fold_3 : decode cL_fold 3 = .ok (.aload_n 0, 1) := by decide +kernel
theorem dL_fold_4 : decode cL_fold 4 = .ok (.iload_n 1, 1) := by decide +kernel
theorem dL_fold_5 : decode cL_fold 5 = .ok (.iload_n 2, 1) := by decide +kernel
theorem dL_fold_6 : decode cL_fold 6 = .ok (.lload_n 3, 1) := by decide +kernel
theorem dL_fold_7 : decode cL_fold 7 = .ok (.invokevirtual 79, 3) := by decide +kernel
theorem dL_fold_10 : decode cL_fold 10 = .ok (.lastore, 1) := by decide +kernel
theorem dL_fold_11 : decode cL_fold 11 = .ok (.goto 11, 3) := by decide +kernel
theorem dL_fold_14 : decode cL_fold 14 = .ok (.astore 6, 2) := by decide +kernel
theorem dL_fold_16 : decode cL_fold 16 = .ok (.iconst 1, 1) := by decide +kernel
theorem dL_fold_17 : decode cL_fold 17 = .ok (.ireturn, 1) := by decide +kernel
theorem dL_fold_18 : decode cL_fold 18 = .ok (.astore 6, 2) := by decide +kernel
theorem dL_fold_20 : decode cL_fold 20 = .ok (.iconst 2, 1) := by decide +kernel
theorem dL_fold_21 : decode cL_fold 21 = .ok (.ireturn, 1) := by decide +kernel
theorem dL_fold_22 : decode cL_fold 22 = .ok (.iconst 0, 1) := by decide +kernel
theorem dL_fold_23 : decode cL_fold 23 = .ok (.ireturn, 1) := by decide +kernel
theorem dL_find_0 : decode cL_find 0 = .ok (.aload 5, 2) := by decide +kernel
theorem dL_find_2 : decode cL_find 2 = .ok (.iconst 0, 1) := by decide +kernel
theorem dL_find_3 : decode cL_find 3 = .ok (.aload_n 0, 1) := by decide +kernel
theorem dL_find_4 : decode cL_find 4 = .ok (.iload_n 1, 1) := by decide +kernel
theorem dL_find_5 : decode cL_find 5 = .ok (.iload_n 2, 1) := by decide +kernel
theorem dL_find_6 : decode cL_find 6 = .ok (.lload_n 3, 1) := by decide +kernel
theorem dL_find_7 : decode cL_find 7 = .ok (.invokevirtual 83, 3) := by decide +kernel
theorem dL_find_10 : decode cL_find 10 = .ok (.lastore, 1) := by decide +kernel
theorem dL_find_11 : decode cL_find 11 = .ok (.goto 11, 3) := by decide +kernel
theorem dL_find_14 : decode cL_find 14 = .ok (.astore 6, 2) := by decide +kernel
theorem dL_find_16 : decode cL_find 16 = .ok (.iconst 1, 1) := by decide +kernel
theorem dL_find_17 : decode cL_find 17 = .ok (.ireturn, 1) := by decide +kernel
theorem dL_find_18 : decode cL_find 18 = .ok (.astore 6, 2) := by decide +kernel
theorem dL_find_20 : decode cL_find 20 = .ok (.iconst 2, 1) := by decide +kernel
theorem dL_find_21 : decode cL_find 21 = .ok (.ireturn, 1) := by decide +kernel
theorem dL_find_22 : decode cL_find 22 = .ok (.iconst 0, 1) := by decide +kernel
theorem dL_find_23 : decode cL_find 23 = .ok (.ireturn, 1) := by decide +kernel
abbrev wmL_at : List Cond := .codeWith yL_at cL_at 5 (some .int) [(0, 9, 12, 37), (0, 9, 16, 19)] :: WL
theorem hd_L_at : yL_at.cls ≠ "java/lang/invoke/MethodHandle" ∧ yL_at.cls ≠ "java/lang/invoke/VarHandle" ∧ (parseMethodDescriptor yL_at.desc).map (fun d => d.parameters.length) = some 4 := by decide +kernel
abbrev rmL_at : Room := ({ frames := 1010, cells := 3, slots := 20, locals := 40300 })
set_option maxHeartbeats 4000000 in
set_option maxRecDepth 100000 in
theorem p_L_at (l : Launch) (hl0 : l.stackTraces = false) (dC : Nat → ClassId) (dI : Nat → Nat → Nat) (sh : Sh) (ci : Nat → Nat → Int32) (ai : Nat → Nat → Int32) (al : Nat → Nat → Int64) (q : Nat) (p0 : Int32) (p1 : Int32) (co : ClassId) (ho : Nat) (f : Nat → Int64) (Q : Int32 → LTy) (h : P_X11_at sh ci ai al q p0 p1 (fun r sh1 ci1 ai1 al1 => Q 0 sh1 ci1 ai1 al1 (vp_updL f (0 : Int32).toNatClampNeg r)) (fun E => (E = "java/lang/IndexOutOfBoundsException" ∧ Q 1 sh ci ai al f) ∨ (E = "java/lang/IllegalArgumentException" ∧ Q 2 sh ci ai al f))) (sz : Nat) : Met l yL_at wmL_at rmL_at (va_Pc [.ref q, .int p0, .int p1, .ref ho] (lPre dC dI sh ci ai al co ho f sz)) (va_Qi (S := LSt) (lI Q) (lB dC dI co ho (va_A (oW co ho f ++ cW sh ci ai al) sz)) (va_A (oW co ho f ++ cW sh ci ai al) sz)) 3 20 (va_A (oW co ho f ++ cW sh ci ai al) sz) := by
  refine va_MetW (hh := [(0, 9, 12, 37), (0, 9, 16, 19)]) (cc := cL_at) (maxL := 5) (ret := (some .int)) (by decide) rfl ?_
  intro p e s m args below meth c s₁ B hml hv
  obtain ⟨rfl, hsz, hP, hK, hO, hD0, hG, hN, hZ⟩ := hv
  have hx := B.exec
  have hb := B.bytes
  have hr := B.returns
  have hts : ∀ w ∈ WL, w.before _ s = true := fun w h => atoms_spec (ws := wmL_at) B.pre w (List.mem_cons_of_mem _ h)
  have hown : s.vm.findClass RL = some m.cls := findClass_of_methodNamed B.named
  have hlocks := B.notSynchronized
  have htab := vx_table (x := yL_at) (hh := [(0, 9, 12, 37), (0, 9, 16, 19)]) (bytes := cL_at) (maxL' := 5) (ret' := (some .int)) B (atoms_spec (ws := wmL_at) B.pre _ List.mem_cons_self)
  have hqk : q ∈ sL sh ∧ sK sh q = 10 := by unfold P_X11_at at h; exact h.1
  subst hsz
  have hD := hD0.self (sz := s.heap.size)
  generalize hAe : va_A (oW co ho f ++ cW sh ci ai al) s.heap.size = A at hD hZ ⊢
  have hA : ∀ q : Nat, s.heap.size ≤ q → A q := fun q h => by rw [← hAe]; exact Or.inr h
  generalize hH : s.heap = H at hP ⊢
  have hS : va_S A s.heap H [] := by rw [← hH]; exact va_S.rf
  have hl := lv_entry [.ref q, .int p0, .int p1, .ref ho] (n := 5) (Nat.le_of_ble_eq_true rfl)
  rw [lg_entry_eq]
  generalize (lg_sl [.ref q, .int p0, .int p1, .ref ho] ++ List.replicate (5 - (lg_sl [.ref q, .int p0, .int p1, .ref ho]).length) Slot.unset).toArray = ls at hl ⊢
  have hl : lv_has ls 5 [(0, .ref q), (1, .int p0), (2, .int p1), (3, .ref ho)] := hl
  refine lv_aload_n hx hb dL_at_0 rfl (lv_at hl 3 rfl) ?_
  refine lv_iconst (v := 0) hx hb dL_at_1 (by decide) ?_
  refine lv_aload_n hx hb dL_at_2 rfl (lv_at hl 0 rfl) ?_
  refine lv_iload_n hx hb dL_at_3 rfl (lv_at hl 1 rfl) ?_
  refine lv_iload_n hx hb dL_at_4 rfl (lv_at hl 2 rfl) ?_
  refine l_xl (cells := 0) (slots := 0) (wr := oW co ho f) (vx_runV (rm := ({ frames := 1000, cells := 3, slots := 20, locals := 40000 })) (As := [.int p0, .int p1]) (rest := [.int 0, .ref ho]) ⟨hx, hb, hml, hown, hts⟩ (p_X11_at l hl0 dC dI _ _ _ _ q p0 p1 _ _ h H.size) (cwV 2 hts (g_Vm gdL gdLC mwL_68 mwL_69 mwL_70 mwL_3 mwL_71) rfl rfl rfl hd_X11_at ⟨Nat.le_of_ble_eq_true rfl, Nat.le_of_ble_eq_true rfl⟩) (x_preV hK (fr_P2 hP) (fr_D2 hD) hS hA hS hG hZ hqk.1 hqk.2) rfl rfl hl.1 rfl (lv_room (Nat.le_of_ble_eq_true rfl)) dL_at_5 ⟨Nat.le_of_ble_eq_true rfl, Nat.le_of_ble_eq_true rfl⟩) hP hD hS hA (fun E ce q9 H locs hX hP hS hce hcv hcl => ?_) (fun r sh1 ci1 ai1 al1 H locs h hK hP hD hS => ?_)
  · rcases hX with ⟨rfl, hX⟩ | ⟨rfl, hX⟩
    · refine vx_catch (own := RL) (name := "java/lang/IndexOutOfBoundsException") hown ((tableOf [(0, 9, 12, 37), (0, 9, 16, 19)]).take 0) (tableOf [(0, 9, 12, 37), (0, 9, 16, 19)])[0] ((tableOf [(0, 9, 12, 37), (0, 9, 16, 19)]).drop 1) (by rw [htab]; rfl) (fun z hz => nomatch hz) (by decide) (by decide) (hts _ mwL_27) (va_Nw.use rfl hG.xIOO) hce hcv hcl ?_
      refine W.eq (g2 := F0 m 12 ls [.ref q9]) rfl ?_
      refine lv_astore (lv' := [(4, .ref q9), (0, .ref q), (1, .int p0), (2, .int p1), (3, .ref ho)]) hx hb dL_at_12 hl (by decide) rfl (fun ls hl => ?_)
      refine lv_iconst (v := 1) hx hb dL_at_14 (by decide) ?_
      refine W.widen (k := 3) (n := 20) (by decide) (by decide) ?_
      exact W.iret (v := 1) hx hb hr (fun t ht hW => ⟨⟨_, ((sh, ci, ai, al), f), rfl, hX, by rw [ht]; exact hP, cK.moved hW.alike hK, hD⟩, hS.F ht⟩) hS.2.2 dL_at_15
    · refine vx_catch (own := RL) (name := "java/lang/IllegalArgumentException") hown ((tableOf [(0, 9, 12, 37), (0, 9, 16, 19)]).take 1) (tableOf [(0, 9, 12, 37), (0, 9, 16, 19)])[1] ((tableOf [(0, 9, 12, 37), (0, 9, 16, 19)]).drop 2) (by rw [htab]; rfl) (fun z hz => by rw [List.mem_singleton.mp (show z ∈ [(tableOf [(0, 9, 12, 37), (0, 9, 16, 19)])[0]] from hz)]; exact Or.inr ⟨by decide, _, hts _ mwL_27, hN.1⟩) (by decide) (by decide) (hts _ mwL_10) (va_Nw.use rfl hG.xIAE) hce hcv hcl ?_
      refine W.eq (g2 := F0 m 16 ls [.ref q9]) rfl ?_
      refine lv_astore (lv' := [(4, .ref q9), (0, .ref q), (1, .int p0), (2, .int p1), (3, .ref ho)]) hx hb dL_at_16 hl (by decide) rfl (fun ls hl => ?_)
      refine lv_iconst (v := 2) hx hb dL_at_18 (by decide) ?_
      refine W.widen (k := 3) (n := 20) (by decide) (by decide) ?_
      exact W.iret (v := 2) hx hb hr (fun t ht hW => ⟨⟨_, ((sh, ci, ai, al), f), rfl, hX, by rw [ht]; exact hP, cK.moved hW.alike hK, hD⟩, hS.F ht⟩) hS.2.2 dL_at_19
  · refine va_last hx hb hO hP hD hS 0 0 rfl rfl (nd_in (i := 0) (n := 1) (by decide)) dL_at_8 (fun H locs hP hD hS => ?_)
    have hP : va_P (dC, dI) vwCl (oW co ho (vp_updL f (0 : Int32).toNatClampNeg r) ++ cW sh1 ci1 ai1 al1) H := hP
    have hD : va_D A (oW co ho (vp_updL f (0 : Int32).toNatClampNeg r) ++ cW sh1 ci1 ai1 al1) := hD
    refine lv_goto (tgt := 20) hx hb dL_at_9 (by decide) ?_
    refine lv_iconst (v := 0) hx hb dL_at_20 (by decide) ?_
    refine W.widen (k := 3) (n := 20) (by decide) (by decide) ?_
    exact W.iret (v := 0) hx hb hr (fun t ht hW => ⟨⟨_, ((sh1, ci1, ai1, al1), vp_updL f (0 : Int32).toNatClampNeg r), rfl, h, by rw [ht]; exact hP, cK.moved hW.alike hK, hD⟩, hS.F ht⟩) hS.2.2 dL_at_21
abbrev wmL_size : List Cond := .codeWith yL_size cL_size 4 (some .int) [(0, 8, 11, 37)] :: WL
theorem hd_L_size : yL_size.cls ≠ "java/lang/invoke/MethodHandle" ∧ yL_size.cls ≠ "java/lang/invoke/VarHandle" ∧ (parseMethodDescriptor yL_size.desc).map (fun d => d.parameters.length) = some 3 := by decide +kernel
abbrev rmL_size : Room := ({ frames := 1010, cells := 3, slots := 20, locals := 40300 })
set_option maxHeartbeats 4000000 in
set_option maxRecDepth 100000 in
theorem p_L_size (l : Launch) (hl0 : l.stackTraces = false) (dC : Nat → ClassId) (dI : Nat → Nat → Nat) (sh : Sh) (ci : Nat → Nat → Int32) (ai : Nat → Nat → Int32) (al : Nat → Nat → Int64) (q : Nat) (p0 : Int32) (co : ClassId) (ho : Nat) (f : Nat → Int64) (Q : Int32 → LTy) (h : P_X11_size sh ci ai al q p0 (fun r sh1 ci1 ai1 al1 => Q 0 sh1 ci1 ai1 al1 (vp_updL f (0 : Int32).toNatClampNeg r)) (fun E => (E = "java/lang/IndexOutOfBoundsException" ∧ Q 1 sh ci ai al f))) (sz : Nat) : Met l yL_size wmL_size rmL_size (va_Pc [.ref q, .int p0, .ref ho] (lPre dC dI sh ci ai al co ho f sz)) (va_Qi (S := LSt) (lI Q) (lB dC dI co ho (va_A (oW co ho f ++ cW sh ci ai al) sz)) (va_A (oW co ho f ++ cW sh ci ai al) sz)) 3 20 (va_A (oW co ho f ++ cW sh ci ai al) sz) := by
  refine va_MetW (hh := [(0, 8, 11, 37)]) (cc := cL_size) (maxL := 4) (ret := (some .int)) (by decide) rfl ?_
  intro p e s m args below meth c s₁ B hml hv
  obtain ⟨rfl, hsz, hP, hK, hO, hD0, hG, hN, hZ⟩ := hv
  have hx := B.exec
  have hb := B.bytes
  have hr := B.returns
  have hts : ∀ w ∈ WL, w.before _ s = true := fun w h => atoms_spec (ws := wmL_size) B.pre w (List.mem_cons_of_mem _ h)
  have hown : s.vm.findClass RL = some m.cls := findClass_of_methodNamed B.named
  have hlocks := B.notSynchronized
  have htab := vx_table (x := yL_size) (hh := [(0, 8, 11, 37)]) (bytes := cL_size) (maxL' := 4) (ret' := (some .int)) B (atoms_spec (ws := wmL_size) B.pre _ List.mem_cons_self)
  have hqk : q ∈ sL sh ∧ sK sh q = 10 := by unfold P_X11_size at h; exact h.1
  subst hsz
  have hD := hD0.self (sz := s.heap.size)
  generalize hAe : va_A (oW co ho f ++ cW sh ci ai al) s.heap.size = A at hD hZ ⊢
  have hA : ∀ q : Nat, s.heap.size ≤ q → A q := fun q h => by rw [← hAe]; exact Or.inr h
  generalize hH : s.heap = H at hP ⊢
  have hS : va_S A s.heap H [] := by rw [← hH]; exact va_S.rf
  have hl := lv_entry [.ref q, .int p0, .ref ho] (n := 4) (Nat.le_of_ble_eq_true rfl)
  rw [lg_entry_eq]
  generalize (lg_sl [.ref q, .int p0, .ref ho] ++ List.replicate (4 - (lg_sl [.ref q, .int p0, .ref ho]).length) Slot.unset).toArray = ls at hl ⊢
  have hl : lv_has ls 4 [(0, .ref q), (1, .int p0), (2, .ref ho)] := hl
  refine lv_aload_n hx hb dL_size_0 rfl (lv_at hl 2 rfl) ?_
  refine lv_iconst (v := 0) hx hb dL_size_1 (by decide) ?_
  refine lv_aload_n hx hb dL_size_2 rfl (lv_at hl 0 rfl) ?_
  refine lv_iload_n hx hb dL_size_3 rfl (lv_at hl 1 rfl) ?_
  refine l_xl (cells := 0) (slots := 0) (wr := oW co ho f) (vx_runV (rm := ({ frames := 1000, cells := 3, slots := 20, locals := 40000 })) (As := [.int p0]) (rest := [.int 0, .ref ho]) ⟨hx, hb, hml, hown, hts⟩ (p_X11_size l hl0 dC dI _ _ _ _ q p0 _ _ h H.size) (cwV 1 hts (g_Vm gdL gdLC mwL_72 mwL_73 mwL_74 mwL_3 mwL_75) rfl rfl rfl hd_X11_size ⟨Nat.le_of_ble_eq_true rfl, Nat.le_of_ble_eq_true rfl⟩) (x_preV hK (fr_P2 hP) (fr_D2 hD) hS hA hS hG hZ hqk.1 hqk.2) rfl rfl hl.1 rfl (lv_room (Nat.le_of_ble_eq_true rfl)) dL_size_4 ⟨Nat.le_of_ble_eq_true rfl, Nat.le_of_ble_eq_true rfl⟩) hP hD hS hA (fun E ce q9 H locs hX hP hS hce hcv hcl => ?_) (fun r sh1 ci1 ai1 al1 H locs h hK hP hD hS => ?_)
  · obtain ⟨rfl, hX⟩ := hX
    refine vx_catch (own := RL) (name := "java/lang/IndexOutOfBoundsException") hown ((tableOf [(0, 8, 11, 37)]).take 0) (tableOf [(0, 8, 11, 37)])[0] ((tableOf [(0, 8, 11, 37)]).drop 1) (by rw [htab]; rfl) (fun z hz => nomatch hz) (by decide) (by decide) (hts _ mwL_27) (va_Nw.use rfl hG.xIOO) hce hcv hcl ?_
    refine W.eq (g2 := F0 m 11 ls [.ref q9]) rfl ?_
    refine lv_astore_n (lv' := [(3, .ref q9), (0, .ref q), (1, .int p0), (2, .ref ho)]) hx hb dL_size_11 rfl hl (by decide) rfl (fun ls hl => ?_)
    refine lv_iconst (v := 1) hx hb dL_size_12 (by decide) ?_
    refine W.widen (k := 3) (n := 20) (by decide) (by decide) ?_
    exact W.iret (v := 1) hx hb hr (fun t ht hW => ⟨⟨_, ((sh, ci, ai, al), f), rfl, hX, by rw [ht]; exact hP, cK.moved hW.alike hK, hD⟩, hS.F ht⟩) hS.2.2 dL_size_13
  · refine va_last hx hb hO hP hD hS 0 0 rfl rfl (nd_in (i := 0) (n := 1) (by decide)) dL_size_7 (fun H locs hP hD hS => ?_)
    have hP : va_P (dC, dI) vwCl (oW co ho (vp_updL f (0 : Int32).toNatClampNeg r) ++ cW sh1 ci1 ai1 al1) H := hP
    have hD : va_D A (oW co ho (vp_updL f (0 : Int32).toNatClampNeg r) ++ cW sh1 ci1 ai1 al1) := hD
    refine lv_goto (tgt := 14) hx hb dL_size_8 (by decide) ?_
    refine lv_iconst (v := 0) hx hb dL_size_14 (by decide) ?_
    refine W.widen (k := 3) (n := 20) (by decide) (by decide) ?_
    exact W.iret (v := 0) hx hb hr (fun t ht hW => ⟨⟨_, ((sh1, ci1, ai1, al1), vp_updL f (0 : Int32).toNatClampNeg r), rfl, h, by rw [ht]; exact hP, cK.moved hW.alike hK, hD⟩, hS.F ht⟩) hS.2.2 dL_size_15
abbrev wmL_fold : List Cond := .codeWith yL_fold cL_fold 7 (some .int) [(0, 11, 14, 37), (0, 11, 18, 19)] :: WL
theorem hd_L_fold : yL_fold.cls ≠ "java/lang/invoke/MethodHandle" ∧ yL_fold.cls ≠ "java/lang/invoke/VarHandle" ∧ (parseMethodDescriptor yL_fold.desc).map (fun d => d.parameters.length) = some 5 := by decide +kernel
abbrev rmL_fold : Room := ({ frames := 1010, cells := 3, slots := 20, locals := 40300 })
set_option maxHeartbeats 4000000 in
set_option maxRecDepth 100000 in
theorem p_L_fold (l : Launch) (hl0 : l.stackTraces = false) (dC : Nat → ClassId) (dI : Nat → Nat → Nat) (sh : Sh) (ci : Nat → Nat → Int32) (ai : Nat → Nat → Int32) (al : Nat → Nat → Int64) (q : Nat) (p0 : Int32) (p1 : Int32) (p2 : Int64) (co : ClassId) (ho : Nat) (f : Nat → Int64) (Q : Int32 → LTy) (h : P_X11_fold sh ci ai al q p0 p1 p2 (fun r sh1 ci1 ai1 al1 => Q 0 sh1 ci1 ai1 al1 (vp_updL f (0 : Int32).toNatClampNeg r)) (fun E => (E = "java/lang/IndexOutOfBoundsException" ∧ Q 1 sh ci ai al f) ∨ (E = "java/lang/IllegalArgumentException" ∧ Q 2 sh ci ai al f))) (sz : Nat) : Met l yL_fold wmL_fold rmL_fold (va_Pc [.ref q, .int p0, .int p1, .long p2, .ref ho] (lPre dC dI sh ci ai al co ho f sz)) (va_Qi (S := LSt) (lI Q) (lB dC dI co ho (va_A (oW co ho f ++ cW sh ci ai al) sz)) (va_A (oW co ho f ++ cW sh ci ai al) sz)) 3 20 (va_A (oW co ho f ++ cW sh ci ai al) sz) := by
  refine va_MetW (hh := [(0, 11, 14, 37), (0, 11, 18, 19)]) (cc := cL_fold) (maxL := 7) (ret := (some .int)) (by decide) rfl ?_
  intro p e s m args below meth c s₁ B hml hv
  obtain ⟨rfl, hsz, hP, hK, hO, hD0, hG, hN, hZ⟩ := hv
  have hx := B.exec
  have hb := B.bytes
  have hr := B.returns
  have hts : ∀ w ∈ WL, w.before _ s = true := fun w h => atoms_spec (ws := wmL_fold) B.pre w (List.mem_cons_of_mem _ h)
  have hown : s.vm.findClass RL = some m.cls := findClass_of_methodNamed B.named
  have hlocks := B.notSynchronized
  have htab := vx_table (x := yL_fold) (hh := [(0, 11, 14, 37), (0, 11, 18, 19)]) (bytes := cL_fold) (maxL' := 7) (ret' := (some .int)) B (atoms_spec (ws := wmL_fold) B.pre _ List.mem_cons_self)
  have hqk : q ∈ sL sh ∧ sK sh q = 10 := by unfold P_X11_fold at h; exact h.1
  subst hsz
  have hD := hD0.self (sz := s.heap.size)
  generalize hAe : va_A (oW co ho f ++ cW sh ci ai al) s.heap.size = A at hD hZ ⊢
  have hA : ∀ q : Nat, s.heap.size ≤ q → A q := fun q h => by rw [← hAe]; exact Or.inr h
  generalize hH : s.heap = H at hP ⊢
  have hS : va_S A s.heap H [] := by rw [← hH]; exact va_S.rf
  have hl := lv_entry [.ref q, .int p0, .int p1, .long p2, .ref ho] (n := 7) (Nat.le_of_ble_eq_true rfl)
  rw [lg_entry_eq]
  generalize (lg_sl [.ref q, .int p0, .int p1, .long p2, .ref ho] ++ List.replicate (7 - (lg_sl [.ref q, .int p0, .int p1, .long p2, .ref ho]).length) Slot.unset).toArray = ls at hl ⊢
  have hl : lv_has ls 7 [(0, .ref q), (1, .int p0), (2, .int p1), (3, .long p2), (5, .ref ho)] := hl
  refine lv_aload hx hb dL_fold_0 (lv_at hl 4 rfl) ?_
  refine lv_iconst (v := 0) hx hb dL_fold_2 (by decide) ?_
  refine lv_aload_n hx hb dL_fold_3 rfl (lv_at hl 0 rfl) ?_
  refine lv_iload_n hx hb dL_fold_4 rfl (lv_at hl 1 rfl) ?_
  refine lv_iload_n hx hb dL_fold_5 rfl (lv_at hl 2 rfl) ?_
  refine lv_lload_n hx hb dL_fold_6 rfl (lv_at hl 3 rfl) ?_
  refine l_xl (cells := 0) (slots := 0) (wr := oW co ho f) (vx_runV (rm := ({ frames := 1000, cells := 3, slots := 20, locals := 40000 })) (As := [.int p0, .int p1, .long p2]) (rest := [.int 0, .ref ho]) ⟨hx, hb, hml, hown, hts⟩ (p_X11_fold l hl0 dC dI _ _ _ _ q p0 p1 p2 _ _ h H.size) (cwV 3 hts (g_Vm gdL gdLC mwL_76 mwL_77 mwL_78 mwL_3 mwL_79) rfl rfl rfl hd_X11_fold ⟨Nat.le_of_ble_eq_true rfl, Nat.le_of_ble_eq_true rfl⟩) (x_preV hK (fr_P2 hP) (fr_D2 hD) hS hA hS hG hZ hqk.1 hqk.2) rfl rfl hl.1 rfl (lv_room (Nat.le_of_ble_eq_true rfl)) dL_fold_7 ⟨Nat.le_of_ble_eq_true rfl, Nat.le_of_ble_eq_true rfl⟩) hP hD hS hA (fun E ce q9 H locs hX hP hS hce hcv hcl => ?_) (fun r sh1 ci1 ai1 al1 H locs h hK hP hD hS => ?_)
  · rcases hX with ⟨rfl, hX⟩ | ⟨rfl, hX⟩
    · refine vx_catch (own := RL) (name := "java/lang/IndexOutOfBoundsException") hown ((tableOf [(0, 11, 14, 37), (0, 11, 18, 19)]).take 0) (tableOf [(0, 11, 14, 37), (0, 11, 18, 19)])[0] ((tableOf [(0, 11, 14, 37), (0, 11, 18, 19)]).drop 1) (by rw [htab]; rfl) (fun z hz => nomatch hz) (by decide) (by decide) (hts _ mwL_27) (va_Nw.use rfl hG.xIOO) hce hcv hcl ?_
      refine W.eq (g2 := F0 m 14 ls [.ref q9]) rfl ?_
      refine lv_astore (lv' := [(6, .ref q9), (0, .ref q), (1, .int p0), (2, .int p1), (3, .long p2), (5, .ref ho)]) hx hb dL_fold_14 hl (by decide) rfl (fun ls hl => ?_)
      refine lv_iconst (v := 1) hx hb dL_fold_16 (by decide) ?_
      refine W.widen (k := 3) (n := 20) (by decide) (by decide) ?_
      exact W.iret (v := 1) hx hb hr (fun t ht hW => ⟨⟨_, ((sh, ci, ai, al), f), rfl, hX, by rw [ht]; exact hP, cK.moved hW.alike hK, hD⟩, hS.F ht⟩) hS.2.2 dL_fold_17
    · refine vx_catch (own := RL) (name := "java/lang/IllegalArgumentException") hown ((tableOf [(0, 11, 14, 37), (0, 11, 18, 19)]).take 1) (tableOf [(0, 11, 14, 37), (0, 11, 18, 19)])[1] ((tableOf [(0, 11, 14, 37), (0, 11, 18, 19)]).drop 2) (by rw [htab]; rfl) (fun z hz => by rw [List.mem_singleton.mp (show z ∈ [(tableOf [(0, 11, 14, 37), (0, 11, 18, 19)])[0]] from hz)]; exact Or.inr ⟨by decide, _, hts _ mwL_27, hN.1⟩) (by decide) (by decide) (hts _ mwL_10) (va_Nw.use rfl hG.xIAE) hce hcv hcl ?_
      refine W.eq (g2 := F0 m 18 ls [.ref q9]) rfl ?_
      refine lv_astore (lv' := [(6, .ref q9), (0, .ref q), (1, .int p0), (2, .int p1), (3, .long p2), (5, .ref ho)]) hx hb dL_fold_18 hl (by decide) rfl (fun ls hl => ?_)
      refine lv_iconst (v := 2) hx hb dL_fold_20 (by decide) ?_
      refine W.widen (k := 3) (n := 20) (by decide) (by decide) ?_
      exact W.iret (v := 2) hx hb hr (fun t ht hW => ⟨⟨_, ((sh, ci, ai, al), f), rfl, hX, by rw [ht]; exact hP, cK.moved hW.alike hK, hD⟩, hS.F ht⟩) hS.2.2 dL_fold_21
  · refine va_last hx hb hO hP hD hS 0 0 rfl rfl (nd_in (i := 0) (n := 1) (by decide)) dL_fold_10 (fun H locs hP hD hS => ?_)
    have hP : va_P (dC, dI) vwCl (oW co ho (vp_updL f (0 : Int32).toNatClampNeg r) ++ cW sh1 ci1 ai1 al1) H := hP
    have hD : va_D A (oW co ho (vp_updL f (0 : Int32).toNatClampNeg r) ++ cW sh1 ci1 ai1 al1) := hD
    refine lv_goto (tgt := 22) hx hb dL_fold_11 (by decide) ?_
    refine lv_iconst (v := 0) hx hb dL_fold_22 (by decide) ?_
    refine W.widen (k := 3) (n := 20) (by decide) (by decide) ?_
    exact W.iret (v := 0) hx hb hr (fun t ht hW => ⟨⟨_, ((sh1, ci1, ai1, al1), vp_updL f (0 : Int32).toNatClampNeg r), rfl, h, by rw [ht]; exact hP, cK.moved hW.alike hK, hD⟩, hS.F ht⟩) hS.2.2 dL_fold_23
abbrev wmL_find : List Cond := .codeWith yL_find cL_find 7 (some .int) [(0, 11, 14, 37), (0, 11, 18, 19)] :: WL
theorem hd_L_find : yL_find.cls ≠ "java/lang/invoke/MethodHandle" ∧ yL_find.cls ≠ "java/lang/invoke/VarHandle" ∧ (parseMethodDescriptor yL_find.desc).map (fun d => d.parameters.length) = some 5 := by decide +kernel
abbrev rmL_find : Room := ({ frames := 1010, cells := 3, slots := 20, locals := 40300 })
set_option maxHeartbeats 4000000 in
set_option maxRecDepth 100000 in
theorem p_L_find (l : Launch) (hl0 : l.stackTraces = false) (dC : Nat → ClassId) (dI : Nat → Nat → Nat) (sh : Sh) (ci : Nat → Nat → Int32) (ai : Nat → Nat → Int32) (al : Nat → Nat → Int64) (q : Nat) (p0 : Int32) (p1 : Int32) (p2 : Int64) (co : ClassId) (ho : Nat) (f : Nat → Int64) (Q : Int32 → LTy) (h : P_X11_find sh ci ai al q p0 p1 p2 (fun r sh1 ci1 ai1 al1 => Q 0 sh1 ci1 ai1 al1 (vp_updL f (0 : Int32).toNatClampNeg r)) (fun E => (E = "java/lang/IndexOutOfBoundsException" ∧ Q 1 sh ci ai al f) ∨ (E = "java/lang/IllegalArgumentException" ∧ Q 2 sh ci ai al f))) (sz : Nat) : Met l yL_find wmL_find rmL_find (va_Pc [.ref q, .int p0, .int p1, .long p2, .ref ho] (lPre dC dI sh ci ai al co ho f sz)) (va_Qi (S := LSt) (lI Q) (lB dC dI co ho (va_A (oW co ho f ++ cW sh ci ai al) sz)) (va_A (oW co ho f ++ cW sh ci ai al) sz)) 3 20 (va_A (oW co ho f ++ cW sh ci ai al) sz) := by
  refine va_MetW (hh := [(0, 11, 14, 37), (0, 11, 18, 19)]) (cc := cL_find) (maxL := 7) (ret := (some .int)) (by decide) rfl ?_
  intro p e s m args below meth c s₁ B hml hv
  obtain ⟨rfl, hsz, hP, hK, hO, hD0, hG, hN, hZ⟩ := hv
  have hx := B.exec
  have hb := B.bytes
  have hr := B.returns
  have hts : ∀ w ∈ WL, w.before _ s = true := fun w h => atoms_spec (ws := wmL_find) B.pre w (List.mem_cons_of_mem _ h)
  have hown : s.vm.findClass RL = some m.cls := findClass_of_methodNamed B.named
  have hlocks := B.notSynchronized
  have htab := vx_table (x := yL_find) (hh := [(0, 11, 14, 37), (0, 11, 18, 19)]) (bytes := cL_find) (maxL' := 7) (ret' := (some .int)) B (atoms_spec (ws := wmL_find) B.pre _ List.mem_cons_self)
  have hqk : q ∈ sL sh ∧ sK sh q = 10 := by unfold P_X11_find at h; exact h.1
  subst hsz
  have hD := hD0.self (sz := s.heap.size)
  generalize hAe : va_A (oW co ho f ++ cW sh ci ai al) s.heap.size = A at hD hZ ⊢
  have hA : ∀ q : Nat, s.heap.size ≤ q → A q := fun q h => by rw [← hAe]; exact Or.inr h
  generalize hH : s.heap = H at hP ⊢
  have hS : va_S A s.heap H [] := by rw [← hH]; exact va_S.rf
  have hl := lv_entry [.ref q, .int p0, .int p1, .long p2, .ref ho] (n := 7) (Nat.le_of_ble_eq_true rfl)
  rw [lg_entry_eq]
  generalize (lg_sl [.ref q, .int p0, .int p1, .long p2, .ref ho] ++ List.replicate (7 - (lg_sl [.ref q, .int p0, .int p1, .long p2, .ref ho]).length) Slot.unset).toArray = ls at hl ⊢
  have hl : lv_has ls 7 [(0, .ref q), (1, .int p0), (2, .int p1), (3, .long p2), (5, .ref ho)] := hl
  refine lv_aload hx hb dL_find_0 (lv_at hl 4 rfl) ?_
  refine lv_iconst (v := 0) hx hb dL_find_2 (by decide) ?_
  refine lv_aload_n hx hb dL_find_3 rfl (lv_at hl 0 rfl) ?_
  refine lv_iload_n hx hb dL_find_4 rfl (lv_at hl 1 rfl) ?_
  refine lv_iload_n hx hb dL_find_5 rfl (lv_at hl 2 rfl) ?_
  refine lv_lload_n hx hb dL_find_6 rfl (lv_at hl 3 rfl) ?_
  refine l_xl (cells := 0) (slots := 0) (wr := oW co ho f) (vx_runV (rm := ({ frames := 1000, cells := 3, slots := 20, locals := 40000 })) (As := [.int p0, .int p1, .long p2]) (rest := [.int 0, .ref ho]) ⟨hx, hb, hml, hown, hts⟩ (p_X11_find l hl0 dC dI _ _ _ _ q p0 p1 p2 _ _ h H.size) (cwV 3 hts (g_Vm gdL gdLC mwL_80 mwL_81 mwL_82 mwL_3 mwL_83) rfl rfl rfl hd_X11_find ⟨Nat.le_of_ble_eq_true rfl, Nat.le_of_ble_eq_true rfl⟩) (x_preV hK (fr_P2 hP) (fr_D2 hD) hS hA hS hG hZ hqk.1 hqk.2) rfl rfl hl.1 rfl (lv_room (Nat.le_of_ble_eq_true rfl)) dL_find_7 ⟨Nat.le_of_ble_eq_true rfl, Nat.le_of_ble_eq_true rfl⟩) hP hD hS hA (fun E ce q9 H locs hX hP hS hce hcv hcl => ?_) (fun r sh1 ci1 ai1 al1 H locs h hK hP hD hS => ?_)
  · rcases hX with ⟨rfl, hX⟩ | ⟨rfl, hX⟩
    · refine vx_catch (own := RL) (name := "java/lang/IndexOutOfBoundsException") hown ((tableOf [(0, 11, 14, 37), (0, 11, 18, 19)]).take 0) (tableOf [(0, 11, 14, 37), (0, 11, 18, 19)])[0] ((tableOf [(0, 11, 14, 37), (0, 11, 18, 19)]).drop 1) (by rw [htab]; rfl) (fun z hz => nomatch hz) (by decide) (by decide) (hts _ mwL_27) (va_Nw.use rfl hG.xIOO) hce hcv hcl ?_
      refine W.eq (g2 := F0 m 14 ls [.ref q9]) rfl ?_
      refine lv_astore (lv' := [(6, .ref q9), (0, .ref q), (1, .int p0), (2, .int p1), (3, .long p2), (5, .ref ho)]) hx hb dL_find_14 hl (by decide) rfl (fun ls hl => ?_)
      refine lv_iconst (v := 1) hx hb dL_find_16 (by decide) ?_
      refine W.widen (k := 3) (n := 20) (by decide) (by decide) ?_
      exact W.iret (v := 1) hx hb hr (fun t ht hW => ⟨⟨_, ((sh, ci, ai, al), f), rfl, hX, by rw [ht]; exact hP, cK.moved hW.alike hK, hD⟩, hS.F ht⟩) hS.2.2 dL_find_17
    · refine vx_catch (own := RL) (name := "java/lang/IllegalArgumentException") hown ((tableOf [(0, 11, 14, 37), (0, 11, 18, 19)]).take 1) (tableOf [(0, 11, 14, 37), (0, 11, 18, 19)])[1] ((tableOf [(0, 11, 14, 37), (0, 11, 18, 19)]).drop 2) (by rw [htab]; rfl) (fun z hz => by rw [List.mem_singleton.mp (show z ∈ [(tableOf [(0, 11, 14, 37), (0, 11, 18, 19)])[0]] from hz)]; exact Or.inr ⟨by decide, _, hts _ mwL_27, hN.1⟩) (by decide) (by decide) (hts _ mwL_10) (va_Nw.use rfl hG.xIAE) hce hcv hcl ?_
      refine W.eq (g2 := F0 m 18 ls [.ref q9]) rfl ?_
      refine lv_astore (lv' := [(6, .ref q9), (0, .ref q), (1, .int p0), (2, .int p1), (3, .long p2), (5, .ref ho)]) hx hb dL_find_18 hl (by decide) rfl (fun ls hl => ?_)
      refine lv_iconst (v := 2) hx hb dL_find_20 (by decide) ?_
      refine W.widen (k := 3) (n := 20) (by decide) (by decide) ?_
      exact W.iret (v := 2) hx hb hr (fun t ht hW => ⟨⟨_, ((sh, ci, ai, al), f), rfl, hX, by rw [ht]; exact hP, cK.moved hW.alike hK, hD⟩, hS.F ht⟩) hS.2.2 dL_find_21
  · refine va_last hx hb hO hP hD hS 0 0 rfl rfl (nd_in (i := 0) (n := 1) (by decide)) dL_find_10 (fun H locs hP hD hS => ?_)
    have hP : va_P (dC, dI) vwCl (oW co ho (vp_updL f (0 : Int32).toNatClampNeg r) ++ cW sh1 ci1 ai1 al1) H := hP
    have hD : va_D A (oW co ho (vp_updL f (0 : Int32).toNatClampNeg r) ++ cW sh1 ci1 ai1 al1) := hD
    refine lv_goto (tgt := 22) hx hb dL_find_11 (by decide) ?_
    refine lv_iconst (v := 0) hx hb dL_find_22 (by decide) ?_
    refine W.widen (k := 3) (n := 20) (by decide) (by decide) ?_
    exact W.iret (v := 0) hx hb hr (fun t ht hW => ⟨⟨_, ((sh1, ci1, ai1, al1), vp_updL f (0 : Int32).toNatClampNeg r), rfl, h, by rw [ht]; exact hP, cK.moved hW.alike hK, hD⟩, hS.F ht⟩) hS.2.2 dL_find_23
