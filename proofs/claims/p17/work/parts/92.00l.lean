abbrev cL_put : ByteArray := method_3_code
def yL_put : MethodName := ⟨RL, "put", "(LNeededLists;J[J)I"⟩
abbrev cL_hole : ByteArray := method_4_code
def yL_hole : MethodName := ⟨RL, "hole", "(LNeededLists;I[J)I"⟩
abbrev cL_given : ByteArray := method_5_code
def yL_given : MethodName := ⟨RL, "given", "(LNeededLists;Z[J)I"⟩
abbrev cL_count : ByteArray := method_6_code
def yL_count : MethodName := ⟨RL, "count", "(LNeededLists;JJ[J)I"⟩
theorem dL_put_0 : decode cL_put 0 = .ok (.aload_n 3, 1) := by decide +kernel
theorem dL_put_1 : decode cL_put 1 = .ok (.iconst 0, 1) := by decide +kernel
theorem dL_put_2 : decode cL_put 2 = .ok (.aload_n 0, 1) := by decide +kernel
theorem dL_put_3 : decode cL_put 3 = .ok (.lload_n 1, 1) := by decide +kernel
theorem dL_put_4 : decode cL_put 4 = .ok (.invokevirtual 7, 3) := by decide +kernel
theorem dL_put_7 : decode cL_put 7 = .ok (.i2l, 1) := by decide +kernel
theorem dL_put_8 : decode cL_put 8 = .ok (.lastore, 1) := by decide +kernel
theorem dL_put_9 : decode cL_put 9 = .ok (.goto 7, 3) := by decide +kernel
theorem dL_put_12 : decode cL_put 12 = .ok (.astore 4, 2) := by decide +kernel
theorem dL_put_14 : decode cL_put 14 = .ok (.iconst 1, 1) := by decide +kernel
theorem dL_put_15 : decode cL_put 15 = .ok (.ireturn, 1) := by decide +kernel
theorem dL_put_16 : decode cL_put 16 = .ok (.iconst 0, 1) := by decide +kernel
theorem dL_put_17 : decode cL_put 17 = .ok (.ireturn, 1) := by decide +kernel
theorem dL_hole_0 : decode cL_hole 0 = .ok (.aload_n 2, 1) := by decide +kernel
theorem dL_hole_1 : decode cL_hole 1 = .ok (.iconst 0, 1) := by decide +kernel
theorem dL_hole_2 : decode cL_hole 2 = .ok (.aload_n 0, 1) := by decide +kernel
theorem dL_hole_3 : decode cL_hole 3 = .ok (.iload_n 1, 1) := by decide +kernel
theorem dL_hole_4 : decode cL_hole 4 = .ok (.invokevirtual 15, 3) := by decide +kernel
theorem dL_hole_7 : decode cL_hole 7 = .ok (.i2l, 1) := by decide +kernel
theorem dL_hole_8 : decode cL_hole 8 = .ok (.lastore, 1) := by decide +kernel
theorem dL_hole_9 : decode cL_hole 9 = .ok (.goto 9, 3) := by decide +kernel
theorem dL_hole_12 : decode cL_hole 12 = .ok (.astore_n 3, 1) := by decide +kernel
theorem dL_hole_13 : decode cL_hole 13 = .ok (.iconst 1, 1) := by decide +kernel
theorem dL_hole_14 : decode cL_hole 14 = .ok (.ireturn, 1) := by decide +kernel
theorem dL_hole_15 : decode cL_hole 15 = .ok (.astore_n 3, 1) := by decide +kernel
theorem dL_hole_16 : decode cL_hole 16 = .ok (.iconst 2, 1) := by decide +kernel
theorem dL_hole_17 : decode cL_hole 17 = .ok (.ireturn, 1) := by decide +kernel
theorem dL_hole_18 : decode cL_hole 18 = .ok (.iconst 0, 1) := by decide +kernel
theorem dL_hole_19 : decode cL_hole 19 = .ok (.ireturn, 1) := by decide +kernel
theorem dL_given_0 : decode cL_given 0 = .ok (.aload_n 2, 1) := by decide +kernel
theorem dL_given_1 : decode cL_given 1 = .ok (.iconst 0, 1) := by decide +kernel
theorem dL_given_2 : decode cL_given 2 = .ok (.aload_n 0, 1) := by decide +kernel
theorem dL_given_3 : decode cL_given 3 = .ok (.iload_n 1, 1) := by decide +kernel
theorem dL_given_4 : decode cL_given 4 = .ok (.invokevirtual 21, 3) := by decide +kernel
theorem dL_given_7 : decode cL_given 7 = .ok (.i2l, 1) := by decide +kernel
theorem dL_given_8 : decode cL_given 8 = .ok (.lastore, 1) := by decide +kernel
theorem dL_given_9 : decode cL_given 9 = .ok (.goto 6, 3) := by decide +kernel
theorem dL_given_12 : decode cL_given 12 = .ok (.astore_n 3, 1) := by decide +kernel
theorem dL_given_13 : decode cL_given 13 = .ok (.iconst 1, 1) := by decide +kernel
theorem dL_given_14 : decode cL_given 14 = .ok (.ireturn, 1) := by decide +kernel
theorem dL_given_15 : decode cL_given 15 = .ok (.iconst 0, 1) := by decide +kernel
theorem dL_given_16 : decode cL_given 16 = .ok (.ireturn, 1) := by decide +kernel
theorem dL_count_0 : decode cL_count 0 = .ok (.aload 5, 2) := by decide +kernel
theorem dL_count_2 : decode cL_count 2 = .ok (.iconst 0, 1) := by decide +kernel
theorem dL_count_3 : decode cL_count 3 = .ok (.aload_n 0, 1) := by decide +kernel
theorem dL_count_4 : decode cL_count 4 = .ok (.lload_n 1, 1) := by decide +kernel
theorem dL_count_5 : decode cL_count 5 = .ok (.lload_n 3, 1) := by decide +kernel
theorem dL_count_6 : decode cL_count 6 = .ok (.invokevirtual 25, 3) := by decide +kernel
theorem dL_count_9 : decode cL_count 9 = .ok (.i2l, 1) := by decide +kernel
theorem dL_count_10 : decode cL_count 10 = .ok (.lastore, 1) := by decide +kernel
theorem dL_count_11 : decode cL_count 11 = .ok (.goto 7, 3) := by decide +kernel
theorem dL_count_14 : decode cL_count 14 = .ok (.astore 6, 2) := by decide +kernel
theorem dL_count_16 : decode cL_count 16 = .ok (.iconst 1, 1) := by decide +kernel
theorem dL_count_17 : decode cL_count 17 = .ok (.ireturn, 1) := by decide +kernel
theorem dL_count_18 : decode cL_count 18 = .ok (.iconst 0, 1) := by decide +kernel
theorem dL_count_19 : decode cL_count 19 = .ok (.ireturn, 1) := by decide +kernel
abbrev wmL_put : List Cond := .codeWith yL_put cL_put 5 (some .int) [(0, 9, 12, 13)] :: WL
theorem hd_L_put : yL_put.cls ≠ "java/lang/invoke/MethodHandle" ∧ yL_put.cls ≠ "java/lang/invoke/VarHandle" ∧ (parseMethodDescriptor yL_put.desc).map (fun d => d.parameters.length) = some 3 := by decide +kernel
abbrev rmL_put : Room := ({ frames := 50, cells := 1, slots := 6, locals := 900 })
set_option maxHeartbeats 4000000 in
set_option maxRecDepth 100000 in
theorem p_L_put (l : Launch) (hl0 : l.stackTraces = false) (dC : Nat → ClassId) (dI : Nat → Nat → Nat) (sh : Sh) (ci : Nat → Nat → Int32) (ai : Nat → Nat → Int32) (al : Nat → Nat → Int64) (q : Nat) (p0 : Int64) (co : ClassId) (ho : Nat) (f : Nat → Int64) (Q : Int32 → LTy) (h : P_X11_put sh ci ai al q p0 (fun r sh1 ci1 ai1 al1 => Q 0 sh1 ci1 ai1 al1 (vp_updL f (0 : Int32).toNatClampNeg r.toInt64)) (fun E => (E = "java/lang/UnsupportedOperationException" ∧ Q 1 sh ci ai al f))) (sz : Nat) : Met l yL_put wmL_put rmL_put (va_Pc [.ref q, .long p0, .ref ho] (lPre dC dI sh ci ai al co ho f sz)) (va_Qi (S := LSt) (lI Q) (lB dC dI co ho (va_A (oW co ho f ++ cW sh ci ai al) sz)) (va_A (oW co ho f ++ cW sh ci ai al) sz)) 1 6 (va_A (oW co ho f ++ cW sh ci ai al) sz) := by
  refine va_MetW (hh := [(0, 9, 12, 13)]) (cc := cL_put) (maxL := 5) (ret := (some .int)) (by decide) rfl ?_
  intro p e s m args below meth c s₁ B hml hv
  obtain ⟨rfl, hsz, hP, hK, hO, hD0, hG, hN, hZ⟩ := hv
  have hx := B.exec
  have hb := B.bytes
  have hr := B.returns
  have hts : ∀ w ∈ WL, w.before _ s = true := fun w h => atoms_spec (ws := wmL_put) B.pre w (List.mem_cons_of_mem _ h)
  have hown : s.vm.findClass RL = some m.cls := findClass_of_methodNamed B.named
  have hlocks := B.notSynchronized
  have htab := vx_table (x := yL_put) (hh := [(0, 9, 12, 13)]) (bytes := cL_put) (maxL' := 5) (ret' := (some .int)) B (atoms_spec (ws := wmL_put) B.pre _ List.mem_cons_self)
  have hqk : q ∈ sL sh ∧ sK sh q = 10 := by unfold P_X11_put at h; exact h.1
  subst hsz
  have hD := hD0.self (sz := s.heap.size)
  generalize hAe : va_A (oW co ho f ++ cW sh ci ai al) s.heap.size = A at hD hZ ⊢
  have hA : ∀ q : Nat, s.heap.size ≤ q → A q := fun q h => by rw [← hAe]; exact Or.inr h
  generalize hH : s.heap = H at hP ⊢
  have hS : va_S A s.heap H [] := by rw [← hH]; exact va_S.rf
  have hl := lv_entry [.ref q, .long p0, .ref ho] (n := 5) (Nat.le_of_ble_eq_true rfl)
  rw [lg_entry_eq]
  generalize (lg_sl [.ref q, .long p0, .ref ho] ++ List.replicate (5 - (lg_sl [.ref q, .long p0, .ref ho]).length) Slot.unset).toArray = ls at hl ⊢
  have hl : lv_has ls 5 [(0, .ref q), (1, .long p0), (3, .ref ho)] := hl
  refine lv_aload_n hx hb dL_put_0 rfl (lv_at hl 2 rfl) ?_
  refine lv_iconst (v := 0) hx hb dL_put_1 (by decide) ?_
  refine lv_aload_n hx hb dL_put_2 rfl (lv_at hl 0 rfl) ?_
  refine lv_lload_n hx hb dL_put_3 rfl (lv_at hl 1 rfl) ?_
  refine l_xi (cells := 0) (slots := 0) (wr := oW co ho f) (vx_runV (rm := ({ frames := 40, cells := 1, slots := 6, locals := 600 })) (As := [.long p0]) (rest := [.int 0, .ref ho]) ⟨hx, hb, hml, hown, hts⟩ (p_X11_put l hl0 dC dI _ _ _ _ q p0 _ _ h H.size) (cwV 1 hts (g_Vm gdL gdLC mwL_0 mwL_1 mwL_2 mwL_3 mwL_4) rfl rfl rfl hd_X11_put ⟨Nat.le_of_ble_eq_true rfl, Nat.le_of_ble_eq_true rfl⟩) (x_preV hK (fr_P2 hP) (fr_D2 hD) hS hA hS hG hZ hqk.1 hqk.2) rfl rfl hl.1 rfl (lv_room (Nat.le_of_ble_eq_true rfl)) dL_put_4 ⟨Nat.le_of_ble_eq_true rfl, Nat.le_of_ble_eq_true rfl⟩) hP hD hS hA (fun E ce q9 H locs hX hP hS hce hcv hcl => ?_) (fun r sh1 ci1 ai1 al1 H locs h hK hP hD hS => ?_)
  · obtain ⟨rfl, hX⟩ := hX
    refine vx_catch (own := RL) (name := "java/lang/UnsupportedOperationException") hown ((tableOf [(0, 9, 12, 13)]).take 0) (tableOf [(0, 9, 12, 13)])[0] ((tableOf [(0, 9, 12, 13)]).drop 1) (by rw [htab]; rfl) (fun z hz => nomatch hz) (by decide) (by decide) (hts _ mwL_5) (va_Nw.use rfl hG.xUOE) hce hcv hcl ?_
    refine W.eq (g2 := F0 m 12 ls [.ref q9]) rfl ?_
    refine lv_astore (lv' := [(4, .ref q9), (0, .ref q), (1, .long p0), (3, .ref ho)]) hx hb dL_put_12 hl (by decide) rfl (fun ls hl => ?_)
    refine lv_iconst (v := 1) hx hb dL_put_14 (by decide) ?_
    refine W.widen (k := 1) (n := 6) (by decide) (by decide) ?_
    exact W.iret (v := 1) hx hb hr (fun t ht hW => ⟨⟨_, ((sh, ci, ai, al), f), rfl, hX, by rw [ht]; exact hP, cK.moved hW.alike hK, hD⟩, hS.F ht⟩) hS.2.2 dL_put_15
  · refine lv_i2l hx hb dL_put_7 rfl ?_
    refine va_last hx hb hO hP hD hS 0 0 rfl rfl (nd_in (i := 0) (n := 1) (by decide)) dL_put_8 (fun H locs hP hD hS => ?_)
    have hP : va_P (dC, dI) vwCl (oW co ho (vp_updL f (0 : Int32).toNatClampNeg r.toInt64) ++ cW sh1 ci1 ai1 al1) H := hP
    have hD : va_D A (oW co ho (vp_updL f (0 : Int32).toNatClampNeg r.toInt64) ++ cW sh1 ci1 ai1 al1) := hD
    refine lv_goto (tgt := 16) hx hb dL_put_9 (by decide) ?_
    refine lv_iconst (v := 0) hx hb dL_put_16 (by decide) ?_
    refine W.widen (k := 1) (n := 6) (by decide) (by decide) ?_
    exact W.iret (v := 0) hx hb hr (fun t ht hW => ⟨⟨_, ((sh1, ci1, ai1, al1), vp_updL f (0 : Int32).toNatClampNeg r.toInt64), rfl, h, by rw [ht]; exact hP, cK.moved hW.alike hK, hD⟩, hS.F ht⟩) hS.2.2 dL_put_17
abbrev wmL_hole : List Cond := .codeWith yL_hole cL_hole 4 (some .int) [(0, 9, 12, 19), (0, 9, 15, 13)] :: WL
theorem hd_L_hole : yL_hole.cls ≠ "java/lang/invoke/MethodHandle" ∧ yL_hole.cls ≠ "java/lang/invoke/VarHandle" ∧ (parseMethodDescriptor yL_hole.desc).map (fun d => d.parameters.length) = some 3 := by decide +kernel
abbrev rmL_hole : Room := ({ frames := 50, cells := 1, slots := 6, locals := 900 })
set_option maxHeartbeats 4000000 in
set_option maxRecDepth 100000 in
theorem p_L_hole (l : Launch) (hl0 : l.stackTraces = false) (dC : Nat → ClassId) (dI : Nat → Nat → Nat) (sh : Sh) (ci : Nat → Nat → Int32) (ai : Nat → Nat → Int32) (al : Nat → Nat → Int64) (q : Nat) (p0 : Int32) (co : ClassId) (ho : Nat) (f : Nat → Int64) (Q : Int32 → LTy) (h : P_X11_hole sh ci ai al q p0 (fun r sh1 ci1 ai1 al1 => Q 0 sh1 ci1 ai1 al1 (vp_updL f (0 : Int32).toNatClampNeg r.toInt64)) (fun E => (E = "java/lang/IllegalArgumentException" ∧ Q 1 sh ci ai al f) ∨ (E = "java/lang/UnsupportedOperationException" ∧ Q 2 sh ci ai al f))) (sz : Nat) : Met l yL_hole wmL_hole rmL_hole (va_Pc [.ref q, .int p0, .ref ho] (lPre dC dI sh ci ai al co ho f sz)) (va_Qi (S := LSt) (lI Q) (lB dC dI co ho (va_A (oW co ho f ++ cW sh ci ai al) sz)) (va_A (oW co ho f ++ cW sh ci ai al) sz)) 1 6 (va_A (oW co ho f ++ cW sh ci ai al) sz) := by
  refine va_MetW (hh := [(0, 9, 12, 19), (0, 9, 15, 13)]) (cc := cL_hole) (maxL := 4) (ret := (some .int)) (by decide) rfl ?_
  intro p e s m args below meth c s₁ B hml hv
  obtain ⟨rfl, hsz, hP, hK, hO, hD0, hG, hN, hZ⟩ := hv
  have hx := B.exec
  have hb := B.bytes
  have hr := B.returns
  have hts : ∀ w ∈ WL, w.before _ s = true := fun w h => atoms_spec (ws := wmL_hole) B.pre w (List.mem_cons_of_mem _ h)
  have hown : s.vm.findClass RL = some m.cls := findClass_of_methodNamed B.named
  have hlocks := B.notSynchronized
  have htab := vx_table (x := yL_hole) (hh := [(0, 9, 12, 19), (0, 9, 15, 13)]) (bytes := cL_hole) (maxL' := 4) (ret' := (some .int)) B (atoms_spec (ws := wmL_hole) B.pre _ List.mem_cons_self)
  have hqk : q ∈ sL sh ∧ sK sh q = 10 := by unfold P_X11_hole at h; exact h.1
  subst hsz
  have hD := hD0.self (sz := s.heap.size)
  generalize hAe : va_A (oW co ho f ++ cW sh ci ai al) s.heap.size = A at hD hZ ⊢
  have hA : ∀ q : Nat, s.heap.size ≤ q → A q := fun q h => by rw [← hAe]; exact Or.inr h
  generalize hH : s.heap = H at hP ⊢
  have hS : va_S A s.heap H [] := by rw [← hH]; exact va_S.rf
  have hl := lv_entry [.ref q, .int p0, .ref ho] (n := 4) (Nat.le_of_ble_eq_true rfl)
  rw [lg_entry_eq]
  generalize (lg_sl [.ref q, .int p0, .ref ho] ++ List.replicate (4 - (lg_sl [.ref q, .int p0, .ref ho]).length) Slot.unset).toArray = ls at hl ⊢
  have hl : lv_has ls 4 [(0, .ref q), (1, .int p0), (2, .ref ho)] := hl
  refine lv_aload_n hx hb dL_hole_0 rfl (lv_at hl 2 rfl) ?_
  refine lv_iconst (v := 0) hx hb dL_hole_1 (by decide) ?_
  refine lv_aload_n hx hb dL_hole_2 rfl (lv_at hl 0 rfl) ?_
  refine lv_iload_n hx hb dL_hole_3 rfl (lv_at hl 1 rfl) ?_
  refine l_xi (cells := 0) (slots := 0) (wr := oW co ho f) (vx_runV (rm := ({ frames := 40, cells := 1, slots := 6, locals := 600 })) (As := [.int p0]) (rest := [.int 0, .ref ho]) ⟨hx, hb, hml, hown, hts⟩ (p_X11_hole l hl0 dC dI _ _ _ _ q p0 _ _ h H.size) (cwV 1 hts (g_Vm gdL gdLC mwL_6 mwL_7 mwL_8 mwL_3 mwL_9) rfl rfl rfl hd_X11_hole ⟨Nat.le_of_ble_eq_true rfl, Nat.le_of_ble_eq_true rfl⟩) (x_preV hK (fr_P2 hP) (fr_D2 hD) hS hA hS hG hZ hqk.1 hqk.2) rfl rfl hl.1 rfl (lv_room (Nat.le_of_ble_eq_true rfl)) dL_hole_4 ⟨Nat.le_of_ble_eq_true rfl, Nat.le_of_ble_eq_true rfl⟩) hP hD hS hA (fun E ce q9 H locs hX hP hS hce hcv hcl => ?_) (fun r sh1 ci1 ai1 al1 H locs h hK hP hD hS => ?_)
  · rcases hX with ⟨rfl, hX⟩ | ⟨rfl, hX⟩
    · refine vx_catch (own := RL) (name := "java/lang/IllegalArgumentException") hown ((tableOf [(0, 9, 12, 19), (0, 9, 15, 13)]).take 0) (tableOf [(0, 9, 12, 19), (0, 9, 15, 13)])[0] ((tableOf [(0, 9, 12, 19), (0, 9, 15, 13)]).drop 1) (by rw [htab]; rfl) (fun z hz => nomatch hz) (by decide) (by decide) (hts _ mwL_10) (va_Nw.use rfl hG.xIAE) hce hcv hcl ?_
      refine W.eq (g2 := F0 m 12 ls [.ref q9]) rfl ?_
      refine lv_astore_n (lv' := [(3, .ref q9), (0, .ref q), (1, .int p0), (2, .ref ho)]) hx hb dL_hole_12 rfl hl (by decide) rfl (fun ls hl => ?_)
      refine lv_iconst (v := 1) hx hb dL_hole_13 (by decide) ?_
      refine W.widen (k := 1) (n := 6) (by decide) (by decide) ?_
      exact W.iret (v := 1) hx hb hr (fun t ht hW => ⟨⟨_, ((sh, ci, ai, al), f), rfl, hX, by rw [ht]; exact hP, cK.moved hW.alike hK, hD⟩, hS.F ht⟩) hS.2.2 dL_hole_14
    · refine vx_catch (own := RL) (name := "java/lang/UnsupportedOperationException") hown ((tableOf [(0, 9, 12, 19), (0, 9, 15, 13)]).take 1) (tableOf [(0, 9, 12, 19), (0, 9, 15, 13)])[1] ((tableOf [(0, 9, 12, 19), (0, 9, 15, 13)]).drop 2) (by rw [htab]; rfl) (fun z hz => by rw [List.mem_singleton.mp (show z ∈ [(tableOf [(0, 9, 12, 19), (0, 9, 15, 13)])[0]] from hz)]; exact Or.inr ⟨by decide, _, hts _ mwL_10, hN.2.2⟩) (by decide) (by decide) (hts _ mwL_5) (va_Nw.use rfl hG.xUOE) hce hcv hcl ?_
      refine W.eq (g2 := F0 m 15 ls [.ref q9]) rfl ?_
      refine lv_astore_n (lv' := [(3, .ref q9), (0, .ref q), (1, .int p0), (2, .ref ho)]) hx hb dL_hole_15 rfl hl (by decide) rfl (fun ls hl => ?_)
      refine lv_iconst (v := 2) hx hb dL_hole_16 (by decide) ?_
      refine W.widen (k := 1) (n := 6) (by decide) (by decide) ?_
      exact W.iret (v := 2) hx hb hr (fun t ht hW => ⟨⟨_, ((sh, ci, ai, al), f), rfl, hX, by rw [ht]; exact hP, cK.moved hW.alike hK, hD⟩, hS.F ht⟩) hS.2.2 dL_hole_17
  · refine lv_i2l hx hb dL_hole_7 rfl ?_
    refine va_last hx hb hO hP hD hS 0 0 rfl rfl (nd_in (i := 0) (n := 1) (by decide)) dL_hole_8 (fun H locs hP hD hS => ?_)
    have hP : va_P (dC, dI) vwCl (oW co ho (vp_updL f (0 : Int32).toNatClampNeg r.toInt64) ++ cW sh1 ci1 ai1 al1) H := hP
    have hD : va_D A (oW co ho (vp_updL f (0 : Int32).toNatClampNeg r.toInt64) ++ cW sh1 ci1 ai1 al1) := hD
    refine lv_goto (tgt := 18) hx hb dL_hole_9 (by decide) ?_
    refine lv_iconst (v := 0) hx hb dL_hole_18 (by decide) ?_
    refine W.widen (k := 1) (n := 6) (by decide) (by decide) ?_
    exact W.iret (v := 0) hx hb hr (fun t ht hW => ⟨⟨_, ((sh1, ci1, ai1, al1), vp_updL f (0 : Int32).toNatClampNeg r.toInt64), rfl, h, by rw [ht]; exact hP, cK.moved hW.alike hK, hD⟩, hS.F ht⟩) hS.2.2 dL_hole_19
abbrev wmL_given : List Cond := .codeWith yL_given cL_given 4 (some .int) [(0, 9, 12, 13)] :: WL
theorem hd_L_given : yL_given.cls ≠ "java/lang/invoke/MethodHandle" ∧ yL_given.cls ≠ "java/lang/invoke/VarHandle" ∧ (parseMethodDescriptor yL_given.desc).map (fun d => d.parameters.length) = some 3 := by decide +kernel
abbrev rmL_given : Room := ({ frames := 110, cells := 8, slots := 2000, locals := 3300 })
set_option maxHeartbeats 4000000 in
set_option maxRecDepth 100000 in
theorem p_L_given (l : Launch) (hl0 : l.stackTraces = false) (dC : Nat → ClassId) (dI : Nat → Nat → Nat) (sh : Sh) (ci : Nat → Nat → Int32) (ai : Nat → Nat → Int32) (al : Nat → Nat → Int64) (q : Nat) (p0 : Int32) (co : ClassId) (ho : Nat) (f : Nat → Int64) (Q : Int32 → LTy) (h : P_X11_given sh ci ai al q p0 (fun r sh1 ci1 ai1 al1 => Q 0 sh1 ci1 ai1 al1 (vp_updL f (0 : Int32).toNatClampNeg r.toInt64)) (fun E => (E = "java/lang/UnsupportedOperationException" ∧ Q 1 sh ci ai al f))) (sz : Nat) : Met l yL_given wmL_given rmL_given (va_Pc [.ref q, .int p0, .ref ho] (lPre dC dI sh ci ai al co ho f sz)) (va_Qi (S := LSt) (lI Q) (lB dC dI co ho (va_A (oW co ho f ++ cW sh ci ai al) sz)) (va_A (oW co ho f ++ cW sh ci ai al) sz)) 8 2000 (va_A (oW co ho f ++ cW sh ci ai al) sz) := by
  refine va_MetW (hh := [(0, 9, 12, 13)]) (cc := cL_given) (maxL := 4) (ret := (some .int)) (by decide) rfl ?_
  intro p e s m args below meth c s₁ B hml hv
  obtain ⟨rfl, hsz, hP, hK, hO, hD0, hG, hN, hZ⟩ := hv
  have hx := B.exec
  have hb := B.bytes
  have hr := B.returns
  have hts : ∀ w ∈ WL, w.before _ s = true := fun w h => atoms_spec (ws := wmL_given) B.pre w (List.mem_cons_of_mem _ h)
  have hown : s.vm.findClass RL = some m.cls := findClass_of_methodNamed B.named
  have hlocks := B.notSynchronized
  have htab := vx_table (x := yL_given) (hh := [(0, 9, 12, 13)]) (bytes := cL_given) (maxL' := 4) (ret' := (some .int)) B (atoms_spec (ws := wmL_given) B.pre _ List.mem_cons_self)
  have hqk : q ∈ sL sh ∧ sK sh q = 10 := by unfold P_X11_given at h; exact h.1
  subst hsz
  have hD := hD0.self (sz := s.heap.size)
  generalize hAe : va_A (oW co ho f ++ cW sh ci ai al) s.heap.size = A at hD hZ ⊢
  have hA : ∀ q : Nat, s.heap.size ≤ q → A q := fun q h => by rw [← hAe]; exact Or.inr h
  generalize hH : s.heap = H at hP ⊢
  have hS : va_S A s.heap H [] := by rw [← hH]; exact va_S.rf
  have hl := lv_entry [.ref q, .int p0, .ref ho] (n := 4) (Nat.le_of_ble_eq_true rfl)
  rw [lg_entry_eq]
  generalize (lg_sl [.ref q, .int p0, .ref ho] ++ List.replicate (4 - (lg_sl [.ref q, .int p0, .ref ho]).length) Slot.unset).toArray = ls at hl ⊢
  have hl : lv_has ls 4 [(0, .ref q), (1, .int p0), (2, .ref ho)] := hl
  refine lv_aload_n hx hb dL_given_0 rfl (lv_at hl 2 rfl) ?_
  refine lv_iconst (v := 0) hx hb dL_given_1 (by decide) ?_
  refine lv_aload_n hx hb dL_given_2 rfl (lv_at hl 0 rfl) ?_
  refine lv_iload_n hx hb dL_given_3 rfl (lv_at hl 1 rfl) ?_
  refine l_xi (cells := 0) (slots := 0) (wr := oW co ho f) (vx_runV (rm := ({ frames := 100, cells := 8, slots := 2000, locals := 3000 })) (As := [.int p0]) (rest := [.int 0, .ref ho]) ⟨hx, hb, hml, hown, hts⟩ (p_X11_given l hl0 dC dI _ _ _ _ q p0 _ _ h H.size) (cwV 1 hts (g_Vm gdL gdLC mwL_11 mwL_12 mwL_13 mwL_3 mwL_14) rfl rfl rfl hd_X11_given ⟨Nat.le_of_ble_eq_true rfl, Nat.le_of_ble_eq_true rfl⟩) (x_preV hK (fr_P2 hP) (fr_D2 hD) hS hA hS hG hZ hqk.1 hqk.2) rfl rfl hl.1 rfl (lv_room (Nat.le_of_ble_eq_true rfl)) dL_given_4 ⟨Nat.le_of_ble_eq_true rfl, Nat.le_of_ble_eq_true rfl⟩) hP hD hS hA (fun E ce q9 H locs hX hP hS hce hcv hcl => ?_) (fun r sh1 ci1 ai1 al1 H locs h hK hP hD hS => ?_)
  · obtain ⟨rfl, hX⟩ := hX
    refine vx_catch (own := RL) (name := "java/lang/UnsupportedOperationException") hown ((tableOf [(0, 9, 12, 13)]).take 0) (tableOf [(0, 9, 12, 13)])[0] ((tableOf [(0, 9, 12, 13)]).drop 1) (by rw [htab]; rfl) (fun z hz => nomatch hz) (by decide) (by decide) (hts _ mwL_5) (va_Nw.use rfl hG.xUOE) hce hcv hcl ?_
    refine W.eq (g2 := F0 m 12 ls [.ref q9]) rfl ?_
    refine lv_astore_n (lv' := [(3, .ref q9), (0, .ref q), (1, .int p0), (2, .ref ho)]) hx hb dL_given_12 rfl hl (by decide) rfl (fun ls hl => ?_)
    refine lv_iconst (v := 1) hx hb dL_given_13 (by decide) ?_
    refine W.widen (k := 8) (n := 2000) (by decide) (by decide) ?_
    exact W.iret (v := 1) hx hb hr (fun t ht hW => ⟨⟨_, ((sh, ci, ai, al), f), rfl, hX, by rw [ht]; exact hP, cK.moved hW.alike hK, hD⟩, hS.F ht⟩) hS.2.2 dL_given_14
  · refine lv_i2l hx hb dL_given_7 rfl ?_
    refine va_last hx hb hO hP hD hS 0 0 rfl rfl (nd_in (i := 0) (n := 1) (by decide)) dL_given_8 (fun H locs hP hD hS => ?_)
    have hP : va_P (dC, dI) vwCl (oW co ho (vp_updL f (0 : Int32).toNatClampNeg r.toInt64) ++ cW sh1 ci1 ai1 al1) H := hP
    have hD : va_D A (oW co ho (vp_updL f (0 : Int32).toNatClampNeg r.toInt64) ++ cW sh1 ci1 ai1 al1) := hD
    refine lv_goto (tgt := 15) hx hb dL_given_9 (by decide) ?_
    refine lv_iconst (v := 0) hx hb dL_given_15 (by decide) ?_
    refine W.widen (k := 8) (n := 2000) (by decide) (by decide) ?_
    exact W.iret (v := 0) hx hb hr (fun t ht hW => ⟨⟨_, ((sh1, ci1, ai1, al1), vp_updL f (0 : Int32).toNatClampNeg r.toInt64), rfl, h, by rw [ht]; exact hP, cK.moved hW.alike hK, hD⟩, hS.F ht⟩) hS.2.2 dL_given_16
abbrev wmL_count : List Cond := .codeWith yL_count cL_count 7 (some .int) [(0, 11, 14, 13)] :: WL
theorem hd_L_count : yL_count.cls ≠ "java/lang/invoke/MethodHandle" ∧ yL_count.cls ≠ "java/lang/invoke/VarHandle" ∧ (parseMethodDescriptor yL_count.desc).map (fun d => d.parameters.length) = some 4 := by decide +kernel
abbrev rmL_count : Room := ({ frames := 110, cells := 8, slots := 2000, locals := 3300 })
set_option maxHeartbeats 4000000 in
set_option maxRecDepth 100000 in
theorem p_L_count (l : Launch) (hl0 : l.stackTraces = false) (dC : Nat → ClassId) (dI : Nat → Nat → Nat) (sh : Sh) (ci : Nat → Nat → Int32) (ai : Nat → Nat → Int32) (al : Nat → Nat → Int64) (q : Nat) (p0 : Int64) (p1 : Int64) (co : ClassId) (ho : Nat) (f : Nat → Int64) (Q : Int32 → LTy) (h : P_X11_count sh ci ai al q p0 p1 (fun r sh1 ci1 ai1 al1 => Q 0 sh1 ci1 ai1 al1 (vp_updL f (0 : Int32).toNatClampNeg r.toInt64)) (fun E => (E = "java/lang/UnsupportedOperationException" ∧ Q 1 sh ci ai al f))) (sz : Nat) : Met l yL_count wmL_count rmL_count (va_Pc [.ref q, .long p0, .long p1, .ref ho] (lPre dC dI sh ci ai al co ho f sz)) (va_Qi (S := LSt) (lI Q) (lB dC dI co ho (va_A (oW co ho f ++ cW sh ci ai al) sz)) (va_A (oW co ho f ++ cW sh ci ai al) sz)) 8 2000 (va_A (oW co ho f ++ cW sh ci ai al) sz) := by
  refine va_MetW (hh := [(0, 11, 14, 13)]) (cc := cL_count) (maxL := 7) (ret := (some .int)) (by decide) rfl ?_
  intro p e s m args below meth c s₁ B hml hv
  obtain ⟨rfl, hsz, hP, hK, hO, hD0, hG, hN, hZ⟩ := hv
  have hx := B.exec
  have hb := B.bytes
  have hr := B.returns
  have hts : ∀ w ∈ WL, w.before _ s = true := fun w h => atoms_spec (ws := wmL_count) B.pre w (List.mem_cons_of_mem _ h)
  have hown : s.vm.findClass RL = some m.cls := findClass_of_methodNamed B.named
  have hlocks := B.notSynchronized
  have htab := vx_table (x := yL_count) (hh := [(0, 11, 14, 13)]) (bytes := cL_count) (maxL' := 7) (ret' := (some .int)) B (atoms_spec (ws := wmL_count) B.pre _ List.mem_cons_self)
  have hqk : q ∈ sL sh ∧ sK sh q = 10 := by unfold P_X11_count at h; exact h.1
  subst hsz
  have hD := hD0.self (sz := s.heap.size)
  generalize hAe : va_A (oW co ho f ++ cW sh ci ai al) s.heap.size = A at hD hZ ⊢
  have hA : ∀ q : Nat, s.heap.size ≤ q → A q := fun q h => by rw [← hAe]; exact Or.inr h
  generalize hH : s.heap = H at hP ⊢
  have hS : va_S A s.heap H [] := by rw [← hH]; exact va_S.rf
  have hl := lv_entry [.ref q, .long p0, .long p1, .ref ho] (n := 7) (Nat.le_of_ble_eq_true rfl)
  rw [lg_entry_eq]
  generalize (lg_sl [.ref q, .long p0, .long p1, .ref ho] ++ List.replicate (7 - (lg_sl [.ref q, .long p0, .long p1, .ref ho]).length) Slot.unset).toArray = ls at hl ⊢
  have hl : lv_has ls 7 [(0, .ref q), (1, .long p0), (3, .long p1), (5, .ref ho)] := hl
  refine lv_aload hx hb dL_count_0 (lv_at hl 3 rfl) ?_
  refine lv_iconst (v := 0) hx hb dL_count_2 (by decide) ?_
  refine lv_aload_n hx hb dL_count_3 rfl (lv_at hl 0 rfl) ?_
  refine lv_lload_n hx hb dL_count_4 rfl (lv_at hl 1 rfl) ?_
  refine lv_lload_n hx hb dL_count_5 rfl (lv_at hl 2 rfl) ?_
  refine l_xi (cells := 0) (slots := 0) (wr := oW co ho f) (vx_runV (rm := ({ frames := 100, cells := 8, slots := 2000, locals := 3000 })) (As := [.long p0, .long p1]) (rest := [.int 0, .ref ho]) ⟨hx, hb, hml, hown, hts⟩ (p_X11_count l hl0 dC dI _ _ _ _ q p0 p1 _ _ h H.size) (cwV 2 hts (g_Vm gdL gdLC mwL_15 mwL_16 mwL_17 mwL_3 mwL_18) rfl rfl rfl hd_X11_count ⟨Nat.le_of_ble_eq_true rfl, Nat.le_of_ble_eq_true rfl⟩) (x_preV hK (fr_P2 hP) (fr_D2 hD) hS hA hS hG hZ hqk.1 hqk.2) rfl rfl hl.1 rfl (lv_room (Nat.le_of_ble_eq_true rfl)) dL_count_6 ⟨Nat.le_of_ble_eq_true rfl, Nat.le_of_ble_eq_true rfl⟩) hP hD hS hA (fun E ce q9 H locs hX hP hS hce hcv hcl => ?_) (fun r sh1 ci1 ai1 al1 H locs h hK hP hD hS => ?_)
  · obtain ⟨rfl, hX⟩ := hX
    refine vx_catch (own := RL) (name := "java/lang/UnsupportedOperationException") hown ((tableOf [(0, 11, 14, 13)]).take 0) (tableOf [(0, 11, 14, 13)])[0] ((tableOf [(0, 11, 14, 13)]).drop 1) (by rw [htab]; rfl) (fun z hz => nomatch hz) (by decide) (by decide) (hts _ mwL_5) (va_Nw.use rfl hG.xUOE) hce hcv hcl ?_
    refine W.eq (g2 := F0 m 14 ls [.ref q9]) rfl ?_
    refine lv_astore (lv' := [(6, .ref q9), (0, .ref q), (1, .long p0), (3, .long p1), (5, .ref ho)]) hx hb dL_count_14 hl (by decide) rfl (fun ls hl => ?_)
    refine lv_iconst (v := 1) hx hb dL_count_16 (by decide) ?_
    refine W.widen (k := 8) (n := 2000) (by decide) (by decide) ?_
    exact W.iret (v := 1) hx hb hr (fun t ht hW => ⟨⟨_, ((sh, ci, ai, al), f), rfl, hX, by rw [ht]; exact hP, cK.moved hW.alike hK, hD⟩, hS.F ht⟩) hS.2.2 dL_count_17
  · refine lv_i2l hx hb dL_count_9 rfl ?_
    refine va_last hx hb hO hP hD hS 0 0 rfl rfl (nd_in (i := 0) (n := 1) (by decide)) dL_count_10 (fun H locs hP hD hS => ?_)
    have hP : va_P (dC, dI) vwCl (oW co ho (vp_updL f (0 : Int32).toNatClampNeg r.toInt64) ++ cW sh1 ci1 ai1 al1) H := hP
    have hD : va_D A (oW co ho (vp_updL f (0 : Int32).toNatClampNeg r.toInt64) ++ cW sh1 ci1 ai1 al1) := hD
    refine lv_goto (tgt := 18) hx hb dL_count_11 (by decide) ?_
    refine lv_iconst (v := 0) hx hb dL_count_18 (by decide) ?_
    refine W.widen (k := 8) (n := 2000) (by decide) (by decide) ?_
    exact W.iret (v := 0) hx hb hr (fun t ht hW => ⟨⟨_, ((sh1, ci1, ai1, al1), vp_updL f (0 : Int32).toNatClampNeg r.toInt64), rfl, h, by rw [ht]; exact hP, cK.moved hW.alike hK, hD⟩, hS.F ht⟩) hS.2.2 dL_count_19
