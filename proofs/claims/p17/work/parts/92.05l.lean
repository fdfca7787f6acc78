abbrev cL_last : ByteArray := method_23_code
def yL_last : MethodName := ⟨RL, "last", "(LNeededLists;I[J)I"⟩
abbrev cL_reached : ByteArray := method_24_code
def yL_reached : MethodName := ⟨RL, "reached", "(LNeededLists;I[J)I"⟩
abbrev cL_worked : ByteArray := method_25_code
def yL_worked : MethodName := ⟨RL, "worked", "(LNeededLists;II[J)I"⟩
theorem dL_last_0 : decode cL_last 0 = .ok (.aload_n 2, 1) := by decide +kernel
theorem dL_last_1 : decode cL_last 1 = .ok (.iconst 0, 1) := by decide +kernel
theorem dL_last_2 : decode cL_last 2 = .ok (.aload_n 0, 1) := by decide +kernel
theorem dL_last_3 : decode cL_last 3 = .ok (.iload_n 1, 1) := by decide +kernel
theorem dL_last_4 : decode cL_last 4 = .ok (.invokevirtual 86, 3) := by decide +kernel
theorem dL_last_7 : decode cL_last 7 = .ok (.lastore, 1) := by decide +kernel
theorem dL_last_8 : decode cL_last 8 = .ok (.goto 6, 3) := by decide +kernel
theorem dL_last_11 : decode cL_last 11 = .ok (.astore_n 3, 1) := by decide +kernel
theorem dL_last_12 : decode cL_last 12 = .ok (.iconst 1, 1) := by decide +kernel
theorem dL_last_13 : decode cL_last 13 = .ok (.ireturn, 1) := by decide +kernel
theorem dL_last_14 : decode cL_last 14 = .ok (.iconst 0, 1) := by decide +kernel
theorem dL_last_15 : decode cL_last 15 = .ok (.ireturn, 1) := by decide +kernel
theorem dL_reached_0 : decode cL_reached 0 = .ok (.aload_n 2, 1) := by decide +kernel
theorem dL_reached_1 : decode cL_reached 1 = .ok (.iconst 0, 1) := by decide +kernel
theorem dL_reached_2 : decode cL_reached 2 = .ok (.aload_n 0, 1) := by decide +kernel
theorem dL_reached_3 : decode cL_reached 3 = .ok (.iload_n 1, 1) := by decide +kernel
theorem dL_reached_4 : decode cL_reached 4 = .ok (.invokevirtual 89, 3) := by decide +kernel
theorem dL_reached_7 : decode cL_reached 7 = .ok (.i2l, 1) := by decide +kernel
theorem dL_reached_8 : decode cL_reached 8 = .ok (.lastore, 1) := by decide +kernel
theorem dL_reached_9 : decode cL_reached 9 = .ok (.goto 6, 3) := by decide +kernel
theorem dL_reached_12 : decode cL_reached 12 = .ok (.astore_n 3, 1) := by decide +kernel
theorem dL_reached_13 : decode cL_reached 13 = .ok (.iconst 1, 1) := by decide +kernel
theorem dL_reached_14 : decode cL_reached 14 = .ok (.ireturn, 1) := by decide +kernel
theorem dL_reached_15 : decode cL_reached 15 = .ok (.iconst 0, 1) := by decide +kernel
theorem dL_reached_16 : decode cL_reached 16 = .ok (.ireturn, 1) := by decide +kernel
theorem dL_worked_0 : decode cL_worked 0 = .ok (.aload_n 3, 1) := by decide +kernel
theorem dL_worked_1 : decode cL_worked 1 = .ok (.iconst 0, 1) := by decide +kernel
theorem dL_worked_2 : decode cL_worked 2 = .ok (.aload_n 0, 1) := by decide +kernel
theorem dL_worked_3 : decode cL_worked 3 = .ok (.iload_n 1, 1) := by decide +kernel
theorem dL_worked_4 : decode cL_worked 4 = .ok (.iload_n 2, 1) := by decide +kernel
theorem dL_worked_5 : decode cL_worked 5 = .ok (.invokevirtual 92, 3) := by decide +kernel
theorem dL_worked_8 : decode cL_worked 8 = .ok (.ifCond .eq 7, 3) := by decide +kernel
theorem dL_worked_11 : decode cL_worked 11 = .ok (.lconst 1, 1) := by decide +kernel
theorem dL_worked_12 : decode cL_worked 12 = .ok (.goto 4, 3) := by decide +kernel
theorem dL_worked_15 : decode cL_worked 15 = .ok (.lconst 0, 1) := by decide +kernel
theorem dL_worked_16 : decode cL_worked 16 = .ok (.lastore, 1) := by decide +kernel
theorem dL_worked_17 : decode cL_worked 17 = .ok (.goto 7, 3) := by decide +kernel
theorem dL_worked_20 : decode cL_worked 20 = .ok (.astore 4, 2) := by decide +kernel
theorem dL_worked_22 : decode cL_worked 22 = .ok (.iconst 1, 1) := by decide +kernel
theorem dL_worked_23 : decode cL_worked 23 = .ok (.ireturn, 1) := by decide +kernel
theorem dL_worked_24 : decode cL_worked 24 = .ok (.iconst 0, 1) := by decide +kernel
theorem dL_worked_25 : decode cL_worked 25 = .ok (.ireturn, 1) := by decide +kernel
abbrev wmL_last : List Cond := .codeWith yL_last cL_last 4 (some .int) [(0, 8, 11, 37)] :: WL
theorem hd_L_last : yL_last.cls ≠ "java/lang/invoke/MethodHandle" ∧ yL_last.cls ≠ "java/lang/invoke/VarHandle" ∧ (parseMethodDescriptor yL_last.desc).map (fun d => d.parameters.length) = some 3 := by decide +kernel
abbrev rmL_last : Room := ({ frames := 1010, cells := 3, slots := 20, locals := 40300 })
set_option maxHeartbeats 4000000 in
set_option maxRecDepth 100000 in
theorem p_L_last (l : Launch) (hl0 : l.stackTraces = false) (dC : Nat → ClassId) (dI : Nat → Nat → Nat) (sh : Sh) (ci : Nat → Nat → Int32) (ai : Nat → Nat → Int32) (al : Nat → Nat → Int64) (q : Nat) (p0 : Int32) (co : ClassId) (ho : Nat) (f : Nat → Int64) (Q : Int32 → LTy) (h : P_X11_last sh ci ai al q p0 (fun r sh1 ci1 ai1 al1 => Q 0 sh1 ci1 ai1 al1 (vp_updL f (0 : Int32).toNatClampNeg r)) (fun E => (E = "java/lang/IndexOutOfBoundsException" ∧ Q 1 sh ci ai al f))) (sz : Nat) : Met l yL_last wmL_last rmL_last (va_Pc [.ref q, .int p0, .ref ho] (lPre dC dI sh ci ai al co ho f sz)) (va_Qi (S := LSt) (lI Q) (lB dC dI co ho (va_A (oW co ho f ++ cW sh ci ai al) sz)) (va_A (oW co ho f ++ cW sh ci ai al) sz)) 3 20 (va_A (oW co ho f ++ cW sh ci ai al) sz) := by
  refine va_MetW (hh := [(0, 8, 11, 37)]) (cc := cL_last) (maxL := 4) (ret := (some .int)) (by decide) rfl ?_
  intro p e s m args below meth c s₁ B hml hv
  obtain ⟨rfl, hsz, hP, hK, hO, hD0, hG, hN, hZ⟩ := hv
  have hx := B.exec
  have hb := B.bytes
  have hr := B.returns
  have hts : ∀ w ∈ WL, w.before _ s = true := fun w h => atoms_spec (ws := wmL_last) B.pre w (List.mem_cons_of_mem _ h)
  have hown : s.vm.findClass RL = some m.cls := findClass_of_methodNamed B.named
  have hlocks := B.notSynchronized
  have htab := vx_table (x := yL_last) (hh := [(0, 8, 11, 37)]) (bytes := cL_last) (maxL' := 4) (ret' := (some .int)) B (atoms_spec (ws := wmL_last) B.pre _ List.mem_cons_self)
  have hqk : q ∈ sL sh ∧ sK sh q = 10 := by unfold P_X11_last at h; exact h.1
  subst hsz
  have hD := hD0.self (sz := s.heap.size)
  generalize hAe : va_A (oW co ho f ++ cW sh ci ai al) s.heap.size = A at hD hZ ⊢
  have hA : ∀ q : Nat, s.heap.size ≤ q → A q := fun q h => by rw [← hAe]; exact Or.inr h
  generalize hH : s.heap = H at hP ⊢
  have hS : va_S A s.heap H [] := by rw [← hH]; exact va_S.rf
  have hl := lv_entry [.ref q, .int p0, .ref ho] (n := 4) (Nat.le_of_ble_eq_true rfl)
  rw [lg_entry_eq]
  generalize (lg_sl [.ref q, .int p0, .ref ho] ++ List.replicate (4 - (lg_sl [.ref q, .int p0, .ref ho]).length) Slot.unset).toArray = ls at hl ⊢
  have hl : lv_has ls 4 [(0, .ref q), (1, .int p0), (2, .ref ho)] := hl
  refine lv_aload_n hx hb dL_last_0 rfl (lv_at hl 2 rfl) ?_
  refine lv_iconst (v := 0) hx hb dL_last_1 (by decide) ?_
  refine lv_aload_n hx hb dL_last_2 rfl (lv_at hl 0 rfl) ?_
  refine lv_iload_n hx hb dL_last_3 rfl (lv_at hl 1 rfl) ?_
  refine l_xl (cells := 0) (slots := 0) (wr := oW co ho f) (vx_runV (rm := ({ frames := 1000, cells := 3, slots := 20, locals := 40000 })) (As := [.int p0]) (rest := [.int 0, .ref ho]) ⟨hx, hb, hml, hown, hts⟩ (p_X11_last l hl0 dC dI _ _ _ _ q p0 _ _ h H.size) (cwV 1 hts (g_Vm gdL gdLC mwL_84 mwL_85 mwL_86 mwL_3 mwL_87) rfl rfl rfl hd_X11_last ⟨Nat.le_of_ble_eq_true rfl, Nat.le_of_ble_eq_true rfl⟩) (x_preV hK (fr_P2 hP) (fr_D2 hD) hS hA hS hG hZ hqk.1 hqk.2) rfl rfl hl.1 rfl (lv_room (Nat.le_of_ble_eq_true rfl)) dL_last_4 ⟨Nat.le_of_ble_eq_true rfl, Nat.le_of_ble_eq_true rfl⟩) hP hD hS hA (fun E ce q9 H locs hX hP hS hce hcv hcl => ?_) (fun r sh1 ci1 ai1 al1 H locs h hK hP hD hS => ?_)
  · obtain ⟨rfl, hX⟩ := hX
    refine vx_catch (own := RL) (name := "java/lang/IndexOutOfBoundsException") hown ((tableOf [(0, 8, 11, 37)]).take 0) (tableOf [(0, 8, 11, 37)])[0] ((tableOf [(0, 8, 11, 37)]).drop 1) (by rw [htab]; rfl) (fun z hz => nomatch hz) (by decide) (by decide) (hts _ mwL_27) (va_Nw.use rfl hG.xIOO) hce hcv hcl ?_
    refine W.eq (g2 := F0 m 11 ls [.ref q9]) rfl ?_
    refine lv_astore_n (lv' := [(3, .ref q9), (0, .ref q), (1, .int p0), (2, .ref ho)]) hx hb dL_last_11 rfl hl (by decide) rfl (fun ls hl => ?_)
    refine lv_iconst (v := 1) hx hb dL_last_12 (by decide) ?_
    refine W.widen (k := 3) (n := 20) (by decide) (by decide) ?_
    exact W.iret (v := 1) hx hb hr (fun t ht hW => ⟨⟨_, ((sh, ci, ai, al), f), rfl, hX, by rw [ht]; exact hP, cK.moved hW.alike hK, hD⟩, hS.F ht⟩) hS.2.2 dL_last_13
  · refine va_last hx hb hO hP hD hS 0 0 rfl rfl (nd_in (i := 0) (n := 1) (by decide)) dL_last_7 (fun H locs hP hD hS => ?_)
    have hP : va_P (dC, dI) vwCl (oW co ho (vp_updL f (0 : Int32).toNatClampNeg r) ++ cW sh1 ci1 ai1 al1) H := hP
    have hD : va_D A (oW co ho (vp_updL f (0 : Int32).toNatClampNeg r) ++ cW sh1 ci1 ai1 al1) := hD
    refine lv_goto (tgt := 14) hx hb dL_last_8 (by decide) ?_
    refine lv_iconst (v := 0) hx hb dL_last_14 (by decide) ?_
    refine W.widen (k := 3) (n := 20) (by decide) (by decide) ?_
    exact W.iret (v := 0) hx hb hr (fun t ht hW => ⟨⟨_, ((sh1, ci1, ai1, al1), vp_updL f (0 : Int32).toNatClampNeg r), rfl, h, by rw [ht]; exact hP, cK.moved hW.alike hK, hD⟩, hS.F ht⟩) hS.2.2 dL_last_15
abbrev wmL_reached : List Cond := .codeWith yL_reached cL_reached 4 (some .int) [(0, 9, 12, 37)] :: WL
theorem hd_L_reached : yL_reached.cls ≠ "java/lang/invoke/MethodHandle" ∧ yL_reached.cls ≠ "java/lang/invoke/VarHandle" ∧ (parseMethodDescriptor yL_reached.desc).map (fun d => d.parameters.length) = some 3 := by decide +kernel
abbrev rmL_reached : Room := ({ frames := 1010, cells := 3, slots := 20, locals := 40300 })
set_option maxHeartbeats 4000000 in
set_option maxRecDepth 100000 in
theorem p_L_reached (l : Launch) (hl0 : l.stackTraces = false) (dC : Nat → ClassId) (dI : Nat → Nat → Nat) (sh : Sh) (ci : Nat → Nat → Int32) (ai : Nat → Nat → Int32) (al : Nat → Nat → Int64) (q : Nat) (p0 : Int32) (co : ClassId) (ho : Nat) (f : Nat → Int64) (Q : Int32 → LTy) (h : P_X11_reached sh ci ai al q p0 (fun r sh1 ci1 ai1 al1 => Q 0 sh1 ci1 ai1 al1 (vp_updL f (0 : Int32).toNatClampNeg r.toInt64)) (fun E => (E = "java/lang/IndexOutOfBoundsException" ∧ Q 1 sh ci ai al f))) (sz : Nat) : Met l yL_reached wmL_reached rmL_reached (va_Pc [.ref q, .int p0, .ref ho] (lPre dC dI sh ci ai al co ho f sz)) (va_Qi (S := LSt) (lI Q) (lB dC dI co ho (va_A (oW co ho f ++ cW sh ci ai al) sz)) (va_A (oW co ho f ++ cW sh ci ai al) sz)) 3 20 (va_A (oW co ho f ++ cW sh ci ai al) sz) := by
  refine va_MetW (hh := [(0, 9, 12, 37)]) (cc := cL_reached) (maxL := 4) (ret := (some .int)) (by decide) rfl ?_
  intro p e s m args below meth c s₁ B hml hv
  obtain ⟨rfl, hsz, hP, hK, hO, hD0, hG, hN, hZ⟩ := hv
  have hx := B.exec
  have hb := B.bytes
  have hr := B.returns
  have hts : ∀ w ∈ WL, w.before _ s = true := fun w h => atoms_spec (ws := wmL_reached) B.pre w (List.mem_cons_of_mem _ h)
  have hown : s.vm.findClass RL = some m.cls := findClass_of_methodNamed B.named
  have hlocks := B.notSynchronized
  have htab := vx_table (x := yL_reached) (hh := [(0, 9, 12, 37)]) (bytes := cL_reached) (maxL' := 4) (ret' := (some .int)) B (atoms_spec (ws := wmL_reached) B.pre _ List.mem_cons_self)
  have hqk : q ∈ sL sh ∧ sK sh q = 10 := by unfold P_X11_reached at h; exact h.1
  subst hsz
  have hD := hD0.self (sz := s.heap.size)
  generalize hAe : va_A (oW co ho f ++ cW sh ci ai al) s.heap.size = A at hD hZ ⊢
  have hA : ∀ q : Nat, s.heap.size ≤ q → A q := fun q h => by rw [← hAe]; exact Or.inr h
  generalize hH : s.heap = H at hP ⊢
  have hS : va_S A s.heap H [] := by rw [← hH]; exact va_S.rf
  have hl := lv_entry [.ref q, .int p0, .ref ho] (n := 4) (Nat.le_of_ble_eq_true rfl)
  rw [lg_entry_eq]
  generalize (lg_sl [.ref q, .int p0, .ref ho] ++ List.replicate (4 - (lg_sl [.ref q, .int p0, .ref ho]).length) Slot.unset).toArray = ls at hl ⊢
  have hl : lv_has ls 4 [(0, .ref q), (1, .int p0), (2, .ref ho)] := hl
  refine lv_aload_n hx hb dL_reached_0 rfl (lv_at hl 2 rfl) ?_
  refine lv_iconst (v := 0) hx hb dL_reached_1 (by decide) ?_
  refine lv_aload_n hx hb dL_reached_2 rfl (lv_at hl 0 rfl) ?_
  refine lv_iload_n hx hb dL_reached_3 rfl (lv_at hl 1 rfl) ?_
  refine l_xi (cells := 0) (slots := 0) (wr := oW co ho f) (vx_runV (rm := ({ frames := 1000, cells := 3, slots := 20, locals := 40000 })) (As := [.int p0]) (rest := [.int 0, .ref ho]) ⟨hx, hb, hml, hown, hts⟩ (p_X11_reached l hl0 dC dI _ _ _ _ q p0 _ _ h H.size) (cwV 1 hts (g_Vm gdL gdLC mwL_88 mwL_89 mwL_90 mwL_3 mwL_91) rfl rfl rfl hd_X11_reached ⟨Nat.le_of_ble_eq_true rfl, Nat.le_of_ble_eq_true rfl⟩) (x_preV hK (fr_P2 hP) (fr_D2 hD) hS hA hS hG hZ hqk.1 hqk.2) rfl rfl hl.1 rfl (lv_room (Nat.le_of_ble_eq_true rfl)) dL_reached_4 ⟨Nat.le_of_ble_eq_true rfl, Nat.le_of_ble_eq_true rfl⟩) hP hD hS hA (fun E ce q9 H locs hX hP hS hce hcv hcl => ?_) (fun r sh1 ci1 ai1 al1 H locs h hK hP hD hS => ?_)
  · obtain ⟨rfl, hX⟩ := hX
    refine vx_catch (own := RL) (name := "java/lang/IndexOutOfBoundsException") hown ((tableOf [(0, 9, 12, 37)]).take 0) (tableOf [(0, 9, 12, 37)])[0] ((tableOf [(0, 9, 12, 37)]).drop 1) (by rw [htab]; rfl) (fun z hz => nomatch hz) (by decide) (by decide) (hts _ mwL_27) (va_Nw.use rfl hG.xIOO) hce hcv hcl ?_
    refine W.eq (g2 := F0 m 12 ls [.ref q9]) rfl ?_
    refine lv_astore_n (lv' := [(3, .ref q9), (0, .ref q), (1, .int p0), (2, .ref ho)]) hx hb dL_reached_12 rfl hl (by decide) rfl (fun ls hl => ?_)
    refine lv_iconst (v := 1) hx hb dL_reached_13 (by decide) ?_
    refine W.widen (k := 3) (n := 20) (by decide) (by decide) ?_
    exact W.iret (v := 1) hx hb hr (fun t ht hW => ⟨⟨_, ((sh, ci, ai, al), f), rfl, hX, by rw [ht]; exact hP, cK.moved hW.alike hK, hD⟩, hS.F ht⟩) hS.2.2 dL_reached_14
  · refine lv_i2l hx hb dL_reached_7 rfl ?_
    refine va_last hx hb hO hP hD hS 0 0 rfl rfl (nd_in (i := 0) (n := 1) (by decide)) dL_reached_8 (fun H locs hP hD hS => ?_)
    have hP : va_P (dC, dI) vwCl (oW co ho (vp_updL f (0 : Int32).toNatClampNeg r.toInt64) ++ cW sh1 ci1 ai1 al1) H := hP
    have hD : va_D A (oW co ho (vp_updL f (0 : Int32).toNatClampNeg r.toInt64) ++ cW sh1 ci1 ai1 al1) := hD
    refine lv_goto (tgt := 15) hx hb dL_reached_9 (by decide) ?_
    refine lv_iconst (v := 0) hx hb dL_reached_15 (by decide) ?_
    refine W.widen (k := 3) (n := 20) (by decide) (by decide) ?_
    exact W.iret (v := 0) hx hb hr (fun t ht hW => ⟨⟨_, ((sh1, ci1, ai1, al1), vp_updL f (0 : Int32).toNatClampNeg r.toInt64), rfl, h, by rw [ht]; exact hP, cK.moved hW.alike hK, hD⟩, hS.F ht⟩) hS.2.2 dL_reached_16
abbrev wmL_worked : List Cond := .codeWith yL_worked cL_worked 5 (some .int) [(0, 17, 20, 37)] :: WL
theorem hd_L_worked : yL_worked.cls ≠ "java/lang/invoke/MethodHandle" ∧ yL_worked.cls ≠ "java/lang/invoke/VarHandle" ∧ (parseMethodDescriptor yL_worked.desc).map (fun d => d.parameters.length) = some 4 := by decide +kernel
abbrev rmL_worked : Room := ({ frames := 1010, cells := 3, slots := 20, locals := 40300 })
set_option maxHeartbeats 4000000 in
set_option maxRecDepth 100000 in
theorem p_L_worked (l : Launch) (hl0 : l.stackTraces = false) (dC : Nat → ClassId) (dI : Nat → Nat → Nat) (sh : Sh) (ci : Nat → Nat → Int32) (ai : Nat → Nat → Int32) (al : Nat → Nat → Int64) (q : Nat) (p0 : Int32) (p1 : Int32) (co : ClassId) (ho : Nat) (f : Nat → Int64) (Q : Int32 → LTy) (h : P_X11_worked sh ci ai al q p0 p1 (fun r sh1 ci1 ai1 al1 => ∀ z : Int64, Q 0 sh1 ci1 ai1 al1 (vp_updL f (0 : Int32).toNatClampNeg z)) (fun E => (E = "java/lang/IndexOutOfBoundsException" ∧ Q 1 sh ci ai al f))) (sz : Nat) : Met l yL_worked wmL_worked rmL_worked (va_Pc [.ref q, .int p0, .int p1, .ref ho] (lPre dC dI sh ci ai al co ho f sz)) (va_Qi (S := LSt) (lI Q) (lB dC dI co ho (va_A (oW co ho f ++ cW sh ci ai al) sz)) (va_A (oW co ho f ++ cW sh ci ai al) sz)) 3 20 (va_A (oW co ho f ++ cW sh ci ai al) sz) := by
  refine va_MetW (hh := [(0, 17, 20, 37)]) (cc := cL_worked) (maxL := 5) (ret := (some .int)) (by decide) rfl ?_
  intro p e s m args below meth c s₁ B hml hv
  obtain ⟨rfl, hsz, hP, hK, hO, hD0, hG, hN, hZ⟩ := hv
  have hx := B.exec
  have hb := B.bytes
  have hr := B.returns
  have hts : ∀ w ∈ WL, w.before _ s = true := fun w h => atoms_spec (ws := wmL_worked) B.pre w (List.mem_cons_of_mem _ h)
  have hown : s.vm.findClass RL = some m.cls := findClass_of_methodNamed B.named
  have hlocks := B.notSynchronized
  have htab := vx_table (x := yL_worked) (hh := [(0, 17, 20, 37)]) (bytes := cL_worked) (maxL' := 5) (ret' := (some .int)) B (atoms_spec (ws := wmL_worked) B.pre _ List.mem_cons_self)
  have hqk : q ∈ sL sh ∧ sK sh q = 10 := by unfold P_X11_worked at h; exact h.1
  subst hsz
  have hD := hD0.self (sz := s.heap.size)
  generalize hAe : va_A (oW co ho f ++ cW sh ci ai al) s.heap.size = A at hD hZ ⊢
  have hA : ∀ q : Nat, s.heap.size ≤ q → A q := fun q h => by rw [← hAe]; exact Or.inr h
  generalize hH : s.heap = H at hP ⊢
  have hS : va_S A s.heap H [] := by rw [← hH]; exact va_S.rf
  have hl := lv_entry [.ref q, .int p0, .int p1, .ref ho] (n := 5) (Nat.le_of_ble_eq_true rfl)
  rw [lg_entry_eq]
  generalize (lg_sl [.ref q, .int p0, .int p1, .ref ho] ++ List.replicate (5 - (lg_sl [.ref q, .int p0, .int p1, .ref ho]).length) Slot.unset).toArray = ls at hl ⊢
  have hl : lv_has ls 5 [(0, .ref q), (1, .int p0), (2, .int p1), (3, .ref ho)] := hl
  refine lv_aload_n hx hb dL_worked_0 rfl (lv_at hl 3 rfl) ?_
  refine lv_iconst (v := 0) hx hb dL_worked_1 (by decide) ?_
  refine lv_aload_n hx hb dL_worked_2 rfl (lv_at hl 0 rfl) ?_
  refine lv_iload_n hx hb dL_worked_3 rfl (lv_at hl 1 rfl) ?_
  refine lv_iload_n hx hb dL_worked_4 rfl (lv_at hl 2 rfl) ?_
  refine l_xi (cells := 0) (slots := 0) (wr := oW co ho f) (vx_runV (rm := ({ frames := 1000, cells := 3, slots := 20, locals := 40000 })) (As := [.int p0, .int p1]) (rest := [.int 0, .ref ho]) ⟨hx, hb, hml, hown, hts⟩ (p_X11_worked l hl0 dC dI _ _ _ _ q p0 p1 _ _ h H.size) (cwV 2 hts (g_Vm gdL gdLC mwL_92 mwL_93 mwL_94 mwL_3 mwL_95) rfl rfl rfl hd_X11_worked ⟨Nat.le_of_ble_eq_true rfl, Nat.le_of_ble_eq_true rfl⟩) (x_preV hK (fr_P2 hP) (fr_D2 hD) hS hA hS hG hZ hqk.1 hqk.2) rfl rfl hl.1 rfl (lv_room (Nat.le_of_ble_eq_true rfl)) dL_worked_5 ⟨Nat.le_of_ble_eq_true rfl, Nat.le_of_ble_eq_true rfl⟩) hP hD hS hA (fun E ce q9 H locs hX hP hS hce hcv hcl => ?_) (fun r sh1 ci1 ai1 al1 H locs h hK hP hD hS => ?_)
  · obtain ⟨rfl, hX⟩ := hX
    refine vx_catch (own := RL) (name := "java/lang/IndexOutOfBoundsException") hown ((tableOf [(0, 17, 20, 37)]).take 0) (tableOf [(0, 17, 20, 37)])[0] ((tableOf [(0, 17, 20, 37)]).drop 1) (by rw [htab]; rfl) (fun z hz => nomatch hz) (by decide) (by decide) (hts _ mwL_27) (va_Nw.use rfl hG.xIOO) hce hcv hcl ?_
    refine W.eq (g2 := F0 m 20 ls [.ref q9]) rfl ?_
    refine lv_astore (lv' := [(4, .ref q9), (0, .ref q), (1, .int p0), (2, .int p1), (3, .ref ho)]) hx hb dL_worked_20 hl (by decide) rfl (fun ls hl => ?_)
    refine lv_iconst (v := 1) hx hb dL_worked_22 (by decide) ?_
    refine W.widen (k := 3) (n := 20) (by decide) (by decide) ?_
    exact W.iret (v := 1) hx hb hr (fun t ht hW => ⟨⟨_, ((sh, ci, ai, al), f), rfl, hX, by rw [ht]; exact hP, cK.moved hW.alike hK, hD⟩, hS.F ht⟩) hS.2.2 dL_worked_23
  · refine lv_if_eq (tgt := 15) hx hb dL_worked_8 (by decide) (fun c_9 => ?_) (fun c_9 => ?_)
    · refine lv_lconst (v := 0) hx hb dL_worked_15 (by decide) ?_
      have h := h 0
      refine va_last hx hb hO hP hD hS 0 0 rfl rfl (nd_in (i := 0) (n := 1) (by decide)) dL_worked_16 (fun H locs hP hD hS => ?_)
      have hP : va_P (dC, dI) vwCl (oW co ho (vp_updL f (0 : Int32).toNatClampNeg 0) ++ cW sh1 ci1 ai1 al1) H := hP
      have hD : va_D A (oW co ho (vp_updL f (0 : Int32).toNatClampNeg 0) ++ cW sh1 ci1 ai1 al1) := hD
      refine lv_goto (tgt := 24) hx hb dL_worked_17 (by decide) ?_
      refine lv_iconst (v := 0) hx hb dL_worked_24 (by decide) ?_
      refine W.widen (k := 3) (n := 20) (by decide) (by decide) ?_
      exact W.iret (v := 0) hx hb hr (fun t ht hW => ⟨⟨_, ((sh1, ci1, ai1, al1), vp_updL f (0 : Int32).toNatClampNeg 0), rfl, h, by rw [ht]; exact hP, cK.moved hW.alike hK, hD⟩, hS.F ht⟩) hS.2.2 dL_worked_25
    · refine lv_lconst (v := 1) hx hb dL_worked_11 (by decide) ?_
      have h := h 1
      refine lv_goto (tgt := 16) hx hb dL_worked_12 (by decide) ?_
      refine va_last hx hb hO hP hD hS 0 0 rfl rfl (nd_in (i := 0) (n := 1) (by decide)) dL_worked_16 (fun H locs hP hD hS => ?_)
      have hP : va_P (dC, dI) vwCl (oW co ho (vp_updL f (0 : Int32).toNatClampNeg 1) ++ cW sh1 ci1 ai1 al1) H := hP
      have hD : va_D A (oW co ho (vp_updL f (0 : Int32).toNatClampNeg 1) ++ cW sh1 ci1 ai1 al1) := hD
      refine lv_goto (tgt := 24) hx hb dL_worked_17 (by decide) ?_
      refine lv_iconst (v := 0) hx hb dL_worked_24 (by decide) ?_
      refine W.widen (k := 3) (n := 20) (by decide) (by decide) ?_
      exact W.iret (v := 0) hx hb hr (fun t ht hW => ⟨⟨_, ((sh1, ci1, ai1, al1), vp_updL f (0 : Int32).toNatClampNeg 1), rfl, h, by rw [ht]; exact hP, cK.moved hW.alike hK, hD⟩, hS.F ht⟩) hS.2.2 dL_worked_25
