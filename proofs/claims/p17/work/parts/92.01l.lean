abbrev cL_iterate : ByteArray := method_7_code
def yL_iterate : MethodName := ⟨RL, "iterate", "(LNeededLists;IJJ[J)I"⟩
abbrev cL_map : ByteArray := method_8_code
def yL_map : MethodName := ⟨RL, "map", "(LNeededLists;IIJ[J)I"⟩
abbrev cL_both : ByteArray := method_9_code
def yL_both : MethodName := ⟨RL, "both", "(LNeededLists;III[J)I"⟩
abbrev cL_scan : ByteArray := method_10_code
def yL_scan : MethodName := ⟨RL, "scan", "(LNeededLists;IIJ[J)I"⟩
theorem dL_iterate_0 : decode cL_iterate 0 = .ok (.aload 6, 2) := by decide +kernel
theorem dL_iterate_2 : decode cL_iterate 2 = .ok (.iconst 0, 1) := by decide +kernel
theorem dL_iterate_3 : decode cL_iterate 3 = .ok (.aload_n 0, 1) := by decide +kernel
theorem dL_iterate_4 : decode cL_iterate 4 = .ok (.iload_n 1, 1) := by decide +kernel
theorem dL_iterate_5 : decode cL_iterate 5 = .ok (.lload_n 2, 1) := by decide +kernel
theorem dL_iterate_6 : decode cL_iterate 6 = .ok (.lload 4, 2) := by decide +kernel
theorem dL_iterate_8 : decode cL_iterate 8 = .ok (.invokevirtual 29, 3) := by decide +kernel
theorem dL_iterate_11 : decode cL_iterate 11 = .ok (.i2l, 1) := by decide +kernel
theorem dL_iterate_12 : decode cL_iterate 12 = .ok (.lastore, 1) := by decide +kernel
theorem dL_iterate_13 : decode cL_iterate 13 = .ok (.goto 11, 3) := by decide +kernel
theorem dL_iterate_16 : decode cL_iterate 16 = .ok (.astore 7, 2) := by decide +kernel
theorem dL_iterate_18 : decode cL_iterate 18 = .ok (.iconst 1, 1) := by decide +kernel
theorem dL_iterate_19 : decode cL_iterate 19 = .ok (.ireturn, 1) := by decide +kernel
theorem dL_iterate_20 : decode cL_iterate 20 = .ok (.astore 7, 2) := by decide +kernel
theorem dL_iterate_22 : decode cL_iterate 22 = .ok (.iconst 2, 1) := by decide +kernel
theorem dL_iterate_23 : decode cL_iterate 23 = .ok (.ireturn, 1) := by decide +kernel
theorem dL_iterate_24 : decode cL_iterate 24 = .ok (.iconst 0, 1) := by decide +kernel
theorem dL_iterate_25 : decode cL_iterate 25 = .ok (.ireturn, 1) := by decide +kernel
theorem dL_map_0 : decode cL_map 0 = .ok (.aload 5, 2) := by decide +kernel
theorem dL_map_2 : decode cL_map 2 = .ok (.iconst 0, 1) := by decide +kernel
theorem dL_map_3 : decode cL_map 3 = .ok (.aload_n 0, 1) := by decide +kernel
theorem dL_map_4 : decode cL_map 4 = .ok (.iload_n 1, 1) := by decide +kernel
theorem dL_map_5 : decode cL_map 5 = .ok (.iload_n 2, 1) := by decide +kernel
theorem dL_map_6 : decode cL_map 6 = .ok (.lload_n 3, 1) := by decide +kernel
theorem dL_map_7 : decode cL_map 7 = .ok (.invokevirtual 33, 3) := by decide +kernel
theorem dL_map_10 : decode cL_map 10 = .ok (.i2l, 1) := by decide +kernel
theorem dL_map_11 : decode cL_map 11 = .ok (.lastore, 1) := by decide +kernel
theorem dL_map_12 : decode cL_map 12 = .ok (.goto 15, 3) := by decide +kernel
theorem dL_map_15 : decode cL_map 15 = .ok (.astore 6, 2) := by decide +kernel
theorem dL_map_17 : decode cL_map 17 = .ok (.iconst 1, 1) := by decide +kernel
theorem dL_map_18 : decode cL_map 18 = .ok (.ireturn, 1) := by decide +kernel
theorem dL_map_19 : decode cL_map 19 = .ok (.astore 6, 2) := by decide +kernel
theorem dL_map_21 : decode cL_map 21 = .ok (.iconst 2, 1) := by decide +kernel
theorem dL_map_22 : decode cL_map 22 = .ok (.ireturn, 1) := by decide +kernel
theorem dL_map_23 : decode cL_map 23 = .ok (.astore 6, 2) := by decide +kernel
theorem dL_map_25 : decode cL_map 25 = .ok (.iconst 3, 1) := by decide +kernel
theorem dL_map_26 : decode cL_map 26 = .ok (.ireturn, 1) := by decide +kernel
theorem dL_map_27 : decode cL_map 27 = .ok (.iconst 0, 1) := by decide +kernel
theorem dL_map_28 : decode cL_map 28 = .ok (.ireturn, 1) := by decide +kernel
theorem dL_both_0 : decode cL_both 0 = .ok (.aload 4, 2) := by decide +kernel
theorem dL_both_2 : decode cL_both 2 = .ok (.iconst 0, 1) := by decide +kernel
theorem dL_both_3 : decode cL_both 3 = .ok (.aload_n 0, 1) := by decide +kernel
theorem dL_both_4 : decode cL_both 4 = .ok (.iload_n 1, 1) := by decide +kernel
theorem dL_both_5 : decode cL_both 5 = .ok (.iload_n 2, 1) := by decide +kernel
theorem dL_both_6 : decode cL_both 6 = .ok (.iload_n 3, 1) := by decide +kernel
theorem dL_both_7 : decode cL_both 7 = .ok (.invokevirtual 39, 3) := by decide +kernel
theorem dL_both_10 : decode cL_both 10 = .ok (.i2l, 1) := by decide +kernel
theorem dL_both_11 : decode cL_both 11 = .ok (.lastore, 1) := by decide +kernel
theorem dL_both_12 : decode cL_both 12 = .ok (.goto 15, 3) := by decide +kernel
theorem dL_both_15 : decode cL_both 15 = .ok (.astore 5, 2) := by decide +kernel
theorem dL_both_17 : decode cL_both 17 = .ok (.iconst 1, 1) := by decide +kernel
theorem dL_both_18 : decode cL_both 18 = .ok (.ireturn, 1) := by decide +kernel
theorem dL_both_19 : decode cL_both 19 = .ok (.astore 5, 2) := by decide +kernel
theorem dL_both_21 : decode cL_both 21 = .ok (.iconst 2, 1) := by decide +kernel
theorem dL_both_22 : decode cL_both 22 = .ok (.ireturn, 1) := by decide +kernel
theorem dL_both_23 : decode cL_both 23 = .ok (.astore 5, 2) := by decide +kernel
theorem dL_both_25 : decode cL_both 25 = .ok (.iconst 3, 1) := by decide +kernel
theorem dL_both_26 : decode cL_both 26 = .ok (.ireturn, 1) := by decide +kernel
theorem dL_both_27 : decode cL_both 27 = .ok (.iconst 0, 1) := by decide +kernel
theorem dL_both_28 : decode cL_both 28 = .ok (.ireturn, 1) := by decide +kernel
theorem dL_scan_0 : decode cL_scan 0 = .ok (.aload 5, 2) := by decide +kernel
theorem dL_scan_2 : decode cL_scan 2 = .ok (.iconst 0, 1) := by decide +kernel
theorem dL_scan_3 : decode cL_scan 3 = .ok (.aload_n 0, 1) := by decide +kernel
theorem dL_scan_4 : decode cL_scan 4 = .ok (.iload_n 1, 1) := by decide +kernel
theorem dL_scan_5 : decode cL_scan 5 = .ok (.iload_n 2, 1) := by decide +kernel
theorem dL_scan_6 : decode cL_scan 6 = .ok (.lload_n 3, 1) := by decide +kernel
theorem dL_scan_7 : decode cL_scan 7 = .ok (.invokevirtual 43, 3) := by decide +kernel
theorem dL_scan_10 : decode cL_scan 10 = .ok (.i2l, 1) := by decide +kernel
theorem dL_scan_11 : decode cL_scan 11 = .ok (.lastore, 1) := by decide +kernel
theorem dL_scan_12 : decode cL_scan 12 = .ok (.goto 15, 3) := by decide +kernel
theorem dL_scan_15 : decode cL_scan 15 = .ok (.astore 6, 2) := by decide +kernel
theorem dL_scan_17 : decode cL_scan 17 = .ok (.iconst 1, 1) := by decide +kernel
theorem dL_scan_18 : decode cL_scan 18 = .ok (.ireturn, 1) := by decide +kernel
theorem dL_scan_19 : decode cL_scan 19 = .ok (.astore 6, 2) := by decide +kernel
theorem dL_scan_21 : decode cL_scan 21 = .ok (.iconst 2, 1) := by decide +kernel
theorem dL_scan_22 : decode cL_scan 22 = .ok (.ireturn, 1) := by decide +kernel
theorem dL_scan_23 : decode cL_scan 23 = .ok (.astore 6, 2) := by decide +kernel
theorem dL_scan_25 : decode cL_scan 25 = .ok (.iconst 3, 1) := by decide +kernel
theorem dL_scan_26 : decode cL_scan 26 = .ok (.ireturn, 1) := by decide +kernel
theorem dL_scan_27 : decode cL_scan 27 = .ok (.iconst 0, 1) := by decide +kernel
theorem dL_scan_28 : decode cL_scan 28 = .ok (.ireturn, 1) := by decide +kernel
abbrev wmL_iterate : List Cond := .codeWith yL_iterate cL_iterate 8 (some .int) [(0, 13, 16, 19), (0, 13, 20, 13)] :: WL
theorem hd_L_iterate : yL_iterate.cls ≠ "java/lang/invoke/MethodHandle" ∧ yL_iterate.cls ≠ "java/lang/invoke/VarHandle" ∧ (parseMethodDescriptor yL_iterate.desc).map (fun d => d.parameters.length) = some 5 := by decide +kernel
abbrev rmL_iterate : Room := ({ frames := 110, cells := 8, slots := 2000, locals := 3300 })
set_option maxHeartbeats 4000000 in
set_option maxRecDepth 100000 in
theorem p_L_iterate (l : Launch) (hl0 : l.stackTraces = false) (dC : Nat → ClassId) (dI : Nat → Nat → Nat) (sh : Sh) (ci : Nat → Nat → Int32) (ai : Nat → Nat → Int32) (al : Nat → Nat → Int64) (q : Nat) (p0 : Int32) (p1 : Int64) (p2 : Int64) (co : ClassId) (ho : Nat) (f : Nat → Int64) (Q : Int32 → LTy) (h : P_X11_iterate sh ci ai al q p0 p1 p2 (fun r sh1 ci1 ai1 al1 => Q 0 sh1 ci1 ai1 al1 (vp_updL f (0 : Int32).toNatClampNeg r.toInt64)) (fun E => (E = "java/lang/IllegalArgumentException" ∧ Q 1 sh ci ai al f) ∨ (E = "java/lang/UnsupportedOperationException" ∧ Q 2 sh ci ai al f))) (sz : Nat) : Met l yL_iterate wmL_iterate rmL_iterate (va_Pc [.ref q, .int p0, .long p1, .long p2, .ref ho] (lPre dC dI sh ci ai al co ho f sz)) (va_Qi (S := LSt) (lI Q) (lB dC dI co ho (va_A (oW co ho f ++ cW sh ci ai al) sz)) (va_A (oW co ho f ++ cW sh ci ai al) sz)) 8 2000 (va_A (oW co ho f ++ cW sh ci ai al) sz) := by
  refine va_MetW (hh := [(0, 13, 16, 19), (0, 13, 20, 13)]) (cc := cL_iterate) (maxL := 8) (ret := (some .int)) (by decide) rfl ?_
  intro p e s m args below meth c s₁ B hml hv
  obtain ⟨rfl, hsz, hP, hK, hO, hD0, hG, hN, hZ⟩ := hv
  have hx := B.exec
  have hb := B.bytes
  have hr := B.returns
  have hts : ∀ w ∈ WL, w.before _ s = true := fun w h => atoms_spec (ws := wmL_iterate) B.pre w (List.mem_cons_of_mem _ h)
  have hown : s.vm.findClass RL = some m.cls := findClass_of_methodNamed B.named
  have hlocks := B.notSynchronized
  have htab := vx_table (x := yL_iterate) (hh := [(0, 13, 16, 19), (0, 13, 20, 13)]) (bytes := cL_iterate) (maxL' := 8) (ret' := (some .int)) B (atoms_spec (ws := wmL_iterate) B.pre _ List.mem_cons_self)
  have hqk : q ∈ sL sh ∧ sK sh q = 10 := by unfold P_X11_iterate at h; exact h.1
  subst hsz
  have hD := hD0.self (sz := s.heap.size)
  generalize hAe : va_A (oW co ho f ++ cW sh ci ai al) s.heap.size = A at hD hZ ⊢
  have hA : ∀ q : Nat, s.heap.size ≤ q → A q := fun q h => by rw [← hAe]; exact Or.inr h
  generalize hH : s.heap = H at hP ⊢
  have hS : va_S A s.heap H [] := by rw [← hH]; exact va_S.rf
  have hl := lv_entry [.ref q, .int p0, .long p1, .long p2, .ref ho] (n := 8) (Nat.le_of_ble_eq_true rfl)
  rw [lg_entry_eq]
  generalize (lg_sl [.ref q, .int p0, .long p1, .long p2, .ref ho] ++ List.replicate (8 - (lg_sl [.ref q, .int p0, .long p1, .long p2, .ref ho]).length) Slot.unset).toArray = ls at hl ⊢
  have hl : lv_has ls 8 [(0, .ref q), (1, .int p0), (2, .long p1), (4, .long p2), (6, .ref ho)] := hl
  refine lv_aload hx hb dL_iterate_0 (lv_at hl 4 rfl) ?_
  refine lv_iconst (v := 0) hx hb dL_iterate_2 (by decide) ?_
  refine lv_aload_n hx hb dL_iterate_3 rfl (lv_at hl 0 rfl) ?_
  refine lv_iload_n hx hb dL_iterate_4 rfl (lv_at hl 1 rfl) ?_
  refine lv_lload_n hx hb dL_iterate_5 rfl (lv_at hl 2 rfl) ?_
  refine lv_lload hx hb dL_iterate_6 (lv_at hl 3 rfl) ?_
  refine l_xi (cells := 0) (slots := 0) (wr := oW co ho f) (vx_runV (rm := ({ frames := 100, cells := 8, slots := 2000, locals := 3000 })) (As := [.int p0, .long p1, .long p2]) (rest := [.int 0, .ref ho]) ⟨hx, hb, hml, hown, hts⟩ (p_X11_iterate l hl0 dC dI _ _ _ _ q p0 p1 p2 _ _ h H.size) (cwV 3 hts (g_Vm gdL gdLC mwL_19 mwL_20 mwL_21 mwL_3 mwL_22) rfl rfl rfl hd_X11_iterate ⟨Nat.le_of_ble_eq_true rfl, Nat.le_of_ble_eq_true rfl⟩) (x_preV hK (fr_P2 hP) (fr_D2 hD) hS hA hS hG hZ hqk.1 hqk.2) rfl rfl hl.1 rfl (lv_room (Nat.le_of_ble_eq_true rfl)) dL_iterate_8 ⟨Nat.le_of_ble_eq_true rfl, Nat.le_of_ble_eq_true rfl⟩) hP hD hS hA (fun E ce q9 H locs hX hP hS hce hcv hcl => ?_) (fun r sh1 ci1 ai1 al1 H locs h hK hP hD hS => ?_)
  · rcases hX with ⟨rfl, hX⟩ | ⟨rfl, hX⟩
    · refine vx_catch (own := RL) (name := "java/lang/IllegalArgumentException") hown ((tableOf [(0, 13, 16, 19), (0, 13, 20, 13)]).take 0) (tableOf [(0, 13, 16, 19), (0, 13, 20, 13)])[0] ((tableOf [(0, 13, 16, 19), (0, 13, 20, 13)]).drop 1) (by rw [htab]; rfl) (fun z hz => nomatch hz) (by decide) (by decide) (hts _ mwL_10) (va_Nw.use rfl hG.xIAE) hce hcv hcl ?_
      refine W.eq (g2 := F0 m 16 ls [.ref q9]) rfl ?_
      refine lv_astore (lv' := [(7, .ref q9), (0, .ref q), (1, .int p0), (2, .long p1), (4, .long p2), (6, .ref ho)]) hx hb dL_iterate_16 hl (by decide) rfl (fun ls hl => ?_)
      refine lv_iconst (v := 1) hx hb dL_iterate_18 (by decide) ?_
      refine W.widen (k := 8) (n := 2000) (by decide) (by decide) ?_
      exact W.iret (v := 1) hx hb hr (fun t ht hW => ⟨⟨_, ((sh, ci, ai, al), f), rfl, hX, by rw [ht]; exact hP, cK.moved hW.alike hK, hD⟩, hS.F ht⟩) hS.2.2 dL_iterate_19
    · refine vx_catch (own := RL) (name := "java/lang/UnsupportedOperationException") hown ((tableOf [(0, 13, 16, 19), (0, 13, 20, 13)]).take 1) (tableOf [(0, 13, 16, 19), (0, 13, 20, 13)])[1] ((tableOf [(0, 13, 16, 19), (0, 13, 20, 13)]).drop 2) (by rw [htab]; rfl) (fun z hz => by rw [List.mem_singleton.mp (show z ∈ [(tableOf [(0, 13, 16, 19), (0, 13, 20, 13)])[0]] from hz)]; exact Or.inr ⟨by decide, _, hts _ mwL_10, hN.2.2⟩) (by decide) (by decide) (hts _ mwL_5) (va_Nw.use rfl hG.xUOE) hce hcv hcl ?_
      refine W.eq (g2 := F0 m 20 ls [.ref q9]) rfl ?_
      refine lv_astore (lv' := [(7, .ref q9), (0, .ref q), (1, .int p0), (2, .long p1), (4, .long p2), (6, .ref ho)]) hx hb dL_iterate_20 hl (by decide) rfl (fun ls hl => ?_)
      refine lv_iconst (v := 2) hx hb dL_iterate_22 (by decide) ?_
      refine W.widen (k := 8) (n := 2000) (by decide) (by decide) ?_
      exact W.iret (v := 2) hx hb hr (fun t ht hW => ⟨⟨_, ((sh, ci, ai, al), f), rfl, hX, by rw [ht]; exact hP, cK.moved hW.alike hK, hD⟩, hS.F ht⟩) hS.2.2 dL_iterate_23
  · refine lv_i2l hx hb dL_iterate_11 rfl ?_
    refine va_last hx hb hO hP hD hS 0 0 rfl rfl (nd_in (i := 0) (n := 1) (by decide)) dL_iterate_12 (fun H locs hP hD hS => ?_)
    have hP : va_P (dC, dI) vwCl (oW co ho (vp_updL f (0 : Int32).toNatClampNeg r.toInt64) ++ cW sh1 ci1 ai1 al1) H := hP
    have hD : va_D A (oW co ho (vp_updL f (0 : Int32).toNatClampNeg r.toInt64) ++ cW sh1 ci1 ai1 al1) := hD
    refine lv_goto (tgt := 24) hx hb dL_iterate_13 (by decide) ?_
    refine lv_iconst (v := 0) hx hb dL_iterate_24 (by decide) ?_
    refine W.widen (k := 8) (n := 2000) (by decide) (by decide) ?_
    exact W.iret (v := 0) hx hb hr (fun t ht hW => ⟨⟨_, ((sh1, ci1, ai1, al1), vp_updL f (0 : Int32).toNatClampNeg r.toInt64), rfl, h, by rw [ht]; exact hP, cK.moved hW.alike hK, hD⟩, hS.F ht⟩) hS.2.2 dL_iterate_25
abbrev wmL_map : List Cond := .codeWith yL_map cL_map 7 (some .int) [(0, 12, 15, 37), (0, 12, 19, 19), (0, 12, 23, 13)] :: WL
theorem hd_L_map : yL_map.cls ≠ "java/lang/invoke/MethodHandle" ∧ yL_map.cls ≠ "java/lang/invoke/VarHandle" ∧ (parseMethodDescriptor yL_map.desc).map (fun d => d.parameters.length) = some 5 := by decide +kernel
abbrev rmL_map : Room := ({ frames := 110, cells := 8, slots := 2000, locals := 3300 })
set_option maxHeartbeats 4000000 in
set_option maxRecDepth 100000 in
theorem p_L_map (l : Launch) (hl0 : l.stackTraces = false) (dC : Nat → ClassId) (dI : Nat → Nat → Nat) (sh : Sh) (ci : Nat → Nat → Int32) (ai : Nat → Nat → Int32) (al : Nat → Nat → Int64) (q : Nat) (p0 : Int32) (p1 : Int32) (p2 : Int64) (co : ClassId) (ho : Nat) (f : Nat → Int64) (Q : Int32 → LTy) (h : P_X11_map sh ci ai al q p0 p1 p2 (fun r sh1 ci1 ai1 al1 => Q 0 sh1 ci1 ai1 al1 (vp_updL f (0 : Int32).toNatClampNeg r.toInt64)) (fun E => (E = "java/lang/IndexOutOfBoundsException" ∧ Q 1 sh ci ai al f) ∨ (E = "java/lang/IllegalArgumentException" ∧ Q 2 sh ci ai al f) ∨ (E = "java/lang/UnsupportedOperationException" ∧ Q 3 sh ci ai al f))) (sz : Nat) : Met l yL_map wmL_map rmL_map (va_Pc [.ref q, .int p0, .int p1, .long p2, .ref ho] (lPre dC dI sh ci ai al co ho f sz)) (va_Qi (S := LSt) (lI Q) (lB dC dI co ho (va_A (oW co ho f ++ cW sh ci ai al) sz)) (va_A (oW co ho f ++ cW sh ci ai al) sz)) 8 2000 (va_A (oW co ho f ++ cW sh ci ai al) sz) := by
  refine va_MetW (hh := [(0, 12, 15, 37), (0, 12, 19, 19), (0, 12, 23, 13)]) (cc := cL_map) (maxL := 7) (ret := (some .int)) (by decide) rfl ?_
  intro p e s m args below meth c s₁ B hml hv
  obtain ⟨rfl, hsz, hP, hK, hO, hD0, hG, hN, hZ⟩ := hv
  have hx := B.exec
  have hb := B.bytes
  have hr := B.returns
  have hts : ∀ w ∈ WL, w.before _ s = true := fun w h => atoms_spec (ws := wmL_map) B.pre w (List.mem_cons_of_mem _ h)
  have hown : s.vm.findClass RL = some m.cls := findClass_of_methodNamed B.named
  have hlocks := B.notSynchronized
  have htab := vx_table (x := yL_map) (hh := [(0, 12, 15, 37), (0, 12, 19, 19), (0, 12, 23, 13)]) (bytes := cL_map) (maxL' := 7) (ret' := (some .int)) B (atoms_spec (ws := wmL_map) B.pre _ List.mem_cons_self)
  have hqk : q ∈ sL sh ∧ sK sh q = 10 := by unfold P_X11_map at h; exact h.1
  subst hsz
  have hD := hD0.self (sz := s.heap.size)
  generalize hAe : va_A (oW co ho f ++ cW sh ci ai al) s.heap.size = A at hD hZ ⊢
  have hA : ∀ q : Nat, s.heap.size ≤ q → A q := fun q h => by rw [← hAe]; exact Or.inr h
  generalize hH : s.heap = H at hP ⊢
  have hS : va_S A s.heap H [] := by rw [← hH]; exact va_S.rf
  have hl := lv_entry [.ref q, .int p0, .int p1, .long p2, .ref ho] (n := 7) (Nat.le_of_ble_eq_true rfl)
  rw [lg_entry_eq]
  generalize (lg_sl [.ref q, .int p0, .int p1, .long p2, .ref ho] ++ List.replicate (7 - (lg_sl [.ref q, .int p0, .int p1, .long p2, .ref ho]).length) Slot.unset).toArray = ls at hl ⊢
  have hl : lv_has ls 7 [(0, .ref q), (1, .int p0), (2, .int p1), (3, .long p2), (5, .ref ho)] := hl
  refine lv_aload hx hb dL_map_0 (lv_at hl 4 rfl) ?_
  refine lv_iconst (v := 0) hx hb dL_map_2 (by decide) ?_
  refine lv_aload_n hx hb dL_map_3 rfl (lv_at hl 0 rfl) ?_
  refine lv_iload_n hx hb dL_map_4 rfl (lv_at hl 1 rfl) ?_
  refine lv_iload_n hx hb dL_map_5 rfl (lv_at hl 2 rfl) ?_
  refine lv_lload_n hx hb dL_map_6 rfl (lv_at hl 3 rfl) ?_
  refine l_xi (cells := 0) (slots := 0) (wr := oW co ho f) (vx_runV (rm := ({ frames := 100, cells := 8, slots := 2000, locals := 3000 })) (As := [.int p0, .int p1, .long p2]) (rest := [.int 0, .ref ho]) ⟨hx, hb, hml, hown, hts⟩ (p_X11_map l hl0 dC dI _ _ _ _ q p0 p1 p2 _ _ h H.size) (cwV 3 hts (g_Vm gdL gdLC mwL_23 mwL_24 mwL_25 mwL_3 mwL_26) rfl rfl rfl hd_X11_map ⟨Nat.le_of_ble_eq_true rfl, Nat.le_of_ble_eq_true rfl⟩) (x_preV hK (fr_P2 hP) (fr_D2 hD) hS hA hS hG hZ hqk.1 hqk.2) rfl rfl hl.1 rfl (lv_room (Nat.le_of_ble_eq_true rfl)) dL_map_7 ⟨Nat.le_of_ble_eq_true rfl, Nat.le_of_ble_eq_true rfl⟩) hP hD hS hA (fun E ce q9 H locs hX hP hS hce hcv hcl => ?_) (fun r sh1 ci1 ai1 al1 H locs h hK hP hD hS => ?_)
  · rcases hX with ⟨rfl, hX⟩ | ⟨rfl, hX⟩ | ⟨rfl, hX⟩
    · refine vx_catch (own := RL) (name := "java/lang/IndexOutOfBoundsException") hown ((tableOf [(0, 12, 15, 37), (0, 12, 19, 19), (0, 12, 23, 13)]).take 0) (tableOf [(0, 12, 15, 37), (0, 12, 19, 19), (0, 12, 23, 13)])[0] ((tableOf [(0, 12, 15, 37), (0, 12, 19, 19), (0, 12, 23, 13)]).drop 1) (by rw [htab]; rfl) (fun z hz => nomatch hz) (by decide) (by decide) (hts _ mwL_27) (va_Nw.use rfl hG.xIOO) hce hcv hcl ?_
      refine W.eq (g2 := F0 m 15 ls [.ref q9]) rfl ?_
      refine lv_astore (lv' := [(6, .ref q9), (0, .ref q), (1, .int p0), (2, .int p1), (3, .long p2), (5, .ref ho)]) hx hb dL_map_15 hl (by decide) rfl (fun ls hl => ?_)
      refine lv_iconst (v := 1) hx hb dL_map_17 (by decide) ?_
      refine W.widen (k := 8) (n := 2000) (by decide) (by decide) ?_
      exact W.iret (v := 1) hx hb hr (fun t ht hW => ⟨⟨_, ((sh, ci, ai, al), f), rfl, hX, by rw [ht]; exact hP, cK.moved hW.alike hK, hD⟩, hS.F ht⟩) hS.2.2 dL_map_18
    · refine vx_catch (own := RL) (name := "java/lang/IllegalArgumentException") hown ((tableOf [(0, 12, 15, 37), (0, 12, 19, 19), (0, 12, 23, 13)]).take 1) (tableOf [(0, 12, 15, 37), (0, 12, 19, 19), (0, 12, 23, 13)])[1] ((tableOf [(0, 12, 15, 37), (0, 12, 19, 19), (0, 12, 23, 13)]).drop 2) (by rw [htab]; rfl) (fun z hz => by rw [List.mem_singleton.mp (show z ∈ [(tableOf [(0, 12, 15, 37), (0, 12, 19, 19), (0, 12, 23, 13)])[0]] from hz)]; exact Or.inr ⟨by decide, _, hts _ mwL_27, hN.1⟩) (by decide) (by decide) (hts _ mwL_10) (va_Nw.use rfl hG.xIAE) hce hcv hcl ?_
      refine W.eq (g2 := F0 m 19 ls [.ref q9]) rfl ?_
      refine lv_astore (lv' := [(6, .ref q9), (0, .ref q), (1, .int p0), (2, .int p1), (3, .long p2), (5, .ref ho)]) hx hb dL_map_19 hl (by decide) rfl (fun ls hl => ?_)
      refine lv_iconst (v := 2) hx hb dL_map_21 (by decide) ?_
      refine W.widen (k := 8) (n := 2000) (by decide) (by decide) ?_
      exact W.iret (v := 2) hx hb hr (fun t ht hW => ⟨⟨_, ((sh, ci, ai, al), f), rfl, hX, by rw [ht]; exact hP, cK.moved hW.alike hK, hD⟩, hS.F ht⟩) hS.2.2 dL_map_22
    · have hps : ∀ z ∈ [(tableOf [(0, 12, 15, 37), (0, 12, 19, 19), (0, 12, 23, 13)])[0], (tableOf [(0, 12, 15, 37), (0, 12, 19, 19), (0, 12, 23, 13)])[1]], covers z 7 = false ∨ (z.catchType ≠ 0 ∧ ∃ nm : String, (Cond.classLink RL z.catchType nm).before _ s = true ∧ va_Nc "java/lang/UnsupportedOperationException" nm s) := fun z hz => by
        rcases List.mem_cons.mp hz with e9 | hz
        · rw [e9]; exact Or.inr ⟨by decide, _, hts _ mwL_27, hN.2.1⟩
        · rw [List.mem_singleton.mp hz]; exact Or.inr ⟨by decide, _, hts _ mwL_10, hN.2.2⟩
      refine vx_catch (own := RL) (name := "java/lang/UnsupportedOperationException") hown ((tableOf [(0, 12, 15, 37), (0, 12, 19, 19), (0, 12, 23, 13)]).take 2) (tableOf [(0, 12, 15, 37), (0, 12, 19, 19), (0, 12, 23, 13)])[2] ((tableOf [(0, 12, 15, 37), (0, 12, 19, 19), (0, 12, 23, 13)]).drop 3) (by rw [htab]; rfl) hps (by decide) (by decide) (hts _ mwL_5) (va_Nw.use rfl hG.xUOE) hce hcv hcl ?_
      refine W.eq (g2 := F0 m 23 ls [.ref q9]) rfl ?_
      refine lv_astore (lv' := [(6, .ref q9), (0, .ref q), (1, .int p0), (2, .int p1), (3, .long p2), (5, .ref ho)]) hx hb dL_map_23 hl (by decide) rfl (fun ls hl => ?_)
      refine lv_iconst (v := 3) hx hb dL_map_25 (by decide) ?_
      refine W.widen (k := 8) (n := 2000) (by decide) (by decide) ?_
      exact W.iret (v := 3) hx hb hr (fun t ht hW => ⟨⟨_, ((sh, ci, ai, al), f), rfl, hX, by rw [ht]; exact hP, cK.moved hW.alike hK, hD⟩, hS.F ht⟩) hS.2.2 dL_map_26
  · refine lv_i2l hx hb dL_map_10 rfl ?_
    refine va_last hx hb hO hP hD hS 0 0 rfl rfl (nd_in (i := 0) (n := 1) (by decide)) dL_map_11 (fun H locs hP hD hS => ?_)
    have hP : va_P (dC, dI) vwCl (oW co ho (vp_updL f (0 : Int32).toNatClampNeg r.toInt64) ++ cW sh1 ci1 ai1 al1) H := hP
    have hD : va_D A (oW co ho (vp_updL f (0 : Int32).toNatClampNeg r.toInt64) ++ cW sh1 ci1 ai1 al1) := hD
    refine lv_goto (tgt := 27) hx hb dL_map_12 (by decide) ?_
    refine lv_iconst (v := 0) hx hb dL_map_27 (by decide) ?_
    refine W.widen (k := 8) (n := 2000) (by decide) (by decide) ?_
    exact W.iret (v := 0) hx hb hr (fun t ht hW => ⟨⟨_, ((sh1, ci1, ai1, al1), vp_updL f (0 : Int32).toNatClampNeg r.toInt64), rfl, h, by rw [ht]; exact hP, cK.moved hW.alike hK, hD⟩, hS.F ht⟩) hS.2.2 dL_map_28
abbrev wmL_both : List Cond := .codeWith yL_both cL_both 6 (some .int) [(0, 12, 15, 37), (0, 12, 19, 19), (0, 12, 23, 13)] :: WL
theorem hd_L_both : yL_both.cls ≠ "java/lang/invoke/MethodHandle" ∧ yL_both.cls ≠ "java/lang/invoke/VarHandle" ∧ (parseMethodDescriptor yL_both.desc).map (fun d => d.parameters.length) = some 5 := by decide +kernel
abbrev rmL_both : Room := ({ frames := 110, cells := 8, slots := 2000, locals := 3300 })
set_option maxHeartbeats 4000000 in
set_option maxRecDepth 100000 in
theorem p_L_both (l : Launch) (hl0 : l.stackTraces = false) (dC : Nat → ClassId) (dI : Nat → Nat → Nat) (sh : Sh) (ci : Nat → Nat → Int32) (ai : Nat → Nat → Int32) (al : Nat → Nat → Int64) (q : Nat) (p0 : Int32) (p1 : Int32) (p2 : Int32) (co : ClassId) (ho : Nat) (f : Nat → Int64) (Q : Int32 → LTy) (h : P_X11_both sh ci ai al q p0 p1 p2 (fun r sh1 ci1 ai1 al1 => Q 0 sh1 ci1 ai1 al1 (vp_updL f (0 : Int32).toNatClampNeg r.toInt64)) (fun E => (E = "java/lang/IndexOutOfBoundsException" ∧ Q 1 sh ci ai al f) ∨ (E = "java/lang/IllegalArgumentException" ∧ Q 2 sh ci ai al f) ∨ (E = "java/lang/UnsupportedOperationException" ∧ Q 3 sh ci ai al f))) (sz : Nat) : Met l yL_both wmL_both rmL_both (va_Pc [.ref q, .int p0, .int p1, .int p2, .ref ho] (lPre dC dI sh ci ai al co ho f sz)) (va_Qi (S := LSt) (lI Q) (lB dC dI co ho (va_A (oW co ho f ++ cW sh ci ai al) sz)) (va_A (oW co ho f ++ cW sh ci ai al) sz)) 8 2000 (va_A (oW co ho f ++ cW sh ci ai al) sz) := by
  refine va_MetW (hh := [(0, 12, 15, 37), (0, 12, 19, 19), (0, 12, 23, 13)]) (cc := cL_both) (maxL := 6) (ret := (some .int)) (by decide) rfl ?_
  intro p e s m args below meth c s₁ B hml hv
  obtain ⟨rfl, hsz, hP, hK, hO, hD0, hG, hN, hZ⟩ := hv
  have hx := B.exec
  have hb := B.bytes
  have hr := B.returns
  have hts : ∀ w ∈ WL, w.before _ s = true := fun w h => atoms_spec (ws := wmL_both) B.pre w (List.mem_cons_of_mem _ h)
  have hown : s.vm.findClass RL = some m.cls := findClass_of_methodNamed B.named
  have hlocks := B.notSynchronized
  have htab := vx_table (x := yL_both) (hh := [(0, 12, 15, 37), (0, 12, 19, 19), (0, 12, 23, 13)]) (bytes := cL_both) (maxL' := 6) (ret' := (some .int)) B (atoms_spec (ws := wmL_both) B.pre _ List.mem_cons_self)
  have hqk : q ∈ sL sh ∧ sK sh q = 10 := by unfold P_X11_both at h; exact h.1
  subst hsz
  have hD := hD0.self (sz := s.heap.size)
  generalize hAe : va_A (oW co ho f ++ cW sh ci ai al) s.heap.size = A at hD hZ ⊢
  have hA : ∀ q : Nat, s.heap.size ≤ q → A q := fun q h => by rw [← hAe]; exact Or.inr h
  generalize hH : s.heap = H at hP ⊢
  have hS : va_S A s.heap H [] := by rw [← hH]; exact va_S.rf
  have hl := lv_entry [.ref q, .int p0, .int p1, .int p2, .ref ho] (n := 6) (Nat.le_of_ble_eq_true rfl)
  rw [lg_entry_eq]
  generalize (lg_sl [.ref q, .int p0, .int p1, .int p2, .ref ho] ++ List.replicate (6 - (lg_sl [.ref q, .int p0, .int p1, .int p2, .ref ho]).length) Slot.unset).toArray = ls at hl ⊢
  have hl : lv_has ls 6 [(0, .ref q), (1, .int p0), (2, .int p1), (3, .int p2), (4, .ref ho)] := hl
  refine lv_aload hx hb dL_both_0 (lv_at hl 4 rfl) ?_
  refine lv_iconst (v := 0) hx hb dL_both_2 (by decide) ?_
  refine lv_aload_n hx hb dL_both_3 rfl (lv_at hl 0 rfl) ?_
  refine lv_iload_n hx hb dL_both_4 rfl (lv_at hl 1 rfl) ?_
  refine lv_iload_n hx hb dL_both_5 rfl (lv_at hl 2 rfl) ?_
  refine lv_iload_n hx hb dL_both_6 rfl (lv_at hl 3 rfl) ?_
  refine l_xi (cells := 0) (slots := 0) (wr := oW co ho f) (vx_runV (rm := ({ frames := 100, cells := 8, slots := 2000, locals := 3000 })) (As := [.int p0, .int p1, .int p2]) (rest := [.int 0, .ref ho]) ⟨hx, hb, hml, hown, hts⟩ (p_X11_both l hl0 dC dI _ _ _ _ q p0 p1 p2 _ _ h H.size) (cwV 3 hts (g_Vm gdL gdLC mwL_28 mwL_29 mwL_30 mwL_3 mwL_31) rfl rfl rfl hd_X11_both ⟨Nat.le_of_ble_eq_true rfl, Nat.le_of_ble_eq_true rfl⟩) (x_preV hK (fr_P2 hP) (fr_D2 hD) hS hA hS hG hZ hqk.1 hqk.2) rfl rfl hl.1 rfl (lv_room (Nat.le_of_ble_eq_true rfl)) dL_both_7 ⟨Nat.le_of_ble_eq_true rfl, Nat.le_of_ble_eq_true rfl⟩) hP hD hS hA (fun E ce q9 H locs hX hP hS hce hcv hcl => ?_) (fun r sh1 ci1 ai1 al1 H locs h hK hP hD hS => ?_)
  · rcases hX with ⟨rfl, hX⟩ | ⟨rfl, hX⟩ | ⟨rfl, hX⟩
    · refine vx_catch (own := RL) (name := "java/lang/IndexOutOfBoundsException") hown ((tableOf [(0, 12, 15, 37), (0, 12, 19, 19), (0, 12, 23, 13)]).take 0) (tableOf [(0, 12, 15, 37), (0, 12, 19, 19), (0, 12, 23, 13)])[0] ((tableOf [(0, 12, 15, 37), (0, 12, 19, 19), (0, 12, 23, 13)]).drop 1) (by rw [htab]; rfl) (fun z hz => nomatch hz) (by decide) (by decide) (hts _ mwL_27) (va_Nw.use rfl hG.xIOO) hce hcv hcl ?_
      refine W.eq (g2 := F0 m 15 ls [.ref q9]) rfl ?_
      refine lv_astore (lv' := [(5, .ref q9), (0, .ref q), (1, .int p0), (2, .int p1), (3, .int p2), (4, .ref ho)]) hx hb dL_both_15 hl (by decide) rfl (fun ls hl => ?_)
      refine lv_iconst (v := 1) hx hb dL_both_17 (by decide) ?_
      refine W.widen (k := 8) (n := 2000) (by decide) (by decide) ?_
      exact W.iret (v := 1) hx hb hr (fun t ht hW => ⟨⟨_, ((sh, ci, ai, al), f), rfl, hX, by rw [ht]; exact hP, cK.moved hW.alike hK, hD⟩, hS.F ht⟩) hS.2.2 dL_both_18
    · refine vx_catch (own := RL) (name := "java/lang/IllegalArgumentException") hown ((tableOf [(0, 12, 15, 37), (0, 12, 19, 19), (0, 12, 23, 13)]).take 1) (tableOf [(0, 12, 15, 37), (0, 12, 19, 19), (0, 12, 23, 13)])[1] ((tableOf [(0, 12, 15, 37), (0, 12, 19, 19), (0, 12, 23, 13)]).drop 2) (by rw [htab]; rfl) (fun z hz => by rw [List.mem_singleton.mp (show z ∈ [(tableOf [(0, 12, 15, 37), (0, 12, 19, 19), (0, 12, 23, 13)])[0]] from hz)]; exact Or.inr ⟨by decide, _, hts _ mwL_27, hN.1⟩) (by decide) (by decide) (hts _ mwL_10) (va_Nw.use rfl hG.xIAE) hce hcv hcl ?_
      refine W.eq (g2 := F0 m 19 ls [.ref q9]) rfl ?_
      refine lv_astore (lv' := [(5, .ref q9), (0, .ref q), (1, .int p0), (2, .int p1), (3, .int p2), (4, .ref ho)]) hx hb dL_both_19 hl (by decide) rfl (fun ls hl => ?_)
      refine lv_iconst (v := 2) hx hb dL_both_21 (by decide) ?_
      refine W.widen (k := 8) (n := 2000) (by decide) (by decide) ?_
      exact W.iret (v := 2) hx hb hr (fun t ht hW => ⟨⟨_, ((sh, ci, ai, al), f), rfl, hX, by rw [ht]; exact hP, cK.moved hW.alike hK, hD⟩, hS.F ht⟩) hS.2.2 dL_both_22
    · have hps : ∀ z ∈ [(tableOf [(0, 12, 15, 37), (0, 12, 19, 19), (0, 12, 23, 13)])[0], (tableOf [(0, 12, 15, 37), (0, 12, 19, 19), (0, 12, 23, 13)])[1]], covers z 7 = false ∨ (z.catchType ≠ 0 ∧ ∃ nm : String, (Cond.classLink RL z.catchType nm).before _ s = true ∧ va_Nc "java/lang/UnsupportedOperationException" nm s) := fun z hz => by
        rcases List.mem_cons.mp hz with e9 | hz
        · rw [e9]; exact Or.inr ⟨by decide, _, hts _ mwL_27, hN.2.1⟩
        · rw [List.mem_singleton.mp hz]; exact Or.inr ⟨by decide, _, hts _ mwL_10, hN.2.2⟩
      refine vx_catch (own := RL) (name := "java/lang/UnsupportedOperationException") hown ((tableOf [(0, 12, 15, 37), (0, 12, 19, 19), (0, 12, 23, 13)]).take 2) (tableOf [(0, 12, 15, 37), (0, 12, 19, 19), (0, 12, 23, 13)])[2] ((tableOf [(0, 12, 15, 37), (0, 12, 19, 19), (0, 12, 23, 13)]).drop 3) (by rw [htab]; rfl) hps (by decide) (by decide) (hts _ mwL_5) (va_Nw.use rfl hG.xUOE) hce hcv hcl ?_
      refine W.eq (g2 := F0 m 23 ls [.ref q9]) rfl ?_
      refine lv_astore (lv' := [(5, .ref q9), (0, .ref q), (1, .int p0), (2, .int p1), (3, .int p2), (4, .ref ho)]) hx hb dL_both_23 hl (by decide) rfl (fun ls hl => ?_)
      refine lv_iconst (v := 3) hx hb dL_both_25 (by decide) ?_
      refine W.widen (k := 8) (n := 2000) (by decide) (by decide) ?_
      exact W.iret (v := 3) hx hb hr (fun t ht hW => ⟨⟨_, ((sh, ci, ai, al), f), rfl, hX, by rw [ht]; exact hP, cK.moved hW.alike hK, hD⟩, hS.F ht⟩) hS.2.2 dL_both_26
  · refine lv_i2l hx hb dL_both_10 rfl ?_
    refine va_last hx hb hO hP hD hS 0 0 rfl rfl (nd_in (i := 0) (n := 1) (by decide)) dL_both_11 (fun H locs hP hD hS => ?_)
    have hP : va_P (dC, dI) vwCl (oW co ho (vp_updL f (0 : Int32).toNatClampNeg r.toInt64) ++ cW sh1 ci1 ai1 al1) H := hP
    have hD : va_D A (oW co ho (vp_updL f (0 : Int32).toNatClampNeg r.toInt64) ++ cW sh1 ci1 ai1 al1) := hD
    refine lv_goto (tgt := 27) hx hb dL_both_12 (by decide) ?_
    refine lv_iconst (v := 0) hx hb dL_both_27 (by decide) ?_
    refine W.widen (k := 8) (n := 2000) (by decide) (by decide) ?_
    exact W.iret (v := 0) hx hb hr (fun t ht hW => ⟨⟨_, ((sh1, ci1, ai1, al1), vp_updL f (0 : Int32).toNatClampNeg r.toInt64), rfl, h, by rw [ht]; exact hP, cK.moved hW.alike hK, hD⟩, hS.F ht⟩) hS.2.2 dL_both_28
abbrev wmL_scan : List Cond := .codeWith yL_scan cL_scan 7 (some .int) [(0, 12, 15, 37), (0, 12, 19, 19), (0, 12, 23, 13)] :: WL
theorem hd_L_scan : yL_scan.cls ≠ "java/lang/invoke/MethodHandle" ∧ yL_scan.cls ≠ "java/lang/invoke/VarHandle" ∧ (parseMethodDescriptor yL_scan.desc).map (fun d => d.parameters.length) = some 5 := by decide +kernel
abbrev rmL_scan : Room := ({ frames := 110, cells := 8, slots := 2000, locals := 3300 })
set_option maxHeartbeats 4000000 in
set_option maxRecDepth 100000 in
theorem p_L_scan (l : Launch) (hl0 : l.stackTraces = false) (dC : Nat → ClassId) (dI : Nat → Nat → Nat) (sh : Sh) (ci : Nat → Nat → Int32) (ai : Nat → Nat → Int32) (al : Nat → Nat → Int64) (q : Nat) (p0 : Int32) (p1 : Int32) (p2 : Int64) (co : ClassId) (ho : Nat) (f : Nat → Int64) (Q : Int32 → LTy) (h : P_X11_scan sh ci ai al q p0 p1 p2 (fun r sh1 ci1 ai1 al1 => Q 0 sh1 ci1 ai1 al1 (vp_updL f (0 : Int32).toNatClampNeg r.toInt64)) (fun E => (E = "java/lang/IndexOutOfBoundsException" ∧ Q 1 sh ci ai al f) ∨ (E = "java/lang/IllegalArgumentException" ∧ Q 2 sh ci ai al f) ∨ (E = "java/lang/UnsupportedOperationException" ∧ Q 3 sh ci ai al f))) (sz : Nat) : Met l yL_scan wmL_scan rmL_scan (va_Pc [.ref q, .int p0, .int p1, .long p2, .ref ho] (lPre dC dI sh ci ai al co ho f sz)) (va_Qi (S := LSt) (lI Q) (lB dC dI co ho (va_A (oW co ho f ++ cW sh ci ai al) sz)) (va_A (oW co ho f ++ cW sh ci ai al) sz)) 8 2000 (va_A (oW co ho f ++ cW sh ci ai al) sz) := by
  refine va_MetW (hh := [(0, 12, 15, 37), (0, 12, 19, 19), (0, 12, 23, 13)]) (cc := cL_scan) (maxL := 7) (ret := (some .int)) (by decide) rfl ?_
  intro p e s m args below meth c s₁ B hml hv
  obtain ⟨rfl, hsz, hP, hK, hO, hD0, hG, hN, hZ⟩ := hv
  have hx := B.exec
  have hb := B.bytes
  have hr := B.returns
  have hts : ∀ w ∈ WL, w.before _ s = true := fun w h => atoms_spec (ws := wmL_scan) B.pre w (List.mem_cons_of_mem _ h)
  have hown : s.vm.findClass RL = some m.cls := findClass_of_methodNamed B.named
  have hlocks := B.notSynchronized
  have htab := vx_table (x := yL_scan) (hh := [(0, 12, 15, 37), (0, 12, 19, 19), (0, 12, 23, 13)]) (bytes := cL_scan) (maxL' := 7) (ret' := (some .int)) B (atoms_spec (ws := wmL_scan) B.pre _ List.mem_cons_self)
  have hqk : q ∈ sL sh ∧ sK sh q = 10 := by unfold P_X11_scan at h; exact h.1
  subst hsz
  have hD := hD0.self (sz := s.heap.size)
  generalize hAe : va_A (oW co ho f ++ cW sh ci ai al) s.heap.size = A at hD hZ ⊢
  have hA : ∀ q : Nat, s.heap.size ≤ q → A q := fun q h => by rw [← hAe]; exact Or.inr h
  generalize hH : s.heap = H at hP ⊢
  have hS : va_S A s.heap H [] := by rw [← hH]; exact va_S.rf
  have hl := lv_entry [.ref q, .int p0, .int p1, .long p2, .ref ho] (n := 7) (Nat.le_of_ble_eq_true rfl)
  rw [lg_entry_eq]
  generalize (lg_sl [.ref q, .int p0, .int p1, .long p2, .ref ho] ++ List.replicate (7 - (lg_sl [.ref q, .int p0, .int p1, .long p2, .ref ho]).length) Slot.unset).toArray = ls at hl ⊢
  have hl : lv_has ls 7 [(0, .ref q), (1, .int p0), (2, .int p1), (3, .long p2), (5, .ref ho)] := hl
  refine lv_aload hx hb dL_scan_0 (lv_at hl 4 rfl) ?_
  refine lv_iconst (v := 0) hx hb dL_scan_2 (by decide) ?_
  refine lv_aload_n hx hb dL_scan_3 rfl (lv_at hl 0 rfl) ?_
  refine lv_iload_n hx hb dL_scan_4 rfl (lv_at hl 1 rfl) ?_
  refine lv_iload_n hx hb dL_scan_5 rfl (lv_at hl 2 rfl) ?_
  refine lv_lload_n hx hb dL_scan_6 rfl (lv_at hl 3 rfl) ?_
  refine l_xi (cells := 0) (slots := 0) (wr := oW co ho f) (vx_runV (rm := ({ frames := 100, cells := 8, slots := 2000, locals := 3000 })) (As := [.int p0, .int p1, .long p2]) (rest := [.int 0, .ref ho]) ⟨hx, hb, hml, hown, hts⟩ (p_X11_scan l hl0 dC dI _ _ _ _ q p0 p1 p2 _ _ h H.size) (cwV 3 hts (g_Vm gdL gdLC mwL_32 mwL_33 mwL_34 mwL_3 mwL_35) rfl rfl rfl hd_X11_scan ⟨Nat.le_of_ble_eq_true rfl, Nat.le_of_ble_eq_true rfl⟩) (x_preV hK (fr_P2 hP) (fr_D2 hD) hS hA hS hG hZ hqk.1 hqk.2) rfl rfl hl.1 rfl (lv_room (Nat.le_of_ble_eq_true rfl)) dL_scan_7 ⟨Nat.le_of_ble_eq_true rfl, Nat.le_of_ble_eq_true rfl⟩) hP hD hS hA (fun E ce q9 H locs hX hP hS hce hcv hcl => ?_) (fun r sh1 ci1 ai1 al1 H locs h hK hP hD hS => ?_)
  · rcases hX with ⟨rfl, hX⟩ | ⟨rfl, hX⟩ | ⟨rfl, hX⟩
    · refine vx_catch (own := RL) (name := "java/lang/IndexOutOfBoundsException") hown ((tableOf [(0, 12, 15, 37), (0, 12, 19, 19), (0, 12, 23, 13)]).take 0) (tableOf [(0, 12, 15, 37), (0, 12, 19, 19), (0, 12, 23, 13)])[0] ((tableOf [(0, 12, 15, 37), (0, 12, 19, 19), (0, 12, 23, 13)]).drop 1) (by rw [htab]; rfl) (fun z hz => nomatch hz) (by decide) (by decide) (hts _ mwL_27) (va_Nw.use rfl hG.xIOO) hce hcv hcl ?_
      refine W.eq (g2 := F0 m 15 ls [.ref q9]) rfl ?_
      refine lv_astore (lv' := [(6, .ref q9), (0, .ref q), (1, .int p0), (2, .int p1), (3, .long p2), (5, .ref ho)]) hx hb dL_scan_15 hl (by decide) rfl (fun ls hl => ?_)
      refine lv_iconst (v := 1) hx hb dL_scan_17 (by decide) ?_
      refine W.widen (k := 8) (n := 2000) (by decide) (by decide) ?_
      exact W.iret (v := 1) hx hb hr (fun t ht hW => ⟨⟨_, ((sh, ci, ai, al), f), rfl, hX, by rw [ht]; exact hP, cK.moved hW.alike hK, hD⟩, hS.F ht⟩) hS.2.2 dL_scan_18
    · refine vx_catch (own := RL) (name := "java/lang/IllegalArgumentException") hown ((tableOf [(0, 12, 15, 37), (0, 12, 19, 19), (0, 12, 23, 13)]).take 1) (tableOf [(0, 12, 15, 37), (0, 12, 19, 19), (0, 12, 23, 13)])[1] ((tableOf [(0, 12, 15, 37), (0, 12, 19, 19), (0, 12, 23, 13)]).drop 2) (by rw [htab]; rfl) (fun z hz => by rw [List.mem_singleton.mp (show z ∈ [(tableOf [(0, 12, 15, 37), (0, 12, 19, 19), (0, 12, 23, 13)])[0]] from hz)]; exact Or.inr ⟨by decide, _, hts _ mwL_27, hN.1⟩) (by decide) (by decide) (hts _ mwL_10) (va_Nw.use rfl hG.xIAE) hce hcv hcl ?_
      refine W.eq (g2 := F0 m 19 ls [.ref q9]) rfl ?_
      refine lv_astore (lv' := [(6, .ref q9), (0, .ref q), (1, .int p0), (2, .int p1), (3, .long p2), (5, .ref ho)]) hx hb dL_scan_19 hl (by decide) rfl (fun ls hl => ?_)
      refine lv_iconst (v := 2) hx hb dL_scan_21 (by decide) ?_
      refine W.widen (k := 8) (n := 2000) (by decide) (by decide) ?_
      exact W.iret (v := 2) hx hb hr (fun t ht hW => ⟨⟨_, ((sh, ci, ai, al), f), rfl, hX, by rw [ht]; exact hP, cK.moved hW.alike hK, hD⟩, hS.F ht⟩) hS.2.2 dL_scan_22
    · have hps : ∀ z ∈ [(tableOf [(0, 12, 15, 37), (0, 12, 19, 19), (0, 12, 23, 13)])[0], (tableOf [(0, 12, 15, 37), (0, 12, 19, 19), (0, 12, 23, 13)])[1]], covers z 7 = false ∨ (z.catchType ≠ 0 ∧ ∃ nm : String, (Cond.classLink RL z.catchType nm).before _ s = true ∧ va_Nc "java/lang/UnsupportedOperationException" nm s) := fun z hz => by
        rcases List.mem_cons.mp hz with e9 | hz
        · rw [e9]; exact Or.inr ⟨by decide, _, hts _ mwL_27, hN.2.1⟩
        · rw [List.mem_singleton.mp hz]; exact Or.inr ⟨by decide, _, hts _ mwL_10, hN.2.2⟩
      refine vx_catch (own := RL) (name := "java/lang/UnsupportedOperationException") hown ((tableOf [(0, 12, 15, 37), (0, 12, 19, 19), (0, 12, 23, 13)]).take 2) (tableOf [(0, 12, 15, 37), (0, 12, 19, 19), (0, 12, 23, 13)])[2] ((tableOf [(0, 12, 15, 37), (0, 12, 19, 19), (0, 12, 23, 13)]).drop 3) (by rw [htab]; rfl) hps (by decide) (by decide) (hts _ mwL_5) (va_Nw.use rfl hG.xUOE) hce hcv hcl ?_
      refine W.eq (g2 := F0 m 23 ls [.ref q9]) rfl ?_
      refine lv_astore (lv' := [(6, .ref q9), (0, .ref q), (1, .int p0), (2, .int p1), (3, .long p2), (5, .ref ho)]) hx hb dL_scan_23 hl (by decide) rfl (fun ls hl => ?_)
      refine lv_iconst (v := 3) hx hb dL_scan_25 (by decide) ?_
      refine W.widen (k := 8) (n := 2000) (by decide) (by decide) ?_
      exact W.iret (v := 3) hx hb hr (fun t ht hW => ⟨⟨_, ((sh, ci, ai, al), f), rfl, hX, by rw [ht]; exact hP, cK.moved hW.alike hK, hD⟩, hS.F ht⟩) hS.2.2 dL_scan_26
  · refine lv_i2l hx hb dL_scan_10 rfl ?_
    refine va_last hx hb hO hP hD hS 0 0 rfl rfl (nd_in (i := 0) (n := 1) (by decide)) dL_scan_11 (fun H locs hP hD hS => ?_)
    have hP : va_P (dC, dI) vwCl (oW co ho (vp_updL f (0 : Int32).toNatClampNeg r.toInt64) ++ cW sh1 ci1 ai1 al1) H := hP
    have hD : va_D A (oW co ho (vp_updL f (0 : Int32).toNatClampNeg r.toInt64) ++ cW sh1 ci1 ai1 al1) := hD
    refine lv_goto (tgt := 27) hx hb dL_scan_12 (by decide) ?_
    refine lv_iconst (v := 0) hx hb dL_scan_27 (by decide) ?_
    refine W.widen (k := 8) (n := 2000) (by decide) (by decide) ?_
    exact W.iret (v := 0) hx hb hr (fun t ht hW => ⟨⟨_, ((sh1, ci1, ai1, al1), vp_updL f (0 : Int32).toNatClampNeg r.toInt64), rfl, h, by rw [ht]; exact hP, cK.moved hW.alike hK, hD⟩, hS.F ht⟩) hS.2.2 dL_scan_28
